section
-- ===== PART A: goes FIRST, ahead of the names: the tables' words, and 'selects' of the private methods out of them =====
/-- a private method of a class that the tables say can be made, by its rows of tables_1 -/
def lw_okq (q : MethodName × Nat) : Prop := (q.1.cls ≠ "java/lang/invoke/MethodHandle" ∧ q.1.cls ≠ "java/lang/invoke/VarHandle") ∧ Cond.instantiable q.1.cls q.2 ∈ tables_1 ∧ Cond.privateMethod q.1 ∈ tables_1 ∧ Cond.instanceMethod q.1 ∈ tables_1
theorem lw_p0 : lw_okq (⟨"BorrowedPages$Reader", "takeByte", "(ILBorrowedPages$Book;)V"⟩, 3) := ⟨⟨by decide +kernel, by decide +kernel⟩, List.mem_of_getElem? (i := 37) (by decide +kernel), List.mem_of_getElem? (i := 271) (by decide +kernel), List.mem_of_getElem? (i := 272) (by decide +kernel)⟩
theorem lw_p1 : lw_okq (⟨"BorrowedPages$Reader", "lengthenWord", "(I)V"⟩, 3) := ⟨⟨by decide +kernel, by decide +kernel⟩, List.mem_of_getElem? (i := 37) (by decide +kernel), List.mem_of_getElem? (i := 278) (by decide +kernel), List.mem_of_getElem? (i := 279) (by decide +kernel)⟩
theorem lw_p2 : lw_okq (⟨"BorrowedPages$Reader", "endPiece", "(LBorrowedPages$Book;)V"⟩, 3) := ⟨⟨by decide +kernel, by decide +kernel⟩, List.mem_of_getElem? (i := 37) (by decide +kernel), List.mem_of_getElem? (i := 283) (by decide +kernel), List.mem_of_getElem? (i := 284) (by decide +kernel)⟩
theorem lw_p3 : lw_okq (⟨"BorrowedPages$Reader", "codeOfWord", "()I"⟩, 3) := ⟨⟨by decide +kernel, by decide +kernel⟩, List.mem_of_getElem? (i := 37) (by decide +kernel), List.mem_of_getElem? (i := 287) (by decide +kernel), List.mem_of_getElem? (i := 288) (by decide +kernel)⟩
theorem lw_p4 : lw_okq (⟨"BorrowedPages$Reader", "beginPiece", "(IILBorrowedPages$Book;)V"⟩, 3) := ⟨⟨by decide +kernel, by decide +kernel⟩, List.mem_of_getElem? (i := 37) (by decide +kernel), List.mem_of_getElem? (i := 298) (by decide +kernel), List.mem_of_getElem? (i := 299) (by decide +kernel)⟩
theorem lw_p5 : lw_okq (⟨"BorrowedPages", "refusalOfBook", "(I)I"⟩, 5) := ⟨⟨by decide +kernel, by decide +kernel⟩, List.mem_of_getElem? (i := 12) (by decide +kernel), List.mem_of_getElem? (i := 310) (by decide +kernel), List.mem_of_getElem? (i := 311) (by decide +kernel)⟩
theorem lw_p6 : lw_okq (⟨"BorrowedPages$Page", "hashOfGram", "(II)I"⟩, 8) := ⟨⟨by decide +kernel, by decide +kernel⟩, List.mem_of_getElem? (i := 132) (by decide +kernel), List.mem_of_getElem? (i := 366) (by decide +kernel), List.mem_of_getElem? (i := 367) (by decide +kernel)⟩
theorem lw_p7 : lw_okq (⟨"BorrowedPages$Page", "lastOfLeast", "(II)I"⟩, 8) := ⟨⟨by decide +kernel, by decide +kernel⟩, List.mem_of_getElem? (i := 132) (by decide +kernel), List.mem_of_getElem? (i := 376) (by decide +kernel), List.mem_of_getElem? (i := 377) (by decide +kernel)⟩
theorem lw_p8 : lw_okq (⟨"BorrowedPages$Page", "longestSharedUpTo", "(ILBorrowedPages$Page;)I"⟩, 8) := ⟨⟨by decide +kernel, by decide +kernel⟩, List.mem_of_getElem? (i := 132) (by decide +kernel), List.mem_of_getElem? (i := 388) (by decide +kernel), List.mem_of_getElem? (i := 389) (by decide +kernel)⟩
theorem lw_p9 : lw_okq (⟨"BorrowedPages", "refusalOfPair", "(II)I"⟩, 5) := ⟨⟨by decide +kernel, by decide +kernel⟩, List.mem_of_getElem? (i := 12) (by decide +kernel), List.mem_of_getElem? (i := 412) (by decide +kernel), List.mem_of_getElem? (i := 413) (by decide +kernel)⟩
theorem lw_p10 : lw_okq (⟨"BorrowedPages$Comparison", "setBothAside", "(LBorrowedPages$Shelf;II)V"⟩, 9) := ⟨⟨by decide +kernel, by decide +kernel⟩, List.mem_of_getElem? (i := 126) (by decide +kernel), List.mem_of_getElem? (i := 420) (by decide +kernel), List.mem_of_getElem? (i := 421) (by decide +kernel)⟩
theorem lw_p11 : lw_okq (⟨"BorrowedPages$Comparison", "runLengthAt", "(III)I"⟩, 9) := ⟨⟨by decide +kernel, by decide +kernel⟩, List.mem_of_getElem? (i := 126) (by decide +kernel), List.mem_of_getElem? (i := 424) (by decide +kernel), List.mem_of_getElem? (i := 425) (by decide +kernel)⟩
theorem lw_p12 : lw_okq (⟨"BorrowedPages$Comparison", "agree", "(II)Z"⟩, 9) := ⟨⟨by decide +kernel, by decide +kernel⟩, List.mem_of_getElem? (i := 126) (by decide +kernel), List.mem_of_getElem? (i := 428) (by decide +kernel), List.mem_of_getElem? (i := 429) (by decide +kernel)⟩
theorem lw_p13 : lw_okq (⟨"BorrowedPages$Comparison", "sharesMark", "(III)Z"⟩, 9) := ⟨⟨by decide +kernel, by decide +kernel⟩, List.mem_of_getElem? (i := 126) (by decide +kernel), List.mem_of_getElem? (i := 433) (by decide +kernel), List.mem_of_getElem? (i := 434) (by decide +kernel)⟩
theorem lw_p14 : lw_okq (⟨"BorrowedPages$Comparison", "findBest", "(I)V"⟩, 9) := ⟨⟨by decide +kernel, by decide +kernel⟩, List.mem_of_getElem? (i := 126) (by decide +kernel), List.mem_of_getElem? (i := 454) (by decide +kernel), List.mem_of_getElem? (i := 455) (by decide +kernel)⟩
theorem lw_p15 : lw_okq (⟨"BorrowedPages$Comparison", "bestFrom", "(III)I"⟩, 9) := ⟨⟨by decide +kernel, by decide +kernel⟩, List.mem_of_getElem? (i := 126) (by decide +kernel), List.mem_of_getElem? (i := 458) (by decide +kernel), List.mem_of_getElem? (i := 459) (by decide +kernel)⟩
def lw_privs_1 : List (MethodName × Nat) := [(⟨"BorrowedPages$Reader", "takeByte", "(ILBorrowedPages$Book;)V"⟩, 3), (⟨"BorrowedPages$Reader", "lengthenWord", "(I)V"⟩, 3), (⟨"BorrowedPages$Reader", "endPiece", "(LBorrowedPages$Book;)V"⟩, 3), (⟨"BorrowedPages$Reader", "codeOfWord", "()I"⟩, 3), (⟨"BorrowedPages$Reader", "beginPiece", "(IILBorrowedPages$Book;)V"⟩, 3), (⟨"BorrowedPages", "refusalOfBook", "(I)I"⟩, 5), (⟨"BorrowedPages$Page", "hashOfGram", "(II)I"⟩, 8), (⟨"BorrowedPages$Page", "lastOfLeast", "(II)I"⟩, 8), (⟨"BorrowedPages$Page", "longestSharedUpTo", "(ILBorrowedPages$Page;)I"⟩, 8), (⟨"BorrowedPages", "refusalOfPair", "(II)I"⟩, 5), (⟨"BorrowedPages$Comparison", "setBothAside", "(LBorrowedPages$Shelf;II)V"⟩, 9), (⟨"BorrowedPages$Comparison", "runLengthAt", "(III)I"⟩, 9), (⟨"BorrowedPages$Comparison", "agree", "(II)Z"⟩, 9), (⟨"BorrowedPages$Comparison", "sharesMark", "(III)Z"⟩, 9), (⟨"BorrowedPages$Comparison", "findBest", "(I)V"⟩, 9), (⟨"BorrowedPages$Comparison", "bestFrom", "(III)I"⟩, 9)]
theorem lw_r1 : ∀ q ∈ lw_privs_1, lw_okq q := List.forall_mem_cons.mpr ⟨lw_p0, List.forall_mem_cons.mpr ⟨lw_p1, List.forall_mem_cons.mpr ⟨lw_p2, List.forall_mem_cons.mpr ⟨lw_p3, List.forall_mem_cons.mpr ⟨lw_p4, List.forall_mem_cons.mpr ⟨lw_p5, List.forall_mem_cons.mpr ⟨lw_p6, List.forall_mem_cons.mpr ⟨lw_p7, List.forall_mem_cons.mpr ⟨lw_p8, List.forall_mem_cons.mpr ⟨lw_p9, List.forall_mem_cons.mpr ⟨lw_p10, List.forall_mem_cons.mpr ⟨lw_p11, List.forall_mem_cons.mpr ⟨lw_p12, List.forall_mem_cons.mpr ⟨lw_p13, List.forall_mem_cons.mpr ⟨lw_p14, List.forall_mem_cons.mpr ⟨lw_p15, fun _ h => absurd h List.not_mem_nil⟩⟩⟩⟩⟩⟩⟩⟩⟩⟩⟩⟩⟩⟩⟩⟩
theorem lw_p16 : lw_okq (⟨"BorrowedPages$Comparison", "bestWithRun", "(IIII)I"⟩, 9) := ⟨⟨by decide +kernel, by decide +kernel⟩, List.mem_of_getElem? (i := 126) (by decide +kernel), List.mem_of_getElem? (i := 463) (by decide +kernel), List.mem_of_getElem? (i := 464) (by decide +kernel)⟩
theorem lw_p17 : lw_okq (⟨"BorrowedPages$Comparison", "addToChain", "(II)V"⟩, 9) := ⟨⟨by decide +kernel, by decide +kernel⟩, List.mem_of_getElem? (i := 126) (by decide +kernel), List.mem_of_getElem? (i := 476) (by decide +kernel), List.mem_of_getElem? (i := 477) (by decide +kernel)⟩
theorem lw_p18 : lw_okq (⟨"BorrowedPages$Groups", "join", "(II)V"⟩, 2) := ⟨⟨by decide +kernel, by decide +kernel⟩, List.mem_of_getElem? (i := 206) (by decide +kernel), List.mem_of_getElem? (i := 494) (by decide +kernel), List.mem_of_getElem? (i := 495) (by decide +kernel)⟩
theorem lw_p19 : lw_okq (⟨"BorrowedPages$Groups", "membersOf", "(I)I"⟩, 2) := ⟨⟨by decide +kernel, by decide +kernel⟩, List.mem_of_getElem? (i := 206) (by decide +kernel), List.mem_of_getElem? (i := 519) (by decide +kernel), List.mem_of_getElem? (i := 520) (by decide +kernel)⟩
theorem lw_p20 : lw_okq (⟨"BorrowedPagesModel", "read", "(II)V"⟩, 27) := ⟨⟨by decide +kernel, by decide +kernel⟩, List.mem_of_getElem? (i := 527) (by decide +kernel), List.mem_of_getElem? (i := 635) (by decide +kernel), List.mem_of_getElem? (i := 636) (by decide +kernel)⟩
theorem lw_p21 : lw_okq (⟨"BorrowedPagesModel", "readWord", "()J"⟩, 27) := ⟨⟨by decide +kernel, by decide +kernel⟩, List.mem_of_getElem? (i := 527) (by decide +kernel), List.mem_of_getElem? (i := 642) (by decide +kernel), List.mem_of_getElem? (i := 643) (by decide +kernel)⟩
theorem lw_p22 : lw_okq (⟨"BorrowedPagesModel", "codeOf", "(J)I"⟩, 27) := ⟨⟨by decide +kernel, by decide +kernel⟩, List.mem_of_getElem? (i := 527) (by decide +kernel), List.mem_of_getElem? (i := 647) (by decide +kernel), List.mem_of_getElem? (i := 648) (by decide +kernel)⟩
theorem lw_p23 : lw_okq (⟨"BorrowedPagesModel", "add", "(IJ)V"⟩, 27) := ⟨⟨by decide +kernel, by decide +kernel⟩, List.mem_of_getElem? (i := 527) (by decide +kernel), List.mem_of_getElem? (i := 651) (by decide +kernel), List.mem_of_getElem? (i := 652) (by decide +kernel)⟩
theorem lw_p24 : lw_okq (⟨"BorrowedPagesModel", "grams", "(I)I"⟩, 27) := ⟨⟨by decide +kernel, by decide +kernel⟩, List.mem_of_getElem? (i := 527) (by decide +kernel), List.mem_of_getElem? (i := 687) (by decide +kernel), List.mem_of_getElem? (i := 688) (by decide +kernel)⟩
theorem lw_p25 : lw_okq (⟨"BorrowedPagesModel", "hashOf", "(II)I"⟩, 27) := ⟨⟨by decide +kernel, by decide +kernel⟩, List.mem_of_getElem? (i := 527) (by decide +kernel), List.mem_of_getElem? (i := 691) (by decide +kernel), List.mem_of_getElem? (i := 692) (by decide +kernel)⟩
theorem lw_p26 : lw_okq (⟨"BorrowedPagesModel", "findMarks", "(I)V"⟩, 27) := ⟨⟨by decide +kernel, by decide +kernel⟩, List.mem_of_getElem? (i := 527) (by decide +kernel), List.mem_of_getElem? (i := 701) (by decide +kernel), List.mem_of_getElem? (i := 702) (by decide +kernel)⟩
theorem lw_p27 : lw_okq (⟨"BorrowedPagesModel", "findAside", "(I)V"⟩, 27) := ⟨⟨by decide +kernel, by decide +kernel⟩, List.mem_of_getElem? (i := 527) (by decide +kernel), List.mem_of_getElem? (i := 709) (by decide +kernel), List.mem_of_getElem? (i := 710) (by decide +kernel)⟩
theorem lw_p28 : lw_okq (⟨"BorrowedPagesModel", "against", "(II)I"⟩, 27) := ⟨⟨by decide +kernel, by decide +kernel⟩, List.mem_of_getElem? (i := 527) (by decide +kernel), List.mem_of_getElem? (i := 717) (by decide +kernel), List.mem_of_getElem? (i := 718) (by decide +kernel)⟩
theorem lw_p29 : lw_okq (⟨"BorrowedPagesModel", "findRuns", "(II)V"⟩, 27) := ⟨⟨by decide +kernel, by decide +kernel⟩, List.mem_of_getElem? (i := 527) (by decide +kernel), List.mem_of_getElem? (i := 721) (by decide +kernel), List.mem_of_getElem? (i := 722) (by decide +kernel)⟩
theorem lw_p30 : lw_okq (⟨"BorrowedPagesModel", "isAlike", "(IIII)Z"⟩, 27) := ⟨⟨by decide +kernel, by decide +kernel⟩, List.mem_of_getElem? (i := 527) (by decide +kernel), List.mem_of_getElem? (i := 725) (by decide +kernel), List.mem_of_getElem? (i := 726) (by decide +kernel)⟩
theorem lw_p31 : lw_okq (⟨"BorrowedPagesModel", "findScore", "(II)I"⟩, 27) := ⟨⟨by decide +kernel, by decide +kernel⟩, List.mem_of_getElem? (i := 527) (by decide +kernel), List.mem_of_getElem? (i := 737) (by decide +kernel), List.mem_of_getElem? (i := 738) (by decide +kernel)⟩
def lw_privs_2 : List (MethodName × Nat) := [(⟨"BorrowedPages$Comparison", "bestWithRun", "(IIII)I"⟩, 9), (⟨"BorrowedPages$Comparison", "addToChain", "(II)V"⟩, 9), (⟨"BorrowedPages$Groups", "join", "(II)V"⟩, 2), (⟨"BorrowedPages$Groups", "membersOf", "(I)I"⟩, 2), (⟨"BorrowedPagesModel", "read", "(II)V"⟩, 27), (⟨"BorrowedPagesModel", "readWord", "()J"⟩, 27), (⟨"BorrowedPagesModel", "codeOf", "(J)I"⟩, 27), (⟨"BorrowedPagesModel", "add", "(IJ)V"⟩, 27), (⟨"BorrowedPagesModel", "grams", "(I)I"⟩, 27), (⟨"BorrowedPagesModel", "hashOf", "(II)I"⟩, 27), (⟨"BorrowedPagesModel", "findMarks", "(I)V"⟩, 27), (⟨"BorrowedPagesModel", "findAside", "(I)V"⟩, 27), (⟨"BorrowedPagesModel", "against", "(II)I"⟩, 27), (⟨"BorrowedPagesModel", "findRuns", "(II)V"⟩, 27), (⟨"BorrowedPagesModel", "isAlike", "(IIII)Z"⟩, 27), (⟨"BorrowedPagesModel", "findScore", "(II)I"⟩, 27)]
theorem lw_r2 : ∀ q ∈ lw_privs_2, lw_okq q := List.forall_mem_cons.mpr ⟨lw_p16, List.forall_mem_cons.mpr ⟨lw_p17, List.forall_mem_cons.mpr ⟨lw_p18, List.forall_mem_cons.mpr ⟨lw_p19, List.forall_mem_cons.mpr ⟨lw_p20, List.forall_mem_cons.mpr ⟨lw_p21, List.forall_mem_cons.mpr ⟨lw_p22, List.forall_mem_cons.mpr ⟨lw_p23, List.forall_mem_cons.mpr ⟨lw_p24, List.forall_mem_cons.mpr ⟨lw_p25, List.forall_mem_cons.mpr ⟨lw_p26, List.forall_mem_cons.mpr ⟨lw_p27, List.forall_mem_cons.mpr ⟨lw_p28, List.forall_mem_cons.mpr ⟨lw_p29, List.forall_mem_cons.mpr ⟨lw_p30, List.forall_mem_cons.mpr ⟨lw_p31, fun _ h => absurd h List.not_mem_nil⟩⟩⟩⟩⟩⟩⟩⟩⟩⟩⟩⟩⟩⟩⟩⟩
theorem lw_p32 : lw_okq (⟨"BorrowedPagesModel", "findGroups", "()V"⟩, 27) := ⟨⟨by decide +kernel, by decide +kernel⟩, List.mem_of_getElem? (i := 527) (by decide +kernel), List.mem_of_getElem? (i := 753) (by decide +kernel), List.mem_of_getElem? (i := 754) (by decide +kernel)⟩
theorem lw_p33 : lw_okq (⟨"BorrowedPagesModel", "join", "(II)V"⟩, 27) := ⟨⟨by decide +kernel, by decide +kernel⟩, List.mem_of_getElem? (i := 527) (by decide +kernel), List.mem_of_getElem? (i := 757) (by decide +kernel), List.mem_of_getElem? (i := 758) (by decide +kernel)⟩
theorem lw_p34 : lw_okq (⟨"BorrowedPagesModel", "turnOne", "(I)V"⟩, 27) := ⟨⟨by decide +kernel, by decide +kernel⟩, List.mem_of_getElem? (i := 527) (by decide +kernel), List.mem_of_getElem? (i := 773) (by decide +kernel), List.mem_of_getElem? (i := 774) (by decide +kernel)⟩
def lw_privs_3 : List (MethodName × Nat) := [(⟨"BorrowedPagesModel", "findGroups", "()V"⟩, 27), (⟨"BorrowedPagesModel", "join", "(II)V"⟩, 27), (⟨"BorrowedPagesModel", "turnOne", "(I)V"⟩, 27)]
theorem lw_r3 : ∀ q ∈ lw_privs_3, lw_okq q := List.forall_mem_cons.mpr ⟨lw_p32, List.forall_mem_cons.mpr ⟨lw_p33, List.forall_mem_cons.mpr ⟨lw_p34, fun _ h => absurd h List.not_mem_nil⟩⟩⟩
def lw_privs : List (MethodName × Nat) := lw_privs_1 ++ (lw_privs_2 ++ (lw_privs_3))
def lw_tbl : List Cond := k2_sels lw_privs ++ tables_1
theorem lw_privs_ok : ∀ q ∈ lw_privs, lw_okq q := by
  show ∀ q ∈ lw_privs_1 ++ (lw_privs_2 ++ (lw_privs_3)), lw_okq q
  exact List.forall_mem_append.mpr ⟨lw_r1, List.forall_mem_append.mpr ⟨lw_r2, lw_r3⟩⟩
end
section
/-! ===== BEGIN words of one list among another's, by their places ===== -/
theorem goodIn_r {big : List Cond} (ws : List Cond) (ps : List Nat) (hp : ws = ps.filterMap (fun i => big[i]?)) (h : ws.all goodWord = true) : GoodIn big ws := by
  intro w hw
  have h1 := List.all_eq_true.mp h w hw
  rw [hp] at hw
  obtain ⟨i, -, hi⟩ := List.mem_filterMap.mp hw
  have hm : w ∈ big := by first | exact List.mem_of_getElem? hi | exact List.getElem?_mem hi
  exact ⟨hm, good_of_word h1⟩
theorem goodIn_app {big a b : List Cond} (ha : GoodIn big a) (hb : GoodIn big b) : GoodIn big (a ++ b) := fun w h => (List.mem_append.mp h).elim (ha w) (hb w)
theorem goodIn_ca {big a b : List Cond} {c : Cond} (ha : GoodIn big (c :: a)) (hb : GoodIn big b) : GoodIn big (c :: (a ++ b)) := fun w h => (List.mem_cons.mp h).elim (fun e => ha w (List.mem_cons.mpr (Or.inl e))) (fun h => (List.mem_append.mp h).elim (fun h => ha w (List.mem_cons.mpr (Or.inr h))) (hb w))
theorem goodIn_sub {big ws : List Cond} (hm : ∀ w ∈ ws, w ∈ big) (h : ws.all goodWord = true) : GoodIn big ws := fun w hw => ⟨hm w hw, good_of_word (List.all_eq_true.mp h w hw)⟩
/-! ===== END ===== -/

/-! ===== BEGIN printed: names, fields, word lists, decode rows ===== -/
def RX0 : String := "BorrowedPages$Book"
def TX0 : u_T := fun k => match k with
  | 0 => ("BorrowedPages$Book", "tokens", "[J", true)
  | 1 => ("BorrowedPages$Book", "size", "I", false)
  | 2 => ("BorrowedPages$Book", "language", "I", false)
  | 3 => ("BorrowedPages$Book", "day", "I", false)
  | _ => ("BorrowedPages$Book", "held", "Z", false)
def tyX0 : Nat → FieldType := fun k => match k with
  | 0 => .array .long
  | 1 => .int
  | 2 => .int
  | 3 => .int
  | _ => .boolean
abbrev wsX00 : List Cond := u_ws RX0 TX0 5
theorem nmX0 : ∀ a, a < 5 → ∀ b, b < 5 → a ≠ b → (TX0 a).2.1 ≠ (TX0 b).2.1 := by decide +kernel
theorem tyX0_ok : ∀ k, k < 5 → parseFieldDescriptor (TX0 k).2.2.1 = some (tyX0 k) := by decide +kernel
abbrev cX0_init : ByteArray := prog_2_method_1_code
def yX0_init : MethodName := ⟨RX0, "<init>", "()V"⟩
abbrev cX0_open : ByteArray := prog_2_method_2_code
def yX0_open : MethodName := ⟨RX0, "open", "(II)V"⟩
abbrev cX0_close : ByteArray := prog_2_method_3_code
def yX0_close : MethodName := ⟨RX0, "close", "()V"⟩
abbrev cX0_add : ByteArray := prog_2_method_4_code
def yX0_add : MethodName := ⟨RX0, "add", "(J)V"⟩
def RX1 : String := "BorrowedPages$Comparison"
def TX1 : u_T := fun k => match k with
  | 0 => ("BorrowedPages$Comparison", "chainRuns", "[I", true)
  | 1 => ("BorrowedPages$Comparison", "chainLength", "I", false)
  | 2 => ("BorrowedPages$Comparison", "chainTokens", "I", false)
  | 3 => ("BorrowedPages$Comparison", "runCount", "I", false)
  | 4 => ("BorrowedPages$Comparison", "left", "LBorrowedPages$Page;", true)
  | 5 => ("BorrowedPages$Comparison", "right", "LBorrowedPages$Page;", true)
  | 6 => ("BorrowedPages$Comparison", "third", "LBorrowedPages$Page;", true)
  | 7 => ("BorrowedPages$Comparison", "runLengths", "[I", true)
  | _ => ("BorrowedPages$Comparison", "best", "[I", true)
def tyX1 : Nat → FieldType := fun k => match k with
  | 0 => .array .int
  | 1 => .int
  | 2 => .int
  | 3 => .int
  | 4 => .object "BorrowedPages$Page"
  | 5 => .object "BorrowedPages$Page"
  | 6 => .object "BorrowedPages$Page"
  | 7 => .array .int
  | _ => .array .int
abbrev wsX10 : List Cond := u_ws RX1 TX1 9
theorem nmX1 : ∀ a, a < 9 → ∀ b, b < 9 → a ≠ b → (TX1 a).2.1 ≠ (TX1 b).2.1 := by decide +kernel
theorem tyX1_ok : ∀ k, k < 9 → parseFieldDescriptor (TX1 k).2.2.1 = some (tyX1 k) := by decide +kernel
abbrev cX1_init : ByteArray := prog_3_method_1_code
def yX1_init : MethodName := ⟨RX1, "<init>", "()V"⟩
abbrev cX1_pageOf : ByteArray := prog_3_method_2_code
def yX1_pageOf : MethodName := ⟨RX1, "pageOf", "(LBorrowedPages$Shelf;I)LBorrowedPages$Page;"⟩
abbrev cX1_scoreOf : ByteArray := prog_3_method_3_code
def yX1_scoreOf : MethodName := ⟨RX1, "scoreOf", "(LBorrowedPages$Shelf;III)I"⟩
abbrev cX1_compare : ByteArray := prog_3_method_4_code
def yX1_compare : MethodName := ⟨RX1, "compare", "(LBorrowedPages$Shelf;III)V"⟩
abbrev cX1_layWithMarks : ByteArray := prog_3_method_5_code
def yX1_layWithMarks : MethodName := ⟨RX1, "layWithMarks", "(LBorrowedPages$Page;LBorrowedPages$Shelf;II)V"⟩
abbrev cX1_asideLength : ByteArray := prog_3_method_6_code
def yX1_asideLength : MethodName := ⟨RX1, "asideLength", "(LBorrowedPages$Shelf;)I"⟩
abbrev cX1_setBothAside : ByteArray := prog_3_method_7_code
def yX1_setBothAside : MethodName := ⟨RX1, "setBothAside", "(LBorrowedPages$Shelf;II)V"⟩
abbrev cX1_runLengthAt : ByteArray := prog_3_method_8_code
def yX1_runLengthAt : MethodName := ⟨RX1, "runLengthAt", "(III)I"⟩
abbrev cX1_agree : ByteArray := prog_3_method_9_code
def yX1_agree : MethodName := ⟨RX1, "agree", "(II)Z"⟩
abbrev cX1_sharesMark : ByteArray := prog_3_method_10_code
def yX1_sharesMark : MethodName := ⟨RX1, "sharesMark", "(III)Z"⟩
abbrev cX1_findBest : ByteArray := prog_3_method_11_code
def yX1_findBest : MethodName := ⟨RX1, "findBest", "(I)V"⟩
abbrev cX1_bestFrom : ByteArray := prog_3_method_12_code
def yX1_bestFrom : MethodName := ⟨RX1, "bestFrom", "(III)I"⟩
abbrev cX1_bestWithRun : ByteArray := prog_3_method_13_code
def yX1_bestWithRun : MethodName := ⟨RX1, "bestWithRun", "(IIII)I"⟩
abbrev cX1_partOfRun : ByteArray := prog_3_method_14_code
def yX1_partOfRun : MethodName := ⟨RX1, "partOfRun", "(II)I"⟩
abbrev cX1_traceChain : ByteArray := prog_3_method_15_code
def yX1_traceChain : MethodName := ⟨RX1, "traceChain", "(LBorrowedPages$Shelf;II)V"⟩
abbrev cX1_addToChain : ByteArray := prog_3_method_16_code
def yX1_addToChain : MethodName := ⟨RX1, "addToChain", "(II)V"⟩
def RX2 : String := "BorrowedPages$Groups"
def TX2 : u_T := fun k => match k with
  | 0 => ("BorrowedPages$Groups", "leaders", "[I", true)
  | _ => ("BorrowedPages$Groups", "links", "I", false)
def tyX2 : Nat → FieldType := fun k => match k with
  | 0 => .array .int
  | _ => .int
abbrev wsX20 : List Cond := u_ws RX2 TX2 2
theorem nmX2 : ∀ a, a < 2 → ∀ b, b < 2 → a ≠ b → (TX2 a).2.1 ≠ (TX2 b).2.1 := by decide +kernel
theorem tyX2_ok : ∀ k, k < 2 → parseFieldDescriptor (TX2 k).2.2.1 = some (tyX2 k) := by decide +kernel
abbrev cX2_init : ByteArray := prog_4_method_1_code
def yX2_init : MethodName := ⟨RX2, "<init>", "()V"⟩
abbrev cX2_form : ByteArray := prog_4_method_2_code
def yX2_form : MethodName := ⟨RX2, "form", "(LBorrowedPages$Shelf;LBorrowedPages$Comparison;)V"⟩
abbrev cX2_join : ByteArray := prog_4_method_3_code
def yX2_join : MethodName := ⟨RX2, "join", "(II)V"⟩
abbrev cX2_howMany : ByteArray := prog_4_method_4_code
def yX2_howMany : MethodName := ⟨RX2, "howMany", "(II)I"⟩
abbrev cX2_membersOf : ByteArray := prog_4_method_5_code
def yX2_membersOf : MethodName := ⟨RX2, "membersOf", "(I)I"⟩
abbrev cX2_earliest : ByteArray := prog_4_method_6_code
def yX2_earliest : MethodName := ⟨RX2, "earliest", "(LBorrowedPages$Shelf;I)I"⟩
def RX3 : String := "BorrowedPages$Page"
def TX3 : u_T := fun k => match k with
  | 0 => ("BorrowedPages$Page", "tokens", "[J", true)
  | 1 => ("BorrowedPages$Page", "hashes", "[I", true)
  | 2 => ("BorrowedPages$Page", "isMark", "[Z", true)
  | 3 => ("BorrowedPages$Page", "isAside", "[Z", true)
  | 4 => ("BorrowedPages$Page", "sharedLengths", "[I", true)
  | 5 => ("BorrowedPages$Page", "size", "I", false)
  | 6 => ("BorrowedPages$Page", "language", "I", false)
  | _ => ("BorrowedPages$Page", "grams", "I", false)
def tyX3 : Nat → FieldType := fun k => match k with
  | 0 => .array .long
  | 1 => .array .int
  | 2 => .array .boolean
  | 3 => .array .boolean
  | 4 => .array .int
  | 5 => .int
  | 6 => .int
  | _ => .int
abbrev wsX30 : List Cond := u_ws RX3 TX3 8
theorem nmX3 : ∀ a, a < 8 → ∀ b, b < 8 → a ≠ b → (TX3 a).2.1 ≠ (TX3 b).2.1 := by decide +kernel
theorem tyX3_ok : ∀ k, k < 8 → parseFieldDescriptor (TX3 k).2.2.1 = some (tyX3 k) := by decide +kernel
abbrev cX3_init : ByteArray := prog_5_method_1_code
def yX3_init : MethodName := ⟨RX3, "<init>", "()V"⟩
abbrev cX3_lay : ByteArray := prog_5_method_2_code
def yX3_lay : MethodName := ⟨RX3, "lay", "(LBorrowedPages$Book;I)V"⟩
abbrev cX3_findMarks : ByteArray := prog_5_method_3_code
def yX3_findMarks : MethodName := ⟨RX3, "findMarks", "(II)V"⟩
abbrev cX3_hashOfGram : ByteArray := prog_5_method_4_code
def yX3_hashOfGram : MethodName := ⟨RX3, "hashOfGram", "(II)I"⟩
abbrev cX3_lastOfLeast : ByteArray := prog_5_method_5_code
def yX3_lastOfLeast : MethodName := ⟨RX3, "lastOfLeast", "(II)I"⟩
abbrev cX3_howManyMarks : ByteArray := prog_5_method_6_code
def yX3_howManyMarks : MethodName := ⟨RX3, "howManyMarks", "()I"⟩
abbrev cX3_gramOfMark : ByteArray := prog_5_method_7_code
def yX3_gramOfMark : MethodName := ⟨RX3, "gramOfMark", "(I)I"⟩
abbrev cX3_setAside : ByteArray := prog_5_method_8_code
def yX3_setAside : MethodName := ⟨RX3, "setAside", "(LBorrowedPages$Page;I)V"⟩
abbrev cX3_longestSharedUpTo : ByteArray := prog_5_method_9_code
def yX3_longestSharedUpTo : MethodName := ⟨RX3, "longestSharedUpTo", "(ILBorrowedPages$Page;)I"⟩
def RX4 : String := "BorrowedPages$Reader"
def TX4 : u_T := fun k => match k with
  | 0 => ("BorrowedPages$Reader", "piece", "I", false)
  | 1 => ("BorrowedPages$Reader", "wordLength", "I", false)
  | _ => ("BorrowedPages$Reader", "wordNumber", "J", false)
def tyX4 : Nat → FieldType := fun k => match k with
  | 0 => .int
  | 1 => .int
  | _ => .long
abbrev wsX40 : List Cond := u_ws RX4 TX4 3
theorem nmX4 : ∀ a, a < 3 → ∀ b, b < 3 → a ≠ b → (TX4 a).2.1 ≠ (TX4 b).2.1 := by decide +kernel
theorem tyX4_ok : ∀ k, k < 3 → parseFieldDescriptor (TX4 k).2.2.1 = some (tyX4 k) := by decide +kernel
abbrev cX4_init : ByteArray := prog_6_method_1_code
def yX4_init : MethodName := ⟨RX4, "<init>", "()V"⟩
abbrev cX4_read : ByteArray := prog_6_method_2_code
def yX4_read : MethodName := ⟨RX4, "read", "(LBorrowedPages$Tape;LBorrowedPages$Book;)V"⟩
abbrev cX4_takeByte : ByteArray := prog_6_method_3_code
def yX4_takeByte : MethodName := ⟨RX4, "takeByte", "(ILBorrowedPages$Book;)V"⟩
abbrev cX4_beginPiece : ByteArray := prog_6_method_4_code
def yX4_beginPiece : MethodName := ⟨RX4, "beginPiece", "(IILBorrowedPages$Book;)V"⟩
abbrev cX4_endPiece : ByteArray := prog_6_method_5_code
def yX4_endPiece : MethodName := ⟨RX4, "endPiece", "(LBorrowedPages$Book;)V"⟩
abbrev cX4_lengthenWord : ByteArray := prog_6_method_6_code
def yX4_lengthenWord : MethodName := ⟨RX4, "lengthenWord", "(I)V"⟩
abbrev cX4_codeOfWord : ByteArray := prog_6_method_7_code
def yX4_codeOfWord : MethodName := ⟨RX4, "codeOfWord", "()I"⟩
abbrev cX4_valueOf : ByteArray := prog_6_method_8_code
def yX4_valueOf : MethodName := ⟨RX4, "valueOf", "(I)I"⟩
def RX5 : String := "BorrowedPages$Shelf"
def TX5 : u_T := fun k => match k with
  | 0 => ("BorrowedPages$Shelf", "books", "[LBorrowedPages$Book;", true)
  | 1 => ("BorrowedPages$Shelf", "givenNumber", "I", false)
  | 2 => ("BorrowedPages$Shelf", "gramLength", "I", false)
  | 3 => ("BorrowedPages$Shelf", "windowLength", "I", false)
  | 4 => ("BorrowedPages$Shelf", "gapCost", "I", false)
  | _ => ("BorrowedPages$Shelf", "linkScore", "I", false)
def tyX5 : Nat → FieldType := fun k => match k with
  | 0 => .array (.object "BorrowedPages$Book")
  | 1 => .int
  | 2 => .int
  | 3 => .int
  | 4 => .int
  | _ => .int
abbrev wsX50 : List Cond := u_ws RX5 TX5 6
theorem nmX5 : ∀ a, a < 6 → ∀ b, b < 6 → a ≠ b → (TX5 a).2.1 ≠ (TX5 b).2.1 := by decide +kernel
theorem tyX5_ok : ∀ k, k < 6 → parseFieldDescriptor (TX5 k).2.2.1 = some (tyX5 k) := by decide +kernel
abbrev cX5_init : ByteArray := prog_7_method_1_code
def yX5_init : MethodName := ⟨RX5, "<init>", "()V"⟩
abbrev cX5_names : ByteArray := prog_7_method_2_code
def yX5_names : MethodName := ⟨RX5, "names", "(I)Z"⟩
abbrev cX5_holds : ByteArray := prog_7_method_3_code
def yX5_holds : MethodName := ⟨RX5, "holds", "(I)Z"⟩
abbrev cX5_howManyBooks : ByteArray := prog_7_method_4_code
def yX5_howManyBooks : MethodName := ⟨RX5, "howManyBooks", "()I"⟩
def RX6 : String := "BorrowedPages$Tape"
def TX6 : u_T := fun k => match k with
  | 0 => ("BorrowedPages$Tape", "bytes", "[B", true)
  | _ => ("BorrowedPages$Tape", "length", "I", false)
def tyX6 : Nat → FieldType := fun k => match k with
  | 0 => .array .byte
  | _ => .int
abbrev wsX60 : List Cond := u_ws RX6 TX6 2
theorem nmX6 : ∀ a, a < 2 → ∀ b, b < 2 → a ≠ b → (TX6 a).2.1 ≠ (TX6 b).2.1 := by decide +kernel
theorem tyX6_ok : ∀ k, k < 2 → parseFieldDescriptor (TX6 k).2.2.1 = some (tyX6 k) := by decide +kernel
abbrev cX6_init : ByteArray := prog_8_method_1_code
def yX6_init : MethodName := ⟨RX6, "<init>", "()V"⟩
abbrev cX6_isText : ByteArray := prog_8_method_2_code
def yX6_isText : MethodName := ⟨RX6, "isText", "(JI)Z"⟩
abbrev cX6_byteAt : ByteArray := prog_8_method_3_code
def yX6_byteAt : MethodName := ⟨RX6, "byteAt", "(JI)I"⟩
abbrev cX6_hasRoomFor : ByteArray := prog_8_method_4_code
def yX6_hasRoomFor : MethodName := ⟨RX6, "hasRoomFor", "(I)Z"⟩
abbrev cX6_append : ByteArray := prog_8_method_5_code
def yX6_append : MethodName := ⟨RX6, "append", "(JI)V"⟩
abbrev cX6_clear : ByteArray := prog_8_method_6_code
def yX6_clear : MethodName := ⟨RX6, "clear", "()V"⟩
def RX7 : String := "BorrowedPages"
def TX7 : u_T := fun k => match k with
  | 0 => ("BorrowedPages", "tape", "LBorrowedPages$Tape;", true)
  | 1 => ("BorrowedPages", "reader", "LBorrowedPages$Reader;", true)
  | 2 => ("BorrowedPages", "shelf", "LBorrowedPages$Shelf;", true)
  | 3 => ("BorrowedPages", "comparison", "LBorrowedPages$Comparison;", true)
  | _ => ("BorrowedPages", "groups", "LBorrowedPages$Groups;", true)
def tyX7 : Nat → FieldType := fun k => match k with
  | 0 => .object "BorrowedPages$Tape"
  | 1 => .object "BorrowedPages$Reader"
  | 2 => .object "BorrowedPages$Shelf"
  | 3 => .object "BorrowedPages$Comparison"
  | _ => .object "BorrowedPages$Groups"
abbrev wsX70 : List Cond := u_ws RX7 TX7 5
theorem nmX7 : ∀ a, a < 5 → ∀ b, b < 5 → a ≠ b → (TX7 a).2.1 ≠ (TX7 b).2.1 := by decide +kernel
theorem tyX7_ok : ∀ k, k < 5 → parseFieldDescriptor (TX7 k).2.2.1 = some (tyX7 k) := by decide +kernel
abbrev cX7_init : ByteArray := prog_1_method_1_code
def yX7_init : MethodName := ⟨RX7, "<init>", "()V"⟩
abbrev cX7_type : ByteArray := prog_1_method_2_code
def yX7_type : MethodName := ⟨RX7, "type", "(JI)I"⟩
abbrev cX7_book : ByteArray := prog_1_method_3_code
def yX7_book : MethodName := ⟨RX7, "book", "(III)I"⟩
abbrev cX7_withdraw : ByteArray := prog_1_method_4_code
def yX7_withdraw : MethodName := ⟨RX7, "withdraw", "(I)I"⟩
abbrev cX7_token : ByteArray := prog_1_method_5_code
def yX7_token : MethodName := ⟨RX7, "token", "(II)J"⟩
abbrev cX7_windows : ByteArray := prog_1_method_6_code
def yX7_windows : MethodName := ⟨RX7, "windows", "(II)I"⟩
abbrev cX7_gap : ByteArray := prog_1_method_7_code
def yX7_gap : MethodName := ⟨RX7, "gap", "(I)I"⟩
abbrev cX7_link : ByteArray := prog_1_method_8_code
def yX7_link : MethodName := ⟨RX7, "link", "(I)I"⟩
abbrev cX7_given : ByteArray := prog_1_method_9_code
def yX7_given : MethodName := ⟨RX7, "given", "(I)I"⟩
abbrev cX7_hash : ByteArray := prog_1_method_10_code
def yX7_hash : MethodName := ⟨RX7, "hash", "(II)I"⟩
abbrev cX7_markAt : ByteArray := prog_1_method_11_code
def yX7_markAt : MethodName := ⟨RX7, "markAt", "(II)I"⟩
abbrev cX7_aside : ByteArray := prog_1_method_12_code
def yX7_aside : MethodName := ⟨RX7, "aside", "(II)I"⟩
abbrev cX7_runs : ByteArray := prog_1_method_13_code
def yX7_runs : MethodName := ⟨RX7, "runs", "(II)I"⟩
abbrev cX7_run : ByteArray := prog_1_method_14_code
def yX7_run : MethodName := ⟨RX7, "run", "(IIII)I"⟩
abbrev cX7_score : ByteArray := prog_1_method_15_code
def yX7_score : MethodName := ⟨RX7, "score", "(II)I"⟩
abbrev cX7_chain : ByteArray := prog_1_method_16_code
def yX7_chain : MethodName := ⟨RX7, "chain", "(III)I"⟩
abbrev cX7_covered : ByteArray := prog_1_method_17_code
def yX7_covered : MethodName := ⟨RX7, "covered", "(II)I"⟩
abbrev cX7_group : ByteArray := prog_1_method_18_code
def yX7_group : MethodName := ⟨RX7, "group", "(I)I"⟩
abbrev cX7_first : ByteArray := prog_1_method_19_code
def yX7_first : MethodName := ⟨RX7, "first", "(I)I"⟩
abbrev cX7_count : ByteArray := prog_1_method_20_code
def yX7_count : MethodName := ⟨RX7, "count", "(I)I"⟩
abbrev cX7_chance : ByteArray := prog_1_method_21_code
def yX7_chance : MethodName := ⟨RX7, "chance", "(II)I"⟩
abbrev cX7_refusalOfBook : ByteArray := prog_1_method_22_code
def yX7_refusalOfBook : MethodName := ⟨RX7, "refusalOfBook", "(I)I"⟩
abbrev cX7_refusalOfPair : ByteArray := prog_1_method_23_code
def yX7_refusalOfPair : MethodName := ⟨RX7, "refusalOfPair", "(II)I"⟩
def RX8 : String := "BorrowedPagesModel"
def TX8 : u_T := fun k => match k with
  | 0 => ("BorrowedPagesModel", "tape", "[I", true)
  | 1 => ("BorrowedPagesModel", "taped", "I", false)
  | 2 => ("BorrowedPagesModel", "is", "[Z", true)
  | 3 => ("BorrowedPagesModel", "sizes", "[I", true)
  | 4 => ("BorrowedPagesModel", "languages", "[I", true)
  | 5 => ("BorrowedPagesModel", "days", "[I", true)
  | 6 => ("BorrowedPagesModel", "tokens", "[J", true)
  | 7 => ("BorrowedPagesModel", "k", "I", false)
  | 8 => ("BorrowedPagesModel", "w", "I", false)
  | 9 => ("BorrowedPagesModel", "gap", "I", false)
  | 10 => ("BorrowedPagesModel", "bound", "I", false)
  | 11 => ("BorrowedPagesModel", "given", "I", false)
  | 12 => ("BorrowedPagesModel", "at", "I", false)
  | 13 => ("BorrowedPagesModel", "wordSize", "I", false)
  | 14 => ("BorrowedPagesModel", "words", "[J", true)
  | 15 => ("BorrowedPagesModel", "marks", "[Z", true)
  | 16 => ("BorrowedPagesModel", "hashes", "[I", true)
  | 17 => ("BorrowedPagesModel", "asides", "[Z", true)
  | 18 => ("BorrowedPagesModel", "many", "I", false)
  | 19 => ("BorrowedPagesModel", "runA", "[I", true)
  | 20 => ("BorrowedPagesModel", "runB", "[I", true)
  | 21 => ("BorrowedPagesModel", "runN", "[I", true)
  | 22 => ("BorrowedPagesModel", "best", "[I", true)
  | 23 => ("BorrowedPagesModel", "next", "[I", true)
  | 24 => ("BorrowedPagesModel", "first", "I", false)
  | 25 => ("BorrowedPagesModel", "groups", "[I", true)
  | _ => ("BorrowedPagesModel", "links", "I", false)
def tyX8 : Nat → FieldType := fun k => match k with
  | 0 => .array .int
  | 1 => .int
  | 2 => .array .boolean
  | 3 => .array .int
  | 4 => .array .int
  | 5 => .array .int
  | 6 => .array .long
  | 7 => .int
  | 8 => .int
  | 9 => .int
  | 10 => .int
  | 11 => .int
  | 12 => .int
  | 13 => .int
  | 14 => .array .long
  | 15 => .array .boolean
  | 16 => .array .int
  | 17 => .array .boolean
  | 18 => .int
  | 19 => .array .int
  | 20 => .array .int
  | 21 => .array .int
  | 22 => .array .int
  | 23 => .array .int
  | 24 => .int
  | 25 => .array .int
  | _ => .int
abbrev wsX80 : List Cond := u_ws RX8 TX8 27
theorem nmX8 : ∀ a, a < 27 → ∀ b, b < 27 → a ≠ b → (TX8 a).2.1 ≠ (TX8 b).2.1 := by decide +kernel
theorem tyX8_ok : ∀ k, k < 27 → parseFieldDescriptor (TX8 k).2.2.1 = some (tyX8 k) := by decide +kernel
abbrev cX8_init : ByteArray := prog_10_method_1_code
def yX8_init : MethodName := ⟨RX8, "<init>", "()V"⟩
abbrev cX8_in : ByteArray := prog_10_method_2_code
def yX8_in : MethodName := ⟨RX8, "in", "(III)Z"⟩
abbrev cX8_type : ByteArray := prog_10_method_3_code
def yX8_type : MethodName := ⟨RX8, "type", "(JI)I"⟩
abbrev cX8_letter : ByteArray := prog_10_method_4_code
def yX8_letter : MethodName := ⟨RX8, "letter", "(I)I"⟩
abbrev cX8_readWord : ByteArray := prog_10_method_5_code
def yX8_readWord : MethodName := ⟨RX8, "readWord", "()J"⟩
abbrev cX8_codeOf : ByteArray := prog_10_method_6_code
def yX8_codeOf : MethodName := ⟨RX8, "codeOf", "(J)I"⟩
abbrev cX8_add : ByteArray := prog_10_method_7_code
def yX8_add : MethodName := ⟨RX8, "add", "(IJ)V"⟩
abbrev cX8_read : ByteArray := prog_10_method_8_code
def yX8_read : MethodName := ⟨RX8, "read", "(II)V"⟩
abbrev cX8_isNumber : ByteArray := prog_10_method_9_code
def yX8_isNumber : MethodName := ⟨RX8, "isNumber", "(I)Z"⟩
abbrev cX8_book : ByteArray := prog_10_method_10_code
def yX8_book : MethodName := ⟨RX8, "book", "(III)I"⟩
abbrev cX8_withdraw : ByteArray := prog_10_method_11_code
def yX8_withdraw : MethodName := ⟨RX8, "withdraw", "(I)I"⟩
abbrev cX8_token : ByteArray := prog_10_method_12_code
def yX8_token : MethodName := ⟨RX8, "token", "(II)J"⟩
abbrev cX8_windows : ByteArray := prog_10_method_13_code
def yX8_windows : MethodName := ⟨RX8, "windows", "(II)I"⟩
abbrev cX8_gap : ByteArray := prog_10_method_14_code
def yX8_gap : MethodName := ⟨RX8, "gap", "(I)I"⟩
abbrev cX8_link : ByteArray := prog_10_method_15_code
def yX8_link : MethodName := ⟨RX8, "link", "(I)I"⟩
abbrev cX8_given : ByteArray := prog_10_method_16_code
def yX8_given : MethodName := ⟨RX8, "given", "(I)I"⟩
abbrev cX8_grams : ByteArray := prog_10_method_17_code
def yX8_grams : MethodName := ⟨RX8, "grams", "(I)I"⟩
abbrev cX8_hashOf : ByteArray := prog_10_method_18_code
def yX8_hashOf : MethodName := ⟨RX8, "hashOf", "(II)I"⟩
abbrev cX8_hash : ByteArray := prog_10_method_19_code
def yX8_hash : MethodName := ⟨RX8, "hash", "(II)I"⟩
abbrev cX8_findMarks : ByteArray := prog_10_method_20_code
def yX8_findMarks : MethodName := ⟨RX8, "findMarks", "(I)V"⟩
abbrev cX8_markAt : ByteArray := prog_10_method_21_code
def yX8_markAt : MethodName := ⟨RX8, "markAt", "(II)I"⟩
abbrev cX8_findAside : ByteArray := prog_10_method_22_code
def yX8_findAside : MethodName := ⟨RX8, "findAside", "(I)V"⟩
abbrev cX8_aside : ByteArray := prog_10_method_23_code
def yX8_aside : MethodName := ⟨RX8, "aside", "(II)I"⟩
abbrev cX8_isAlike : ByteArray := prog_10_method_24_code
def yX8_isAlike : MethodName := ⟨RX8, "isAlike", "(IIII)Z"⟩
abbrev cX8_findRuns : ByteArray := prog_10_method_25_code
def yX8_findRuns : MethodName := ⟨RX8, "findRuns", "(II)V"⟩
abbrev cX8_against : ByteArray := prog_10_method_26_code
def yX8_against : MethodName := ⟨RX8, "against", "(II)I"⟩
abbrev cX8_runs : ByteArray := prog_10_method_27_code
def yX8_runs : MethodName := ⟨RX8, "runs", "(II)I"⟩
abbrev cX8_run : ByteArray := prog_10_method_28_code
def yX8_run : MethodName := ⟨RX8, "run", "(IIII)I"⟩
abbrev cX8_findScore : ByteArray := prog_10_method_29_code
def yX8_findScore : MethodName := ⟨RX8, "findScore", "(II)I"⟩
abbrev cX8_score : ByteArray := prog_10_method_30_code
def yX8_score : MethodName := ⟨RX8, "score", "(II)I"⟩
abbrev cX8_chain : ByteArray := prog_10_method_31_code
def yX8_chain : MethodName := ⟨RX8, "chain", "(III)I"⟩
abbrev cX8_covered : ByteArray := prog_10_method_32_code
def yX8_covered : MethodName := ⟨RX8, "covered", "(II)I"⟩
abbrev cX8_findGroups : ByteArray := prog_10_method_33_code
def yX8_findGroups : MethodName := ⟨RX8, "findGroups", "()V"⟩
abbrev cX8_join : ByteArray := prog_10_method_34_code
def yX8_join : MethodName := ⟨RX8, "join", "(II)V"⟩
abbrev cX8_group : ByteArray := prog_10_method_35_code
def yX8_group : MethodName := ⟨RX8, "group", "(I)I"⟩
abbrev cX8_first : ByteArray := prog_10_method_36_code
def yX8_first : MethodName := ⟨RX8, "first", "(I)I"⟩
abbrev cX8_count : ByteArray := prog_10_method_37_code
def yX8_count : MethodName := ⟨RX8, "count", "(I)I"⟩
abbrev cX8_turnOne : ByteArray := prog_10_method_38_code
def yX8_turnOne : MethodName := ⟨RX8, "turnOne", "(I)V"⟩
abbrev cX8_chance : ByteArray := prog_10_method_39_code
def yX8_chance : MethodName := ⟨RX8, "chance", "(II)I"⟩
def RJ9 : String := "java/lang/Math"
def TJ9 : u_T := fun k => match k with
  | _ => ("", "", "", false)
def tyJ9 : Nat → FieldType := fun k => match k with
  | _ => .int
abbrev wsJ90 : List Cond := u_ws RJ9 TJ9 0
theorem nmJ9 : ∀ a, a < 0 → ∀ b, b < 0 → a ≠ b → (TJ9 a).2.1 ≠ (TJ9 b).2.1 := by decide +kernel
theorem tyJ9_ok : ∀ k, k < 0 → parseFieldDescriptor (TJ9 k).2.2.1 = some (tyJ9 k) := by decide +kernel
abbrev cJ9_max_7cf53 : ByteArray := prog_11_method_65_code
def yJ9_max_7cf53 : MethodName := ⟨RJ9, "max", "(II)I"⟩
abbrev cJ9_min_7cf53 : ByteArray := prog_11_method_69_code
def yJ9_min_7cf53 : MethodName := ⟨RJ9, "min", "(II)I"⟩
def RL : String := "BorrowedPagesLaw"
abbrev cL_law : ByteArray := code
def yL_law : MethodName := ⟨RL, "law", "([I)Z"⟩
abbrev vwCl : List vw_C := [(RX0, TX0, 5), (RX1, TX1, 9), (RX2, TX2, 2), (RX3, TX3, 8), (RX4, TX4, 3), (RX5, TX5, 6), (RX6, TX6, 2), (RX7, TX7, 5), (RX8, TX8, 27)]
end
section
/-! the words of the tables, each by its place -/
def UW : List Cond := lw_tbl.filter goodWord
theorem uw_of {w : Cond} (h : w ∈ lw_tbl) (hg : goodWord w = true) : w ∈ UW := List.mem_filter.mpr ⟨h, hg⟩
theorem uw0 (i : Nat) {w : Cond} (h : (k2_sels lw_privs)[i]? = some w) (hg : goodWord w = true) : w ∈ UW := uw_of (List.mem_append_left _ (List.mem_of_getElem? h)) hg
theorem uw1 (i : Nat) {w : Cond} (h : tables_1_1[i]? = some w) (hg : goodWord w = true) : w ∈ UW := uw_of (List.mem_append_right _ (List.mem_append_left _ (List.mem_of_getElem? h))) hg
theorem uw2 (i : Nat) {w : Cond} (h : tables_1_2[i]? = some w) (hg : goodWord w = true) : w ∈ UW := uw_of (List.mem_append_right _ (List.mem_append_right _ (List.mem_append_left _ (List.mem_of_getElem? h)))) hg
theorem uw3 (i : Nat) {w : Cond} (h : tables_1_3[i]? = some w) (hg : goodWord w = true) : w ∈ UW := uw_of (List.mem_append_right _ (List.mem_append_right _ (List.mem_append_right _ (List.mem_append_left _ (List.mem_of_getElem? h))))) hg
theorem uw4 (i : Nat) {w : Cond} (h : tables_1_4[i]? = some w) (hg : goodWord w = true) : w ∈ UW := uw_of (List.mem_append_right _ (List.mem_append_right _ (List.mem_append_right _ (List.mem_append_right _ (List.mem_of_getElem? h))))) hg
theorem fl_X0_9 : Cond.fieldLink RX0 9 "BorrowedPages$Book" "tokens" "[J" ∈ UW := uw1 65 rfl rfl
theorem fl_X0_15 : Cond.fieldLink RX0 15 "BorrowedPages$Book" "size" "I" ∈ UW := uw1 68 rfl rfl
theorem fl_X0_19 : Cond.fieldLink RX0 19 "BorrowedPages$Book" "language" "I" ∈ UW := uw1 71 rfl rfl
theorem fl_X0_22 : Cond.fieldLink RX0 22 "BorrowedPages$Book" "day" "I" ∈ UW := uw1 75 rfl rfl
theorem fl_X0_25 : Cond.fieldLink RX0 25 "BorrowedPages$Book" "held" "Z" ∈ UW := uw1 78 rfl rfl
theorem fl_X1_9 : Cond.fieldLink RX1 9 "BorrowedPages$Comparison" "chainRuns" "[I" ∈ UW := uw1 173 rfl rfl
theorem fl_X1_15 : Cond.fieldLink RX1 15 "BorrowedPages$Comparison" "chainLength" "I" ∈ UW := uw1 175 rfl rfl
theorem fl_X1_19 : Cond.fieldLink RX1 19 "BorrowedPages$Comparison" "chainTokens" "I" ∈ UW := uw1 177 rfl rfl
theorem fl_X1_22 : Cond.fieldLink RX1 22 "BorrowedPages$Comparison" "runCount" "I" ∈ UW := uw1 179 rfl rfl
theorem fl_X1_28 : Cond.fieldLink RX1 28 "BorrowedPages$Comparison" "left" "LBorrowedPages$Page;" ∈ UW := uw1 181 rfl rfl
theorem fl_X1_32 : Cond.fieldLink RX1 32 "BorrowedPages$Comparison" "right" "LBorrowedPages$Page;" ∈ UW := uw1 182 rfl rfl
theorem fl_X1_35 : Cond.fieldLink RX1 35 "BorrowedPages$Comparison" "third" "LBorrowedPages$Page;" ∈ UW := uw1 183 rfl rfl
theorem fl_X1_38 : Cond.fieldLink RX1 38 "BorrowedPages$Comparison" "runLengths" "[I" ∈ UW := uw1 184 rfl rfl
theorem fl_X1_41 : Cond.fieldLink RX1 41 "BorrowedPages$Comparison" "best" "[I" ∈ UW := uw1 185 rfl rfl
theorem fl_X1_48 : Cond.fieldLink RX1 48 "BorrowedPages$Shelf" "givenNumber" "I" ∈ UW := uw1 97 rfl rfl
theorem fl_X1_57 : Cond.fieldLink RX1 57 "BorrowedPages$Shelf" "books" "[LBorrowedPages$Book;" ∈ UW := uw1 93 rfl rfl
theorem fl_X1_77 : Cond.fieldLink RX1 77 "BorrowedPages$Shelf" "gapCost" "I" ∈ UW := uw1 107 rfl rfl
theorem fl_X1_88 : Cond.fieldLink RX1 88 "BorrowedPages$Page" "size" "I" ∈ UW := uw1 148 rfl rfl
theorem fl_X1_91 : Cond.fieldLink RX1 91 "BorrowedPages$Shelf" "gramLength" "I" ∈ UW := uw1 101 rfl rfl
theorem fl_X1_98 : Cond.fieldLink RX1 98 "BorrowedPages$Shelf" "windowLength" "I" ∈ UW := uw1 104 rfl rfl
theorem fl_X1_119 : Cond.fieldLink RX1 119 "BorrowedPages$Page" "tokens" "[J" ∈ UW := uw1 138 rfl rfl
theorem fl_X1_123 : Cond.fieldLink RX1 123 "BorrowedPages$Page" "language" "I" ∈ UW := uw1 151 rfl rfl
theorem fl_X1_126 : Cond.fieldLink RX1 126 "BorrowedPages$Page" "isAside" "[Z" ∈ UW := uw1 144 rfl rfl
theorem fl_X1_130 : Cond.fieldLink RX1 130 "BorrowedPages$Page" "isMark" "[Z" ∈ UW := uw1 142 rfl rfl
theorem fl_X2_9 : Cond.fieldLink RX2 9 "BorrowedPages$Groups" "leaders" "[I" ∈ UW := uw1 211 rfl rfl
theorem fl_X2_15 : Cond.fieldLink RX2 15 "BorrowedPages$Groups" "links" "I" ∈ UW := uw1 213 rfl rfl
theorem fl_X2_31 : Cond.fieldLink RX2 31 "BorrowedPages$Shelf" "linkScore" "I" ∈ UW := uw1 110 rfl rfl
theorem fl_X2_48 : Cond.fieldLink RX2 48 "BorrowedPages$Shelf" "givenNumber" "I" ∈ UW := uw1 99 rfl rfl
theorem fl_X2_51 : Cond.fieldLink RX2 51 "BorrowedPages$Shelf" "books" "[LBorrowedPages$Book;" ∈ UW := uw1 95 rfl rfl
theorem fl_X2_55 : Cond.fieldLink RX2 55 "BorrowedPages$Book" "day" "I" ∈ UW := uw1 77 rfl rfl
theorem fl_X3_9 : Cond.fieldLink RX3 9 "BorrowedPages$Page" "tokens" "[J" ∈ UW := uw1 137 rfl rfl
theorem fl_X3_15 : Cond.fieldLink RX3 15 "BorrowedPages$Page" "hashes" "[I" ∈ UW := uw1 139 rfl rfl
theorem fl_X3_19 : Cond.fieldLink RX3 19 "BorrowedPages$Page" "isMark" "[Z" ∈ UW := uw1 141 rfl rfl
theorem fl_X3_23 : Cond.fieldLink RX3 23 "BorrowedPages$Page" "isAside" "[Z" ∈ UW := uw1 143 rfl rfl
theorem fl_X3_26 : Cond.fieldLink RX3 26 "BorrowedPages$Page" "sharedLengths" "[I" ∈ UW := uw1 146 rfl rfl
theorem fl_X3_29 : Cond.fieldLink RX3 29 "BorrowedPages$Page" "size" "I" ∈ UW := uw1 147 rfl rfl
theorem fl_X3_33 : Cond.fieldLink RX3 33 "BorrowedPages$Page" "language" "I" ∈ UW := uw1 150 rfl rfl
theorem fl_X3_36 : Cond.fieldLink RX3 36 "BorrowedPages$Page" "grams" "I" ∈ UW := uw1 152 rfl rfl
theorem fl_X3_39 : Cond.fieldLink RX3 39 "BorrowedPages$Book" "size" "I" ∈ UW := uw1 69 rfl rfl
theorem fl_X3_42 : Cond.fieldLink RX3 42 "BorrowedPages$Book" "language" "I" ∈ UW := uw1 72 rfl rfl
theorem fl_X3_43 : Cond.fieldLink RX3 43 "BorrowedPages$Book" "tokens" "[J" ∈ UW := uw1 66 rfl rfl
theorem fl_X4_11 : Cond.fieldLink RX4 11 "BorrowedPages$Reader" "piece" "I" ∈ UW := uw1 42 rfl rfl
theorem fl_X4_15 : Cond.fieldLink RX4 15 "BorrowedPages$Reader" "wordLength" "I" ∈ UW := uw1 43 rfl rfl
theorem fl_X4_18 : Cond.fieldLink RX4 18 "BorrowedPages$Reader" "wordNumber" "J" ∈ UW := uw1 44 rfl rfl
theorem fl_X4_22 : Cond.fieldLink RX4 22 "BorrowedPages$Tape" "length" "I" ∈ UW := uw1 28 rfl rfl
theorem fl_X4_27 : Cond.fieldLink RX4 27 "BorrowedPages$Tape" "bytes" "[B" ∈ UW := uw1 26 rfl rfl
theorem fl_X4_51 : Cond.fieldLink RX4 51 "BorrowedPages$Book" "language" "I" ∈ UW := uw1 73 rfl rfl
theorem fl_X4_68 : Cond.fieldLink RX4 68 "BorrowedPages$Reader" "KEYWORDS" "[I" ∈ UW := uw2 50 rfl rfl
theorem fl_X5_11 : Cond.fieldLink RX5 11 "BorrowedPages$Shelf" "books" "[LBorrowedPages$Book;" ∈ UW := uw1 92 rfl rfl
theorem fl_X5_17 : Cond.fieldLink RX5 17 "BorrowedPages$Shelf" "givenNumber" "I" ∈ UW := uw1 96 rfl rfl
theorem fl_X5_21 : Cond.fieldLink RX5 21 "BorrowedPages$Shelf" "gramLength" "I" ∈ UW := uw1 100 rfl rfl
theorem fl_X5_24 : Cond.fieldLink RX5 24 "BorrowedPages$Shelf" "windowLength" "I" ∈ UW := uw1 103 rfl rfl
theorem fl_X5_27 : Cond.fieldLink RX5 27 "BorrowedPages$Shelf" "gapCost" "I" ∈ UW := uw1 106 rfl rfl
theorem fl_X5_30 : Cond.fieldLink RX5 30 "BorrowedPages$Shelf" "linkScore" "I" ∈ UW := uw1 109 rfl rfl
theorem fl_X5_38 : Cond.fieldLink RX5 38 "BorrowedPages$Book" "held" "Z" ∈ UW := uw1 79 rfl rfl
theorem fl_X6_9 : Cond.fieldLink RX6 9 "BorrowedPages$Tape" "bytes" "[B" ∈ UW := uw1 25 rfl rfl
theorem fl_X6_15 : Cond.fieldLink RX6 15 "BorrowedPages$Tape" "length" "I" ∈ UW := uw1 27 rfl rfl
theorem fl_X7_10 : Cond.fieldLink RX7 10 "BorrowedPages" "tape" "LBorrowedPages$Tape;" ∈ UW := uw1 220 rfl rfl
theorem fl_X7_19 : Cond.fieldLink RX7 19 "BorrowedPages" "reader" "LBorrowedPages$Reader;" ∈ UW := uw1 221 rfl rfl
theorem fl_X7_26 : Cond.fieldLink RX7 26 "BorrowedPages" "shelf" "LBorrowedPages$Shelf;" ∈ UW := uw1 222 rfl rfl
theorem fl_X7_33 : Cond.fieldLink RX7 33 "BorrowedPages" "comparison" "LBorrowedPages$Comparison;" ∈ UW := uw1 223 rfl rfl
theorem fl_X7_40 : Cond.fieldLink RX7 40 "BorrowedPages" "groups" "LBorrowedPages$Groups;" ∈ UW := uw1 224 rfl rfl
theorem fl_X7_56 : Cond.fieldLink RX7 56 "BorrowedPages$Tape" "length" "I" ∈ UW := uw1 29 rfl rfl
theorem fl_X7_63 : Cond.fieldLink RX7 63 "BorrowedPages$Shelf" "books" "[LBorrowedPages$Book;" ∈ UW := uw1 94 rfl rfl
theorem fl_X7_80 : Cond.fieldLink RX7 80 "BorrowedPages$Book" "size" "I" ∈ UW := uw1 70 rfl rfl
theorem fl_X7_90 : Cond.fieldLink RX7 90 "BorrowedPages$Shelf" "givenNumber" "I" ∈ UW := uw1 98 rfl rfl
theorem fl_X7_93 : Cond.fieldLink RX7 93 "BorrowedPages$Book" "day" "I" ∈ UW := uw1 76 rfl rfl
theorem fl_X7_96 : Cond.fieldLink RX7 96 "BorrowedPages$Book" "language" "I" ∈ UW := uw1 74 rfl rfl
theorem fl_X7_99 : Cond.fieldLink RX7 99 "BorrowedPages$Book" "tokens" "[J" ∈ UW := uw1 67 rfl rfl
theorem fl_X7_105 : Cond.fieldLink RX7 105 "BorrowedPages$Shelf" "gramLength" "I" ∈ UW := uw1 102 rfl rfl
theorem fl_X7_108 : Cond.fieldLink RX7 108 "BorrowedPages$Shelf" "windowLength" "I" ∈ UW := uw1 105 rfl rfl
theorem fl_X7_111 : Cond.fieldLink RX7 111 "BorrowedPages$Shelf" "gapCost" "I" ∈ UW := uw1 108 rfl rfl
theorem fl_X7_114 : Cond.fieldLink RX7 114 "BorrowedPages$Shelf" "linkScore" "I" ∈ UW := uw1 111 rfl rfl
theorem fl_X7_121 : Cond.fieldLink RX7 121 "BorrowedPages$Page" "grams" "I" ∈ UW := uw1 153 rfl rfl
theorem fl_X7_126 : Cond.fieldLink RX7 126 "BorrowedPages$Page" "hashes" "[I" ∈ UW := uw1 140 rfl rfl
theorem fl_X7_137 : Cond.fieldLink RX7 137 "BorrowedPages$Page" "size" "I" ∈ UW := uw1 149 rfl rfl
theorem fl_X7_138 : Cond.fieldLink RX7 138 "BorrowedPages$Page" "isAside" "[Z" ∈ UW := uw1 145 rfl rfl
theorem fl_X7_150 : Cond.fieldLink RX7 150 "BorrowedPages$Comparison" "runCount" "I" ∈ UW := uw1 180 rfl rfl
theorem fl_X7_164 : Cond.fieldLink RX7 164 "BorrowedPages$Comparison" "chainLength" "I" ∈ UW := uw1 176 rfl rfl
theorem fl_X7_167 : Cond.fieldLink RX7 167 "BorrowedPages$Comparison" "chainRuns" "[I" ∈ UW := uw1 174 rfl rfl
theorem fl_X7_170 : Cond.fieldLink RX7 170 "BorrowedPages$Comparison" "chainTokens" "I" ∈ UW := uw1 178 rfl rfl
theorem fl_X7_177 : Cond.fieldLink RX7 177 "BorrowedPages$Groups" "leaders" "[I" ∈ UW := uw1 212 rfl rfl
theorem fl_X7_187 : Cond.fieldLink RX7 187 "BorrowedPages$Groups" "links" "I" ∈ UW := uw1 214 rfl rfl
theorem fl_X8_7 : Cond.fieldLink RX8 7 "BorrowedPagesModel" "tape" "[I" ∈ UW := uw3 57 rfl rfl
theorem fl_X8_13 : Cond.fieldLink RX8 13 "BorrowedPagesModel" "is" "[Z" ∈ UW := uw3 59 rfl rfl
theorem fl_X8_17 : Cond.fieldLink RX8 17 "BorrowedPagesModel" "sizes" "[I" ∈ UW := uw3 60 rfl rfl
theorem fl_X8_20 : Cond.fieldLink RX8 20 "BorrowedPagesModel" "languages" "[I" ∈ UW := uw3 61 rfl rfl
theorem fl_X8_23 : Cond.fieldLink RX8 23 "BorrowedPagesModel" "days" "[I" ∈ UW := uw3 62 rfl rfl
theorem fl_X8_26 : Cond.fieldLink RX8 26 "BorrowedPagesModel" "tokens" "[J" ∈ UW := uw3 63 rfl rfl
theorem fl_X8_30 : Cond.fieldLink RX8 30 "BorrowedPagesModel" "k" "I" ∈ UW := uw3 64 rfl rfl
theorem fl_X8_34 : Cond.fieldLink RX8 34 "BorrowedPagesModel" "w" "I" ∈ UW := uw3 65 rfl rfl
theorem fl_X8_37 : Cond.fieldLink RX8 37 "BorrowedPagesModel" "gap" "I" ∈ UW := uw3 66 rfl rfl
theorem fl_X8_40 : Cond.fieldLink RX8 40 "BorrowedPagesModel" "bound" "I" ∈ UW := uw3 67 rfl rfl
theorem fl_X8_43 : Cond.fieldLink RX8 43 "BorrowedPagesModel" "given" "I" ∈ UW := uw3 68 rfl rfl
theorem fl_X8_56 : Cond.fieldLink RX8 56 "BorrowedPagesModel" "words" "[J" ∈ UW := uw3 71 rfl rfl
theorem fl_X8_59 : Cond.fieldLink RX8 59 "BorrowedPagesModel" "marks" "[Z" ∈ UW := uw3 72 rfl rfl
theorem fl_X8_62 : Cond.fieldLink RX8 62 "BorrowedPagesModel" "hashes" "[I" ∈ UW := uw3 73 rfl rfl
theorem fl_X8_65 : Cond.fieldLink RX8 65 "BorrowedPagesModel" "asides" "[Z" ∈ UW := uw3 74 rfl rfl
theorem fl_X8_68 : Cond.fieldLink RX8 68 "BorrowedPagesModel" "runA" "[I" ∈ UW := uw3 76 rfl rfl
theorem fl_X8_71 : Cond.fieldLink RX8 71 "BorrowedPagesModel" "runB" "[I" ∈ UW := uw3 77 rfl rfl
theorem fl_X8_74 : Cond.fieldLink RX8 74 "BorrowedPagesModel" "runN" "[I" ∈ UW := uw3 78 rfl rfl
theorem fl_X8_77 : Cond.fieldLink RX8 77 "BorrowedPagesModel" "best" "[I" ∈ UW := uw3 79 rfl rfl
theorem fl_X8_80 : Cond.fieldLink RX8 80 "BorrowedPagesModel" "next" "[I" ∈ UW := uw3 80 rfl rfl
theorem fl_X8_83 : Cond.fieldLink RX8 83 "BorrowedPagesModel" "groups" "[I" ∈ UW := uw3 82 rfl rfl
theorem fl_X8_92 : Cond.fieldLink RX8 92 "BorrowedPagesModel" "taped" "I" ∈ UW := uw3 58 rfl rfl
theorem fl_X8_95 : Cond.fieldLink RX8 95 "BorrowedPagesModel" "at" "I" ∈ UW := uw3 69 rfl rfl
theorem fl_X8_104 : Cond.fieldLink RX8 104 "BorrowedPagesModel" "wordSize" "I" ∈ UW := uw3 70 rfl rfl
theorem fl_X8_153 : Cond.fieldLink RX8 153 "BorrowedPagesModel" "many" "I" ∈ UW := uw3 75 rfl rfl
theorem fl_X8_166 : Cond.fieldLink RX8 166 "BorrowedPagesModel" "first" "I" ∈ UW := uw3 81 rfl rfl
theorem fl_X8_172 : Cond.fieldLink RX8 172 "BorrowedPagesModel" "links" "I" ∈ UW := uw3 83 rfl rfl
theorem ml_L_9 : Cond.methodLink RL 9 yX7_init ∈ UW := uw1 13 rfl rfl
theorem ml_L_12 : Cond.methodLink RL 12 yX8_init ∈ UW := uw3 48 rfl rfl
theorem ml_L_15 : Cond.methodLink RL 15 yX7_type ∈ UW := uw1 236 rfl rfl
theorem ml_L_19 : Cond.methodLink RL 19 yX8_type ∈ UW := uw3 139 rfl rfl
theorem ml_L_20 : Cond.methodLink RL 20 yX7_book ∈ UW := uw2 14 rfl rfl
theorem ml_L_24 : Cond.methodLink RL 24 yX8_book ∈ UW := uw3 147 rfl rfl
theorem ml_L_25 : Cond.methodLink RL 25 yX7_withdraw ∈ UW := uw2 65 rfl rfl
theorem ml_L_29 : Cond.methodLink RL 29 yX8_withdraw ∈ UW := uw3 176 rfl rfl
theorem ml_L_30 : Cond.methodLink RL 30 yX7_token ∈ UW := uw2 82 rfl rfl
theorem ml_L_34 : Cond.methodLink RL 34 yX8_token ∈ UW := uw3 180 rfl rfl
theorem ml_L_35 : Cond.methodLink RL 35 yX7_windows ∈ UW := uw2 87 rfl rfl
theorem ml_L_39 : Cond.methodLink RL 39 yX8_windows ∈ UW := uw3 186 rfl rfl
theorem ml_L_40 : Cond.methodLink RL 40 yX7_gap ∈ UW := uw2 91 rfl rfl
theorem ml_L_43 : Cond.methodLink RL 43 yX8_gap ∈ UW := uw3 190 rfl rfl
theorem ml_L_44 : Cond.methodLink RL 44 yX7_link ∈ UW := uw2 95 rfl rfl
theorem ml_L_47 : Cond.methodLink RL 47 yX8_link ∈ UW := uw3 194 rfl rfl
theorem ml_L_48 : Cond.methodLink RL 48 yX7_given ∈ UW := uw2 99 rfl rfl
theorem ml_L_51 : Cond.methodLink RL 51 yX8_given ∈ UW := uw3 198 rfl rfl
theorem ml_L_52 : Cond.methodLink RL 52 yX7_hash ∈ UW := uw2 103 rfl rfl
theorem ml_L_55 : Cond.methodLink RL 55 yX8_hash ∈ UW := uw3 202 rfl rfl
theorem ml_L_56 : Cond.methodLink RL 56 yX7_markAt ∈ UW := uw2 151 rfl rfl
theorem ml_L_59 : Cond.methodLink RL 59 yX8_markAt ∈ UW := uw3 216 rfl rfl
theorem ml_L_60 : Cond.methodLink RL 60 yX7_aside ∈ UW := uw2 163 rfl rfl
theorem ml_L_63 : Cond.methodLink RL 63 yX8_aside ∈ UW := uw3 224 rfl rfl
theorem ml_L_64 : Cond.methodLink RL 64 yX7_runs ∈ UW := uw2 167 rfl rfl
theorem ml_L_67 : Cond.methodLink RL 67 yX8_runs ∈ UW := uw3 232 rfl rfl
theorem ml_L_68 : Cond.methodLink RL 68 yX7_run ∈ UW := uw2 196 rfl rfl
theorem ml_L_72 : Cond.methodLink RL 72 yX8_run ∈ UW := uw4 8 rfl rfl
theorem ml_L_73 : Cond.methodLink RL 73 yX7_score ∈ UW := uw2 204 rfl rfl
theorem ml_L_76 : Cond.methodLink RL 76 yX8_score ∈ UW := uw4 12 rfl rfl
theorem ml_L_77 : Cond.methodLink RL 77 yX7_chain ∈ UW := uw2 226 rfl rfl
theorem ml_L_80 : Cond.methodLink RL 80 yX8_chain ∈ UW := uw4 20 rfl rfl
theorem ml_L_81 : Cond.methodLink RL 81 yX7_covered ∈ UW := uw2 239 rfl rfl
theorem ml_L_84 : Cond.methodLink RL 84 yX8_covered ∈ UW := uw4 24 rfl rfl
theorem ml_L_85 : Cond.methodLink RL 85 yX7_group ∈ UW := uw3 3 rfl rfl
theorem ml_L_88 : Cond.methodLink RL 88 yX8_group ∈ UW := uw4 28 rfl rfl
theorem ml_L_89 : Cond.methodLink RL 89 yX7_first ∈ UW := uw3 18 rfl rfl
theorem ml_L_92 : Cond.methodLink RL 92 yX8_first ∈ UW := uw4 40 rfl rfl
theorem ml_L_93 : Cond.methodLink RL 93 yX7_count ∈ UW := uw3 26 rfl rfl
theorem ml_L_96 : Cond.methodLink RL 96 yX8_count ∈ UW := uw4 44 rfl rfl
theorem ml_L_97 : Cond.methodLink RL 97 yX7_chance ∈ UW := uw3 42 rfl rfl
theorem ml_L_100 : Cond.methodLink RL 100 yX8_chance ∈ UW := uw4 48 rfl rfl
theorem ml_X0_3 : Cond.methodLink RX0 3 objectInit ∈ UW := uw1 64 rfl rfl
theorem ml_X1_3 : Cond.methodLink RX1 3 objectInit ∈ UW := uw1 130 rfl rfl
theorem ml_X1_44 : Cond.methodLink RX1 44 yX1_layWithMarks ∈ UW := uw2 111 rfl rfl
theorem ml_X1_53 : Cond.methodLink RX1 53 yX5_holds ∈ UW := uw2 139 rfl rfl
theorem ml_X1_61 : Cond.methodLink RX1 61 yX3_lay ∈ UW := uw2 114 rfl rfl
theorem ml_X1_65 : Cond.methodLink RX1 65 yX1_asideLength ∈ UW := uw2 140 rfl rfl
theorem ml_X1_69 : Cond.methodLink RX1 69 yX3_setAside ∈ UW := uw2 143 rfl rfl
theorem ml_X1_73 : Cond.methodLink RX1 73 yX1_compare ∈ UW := uw2 212 rfl rfl
theorem ml_X1_80 : Cond.methodLink RX1 80 yX1_findBest ∈ UW := uw2 213 rfl rfl
theorem ml_X1_84 : Cond.methodLink RX1 84 yX1_setBothAside ∈ UW := uw2 179 rfl rfl
theorem ml_X1_94 : Cond.methodLink RX1 94 yX1_runLengthAt ∈ UW := uw2 183 rfl rfl
theorem ml_X1_101 : Cond.methodLink RX1 101 yX3_findMarks ∈ UW := uw2 118 rfl rfl
theorem ml_X1_105 : Cond.methodLink RX1 105 yX1_agree ∈ UW := uw2 187 rfl rfl
theorem ml_X1_109 : Cond.methodLink RX1 109 Lib.Math.min.name ∈ UW := uw2 191 rfl rfl
theorem ml_X1_115 : Cond.methodLink RX1 115 yX1_sharesMark ∈ UW := uw2 192 rfl rfl
theorem ml_X1_133 : Cond.methodLink RX1 133 yX1_bestFrom ∈ UW := uw2 217 rfl rfl
theorem ml_X1_136 : Cond.methodLink RX1 136 Lib.Math.max.name ∈ UW := uw2 221 rfl rfl
theorem ml_X1_139 : Cond.methodLink RX1 139 yX1_bestWithRun ∈ UW := uw2 222 rfl rfl
theorem ml_X1_143 : Cond.methodLink RX1 143 yX1_scoreOf ∈ UW := uw2 234 rfl rfl
theorem ml_X1_147 : Cond.methodLink RX1 147 yX1_addToChain ∈ UW := uw2 235 rfl rfl
theorem ml_X2_3 : Cond.methodLink RX2 3 objectInit ∈ UW := uw1 210 rfl rfl
theorem ml_X2_19 : Cond.methodLink RX2 19 yX5_holds ∈ UW := uw3 11 rfl rfl
theorem ml_X2_25 : Cond.methodLink RX2 25 yX1_scoreOf ∈ UW := uw3 12 rfl rfl
theorem ml_X2_34 : Cond.methodLink RX2 34 yX2_join ∈ UW := uw3 13 rfl rfl
theorem ml_X2_38 : Cond.methodLink RX2 38 Lib.Math.min.name ∈ UW := uw3 17 rfl rfl
theorem ml_X2_44 : Cond.methodLink RX2 44 yX2_membersOf ∈ UW := uw3 38 rfl rfl
theorem ml_X3_3 : Cond.methodLink RX3 3 objectInit ∈ UW := uw1 136 rfl rfl
theorem ml_X3_44 : Cond.methodLink RX3 44 Lib.Math.max.name ∈ UW := uw2 122 rfl rfl
theorem ml_X3_50 : Cond.methodLink RX3 50 yX3_hashOfGram ∈ UW := uw2 125 rfl rfl
theorem ml_X3_53 : Cond.methodLink RX3 53 Lib.Math.min.name ∈ UW := uw2 132 rfl rfl
theorem ml_X3_56 : Cond.methodLink RX3 56 yX3_lastOfLeast ∈ UW := uw2 135 rfl rfl
theorem ml_X3_65 : Cond.methodLink RX3 65 yX3_longestSharedUpTo ∈ UW := uw2 147 rfl rfl
theorem ml_X4_3 : Cond.methodLink RX4 3 objectInit ∈ UW := uw1 41 rfl rfl
theorem ml_X4_31 : Cond.methodLink RX4 31 yX4_takeByte ∈ UW := uw2 30 rfl rfl
theorem ml_X4_35 : Cond.methodLink RX4 35 yX4_endPiece ∈ UW := uw2 42 rfl rfl
theorem ml_X4_39 : Cond.methodLink RX4 39 yX4_valueOf ∈ UW := uw2 34 rfl rfl
theorem ml_X4_43 : Cond.methodLink RX4 43 yX4_lengthenWord ∈ UW := uw2 37 rfl rfl
theorem ml_X4_47 : Cond.methodLink RX4 47 yX4_beginPiece ∈ UW := uw2 57 rfl rfl
theorem ml_X4_56 : Cond.methodLink RX4 56 yX0_add ∈ UW := uw2 52 rfl rfl
theorem ml_X4_60 : Cond.methodLink RX4 60 yX4_codeOfWord ∈ UW := uw2 46 rfl rfl
theorem ml_X5_3 : Cond.methodLink RX5 3 objectInit ∈ UW := uw1 57 rfl rfl
theorem ml_X5_34 : Cond.methodLink RX5 34 yX5_names ∈ UW := uw2 77 rfl rfl
theorem ml_X6_3 : Cond.methodLink RX6 3 objectInit ∈ UW := uw1 24 rfl rfl
theorem ml_X6_19 : Cond.methodLink RX6 19 yX6_byteAt ∈ UW := uw2 3 rfl rfl
theorem ml_X7_1 : Cond.methodLink RX7 1 objectInit ∈ UW := uw1 16 rfl rfl
theorem ml_X7_25 : Cond.methodLink RX7 25 yX5_init ∈ UW := uw1 54 rfl rfl
theorem ml_X7_44 : Cond.methodLink RX7 44 yX6_isText ∈ UW := uw2 0 rfl rfl
theorem ml_X7_48 : Cond.methodLink RX7 48 yX6_hasRoomFor ∈ UW := uw2 6 rfl rfl
theorem ml_X7_52 : Cond.methodLink RX7 52 yX6_append ∈ UW := uw2 10 rfl rfl
theorem ml_X7_60 : Cond.methodLink RX7 60 yX5_names ∈ UW := uw2 18 rfl rfl
theorem ml_X7_67 : Cond.methodLink RX7 67 yX0_open ∈ UW := uw2 22 rfl rfl
theorem ml_X7_73 : Cond.methodLink RX7 73 yX4_read ∈ UW := uw2 26 rfl rfl
theorem ml_X7_77 : Cond.methodLink RX7 77 yX6_clear ∈ UW := uw2 61 rfl rfl
theorem ml_X7_83 : Cond.methodLink RX7 83 yX7_refusalOfBook ∈ UW := uw2 69 rfl rfl
theorem ml_X7_87 : Cond.methodLink RX7 87 yX0_close ∈ UW := uw2 78 rfl rfl
theorem ml_X7_117 : Cond.methodLink RX7 117 yX1_pageOf ∈ UW := uw2 107 rfl rfl
theorem ml_X7_130 : Cond.methodLink RX7 130 yX3_howManyMarks ∈ UW := uw2 155 rfl rfl
theorem ml_X7_134 : Cond.methodLink RX7 134 yX3_gramOfMark ∈ UW := uw2 159 rfl rfl
theorem ml_X7_142 : Cond.methodLink RX7 142 yX7_refusalOfPair ∈ UW := uw2 171 rfl rfl
theorem ml_X7_146 : Cond.methodLink RX7 146 yX1_compare ∈ UW := uw2 175 rfl rfl
theorem ml_X7_153 : Cond.methodLink RX7 153 yX1_partOfRun ∈ UW := uw2 200 rfl rfl
theorem ml_X7_156 : Cond.methodLink RX7 156 yX1_scoreOf ∈ UW := uw2 208 rfl rfl
theorem ml_X7_160 : Cond.methodLink RX7 160 yX1_traceChain ∈ UW := uw2 230 rfl rfl
theorem ml_X7_173 : Cond.methodLink RX7 173 yX2_form ∈ UW := uw3 7 rfl rfl
theorem ml_X7_180 : Cond.methodLink RX7 180 yX2_earliest ∈ UW := uw3 22 rfl rfl
theorem ml_X7_184 : Cond.methodLink RX7 184 yX5_howManyBooks ∈ UW := uw3 30 rfl rfl
theorem ml_X7_190 : Cond.methodLink RX7 190 yX2_howMany ∈ UW := uw3 34 rfl rfl
theorem ml_X7_193 : Cond.methodLink RX7 193 yX5_holds ∈ UW := uw2 73 rfl rfl
theorem ml_X8_1 : Cond.methodLink RX8 1 objectInit ∈ UW := uw3 51 rfl rfl
theorem ml_X8_86 : Cond.methodLink RX8 86 yX8_in ∈ UW := uw3 143 rfl rfl
theorem ml_X8_98 : Cond.methodLink RX8 98 yX8_letter ∈ UW := uw3 158 rfl rfl
theorem ml_X8_107 : Cond.methodLink RX8 107 yX8_readWord ∈ UW := uw3 161 rfl rfl
theorem ml_X8_111 : Cond.methodLink RX8 111 yX8_codeOf ∈ UW := uw3 166 rfl rfl
theorem ml_X8_115 : Cond.methodLink RX8 115 yX8_add ∈ UW := uw3 170 rfl rfl
theorem ml_X8_123 : Cond.methodLink RX8 123 yX8_isNumber ∈ UW := uw3 151 rfl rfl
theorem ml_X8_127 : Cond.methodLink RX8 127 yX8_read ∈ UW := uw3 154 rfl rfl
theorem ml_X8_139 : Cond.methodLink RX8 139 yX8_grams ∈ UW := uw3 206 rfl rfl
theorem ml_X8_142 : Cond.methodLink RX8 142 yX8_hashOf ∈ UW := uw3 210 rfl rfl
theorem ml_X8_146 : Cond.methodLink RX8 146 yX8_findMarks ∈ UW := uw3 220 rfl rfl
theorem ml_X8_150 : Cond.methodLink RX8 150 yX8_findAside ∈ UW := uw3 228 rfl rfl
theorem ml_X8_156 : Cond.methodLink RX8 156 yX8_isAlike ∈ UW := uw4 4 rfl rfl
theorem ml_X8_160 : Cond.methodLink RX8 160 yX8_against ∈ UW := uw3 236 rfl rfl
theorem ml_X8_163 : Cond.methodLink RX8 163 yX8_findRuns ∈ UW := uw4 0 rfl rfl
theorem ml_X8_169 : Cond.methodLink RX8 169 yX8_findScore ∈ UW := uw4 16 rfl rfl
theorem ml_X8_175 : Cond.methodLink RX8 175 yX8_join ∈ UW := uw4 36 rfl rfl
theorem ml_X8_178 : Cond.methodLink RX8 178 yX8_findGroups ∈ UW := uw4 32 rfl rfl
theorem ml_X8_181 : Cond.methodLink RX8 181 yX8_turnOne ∈ UW := uw4 52 rfl rfl
theorem co_L_13 : Cond.constantLong RL 13 (4294967295) ∈ UW := uw4 56 rfl rfl
theorem co_X3_59 : Cond.constantLong RX3 59 (7) ∈ UW := uw2 129 rfl rfl
theorem co_X3_61 : Cond.constantLong RX3 61 (131) ∈ UW := uw2 130 rfl rfl
theorem co_X3_63 : Cond.constantLong RX3 63 (1000003) ∈ UW := uw2 131 rfl rfl
theorem co_X4_64 : Cond.constantLong RX4 64 (7) ∈ UW := uw2 56 rfl rfl
theorem co_X4_66 : Cond.constantLong RX4 66 (37) ∈ UW := uw2 41 rfl rfl
theorem co_X7_103 : Cond.constantLong RX7 103 (-1) ∈ UW := uw2 86 rfl rfl
theorem co_X8_46 : Cond.constantLong RX8 46 (339) ∈ UW := uw3 52 rfl rfl
theorem co_X8_48 : Cond.constantLong RX8 48 (8787) ∈ UW := uw3 53 rfl rfl
theorem co_X8_50 : Cond.constantLong RX8 50 (236) ∈ UW := uw3 54 rfl rfl
theorem co_X8_52 : Cond.constantLong RX8 52 (16633) ∈ UW := uw3 55 rfl rfl
theorem co_X8_54 : Cond.constantLong RX8 54 (7367) ∈ UW := uw3 56 rfl rfl
theorem co_X8_90 : Cond.constantLong RX8 90 (255) ∈ UW := uw3 146 rfl rfl
theorem co_X8_102 : Cond.constantLong RX8 102 (37) ∈ UW := uw3 165 rfl rfl
theorem co_X8_119 : Cond.constantLong RX8 119 (7) ∈ UW := uw3 174 rfl rfl
theorem co_X8_121 : Cond.constantLong RX8 121 (100) ∈ UW := uw3 175 rfl rfl
theorem co_X8_131 : Cond.constantLong RX8 131 (-1) ∈ UW := uw3 184 rfl rfl
theorem co_X8_133 : Cond.constantLong RX8 133 (-2) ∈ UW := uw3 185 rfl rfl
theorem co_X8_135 : Cond.constantLong RX8 135 (131) ∈ UW := uw3 214 rfl rfl
theorem co_X8_137 : Cond.constantLong RX8 137 (1000003) ∈ UW := uw3 215 rfl rfl
theorem iz_X7 : Cond.initialized RX7 ∈ UW := uw1 1 rfl rfl
theorem iz_X0 : Cond.initialized RX0 ∈ UW := uw1 5 rfl rfl
theorem iz_X1 : Cond.initialized RX1 ∈ UW := uw1 6 rfl rfl
theorem iz_X2 : Cond.initialized RX2 ∈ UW := uw1 8 rfl rfl
theorem iz_X3 : Cond.initialized RX3 ∈ UW := uw1 7 rfl rfl
theorem iz_X4 : Cond.initialized RX4 ∈ UW := uw1 3 rfl rfl
theorem iz_X5 : Cond.initialized RX5 ∈ UW := uw1 4 rfl rfl
theorem iz_X6 : Cond.initialized RX6 ∈ UW := uw1 2 rfl rfl
theorem iz_L : Cond.initialized RL ∈ UW := uw1 0 rfl rfl
theorem iz_X8 : Cond.initialized RX8 ∈ UW := uw1 9 rfl rfl
theorem mw_Math : Cond.initialized "java/lang/Math" ∈ UW := uw1 10 rfl rfl
theorem mw_max_st : Cond.static Lib.Math.max.name ∈ UW := uw2 123 rfl rfl
theorem mw_max_code : Cond.code Lib.Math.max.name Lib.Math.max.code 2 (some .int) ∈ UW := uw2 124 rfl rfl
theorem mw_min_st : Cond.static Lib.Math.min.name ∈ UW := uw2 133 rfl rfl
theorem mw_min_code : Cond.code Lib.Math.min.name Lib.Math.min.code 2 (some .int) ∈ UW := uw2 134 rfl rfl
theorem inU0 : ∀ w ∈ u_ws RX0 TX0 5, w ∈ UW := by
  intro w hw
  obtain ⟨k, hk, rfl⟩ := List.mem_map.mp hw
  have hk := List.mem_range.mp hk
  match k, hk with
  | 0, _ => exact uw1 80 rfl rfl
  | 1, _ => exact uw1 82 rfl rfl
  | 2, _ => exact uw1 84 rfl rfl
  | 3, _ => exact uw1 86 rfl rfl
  | 4, _ => exact uw1 88 rfl rfl
  | k + 5, h => exact absurd h (by omega)
theorem inU1 : ∀ w ∈ u_ws RX1 TX1 9, w ∈ UW := by
  intro w hw
  obtain ⟨k, hk, rfl⟩ := List.mem_map.mp hw
  have hk := List.mem_range.mp hk
  match k, hk with
  | 0, _ => exact uw1 186 rfl rfl
  | 1, _ => exact uw1 188 rfl rfl
  | 2, _ => exact uw1 190 rfl rfl
  | 3, _ => exact uw1 192 rfl rfl
  | 4, _ => exact uw1 194 rfl rfl
  | 5, _ => exact uw1 196 rfl rfl
  | 6, _ => exact uw1 198 rfl rfl
  | 7, _ => exact uw1 200 rfl rfl
  | 8, _ => exact uw1 202 rfl rfl
  | k + 9, h => exact absurd h (by omega)
theorem inU2 : ∀ w ∈ u_ws RX2 TX2 2, w ∈ UW := by
  intro w hw
  obtain ⟨k, hk, rfl⟩ := List.mem_map.mp hw
  have hk := List.mem_range.mp hk
  match k, hk with
  | 0, _ => exact uw1 215 rfl rfl
  | 1, _ => exact uw1 217 rfl rfl
  | k + 2, h => exact absurd h (by omega)
theorem inU3 : ∀ w ∈ u_ws RX3 TX3 8, w ∈ UW := by
  intro w hw
  obtain ⟨k, hk, rfl⟩ := List.mem_map.mp hw
  have hk := List.mem_range.mp hk
  match k, hk with
  | 0, _ => exact uw1 154 rfl rfl
  | 1, _ => exact uw1 156 rfl rfl
  | 2, _ => exact uw1 158 rfl rfl
  | 3, _ => exact uw1 160 rfl rfl
  | 4, _ => exact uw1 162 rfl rfl
  | 5, _ => exact uw1 164 rfl rfl
  | 6, _ => exact uw1 166 rfl rfl
  | 7, _ => exact uw1 168 rfl rfl
  | k + 8, h => exact absurd h (by omega)
theorem inU4 : ∀ w ∈ u_ws RX4 TX4 3, w ∈ UW := by
  intro w hw
  obtain ⟨k, hk, rfl⟩ := List.mem_map.mp hw
  have hk := List.mem_range.mp hk
  match k, hk with
  | 0, _ => exact uw1 45 rfl rfl
  | 1, _ => exact uw1 47 rfl rfl
  | 2, _ => exact uw1 49 rfl rfl
  | k + 3, h => exact absurd h (by omega)
theorem inU5 : ∀ w ∈ u_ws RX5 TX5 6, w ∈ UW := by
  intro w hw
  obtain ⟨k, hk, rfl⟩ := List.mem_map.mp hw
  have hk := List.mem_range.mp hk
  match k, hk with
  | 0, _ => exact uw1 112 rfl rfl
  | 1, _ => exact uw1 114 rfl rfl
  | 2, _ => exact uw1 116 rfl rfl
  | 3, _ => exact uw1 118 rfl rfl
  | 4, _ => exact uw1 120 rfl rfl
  | 5, _ => exact uw1 122 rfl rfl
  | k + 6, h => exact absurd h (by omega)
theorem inU6 : ∀ w ∈ u_ws RX6 TX6 2, w ∈ UW := by
  intro w hw
  obtain ⟨k, hk, rfl⟩ := List.mem_map.mp hw
  have hk := List.mem_range.mp hk
  match k, hk with
  | 0, _ => exact uw1 30 rfl rfl
  | 1, _ => exact uw1 32 rfl rfl
  | k + 2, h => exact absurd h (by omega)
theorem inU7 : ∀ w ∈ u_ws RX7 TX7 5, w ∈ UW := by
  intro w hw
  obtain ⟨k, hk, rfl⟩ := List.mem_map.mp hw
  have hk := List.mem_range.mp hk
  match k, hk with
  | 0, _ => exact uw1 225 rfl rfl
  | 1, _ => exact uw1 227 rfl rfl
  | 2, _ => exact uw1 229 rfl rfl
  | 3, _ => exact uw1 231 rfl rfl
  | 4, _ => exact uw1 233 rfl rfl
  | k + 5, h => exact absurd h (by omega)
theorem inU8 : ∀ w ∈ u_ws RX8 TX8 27, w ∈ UW := by
  intro w hw
  obtain ⟨k, hk, rfl⟩ := List.mem_map.mp hw
  have hk := List.mem_range.mp hk
  match k, hk with
  | 0, _ => exact uw3 84 rfl rfl
  | 1, _ => exact uw3 86 rfl rfl
  | 2, _ => exact uw3 88 rfl rfl
  | 3, _ => exact uw3 90 rfl rfl
  | 4, _ => exact uw3 92 rfl rfl
  | 5, _ => exact uw3 94 rfl rfl
  | 6, _ => exact uw3 96 rfl rfl
  | 7, _ => exact uw3 98 rfl rfl
  | 8, _ => exact uw3 100 rfl rfl
  | 9, _ => exact uw3 102 rfl rfl
  | 10, _ => exact uw3 104 rfl rfl
  | 11, _ => exact uw3 106 rfl rfl
  | 12, _ => exact uw3 108 rfl rfl
  | 13, _ => exact uw3 110 rfl rfl
  | 14, _ => exact uw3 112 rfl rfl
  | 15, _ => exact uw3 114 rfl rfl
  | 16, _ => exact uw3 116 rfl rfl
  | 17, _ => exact uw3 118 rfl rfl
  | 18, _ => exact uw3 120 rfl rfl
  | 19, _ => exact uw3 122 rfl rfl
  | 20, _ => exact uw3 124 rfl rfl
  | 21, _ => exact uw3 126 rfl rfl
  | 22, _ => exact uw3 128 rfl rfl
  | 23, _ => exact uw3 130 rfl rfl
  | 24, _ => exact uw3 132 rfl rfl
  | 25, _ => exact uw3 134 rfl rfl
  | 26, _ => exact uw3 136 rfl rfl
  | k + 27, h => exact absurd h (by omega)
/-- what the tables say of an instance method of ours -/
def MF (y : MethodName) (cy : ByteArray) (ny : Nat) (ry : Option FieldType) (C : String) (n : Nat) : Prop := Cond.code y cy ny ry ∈ UW ∧ Cond.instanceMethod y ∈ UW ∧ Cond.selects C y y ∈ UW ∧ Cond.initialized y.cls ∈ UW ∧ (y.cls ≠ "java/lang/invoke/MethodHandle" ∧ y.cls ≠ "java/lang/invoke/VarHandle") ∧ (parseMethodDescriptor y.desc).map (fun d => d.parameters.length) = some n
def MFs (y : MethodName) (cy : ByteArray) (ny : Nat) (ry : Option FieldType) (n : Nat) : Prop := Cond.code y cy ny ry ∈ UW ∧ Cond.static y ∈ UW ∧ Cond.initialized y.cls ∈ UW ∧ (y.cls ≠ "java/lang/invoke/MethodHandle" ∧ y.cls ≠ "java/lang/invoke/VarHandle") ∧ (parseMethodDescriptor y.desc).map (fun d => d.parameters.length) = some n
theorem mf_X7_type : MF yX7_type cX7_type 4 (some .int) RX7 2 := ⟨uw1 239 rfl rfl, uw1 237 rfl rfl, uw1 238 rfl rfl, iz_X7, ⟨by decide +kernel, by decide +kernel⟩, by decide +kernel⟩
theorem mf_X6_isText : MFs yX6_isText cX6_isText 5 (some .boolean) 2 := ⟨uw2 2 rfl rfl, uw2 1 rfl rfl, iz_X6, ⟨by decide +kernel, by decide +kernel⟩, by decide +kernel⟩
theorem mf_X6_byteAt : MFs yX6_byteAt cX6_byteAt 3 (some .int) 2 := ⟨uw2 5 rfl rfl, uw2 4 rfl rfl, iz_X6, ⟨by decide +kernel, by decide +kernel⟩, by decide +kernel⟩
theorem mf_X6_hasRoomFor : MF yX6_hasRoomFor cX6_hasRoomFor 2 (some .boolean) RX6 1 := ⟨uw2 9 rfl rfl, uw2 7 rfl rfl, uw2 8 rfl rfl, iz_X6, ⟨by decide +kernel, by decide +kernel⟩, by decide +kernel⟩
theorem mf_X6_append : MF yX6_append cX6_append 5 none RX6 2 := ⟨uw2 13 rfl rfl, uw2 11 rfl rfl, uw2 12 rfl rfl, iz_X6, ⟨by decide +kernel, by decide +kernel⟩, by decide +kernel⟩
theorem mf_X7_book : MF yX7_book cX7_book 5 (some .int) RX7 3 := ⟨uw2 17 rfl rfl, uw2 15 rfl rfl, uw2 16 rfl rfl, iz_X7, ⟨by decide +kernel, by decide +kernel⟩, by decide +kernel⟩
theorem mf_X5_names : MF yX5_names cX5_names 2 (some .boolean) RX5 1 := ⟨uw2 21 rfl rfl, uw2 19 rfl rfl, uw2 20 rfl rfl, iz_X5, ⟨by decide +kernel, by decide +kernel⟩, by decide +kernel⟩
theorem mf_X0_open : MF yX0_open cX0_open 3 none RX0 2 := ⟨uw2 25 rfl rfl, uw2 23 rfl rfl, uw2 24 rfl rfl, iz_X0, ⟨by decide +kernel, by decide +kernel⟩, by decide +kernel⟩
theorem mf_X4_read : MF yX4_read cX4_read 4 none RX4 2 := ⟨uw2 29 rfl rfl, uw2 27 rfl rfl, uw2 28 rfl rfl, iz_X4, ⟨by decide +kernel, by decide +kernel⟩, by decide +kernel⟩
theorem mf_X4_takeByte : MF yX4_takeByte cX4_takeByte 4 none RX4 2 := ⟨uw2 33 rfl rfl, uw2 32 rfl rfl, uw0 0 rfl rfl, iz_X4, ⟨by decide +kernel, by decide +kernel⟩, by decide +kernel⟩
theorem mf_X4_valueOf : MFs yX4_valueOf cX4_valueOf 1 (some .int) 1 := ⟨uw2 36 rfl rfl, uw2 35 rfl rfl, iz_X4, ⟨by decide +kernel, by decide +kernel⟩, by decide +kernel⟩
theorem mf_X4_lengthenWord : MF yX4_lengthenWord cX4_lengthenWord 2 none RX4 1 := ⟨uw2 40 rfl rfl, uw2 39 rfl rfl, uw0 1 rfl rfl, iz_X4, ⟨by decide +kernel, by decide +kernel⟩, by decide +kernel⟩
theorem mf_X4_endPiece : MF yX4_endPiece cX4_endPiece 2 none RX4 1 := ⟨uw2 45 rfl rfl, uw2 44 rfl rfl, uw0 2 rfl rfl, iz_X4, ⟨by decide +kernel, by decide +kernel⟩, by decide +kernel⟩
theorem mf_X4_codeOfWord : MF yX4_codeOfWord cX4_codeOfWord 2 (some .int) RX4 0 := ⟨uw2 49 rfl rfl, uw2 48 rfl rfl, uw0 3 rfl rfl, iz_X4, ⟨by decide +kernel, by decide +kernel⟩, by decide +kernel⟩
theorem mf_X0_add : MF yX0_add cX0_add 3 none RX0 1 := ⟨uw2 55 rfl rfl, uw2 53 rfl rfl, uw2 54 rfl rfl, iz_X0, ⟨by decide +kernel, by decide +kernel⟩, by decide +kernel⟩
theorem mf_X4_beginPiece : MF yX4_beginPiece cX4_beginPiece 4 none RX4 3 := ⟨uw2 60 rfl rfl, uw2 59 rfl rfl, uw0 4 rfl rfl, iz_X4, ⟨by decide +kernel, by decide +kernel⟩, by decide +kernel⟩
theorem mf_X6_clear : MF yX6_clear cX6_clear 1 none RX6 0 := ⟨uw2 64 rfl rfl, uw2 62 rfl rfl, uw2 63 rfl rfl, iz_X6, ⟨by decide +kernel, by decide +kernel⟩, by decide +kernel⟩
theorem mf_X7_withdraw : MF yX7_withdraw cX7_withdraw 4 (some .int) RX7 1 := ⟨uw2 68 rfl rfl, uw2 66 rfl rfl, uw2 67 rfl rfl, iz_X7, ⟨by decide +kernel, by decide +kernel⟩, by decide +kernel⟩
theorem mf_X7_refusalOfBook : MF yX7_refusalOfBook cX7_refusalOfBook 2 (some .int) RX7 1 := ⟨uw2 72 rfl rfl, uw2 71 rfl rfl, uw0 5 rfl rfl, iz_X7, ⟨by decide +kernel, by decide +kernel⟩, by decide +kernel⟩
theorem mf_X5_holds : MF yX5_holds cX5_holds 2 (some .boolean) RX5 1 := ⟨uw2 76 rfl rfl, uw2 74 rfl rfl, uw2 75 rfl rfl, iz_X5, ⟨by decide +kernel, by decide +kernel⟩, by decide +kernel⟩
theorem mf_X0_close : MF yX0_close cX0_close 1 none RX0 0 := ⟨uw2 81 rfl rfl, uw2 79 rfl rfl, uw2 80 rfl rfl, iz_X0, ⟨by decide +kernel, by decide +kernel⟩, by decide +kernel⟩
theorem mf_X7_token : MF yX7_token cX7_token 5 (some .long) RX7 2 := ⟨uw2 85 rfl rfl, uw2 83 rfl rfl, uw2 84 rfl rfl, iz_X7, ⟨by decide +kernel, by decide +kernel⟩, by decide +kernel⟩
theorem mf_X7_windows : MF yX7_windows cX7_windows 3 (some .int) RX7 2 := ⟨uw2 90 rfl rfl, uw2 88 rfl rfl, uw2 89 rfl rfl, iz_X7, ⟨by decide +kernel, by decide +kernel⟩, by decide +kernel⟩
theorem mf_X7_gap : MF yX7_gap cX7_gap 3 (some .int) RX7 1 := ⟨uw2 94 rfl rfl, uw2 92 rfl rfl, uw2 93 rfl rfl, iz_X7, ⟨by decide +kernel, by decide +kernel⟩, by decide +kernel⟩
theorem mf_X7_link : MF yX7_link cX7_link 3 (some .int) RX7 1 := ⟨uw2 98 rfl rfl, uw2 96 rfl rfl, uw2 97 rfl rfl, iz_X7, ⟨by decide +kernel, by decide +kernel⟩, by decide +kernel⟩
theorem mf_X7_given : MF yX7_given cX7_given 4 (some .int) RX7 1 := ⟨uw2 102 rfl rfl, uw2 100 rfl rfl, uw2 101 rfl rfl, iz_X7, ⟨by decide +kernel, by decide +kernel⟩, by decide +kernel⟩
theorem mf_X7_hash : MF yX7_hash cX7_hash 5 (some .int) RX7 2 := ⟨uw2 106 rfl rfl, uw2 104 rfl rfl, uw2 105 rfl rfl, iz_X7, ⟨by decide +kernel, by decide +kernel⟩, by decide +kernel⟩
theorem mf_X1_pageOf : MF yX1_pageOf cX1_pageOf 3 (some (.object "BorrowedPages$Page")) RX1 2 := ⟨uw2 110 rfl rfl, uw2 108 rfl rfl, uw2 109 rfl rfl, iz_X1, ⟨by decide +kernel, by decide +kernel⟩, by decide +kernel⟩
theorem mf_X1_layWithMarks : MFs yX1_layWithMarks cX1_layWithMarks 4 none 4 := ⟨uw2 113 rfl rfl, uw2 112 rfl rfl, iz_X1, ⟨by decide +kernel, by decide +kernel⟩, by decide +kernel⟩
theorem mf_X3_lay : MF yX3_lay cX3_lay 4 none RX3 2 := ⟨uw2 117 rfl rfl, uw2 115 rfl rfl, uw2 116 rfl rfl, iz_X3, ⟨by decide +kernel, by decide +kernel⟩, by decide +kernel⟩
theorem mf_X3_findMarks : MF yX3_findMarks cX3_findMarks 5 none RX3 2 := ⟨uw2 121 rfl rfl, uw2 119 rfl rfl, uw2 120 rfl rfl, iz_X3, ⟨by decide +kernel, by decide +kernel⟩, by decide +kernel⟩
theorem mf_X3_hashOfGram : MF yX3_hashOfGram cX3_hashOfGram 6 (some .int) RX3 2 := ⟨uw2 128 rfl rfl, uw2 127 rfl rfl, uw0 6 rfl rfl, iz_X3, ⟨by decide +kernel, by decide +kernel⟩, by decide +kernel⟩
theorem mf_X3_lastOfLeast : MF yX3_lastOfLeast cX3_lastOfLeast 5 (some .int) RX3 2 := ⟨uw2 138 rfl rfl, uw2 137 rfl rfl, uw0 7 rfl rfl, iz_X3, ⟨by decide +kernel, by decide +kernel⟩, by decide +kernel⟩
theorem mf_X1_asideLength : MFs yX1_asideLength cX1_asideLength 1 (some .int) 1 := ⟨uw2 142 rfl rfl, uw2 141 rfl rfl, iz_X1, ⟨by decide +kernel, by decide +kernel⟩, by decide +kernel⟩
theorem mf_X3_setAside : MF yX3_setAside cX3_setAside 5 none RX3 2 := ⟨uw2 146 rfl rfl, uw2 144 rfl rfl, uw2 145 rfl rfl, iz_X3, ⟨by decide +kernel, by decide +kernel⟩, by decide +kernel⟩
theorem mf_X3_longestSharedUpTo : MF yX3_longestSharedUpTo cX3_longestSharedUpTo 6 (some .int) RX3 2 := ⟨uw2 150 rfl rfl, uw2 149 rfl rfl, uw0 8 rfl rfl, iz_X3, ⟨by decide +kernel, by decide +kernel⟩, by decide +kernel⟩
theorem mf_X7_markAt : MF yX7_markAt cX7_markAt 5 (some .int) RX7 2 := ⟨uw2 154 rfl rfl, uw2 152 rfl rfl, uw2 153 rfl rfl, iz_X7, ⟨by decide +kernel, by decide +kernel⟩, by decide +kernel⟩
theorem mf_X3_howManyMarks : MF yX3_howManyMarks cX3_howManyMarks 3 (some .int) RX3 0 := ⟨uw2 158 rfl rfl, uw2 156 rfl rfl, uw2 157 rfl rfl, iz_X3, ⟨by decide +kernel, by decide +kernel⟩, by decide +kernel⟩
theorem mf_X3_gramOfMark : MF yX3_gramOfMark cX3_gramOfMark 4 (some .int) RX3 1 := ⟨uw2 162 rfl rfl, uw2 160 rfl rfl, uw2 161 rfl rfl, iz_X3, ⟨by decide +kernel, by decide +kernel⟩, by decide +kernel⟩
theorem mf_X7_aside : MF yX7_aside cX7_aside 5 (some .int) RX7 2 := ⟨uw2 166 rfl rfl, uw2 164 rfl rfl, uw2 165 rfl rfl, iz_X7, ⟨by decide +kernel, by decide +kernel⟩, by decide +kernel⟩
theorem mf_X7_runs : MF yX7_runs cX7_runs 4 (some .int) RX7 2 := ⟨uw2 170 rfl rfl, uw2 168 rfl rfl, uw2 169 rfl rfl, iz_X7, ⟨by decide +kernel, by decide +kernel⟩, by decide +kernel⟩
theorem mf_X7_refusalOfPair : MF yX7_refusalOfPair cX7_refusalOfPair 3 (some .int) RX7 2 := ⟨uw2 174 rfl rfl, uw2 173 rfl rfl, uw0 9 rfl rfl, iz_X7, ⟨by decide +kernel, by decide +kernel⟩, by decide +kernel⟩
theorem mf_X1_compare : MF yX1_compare cX1_compare 8 none RX1 4 := ⟨uw2 178 rfl rfl, uw2 176 rfl rfl, uw2 177 rfl rfl, iz_X1, ⟨by decide +kernel, by decide +kernel⟩, by decide +kernel⟩
theorem mf_X1_setBothAside : MF yX1_setBothAside cX1_setBothAside 5 none RX1 3 := ⟨uw2 182 rfl rfl, uw2 181 rfl rfl, uw0 10 rfl rfl, iz_X1, ⟨by decide +kernel, by decide +kernel⟩, by decide +kernel⟩
theorem mf_X1_runLengthAt : MF yX1_runLengthAt cX1_runLengthAt 6 (some .int) RX1 3 := ⟨uw2 186 rfl rfl, uw2 185 rfl rfl, uw0 11 rfl rfl, iz_X1, ⟨by decide +kernel, by decide +kernel⟩, by decide +kernel⟩
theorem mf_X1_agree : MF yX1_agree cX1_agree 3 (some .boolean) RX1 2 := ⟨uw2 190 rfl rfl, uw2 189 rfl rfl, uw0 12 rfl rfl, iz_X1, ⟨by decide +kernel, by decide +kernel⟩, by decide +kernel⟩
theorem mf_X1_sharesMark : MF yX1_sharesMark cX1_sharesMark 5 (some .boolean) RX1 3 := ⟨uw2 195 rfl rfl, uw2 194 rfl rfl, uw0 13 rfl rfl, iz_X1, ⟨by decide +kernel, by decide +kernel⟩, by decide +kernel⟩
theorem mf_X7_run : MF yX7_run cX7_run 6 (some .int) RX7 4 := ⟨uw2 199 rfl rfl, uw2 197 rfl rfl, uw2 198 rfl rfl, iz_X7, ⟨by decide +kernel, by decide +kernel⟩, by decide +kernel⟩
theorem mf_X1_partOfRun : MF yX1_partOfRun cX1_partOfRun 7 (some .int) RX1 2 := ⟨uw2 203 rfl rfl, uw2 201 rfl rfl, uw2 202 rfl rfl, iz_X1, ⟨by decide +kernel, by decide +kernel⟩, by decide +kernel⟩
theorem mf_X7_score : MF yX7_score cX7_score 4 (some .int) RX7 2 := ⟨uw2 207 rfl rfl, uw2 205 rfl rfl, uw2 206 rfl rfl, iz_X7, ⟨by decide +kernel, by decide +kernel⟩, by decide +kernel⟩
theorem mf_X1_scoreOf : MF yX1_scoreOf cX1_scoreOf 5 (some .int) RX1 4 := ⟨uw2 211 rfl rfl, uw2 209 rfl rfl, uw2 210 rfl rfl, iz_X1, ⟨by decide +kernel, by decide +kernel⟩, by decide +kernel⟩
theorem mf_X1_findBest : MF yX1_findBest cX1_findBest 4 none RX1 1 := ⟨uw2 216 rfl rfl, uw2 215 rfl rfl, uw0 14 rfl rfl, iz_X1, ⟨by decide +kernel, by decide +kernel⟩, by decide +kernel⟩
theorem mf_X1_bestFrom : MF yX1_bestFrom cX1_bestFrom 6 (some .int) RX1 3 := ⟨uw2 220 rfl rfl, uw2 219 rfl rfl, uw0 15 rfl rfl, iz_X1, ⟨by decide +kernel, by decide +kernel⟩, by decide +kernel⟩
theorem mf_X1_bestWithRun : MF yX1_bestWithRun cX1_bestWithRun 5 (some .int) RX1 4 := ⟨uw2 225 rfl rfl, uw2 224 rfl rfl, uw0 16 rfl rfl, iz_X1, ⟨by decide +kernel, by decide +kernel⟩, by decide +kernel⟩
theorem mf_X7_chain : MF yX7_chain cX7_chain 5 (some .int) RX7 3 := ⟨uw2 229 rfl rfl, uw2 227 rfl rfl, uw2 228 rfl rfl, iz_X7, ⟨by decide +kernel, by decide +kernel⟩, by decide +kernel⟩
theorem mf_X1_traceChain : MF yX1_traceChain cX1_traceChain 12 none RX1 3 := ⟨uw2 233 rfl rfl, uw2 231 rfl rfl, uw2 232 rfl rfl, iz_X1, ⟨by decide +kernel, by decide +kernel⟩, by decide +kernel⟩
theorem mf_X1_addToChain : MF yX1_addToChain cX1_addToChain 3 none RX1 2 := ⟨uw2 238 rfl rfl, uw2 237 rfl rfl, uw0 17 rfl rfl, iz_X1, ⟨by decide +kernel, by decide +kernel⟩, by decide +kernel⟩
theorem mf_X7_covered : MF yX7_covered cX7_covered 4 (some .int) RX7 2 := ⟨uw3 2 rfl rfl, uw3 0 rfl rfl, uw3 1 rfl rfl, iz_X7, ⟨by decide +kernel, by decide +kernel⟩, by decide +kernel⟩
theorem mf_X7_group : MF yX7_group cX7_group 3 (some .int) RX7 1 := ⟨uw3 6 rfl rfl, uw3 4 rfl rfl, uw3 5 rfl rfl, iz_X7, ⟨by decide +kernel, by decide +kernel⟩, by decide +kernel⟩
theorem mf_X2_form : MF yX2_form cX2_form 5 none RX2 2 := ⟨uw3 10 rfl rfl, uw3 8 rfl rfl, uw3 9 rfl rfl, iz_X2, ⟨by decide +kernel, by decide +kernel⟩, by decide +kernel⟩
theorem mf_X2_join : MF yX2_join cX2_join 5 none RX2 2 := ⟨uw3 16 rfl rfl, uw3 15 rfl rfl, uw0 18 rfl rfl, iz_X2, ⟨by decide +kernel, by decide +kernel⟩, by decide +kernel⟩
theorem mf_X7_first : MF yX7_first cX7_first 3 (some .int) RX7 1 := ⟨uw3 21 rfl rfl, uw3 19 rfl rfl, uw3 20 rfl rfl, iz_X7, ⟨by decide +kernel, by decide +kernel⟩, by decide +kernel⟩
theorem mf_X2_earliest : MF yX2_earliest cX2_earliest 5 (some .int) RX2 2 := ⟨uw3 25 rfl rfl, uw3 23 rfl rfl, uw3 24 rfl rfl, iz_X2, ⟨by decide +kernel, by decide +kernel⟩, by decide +kernel⟩
theorem mf_X7_count : MF yX7_count cX7_count 2 (some .int) RX7 1 := ⟨uw3 29 rfl rfl, uw3 27 rfl rfl, uw3 28 rfl rfl, iz_X7, ⟨by decide +kernel, by decide +kernel⟩, by decide +kernel⟩
theorem mf_X5_howManyBooks : MF yX5_howManyBooks cX5_howManyBooks 3 (some .int) RX5 0 := ⟨uw3 33 rfl rfl, uw3 31 rfl rfl, uw3 32 rfl rfl, iz_X5, ⟨by decide +kernel, by decide +kernel⟩, by decide +kernel⟩
theorem mf_X2_howMany : MF yX2_howMany cX2_howMany 6 (some .int) RX2 2 := ⟨uw3 37 rfl rfl, uw3 35 rfl rfl, uw3 36 rfl rfl, iz_X2, ⟨by decide +kernel, by decide +kernel⟩, by decide +kernel⟩
theorem mf_X2_membersOf : MF yX2_membersOf cX2_membersOf 4 (some .int) RX2 1 := ⟨uw3 41 rfl rfl, uw3 40 rfl rfl, uw0 19 rfl rfl, iz_X2, ⟨by decide +kernel, by decide +kernel⟩, by decide +kernel⟩
theorem mf_X7_chance : MF yX7_chance cX7_chance 7 (some .int) RX7 2 := ⟨uw3 45 rfl rfl, uw3 43 rfl rfl, uw3 44 rfl rfl, iz_X7, ⟨by decide +kernel, by decide +kernel⟩, by decide +kernel⟩
theorem mf_X8_type : MF yX8_type cX8_type 5 (some .int) RX8 2 := ⟨uw3 142 rfl rfl, uw3 140 rfl rfl, uw3 141 rfl rfl, iz_X8, ⟨by decide +kernel, by decide +kernel⟩, by decide +kernel⟩
theorem mf_X8_in : MFs yX8_in cX8_in 3 (some .boolean) 3 := ⟨uw3 145 rfl rfl, uw3 144 rfl rfl, iz_X8, ⟨by decide +kernel, by decide +kernel⟩, by decide +kernel⟩
theorem mf_X8_book : MF yX8_book cX8_book 4 (some .int) RX8 3 := ⟨uw3 150 rfl rfl, uw3 148 rfl rfl, uw3 149 rfl rfl, iz_X8, ⟨by decide +kernel, by decide +kernel⟩, by decide +kernel⟩
theorem mf_X8_isNumber : MFs yX8_isNumber cX8_isNumber 1 (some .boolean) 1 := ⟨uw3 153 rfl rfl, uw3 152 rfl rfl, iz_X8, ⟨by decide +kernel, by decide +kernel⟩, by decide +kernel⟩
theorem mf_X8_read : MF yX8_read cX8_read 7 none RX8 2 := ⟨uw3 157 rfl rfl, uw3 156 rfl rfl, uw0 20 rfl rfl, iz_X8, ⟨by decide +kernel, by decide +kernel⟩, by decide +kernel⟩
theorem mf_X8_letter : MFs yX8_letter cX8_letter 1 (some .int) 1 := ⟨uw3 160 rfl rfl, uw3 159 rfl rfl, iz_X8, ⟨by decide +kernel, by decide +kernel⟩, by decide +kernel⟩
theorem mf_X8_readWord : MF yX8_readWord cX8_readWord 4 (some .long) RX8 0 := ⟨uw3 164 rfl rfl, uw3 163 rfl rfl, uw0 21 rfl rfl, iz_X8, ⟨by decide +kernel, by decide +kernel⟩, by decide +kernel⟩
theorem mf_X8_codeOf : MF yX8_codeOf cX8_codeOf 5 (some .int) RX8 1 := ⟨uw3 169 rfl rfl, uw3 168 rfl rfl, uw0 22 rfl rfl, iz_X8, ⟨by decide +kernel, by decide +kernel⟩, by decide +kernel⟩
theorem mf_X8_add : MF yX8_add cX8_add 4 none RX8 2 := ⟨uw3 173 rfl rfl, uw3 172 rfl rfl, uw0 23 rfl rfl, iz_X8, ⟨by decide +kernel, by decide +kernel⟩, by decide +kernel⟩
theorem mf_X8_withdraw : MF yX8_withdraw cX8_withdraw 2 (some .int) RX8 1 := ⟨uw3 179 rfl rfl, uw3 177 rfl rfl, uw3 178 rfl rfl, iz_X8, ⟨by decide +kernel, by decide +kernel⟩, by decide +kernel⟩
theorem mf_X8_token : MF yX8_token cX8_token 3 (some .long) RX8 2 := ⟨uw3 183 rfl rfl, uw3 181 rfl rfl, uw3 182 rfl rfl, iz_X8, ⟨by decide +kernel, by decide +kernel⟩, by decide +kernel⟩
theorem mf_X8_windows : MF yX8_windows cX8_windows 3 (some .int) RX8 2 := ⟨uw3 189 rfl rfl, uw3 187 rfl rfl, uw3 188 rfl rfl, iz_X8, ⟨by decide +kernel, by decide +kernel⟩, by decide +kernel⟩
theorem mf_X8_gap : MF yX8_gap cX8_gap 3 (some .int) RX8 1 := ⟨uw3 193 rfl rfl, uw3 191 rfl rfl, uw3 192 rfl rfl, iz_X8, ⟨by decide +kernel, by decide +kernel⟩, by decide +kernel⟩
theorem mf_X8_link : MF yX8_link cX8_link 3 (some .int) RX8 1 := ⟨uw3 197 rfl rfl, uw3 195 rfl rfl, uw3 196 rfl rfl, iz_X8, ⟨by decide +kernel, by decide +kernel⟩, by decide +kernel⟩
theorem mf_X8_given : MF yX8_given cX8_given 3 (some .int) RX8 1 := ⟨uw3 201 rfl rfl, uw3 199 rfl rfl, uw3 200 rfl rfl, iz_X8, ⟨by decide +kernel, by decide +kernel⟩, by decide +kernel⟩
theorem mf_X8_hash : MF yX8_hash cX8_hash 3 (some .int) RX8 2 := ⟨uw3 205 rfl rfl, uw3 203 rfl rfl, uw3 204 rfl rfl, iz_X8, ⟨by decide +kernel, by decide +kernel⟩, by decide +kernel⟩
theorem mf_X8_grams : MF yX8_grams cX8_grams 2 (some .int) RX8 1 := ⟨uw3 209 rfl rfl, uw3 208 rfl rfl, uw0 24 rfl rfl, iz_X8, ⟨by decide +kernel, by decide +kernel⟩, by decide +kernel⟩
theorem mf_X8_hashOf : MF yX8_hashOf cX8_hashOf 6 (some .int) RX8 2 := ⟨uw3 213 rfl rfl, uw3 212 rfl rfl, uw0 25 rfl rfl, iz_X8, ⟨by decide +kernel, by decide +kernel⟩, by decide +kernel⟩
theorem mf_X8_markAt : MF yX8_markAt cX8_markAt 5 (some .int) RX8 2 := ⟨uw3 219 rfl rfl, uw3 217 rfl rfl, uw3 218 rfl rfl, iz_X8, ⟨by decide +kernel, by decide +kernel⟩, by decide +kernel⟩
theorem mf_X8_findMarks : MF yX8_findMarks cX8_findMarks 6 none RX8 1 := ⟨uw3 223 rfl rfl, uw3 222 rfl rfl, uw0 26 rfl rfl, iz_X8, ⟨by decide +kernel, by decide +kernel⟩, by decide +kernel⟩
theorem mf_X8_aside : MF yX8_aside cX8_aside 3 (some .int) RX8 2 := ⟨uw3 227 rfl rfl, uw3 225 rfl rfl, uw3 226 rfl rfl, iz_X8, ⟨by decide +kernel, by decide +kernel⟩, by decide +kernel⟩
theorem mf_X8_findAside : MF yX8_findAside cX8_findAside 7 none RX8 1 := ⟨uw3 231 rfl rfl, uw3 230 rfl rfl, uw0 27 rfl rfl, iz_X8, ⟨by decide +kernel, by decide +kernel⟩, by decide +kernel⟩
theorem mf_X8_runs : MF yX8_runs cX8_runs 4 (some .int) RX8 2 := ⟨uw3 235 rfl rfl, uw3 233 rfl rfl, uw3 234 rfl rfl, iz_X8, ⟨by decide +kernel, by decide +kernel⟩, by decide +kernel⟩
theorem mf_X8_against : MF yX8_against cX8_against 3 (some .int) RX8 2 := ⟨uw3 239 rfl rfl, uw3 238 rfl rfl, uw0 28 rfl rfl, iz_X8, ⟨by decide +kernel, by decide +kernel⟩, by decide +kernel⟩
theorem mf_X8_findRuns : MF yX8_findRuns cX8_findRuns 8 none RX8 2 := ⟨uw4 3 rfl rfl, uw4 2 rfl rfl, uw0 29 rfl rfl, iz_X8, ⟨by decide +kernel, by decide +kernel⟩, by decide +kernel⟩
theorem mf_X8_isAlike : MF yX8_isAlike cX8_isAlike 7 (some .boolean) RX8 4 := ⟨uw4 7 rfl rfl, uw4 6 rfl rfl, uw0 30 rfl rfl, iz_X8, ⟨by decide +kernel, by decide +kernel⟩, by decide +kernel⟩
theorem mf_X8_run : MF yX8_run cX8_run 6 (some .int) RX8 4 := ⟨uw4 11 rfl rfl, uw4 9 rfl rfl, uw4 10 rfl rfl, iz_X8, ⟨by decide +kernel, by decide +kernel⟩, by decide +kernel⟩
theorem mf_X8_score : MF yX8_score cX8_score 4 (some .int) RX8 2 := ⟨uw4 15 rfl rfl, uw4 13 rfl rfl, uw4 14 rfl rfl, iz_X8, ⟨by decide +kernel, by decide +kernel⟩, by decide +kernel⟩
theorem mf_X8_findScore : MF yX8_findScore cX8_findScore 7 (some .int) RX8 2 := ⟨uw4 19 rfl rfl, uw4 18 rfl rfl, uw0 31 rfl rfl, iz_X8, ⟨by decide +kernel, by decide +kernel⟩, by decide +kernel⟩
theorem mf_X8_chain : MF yX8_chain cX8_chain 8 (some .int) RX8 3 := ⟨uw4 23 rfl rfl, uw4 21 rfl rfl, uw4 22 rfl rfl, iz_X8, ⟨by decide +kernel, by decide +kernel⟩, by decide +kernel⟩
theorem mf_X8_covered : MF yX8_covered cX8_covered 7 (some .int) RX8 2 := ⟨uw4 27 rfl rfl, uw4 25 rfl rfl, uw4 26 rfl rfl, iz_X8, ⟨by decide +kernel, by decide +kernel⟩, by decide +kernel⟩
theorem mf_X8_group : MF yX8_group cX8_group 2 (some .int) RX8 1 := ⟨uw4 31 rfl rfl, uw4 29 rfl rfl, uw4 30 rfl rfl, iz_X8, ⟨by decide +kernel, by decide +kernel⟩, by decide +kernel⟩
theorem mf_X8_findGroups : MF yX8_findGroups cX8_findGroups 3 none RX8 0 := ⟨uw4 35 rfl rfl, uw4 34 rfl rfl, uw0 32 rfl rfl, iz_X8, ⟨by decide +kernel, by decide +kernel⟩, by decide +kernel⟩
theorem mf_X8_join : MF yX8_join cX8_join 5 none RX8 2 := ⟨uw4 39 rfl rfl, uw4 38 rfl rfl, uw0 33 rfl rfl, iz_X8, ⟨by decide +kernel, by decide +kernel⟩, by decide +kernel⟩
theorem mf_X8_first : MF yX8_first cX8_first 4 (some .int) RX8 1 := ⟨uw4 43 rfl rfl, uw4 41 rfl rfl, uw4 42 rfl rfl, iz_X8, ⟨by decide +kernel, by decide +kernel⟩, by decide +kernel⟩
theorem mf_X8_count : MF yX8_count cX8_count 8 (some .int) RX8 1 := ⟨uw4 47 rfl rfl, uw4 45 rfl rfl, uw4 46 rfl rfl, iz_X8, ⟨by decide +kernel, by decide +kernel⟩, by decide +kernel⟩
theorem mf_X8_chance : MF yX8_chance cX8_chance 7 (some .int) RX8 2 := ⟨uw4 51 rfl rfl, uw4 49 rfl rfl, uw4 50 rfl rfl, iz_X8, ⟨by decide +kernel, by decide +kernel⟩, by decide +kernel⟩
theorem mf_X8_turnOne : MF yX8_turnOne cX8_turnOne 5 none RX8 1 := ⟨uw4 55 rfl rfl, uw4 54 rfl rfl, uw0 34 rfl rfl, iz_X8, ⟨by decide +kernel, by decide +kernel⟩, by decide +kernel⟩
end
section
/-! THE RUN JUDGEMENT: a method of the class (or of the model) over a memory of typed rows. A layout (ly) names the cells: kind and length; I k j, L k j: the int, the long at place j of cell k (a field or an element); references are fixed by the layout. -/
abbrev gT : Type := va_G × (Nat → Nat) × (Nat → ClassId)
abbrev IM : Type := Nat → Nat → Int
abbrev zI (z : Int) : Int32 := Int32.ofInt z
abbrev LM : Type := Nat → Nat → Int64
abbrev lyT : Type := List (Nat × Nat)
def kd (ly : lyT) (k : Nat) : Nat := (ly.getD k (99, 0)).1
def ln (ly : lyT) (k : Nat) : Nat := (ly.getD k (99, 0)).2
def up2 {α : Type} (f : Nat → Nat → α) (k j : Nat) (v : α) : Nat → Nat → α := fun k' j' => if k' = k then (if j' = j then v else f k' j') else f k' j'
theorem up2_same {α : Type} (f : Nat → Nat → α) (k j : Nat) (v : α) : up2 f k j v k j = v := by simp [up2]
theorem up2_cell {α : Type} (f : Nat → Nat → α) {k k' : Nat} (j : Nat) (v : α) (h : k' ≠ k) : up2 f k j v k' = f k' := by funext j'; simp [up2, h]
theorem up2_ne {α : Type} (f : Nat → Nat → α) (k : Nat) {j j' : Nat} (v : α) (h : j' ≠ j) : up2 f k j v k j' = f k j' := by simp [up2, h]
def mkE (g : gT) (q : Nat × Nat) (k : Nat) (f : Nat → Int) (h : Nat → Int64) : va_E := match q.1 with
  | 0 => .inr (0, [.ref (g.2.1 (k + 1)), .int (zI (f 1)), .int (zI (f 2)), .int (zI (f 3)), .int (zI (f 4))])
  | 1 => .inr (1, [.ref (g.2.1 (k + 1)), .int (zI (f 1)), .int (zI (f 2)), .int (zI (f 3)), .ref (g.2.1 (k + 4)), .ref (g.2.1 (k + 10)), .ref (g.2.1 (k + 16)), .ref (g.2.1 (k + 2)), .ref (g.2.1 (k + 3))])
  | 2 => .inr (2, [.ref (g.2.1 (k + 1)), .int (zI (f 1))])
  | 3 => .inr (3, [.ref (g.2.1 (k + 1)), .ref (g.2.1 (k + 2)), .ref (g.2.1 (k + 3)), .ref (g.2.1 (k + 4)), .ref (g.2.1 (k + 5)), .int (zI (f 5)), .int (zI (f 6)), .int (zI (f 7))])
  | 4 => .inr (4, [.int (zI (f 0)), .int (zI (f 1)), .long (h 2)])
  | 5 => .inr (5, [.ref (g.2.1 (k + 1)), .int (zI (f 1)), .int (zI (f 2)), .int (zI (f 3)), .int (zI (f 4)), .int (zI (f 5))])
  | 6 => .inr (6, [.ref (g.2.1 (k + 1)), .int (zI (f 1))])
  | 7 => .inr (7, [.ref (g.2.1 (k + 1)), .ref (g.2.1 (k + 3)), .ref (g.2.1 (k + 4)), .ref (g.2.1 (k + 18)), .ref (g.2.1 (k + 40))])
  | 8 => .inr (8, [.ref (g.2.1 (k + 1)), .int (zI (f 1)), .ref (g.2.1 (k + 2)), .ref (g.2.1 (k + 3)), .ref (g.2.1 (k + 4)), .ref (g.2.1 (k + 5)), .ref (g.2.1 (k + 6)), .int (zI (f 7)), .int (zI (f 8)), .int (zI (f 9)), .int (zI (f 10)), .int (zI (f 11)), .int (zI (f 12)), .int (zI (f 13)), .ref (g.2.1 (k + 7)), .ref (g.2.1 (k + 8)), .ref (g.2.1 (k + 9)), .ref (g.2.1 (k + 10)), .int (zI (f 18)), .ref (g.2.1 (k + 11)), .ref (g.2.1 (k + 12)), .ref (g.2.1 (k + 13)), .ref (g.2.1 (k + 14)), .ref (g.2.1 (k + 15)), .int (zI (f 24)), .ref (g.2.1 (k + 16)), .int (zI (f 26))])
  | 9 => .inl (g.2.2 9, q.2, .inl (fun j => zI (f j)))
  | 10 => .inl (g.2.2 10, q.2, .inl (fun j => zI (f j)))
  | 11 => .inl (g.2.2 11, q.2, .inr (.inl h))
  | 12 => .inl (g.2.2 12, q.2, .inl (fun j => zI (f j)))
  | _ => .inl (g.2.2 13, q.2, .inr (.inr (.inr (.inr (fun j => some (g.2.1 (k + 1 + 2 * j)))))))
abbrev wl (ly : lyT) (g : gT) (I : IM) (L : LM) : va_W := (List.range ly.length).map (fun k => (g.2.1 k, mkE g (ly.getD k (99, 0)) k (I k) (L k)))
theorem kd_lt {ly : lyT} {k n : Nat} (h : kd ly k = n) (hn : n < 99) : k < ly.length := by
  rcases Nat.lt_or_ge k ly.length with q | q
  · exact q
  · have e : ly.getD k (99, 0) = (99, 0) := by simp [List.getD, List.getElem?_eq_none q]
    rw [kd, e] at h
    omega
theorem wl_get {ly : lyT} (g : gT) (I : IM) (L : LM) {k : Nat} (hk : k < ly.length) : (wl ly g I L)[k]? = some (g.2.1 k, mkE g (ly.getD k (99, 0)) k (I k) (L k)) := by
  simp [wl, List.getElem?_map, hk]
theorem wl_set {ly : lyT} (g : gT) {I I' : IM} {L L' : LM} {k : Nat} (hI : ∀ j, j ≠ k → I' j = I j) (hL : ∀ j, j ≠ k → L' j = L j) : (wl ly g I L).set k (g.2.1 k, mkE g (ly.getD k (99, 0)) k (I' k) (L' k)) = wl ly g I' L' := by
  apply List.ext_getElem?
  intro i
  rw [List.getElem?_set]
  by_cases hi : k = i
  · subst hi
    by_cases hk : k < (wl ly g I L).length
    · rw [if_pos rfl, if_pos hk, wl_get g I' L' (by simpa using hk)]
    · rw [if_pos rfl, if_neg hk]
      rw [List.getElem?_eq_none]
      simpa using hk
  · rw [if_neg hi]
    by_cases hk : i < ly.length
    · rw [wl_get g I L hk, wl_get g I' L' hk, hI i (fun q => hi q.symm), hL i (fun q => hi q.symm)]
    · rw [List.getElem?_eq_none (by simpa using hk), List.getElem?_eq_none (by simpa using hk)]
def AA (ly : lyT) (g : gT) : Nat → Prop := fun q => ∃ k, k < ly.length ∧ q = g.2.1 k
def inj (ly : lyT) (g : gT) : Prop := ∀ i j, i < ly.length → j < ly.length → g.2.1 i = g.2.1 j → i = j
theorem wl_D {ly : lyT} {g : gT} (h : inj ly g) (I : IM) (L : LM) : va_D (AA ly g) (wl ly g I L) := by
  have key : ∀ (i : Nat) (p : Nat × va_E), (wl ly g I L)[i]? = some p → i < ly.length ∧ p.1 = g.2.1 i := by
    intro i p hp
    have hi : i < ly.length := by
      have := (List.getElem?_eq_some_iff.mp hp).1
      simpa using this
    rw [wl_get g I L hi] at hp
    cases hp
    exact ⟨hi, rfl⟩
  refine ⟨fun i j p q hp hq hpq => ?_, fun k q hq => ?_⟩
  · obtain ⟨h1, h2⟩ := key i p hp
    obtain ⟨h3, h4⟩ := key j q hq
    exact h i j h1 h3 (by rw [← h2, ← h4]; exact hpq)
  · obtain ⟨h1, h2⟩ := key k q hq
    exact ⟨k, h1, h2⟩
abbrev tyG (g : gT) : List (ClassId × FieldType) := [(g.2.2 9, .byte), (g.2.2 10, .int), (g.2.2 11, .long), (g.2.2 12, .boolean), (g.2.2 13, .object "BorrowedPages$Book")]
/-- the five keywords' numbers -/
def kwv : Nat → Value := fun j => .int (match j with | 0 => 339 | 1 => 8787 | 2 => 236 | 3 => 16633 | _ => 7367)
def KW (A : Nat → Prop) (U : State) (H : Heap) : Prop := ∃ t : Nat, va_Z "BorrowedPages$Reader" "KEYWORDS" "[I" (.ref t) A U H ∧ va_T .int t 5 kwv A U H
/-- what holds of the tables at a method's start -/
def Kx (ly : lyT) (g : gT) (U : State) : Prop := va_K g.1 vwCl (tyG g) U ∧ inj ly g ∧ KW (AA ly g) U U.heap ∧ ∀ k, ln ly k < 2 ^ 31
def Bw (ly : lyT) (g : gT) (I : IM) (L : LM) (U : State) : Prop := va_P g.1 vwCl (wl ly g I L) U.heap ∧ Kx ly g U
abbrev poT : Type := Option Value → IM → LM → Prop
def Qq (ly : lyT) (g : gT) (post : poT) : Array Value → State → Outcome → State → Prop := fun _ st oc t => (∃ (v : Option Value) (I : IM) (L : LM), oc = .returned v ∧ post v I L ∧ va_P g.1 vwCl (wl ly g I L) t.heap) ∧ va_F (AA ly g) st t
abbrev rmT (f lo : Nat) : Room := { frames := f, cells := 0, slots := 0, locals := lo }
/-- a method's contract -/
def Ct (l : Launch) (y : MethodName) (cc : ByteArray) (nL : Nat) (ret : Option FieldType) (f lo : Nat) (ly : lyT) (g : gT) (av : List Value) (I : IM) (L : LM) (post : poT) : Prop :=
  Met l y (.code y cc nL ret :: UW) (rmT f lo) (va_Pc av (Bw ly g I L)) (Qq ly g post) 0 0 (AA ly g)
abbrev cT := Program × Launch × Env × Room × State × MethodId × Array Value × List Frame × Method × Code × Nat
/-- the locals: what is listed stands there -/
abbrev lvT : Type := List (Option Value)
def lvh (ls : Array Slot) (nL : Nat) (lv : lvT) : Prop := (ls.size = nL ∧ lv.length ≤ nL) ∧ lv_wf ls ∧ ∀ (i : Nat) (v : Value), lv[i]? = some (some v) → ls[i]? = some (.val v)
/-- the machine at pc, with these locals, this stack, this memory, comes to the method's end with post -/
def Rn (x : cT) (ly : lyT) (g : gT) (post : poT) (pc : Nat) (lv : lvT) (st : List Value) (I : IM) (L : LM) : Prop :=
  ∀ (H : Heap) (locs : List Loc) (ls : Array Slot), va_P g.1 vwCl (wl ly g I L) H → va_S (AA ly g) x.2.2.2.2.1.heap H locs → lvh ls x.2.2.2.2.2.2.2.2.2.2 lv →
    W x.1 x.2.1 x.2.2.1 x.2.2.2.1 x.2.2.2.2.1 x.2.2.2.2.2.1 x.2.2.2.2.2.2.1 x.2.2.2.2.2.2.2.1 x.2.2.2.2.2.2.2.2.1 x.2.2.2.2.2.2.2.2.2.1 H locs 0 0 (MQ x.2.2.2.2.2.2.2.1 (Qq ly g post) x.2.2.2.2.2.2.1 x.2.2.2.2.1 0 0 (AA ly g)) (F0 x.2.2.2.2.2.1 pc ls st)
/-- what is fixed in a method's body -/
def Fx (x : cT) (ly : lyT) (g : gT) (cc : ByteArray) (own : String) (ret : Option FieldType) (f lo : Nat) : Prop :=
  x.1.tables.exec = Jvm.exec ∧ x.2.2.2.2.2.2.2.2.2.1.code = cc ∧ x.2.2.2.2.2.2.2.2.2.1.maxLocals = x.2.2.2.2.2.2.2.2.2.2 ∧ x.2.2.2.2.1.vm.findClass own = some x.2.2.2.2.2.1.cls ∧ (∀ w ∈ UW, w.before x.2.2.2.2.2.2.1 x.2.2.2.2.1 = true) ∧ Kx ly g x.2.2.2.2.1 ∧ x.2.2.2.2.2.2.2.2.1.locks = false ∧ x.2.2.2.2.2.2.2.2.1.sig.returnType = ret ∧ x.2.2.2.1 = rmT f lo
/-- the locals at the start -/
def lvE : List Value → List (Option Value)
  | [] => []
  | v :: vs => if v.category = 2 then some v :: none :: lvE vs else some v :: lvE vs
theorem lvE_in (vs : List Value) : ∀ (b i : Nat) (v : Value), (lvE vs)[i]? = some (some v) → (b + i, v) ∈ lv_args b vs := by
  induction vs with
  | nil => intro b i v h; simp [lvE] at h
  | cons w ws ih =>
    intro b i v h
    rw [lvE] at h
    rw [lv_args]
    by_cases hc : w.category = 2
    · rw [if_pos hc] at h
      match i, h with
      | 0, h => cases h; exact List.mem_cons_self
      | 1, h => cases h
      | i + 2, h =>
        have := ih (b + 2) i v h
        rw [if_pos hc]
        refine List.mem_cons_of_mem _ ?_
        rwa [show b + (i + 2) = b + 2 + i by omega]
    · rw [if_neg hc] at h
      match i, h with
      | 0, h => cases h; exact List.mem_cons_self
      | i + 1, h =>
        have := ih (b + 1) i v h
        rw [if_neg hc]
        refine List.mem_cons_of_mem _ ?_
        rwa [show b + (i + 1) = b + 1 + i by omega]
theorem lvh_pad {ls : Array Slot} {nL : Nat} {lv : lvT} (h : lvh ls nL lv) (n : Nat) (hn : lv.length + n ≤ nL) : lvh ls nL (lv ++ List.replicate n none) := by
  refine ⟨⟨h.1.1, by simpa using hn⟩, h.2.1, fun i v hv => ?_⟩
  rcases Nat.lt_or_ge i lv.length with q | q
  · rw [List.getElem?_append_left q] at hv
    exact h.2.2 i v hv
  · rw [List.getElem?_append_right q] at hv
    have := (List.mem_replicate.mp (List.mem_of_getElem? hv)).2
    cases this
theorem lvE_len (vs : List Value) : (lvE vs).length = (lg_sl vs).length := by
  induction vs with
  | nil => rfl
  | cons w ws ih =>
    rw [lvE, lg_sl, List.flatMap_cons, List.length_append]
    by_cases hc : w.category = 2
    · rw [if_pos hc, if_pos hc, List.length_cons, List.length_cons, ih, lg_sl]
      simp
      omega
    · rw [if_neg hc, if_neg hc, List.length_cons, ih, lg_sl]
      simp
      omega
theorem Ct.of {l : Launch} {y : MethodName} {cc : ByteArray} {nL : Nat} {ret : Option FieldType} {f lo : Nat} {ly : lyT} {g : gT} {av : List Value} {I : IM} {L : LM} {post : poT} (own : String) (hy : plainName y.cls = true) (ho : y.cls = own) (hn : (lg_sl av).length ≤ nL)
    (k : ∀ x : cT, x.2.1 = l → Fx x ly g cc own ret f lo → Rn x ly g post 0 (lvE av ++ List.replicate (nL - (lvE av).length) none) [] I L) : Ct l y cc nL ret f lo ly g av I L post := by
  refine Met.ofW (cc := cc) (maxL := nL) (ret := ret) hy rfl ?_
  intro p e s m args below meth c s₁ B hml hv
  obtain ⟨rfl, hP, hK⟩ := hv
  have hts := atoms_spec (ws := .code y cc nL ret :: UW) B.pre
  have hown : s.vm.findClass y.cls = some m.cls := findClass_of_methodNamed B.named
  rw [ho] at hown
  have hl := lv_entry av (n := nL) hn
  rw [lg_entry_eq]
  refine k (p, l, e, rmT f lo, s, m, av.toArray, below, meth, c, nL) rfl ⟨B.exec, B.bytes, hml, hown, fun w hw => hts w (List.mem_cons_of_mem _ hw), hK, B.notSynchronized, B.returns, rfl⟩ s.heap [] _ hP va_S.rf (lvh_pad ⟨⟨hl.1, by rw [lvE_len]; exact hn⟩, hl.2.1, fun i v hv => ?_⟩ _ (by rw [lvE_len]; omega))
  have := lvE_in av 0 i v hv
  rw [Nat.zero_add] at this
  exact hl.2.2 (i, v) this
def lvP (lv : lvT) : List (Nat × Value) := lv.zipIdx.filterMap (fun q => q.1.map (fun v => (q.2, v)))
theorem lvP_mem {lv : lvT} {i : Nat} {v : Value} : (i, v) ∈ lvP lv ↔ lv[i]? = some (some v) := by
  rw [lvP, List.mem_filterMap]
  constructor
  · rintro ⟨⟨o, j⟩, h1, h2⟩
    have h3 := List.mem_zipIdx_iff_getElem?.mp h1
    cases o with
    | none => cases h2
    | some w => cases h2; exact h3
  · intro h
    exact ⟨(some v, i), List.mem_zipIdx_iff_getElem?.mpr h, rfl⟩
theorem lvh.has {ls : Array Slot} {nL : Nat} {lv : lvT} (h : lvh ls nL lv) : lv_has ls nL (lvP lv) := ⟨h.1.1, h.2.1, fun q hq => h.2.2 q.1 q.2 (lvP_mem.mp hq)⟩
/-- no long stands just ahead of place i -/
def nlg (lv : lvT) (i : Nat) : Bool := match i with
  | 0 => true
  | j + 1 => match lv[j]? with
    | some (some v) => v.category != 2
    | _ => true
theorem lvh_st1 {ls : Array Slot} {nL : Nat} {lv : lvT} {i : Nat} {v : Value} (hn : nlg lv i = true) (hz : lv.length ≤ nL) (h : lv_has ls nL ((i, v) :: (lvP lv).filter (fun q => !(q.1 == i) && !(q.1 + 1 == i && q.2.category == 2)))) : lvh ls nL (lv.set i (some v)) := by
  refine ⟨⟨h.1, by simpa using hz⟩, h.2.1, fun j w hj => ?_⟩
  rw [List.getElem?_set] at hj
  by_cases e : i = j
  · subst e
    by_cases hl : i < lv.length
    · rw [if_pos rfl, if_pos hl] at hj
      cases hj
      exact h.2.2 (i, v) List.mem_cons_self
    · rw [if_pos rfl, if_neg hl] at hj
      cases hj
  · rw [if_neg e] at hj
    refine h.2.2 (j, w) (List.mem_cons_of_mem _ (List.mem_filter.mpr ⟨lvP_mem.mpr hj, ?_⟩))
    have e1 : ¬ j = i := fun q => e q.symm
    simp only [Bool.and_eq_true, Bool.not_eq_true', beq_eq_false_iff_ne, ne_eq, e1, not_false_eq_true, true_and, Bool.and_eq_false_iff]
    by_cases e2 : j + 1 = i
    · subst e2
      right
      simp only [nlg, hj] at hn
      simpa using hn
    · left
      simpa using e2
theorem lvh_st2 {ls : Array Slot} {nL : Nat} {lv : lvT} {i : Nat} {v : Value} (hn : nlg lv i = true) (hz : lv.length ≤ nL) (h : lv_has ls nL ((i, v) :: (lvP lv).filter (fun q => !(q.1 == i) && (!(q.1 == i + 1) && !(q.1 + 1 == i && q.2.category == 2))))) : lvh ls nL ((lv.set i (some v)).set (i + 1) none) := by
  refine ⟨⟨h.1, by simpa using hz⟩, h.2.1, fun j w hj => ?_⟩
  rw [List.getElem?_set] at hj
  by_cases e0 : i + 1 = j
  · rw [if_pos e0] at hj
    split at hj <;> cases hj
  · rw [if_neg e0, List.getElem?_set] at hj
    by_cases e : i = j
    · subst e
      by_cases hl : i < lv.length
      · rw [if_pos rfl, if_pos hl] at hj
        cases hj
        exact h.2.2 (i, v) List.mem_cons_self
      · rw [if_pos rfl, if_neg hl] at hj
        cases hj
    · rw [if_neg e] at hj
      refine h.2.2 (j, w) (List.mem_cons_of_mem _ (List.mem_filter.mpr ⟨lvP_mem.mpr hj, ?_⟩))
      have e1 : ¬ j = i := fun q => e q.symm
      have e3 : ¬ j = i + 1 := fun q => e0 q.symm
      simp only [Bool.and_eq_true, Bool.not_eq_true', beq_eq_false_iff_ne, ne_eq, e1, e3, not_false_eq_true, true_and, Bool.and_eq_false_iff]
      by_cases e2 : j + 1 = i
      · subst e2
        right
        simp only [nlg, hj] at hn
        simpa using hn
      · left
        simpa using e2
end
section
/-! ROWS: an instruction each, over Rn -/
def rg (z : Int) : Prop := -2147483648 ≤ z ∧ z < 2147483648
theorem zI_toInt {z : Int} (h : rg z) : (zI z).toInt = z := Int32.toInt_ofInt_of_le (by have := h.1; omega) (by have := h.2; omega)
theorem zI_le {a b : Int} (ha : rg a) (hb : rg b) : zI a ≤ zI b ↔ a ≤ b := by rw [Int32.le_iff_toInt_le, zI_toInt ha, zI_toInt hb]
theorem zI_lt {a b : Int} (ha : rg a) (hb : rg b) : zI a < zI b ↔ a < b := by rw [Int32.lt_iff_toInt_lt, zI_toInt ha, zI_toInt hb]
theorem zI_eq {a b : Int} (ha : rg a) (hb : rg b) : zI a = zI b ↔ a = b := by rw [← Int32.toInt_inj, zI_toInt ha, zI_toInt hb]
theorem rg0 : rg 0 := ⟨by omega, by omega⟩
theorem zI_0 : zI 0 = 0 := rfl
theorem rg_i (v : Int32) : rg v.toInt := ⟨by have := v.le_toInt; omega, by have := v.toInt_lt; omega⟩
theorem zI_v (v : Int32) : zI v.toInt = v := Int32.ofInt_toInt v
theorem zI_nat (n : Nat) : zI (n : Int) = nI n := Int32.ofInt_eq_ofNat
theorem zI_clamp {n : Nat} (h : n < 2 ^ 31) : (zI (n : Int)).toNatClampNeg = n := by rw [zI_nat]; exact nI_clamp h
theorem zI_in {n N : Nat} (h : n < N) (hN : N < 2 ^ 31) : vp_in (zI (n : Int)) N := by rw [zI_nat]; exact vp_in_nI h hN
section RR
variable {x : cT} {ly : lyT} {g : gT} {cc : ByteArray} {own : String} {ret : Option FieldType} {f lo : Nat} {post : poT} {pc : Nat} {lv : lvT} {st : List Value} {I : IM} {L : LM}
theorem rr_iadd (F : Fx x ly g cc own ret f lo) {a b : Int} (d : decode cc pc = .ok (.iadd, 1))  (k : Rn x ly g post (pc + 1) lv (.int (zI (a + b)) :: st) I L) : Rn x ly g post pc lv (.int (zI b) :: .int (zI a) :: st) I L := fun H locs ls hP hS hl => lv_iadd F.1 F.2.1 d (by rw [← Int32.ofInt_add]; exact (k H locs ls hP hS hl))
theorem rr_isub (F : Fx x ly g cc own ret f lo) {a b : Int} (d : decode cc pc = .ok (.isub, 1))  (k : Rn x ly g post (pc + 1) lv (.int (zI (a - b)) :: st) I L) : Rn x ly g post pc lv (.int (zI b) :: .int (zI a) :: st) I L := fun H locs ls hP hS hl => lv_isub F.1 F.2.1 d (by rw [← Int32.ofInt_sub]; exact (k H locs ls hP hS hl))
theorem rr_imul (F : Fx x ly g cc own ret f lo) {a b : Int} (d : decode cc pc = .ok (.imul, 1))  (k : Rn x ly g post (pc + 1) lv (.int (zI (a * b)) :: st) I L) : Rn x ly g post pc lv (.int (zI b) :: .int (zI a) :: st) I L := fun H locs ls hP hS hl => lv_imul F.1 F.2.1 d (by rw [← Int32.ofInt_mul]; exact (k H locs ls hP hS hl))
theorem rr_iand (F : Fx x ly g cc own ret f lo) {a b : Int32} (d : decode cc pc = .ok (.iand, 1))  (k : Rn x ly g post (pc + 1) lv (.int (a &&& b) :: st) I L) : Rn x ly g post pc lv (.int b :: .int a :: st) I L := fun H locs ls hP hS hl => lv_iand F.1 F.2.1 d (k H locs ls hP hS hl)
theorem rr_ladd (F : Fx x ly g cc own ret f lo) {a b : Int64} (d : decode cc pc = .ok (.ladd, 1))  (k : Rn x ly g post (pc + 1) lv (.long (a + b) :: st) I L) : Rn x ly g post pc lv (.long b :: .long a :: st) I L := fun H locs ls hP hS hl => lv_ladd F.1 F.2.1 d (k H locs ls hP hS hl)
theorem rr_lmul (F : Fx x ly g cc own ret f lo) {a b : Int64} (d : decode cc pc = .ok (.lmul, 1))  (k : Rn x ly g post (pc + 1) lv (.long (a * b) :: st) I L) : Rn x ly g post pc lv (.long b :: .long a :: st) I L := fun H locs ls hP hS hl => lv_lmul F.1 F.2.1 d (k H locs ls hP hS hl)
theorem rr_land (F : Fx x ly g cc own ret f lo) {a b : Int64} (d : decode cc pc = .ok (.land, 1))  (k : Rn x ly g post (pc + 1) lv (.long (a &&& b) :: st) I L) : Rn x ly g post pc lv (.long b :: .long a :: st) I L := fun H locs ls hP hS hl => lv_land F.1 F.2.1 d (k H locs ls hP hS hl)
theorem rr_lor (F : Fx x ly g cc own ret f lo) {a b : Int64} (d : decode cc pc = .ok (.lor, 1))  (k : Rn x ly g post (pc + 1) lv (.long (a ||| b) :: st) I L) : Rn x ly g post pc lv (.long b :: .long a :: st) I L := fun H locs ls hP hS hl => lv_lor F.1 F.2.1 d (k H locs ls hP hS hl)
theorem rr_lrem (F : Fx x ly g cc own ret f lo) {a b : Int64} (d : decode cc pc = .ok (.lrem, 1)) (hn : ¬ b = 0) (k : Rn x ly g post (pc + 1) lv (.long (a - a / b * b) :: st) I L) : Rn x ly g post pc lv (.long b :: .long a :: st) I L := fun H locs ls hP hS hl => lv_lrem F.1 F.2.1 d hn (k H locs ls hP hS hl)
theorem rr_irem (F : Fx x ly g cc own ret f lo) {a b : Int32} (d : decode cc pc = .ok (.irem, 1)) (hn : ¬ b = 0) (k : Rn x ly g post (pc + 1) lv (.int (a - a / b * b) :: st) I L) : Rn x ly g post pc lv (.int b :: .int a :: st) I L := fun H locs ls hP hS hl => lv_irem F.1 F.2.1 d hn (k H locs ls hP hS hl)
theorem rr_i2l (F : Fx x ly g cc own ret f lo) {a : Int32} (d : decode cc pc = .ok (.i2l, 1))  (k : Rn x ly g post (pc + 1) lv (.long a.toInt64 :: st) I L) : Rn x ly g post pc lv (.int a :: st) I L := fun H locs ls hP hS hl => lv_i2l F.1 F.2.1 d rfl (k H locs ls hP hS hl)
theorem rr_l2i (F : Fx x ly g cc own ret f lo) {a : Int64} (d : decode cc pc = .ok (.l2i, 1))  (k : Rn x ly g post (pc + 1) lv (.int (zI a.toInt32.toInt) :: st) I L) : Rn x ly g post pc lv (.long a :: st) I L := fun H locs ls hP hS hl => lv_l2i F.1 F.2.1 d (zI_v _).symm (k H locs ls hP hS hl)
theorem rr_i2b (F : Fx x ly g cc own ret f lo) {a : Int32} (d : decode cc pc = .ok (.i2b, 1))  (k : Rn x ly g post (pc + 1) lv (.int (zI a.toInt8.toInt32.toInt) :: st) I L) : Rn x ly g post pc lv (.int a :: st) I L := fun H locs ls hP hS hl => lv_i2b F.1 F.2.1 d (zI_v _).symm (k H locs ls hP hS hl)
theorem rr_lushr (F : Fx x ly g cc own ret f lo) {a : Int64} {b : Int32} (d : decode cc pc = .ok (.lushr, 1))  (k : Rn x ly g post (pc + 1) lv (.long (a.toUInt64 >>> (b.toInt64.toUInt64 &&& Int64.toUInt64 63)).toInt64 :: st) I L) : Rn x ly g post pc lv (.int b :: .long a :: st) I L := fun H locs ls hP hS hl => lv_lushr F.1 F.2.1 d rfl (k H locs ls hP hS hl)
theorem rr_lshr (F : Fx x ly g cc own ret f lo) {a : Int64} {b : Int32} (d : decode cc pc = .ok (.lshr, 1))  (k : Rn x ly g post (pc + 1) lv (.long (a >>> (b.toInt64 &&& 63)) :: st) I L) : Rn x ly g post pc lv (.int b :: .long a :: st) I L := fun H locs ls hP hS hl => lv_lshr F.1 F.2.1 d rfl (k H locs ls hP hS hl)
theorem rr_lcmp (F : Fx x ly g cc own ret f lo) {a b : Int64} (d : decode cc pc = .ok (.lcmp, 1))  (k : Rn x ly g post (pc + 1) lv (.int (lg_cmp a b) :: st) I L) : Rn x ly g post pc lv (.long b :: .long a :: st) I L := fun H locs ls hP hS hl => W.lcmp F.1 F.2.1 d (k H locs ls hP hS hl)
theorem rr_iconst (F : Fx x ly g cc own ret f lo) {n : Int} (d : decode cc pc = .ok (.iconst n, 1))  (k : Rn x ly g post (pc + 1) lv (.int (zI n) :: st) I L) : Rn x ly g post pc lv (st) I L := fun H locs ls hP hS hl => lv_iconst F.1 F.2.1 d rfl (k H locs ls hP hS hl)
theorem rr_bipush (F : Fx x ly g cc own ret f lo) {n : Int} (d : decode cc pc = .ok (.bipush n, 2)) (hv : (Int8.ofInt n).toInt32 = zI n) (k : Rn x ly g post (pc + 2) lv (.int (zI n) :: st) I L) : Rn x ly g post pc lv (st) I L := fun H locs ls hP hS hl => lv_bipush F.1 F.2.1 d hv (k H locs ls hP hS hl)
theorem rr_sipush (F : Fx x ly g cc own ret f lo) {n : Int} (d : decode cc pc = .ok (.sipush n, 3)) (hv : (Int16.ofInt n).toInt32 = zI n) (k : Rn x ly g post (pc + 3) lv (.int (zI n) :: st) I L) : Rn x ly g post pc lv (st) I L := fun H locs ls hP hS hl => lv_sipush F.1 F.2.1 d hv (k H locs ls hP hS hl)
theorem rr_lconst (F : Fx x ly g cc own ret f lo) {n : Fin 2} (d : decode cc pc = .ok (.lconst n, 1))  (k : Rn x ly g post (pc + 1) lv (.long (Int64.ofNat n) :: st) I L) : Rn x ly g post pc lv (st) I L := fun H locs ls hP hS hl => lv_lconst F.1 F.2.1 d rfl (k H locs ls hP hS hl)
theorem rr_ldc2 (F : Fx x ly g cc own ret f lo) {idx : Nat} {v : Int64} (d : decode cc pc = .ok (.ldc2_w idx, 3)) (hw : Cond.constantLong own idx v ∈ UW) (k : Rn x ly g post (pc + 3) lv (.long v :: st) I L) : Rn x ly g post pc lv (st) I L := fun H locs ls hP hS hl => lv_ldc2 F.1 F.2.1 F.2.2.2.1 (F.2.2.2.2.1 _ hw) d (k H locs ls hP hS hl)
theorem rr_dup (F : Fx x ly g cc own ret f lo) {a : Value} (d : decode cc pc = .ok (.dup, 1)) (hc : a.category = 1) (k : Rn x ly g post (pc + 1) lv (a :: a :: st) I L) : Rn x ly g post pc lv (a :: st) I L := fun H locs ls hP hS hl => lv_dup F.1 F.2.1 d hc (k H locs ls hP hS hl)
theorem rr_dup2 (F : Fx x ly g cc own ret f lo) {a b : Value} (d : decode cc pc = .ok (.dup2, 1)) (hc : a.category = 1) (hc2 : b.category = 1) (k : Rn x ly g post (pc + 1) lv (a :: b :: a :: b :: st) I L) : Rn x ly g post pc lv (a :: b :: st) I L := fun H locs ls hP hS hl => lv_dup2_11 F.1 F.2.1 d hc hc2 (k H locs ls hP hS hl)
theorem rr_goto (F : Fx x ly g cc own ret f lo) {off : Int} {tgt : Nat} (d : decode cc pc = .ok (.goto off, 3)) (ht : (pc : Int) + off = (tgt : Int)) (k : Rn x ly g post tgt lv (st) I L) : Rn x ly g post pc lv (st) I L := fun H locs ls hP hS hl => lv_goto F.1 F.2.1 d ht (k H locs ls hP hS hl)
theorem rr_iload (F : Fx x ly g cc own ret f lo) {i : Nat} {a : Int} (d : decode cc pc = .ok (.iload i, 2)) (h : lv[i]? = some (some (.int (zI a)))) (k : Rn x ly g post (pc + 2) lv (.int (zI a) :: st) I L) : Rn x ly g post pc lv (st) I L := fun H locs ls hP hS hl => lv_iload F.1 F.2.1 d (hl.2.2 i _ h) (k H locs ls hP hS hl)
theorem rr_iload_n (F : Fx x ly g cc own ret f lo) {i : Fin 4} {a : Int} (d : decode cc pc = .ok (.iload_n i, 1)) (h : lv[(i : Nat)]? = some (some (.int (zI a)))) (k : Rn x ly g post (pc + 1) lv (.int (zI a) :: st) I L) : Rn x ly g post pc lv (st) I L := fun H locs ls hP hS hl => lv_iload_n F.1 F.2.1 d rfl (hl.2.2 i _ h) (k H locs ls hP hS hl)
theorem rr_lload (F : Fx x ly g cc own ret f lo) {i : Nat} {a : Int64} (d : decode cc pc = .ok (.lload i, 2)) (h : lv[i]? = some (some (.long a))) (k : Rn x ly g post (pc + 2) lv (.long a :: st) I L) : Rn x ly g post pc lv (st) I L := fun H locs ls hP hS hl => lv_lload F.1 F.2.1 d (hl.2.2 i _ h) (k H locs ls hP hS hl)
theorem rr_lload_n (F : Fx x ly g cc own ret f lo) {i : Fin 4} {a : Int64} (d : decode cc pc = .ok (.lload_n i, 1)) (h : lv[(i : Nat)]? = some (some (.long a))) (k : Rn x ly g post (pc + 1) lv (.long a :: st) I L) : Rn x ly g post pc lv (st) I L := fun H locs ls hP hS hl => lv_lload_n F.1 F.2.1 d rfl (hl.2.2 i _ h) (k H locs ls hP hS hl)
theorem rr_aload (F : Fx x ly g cc own ret f lo) {i : Nat} {a : Nat} (d : decode cc pc = .ok (.aload i, 2)) (h : lv[i]? = some (some (.ref a))) (k : Rn x ly g post (pc + 2) lv (.ref a :: st) I L) : Rn x ly g post pc lv (st) I L := fun H locs ls hP hS hl => lv_aload F.1 F.2.1 d (hl.2.2 i _ h) (k H locs ls hP hS hl)
theorem rr_aload_n (F : Fx x ly g cc own ret f lo) {i : Fin 4} {a : Nat} (d : decode cc pc = .ok (.aload_n i, 1)) (h : lv[(i : Nat)]? = some (some (.ref a))) (k : Rn x ly g post (pc + 1) lv (.ref a :: st) I L) : Rn x ly g post pc lv (st) I L := fun H locs ls hP hS hl => lv_aload_n F.1 F.2.1 d rfl (hl.2.2 i _ h) (k H locs ls hP hS hl)
theorem rr_istore (F : Fx x ly g cc own ret f lo) {i : Nat} {a : Int} (d : decode cc pc = .ok (.istore i, 2)) (hi : i < lv.length) (hn : nlg lv i = true) (k : Rn x ly g post (pc + 2) (lv.set i (some (.int (zI a)))) (st) I L) : Rn x ly g post pc lv (.int (zI a) :: st) I L := fun H locs ls hP hS hl => lv_istore F.1 F.2.1 d hl.has (Nat.lt_of_lt_of_le hi hl.1.2) rfl (fun ls' hl' => k H locs ls' hP hS (lvh_st1 hn hl.1.2 hl'))
theorem rr_istore_n (F : Fx x ly g cc own ret f lo) {i : Fin 4} {a : Int} (d : decode cc pc = .ok (.istore_n i, 1)) (hi : (i : Nat) < lv.length) (hn : nlg lv i = true) (k : Rn x ly g post (pc + 1) (lv.set (i : Nat) (some (.int (zI a)))) (st) I L) : Rn x ly g post pc lv (.int (zI a) :: st) I L := fun H locs ls hP hS hl => lv_istore_n F.1 F.2.1 d rfl hl.has (Nat.lt_of_lt_of_le hi hl.1.2) rfl (fun ls' hl' => k H locs ls' hP hS (lvh_st1 hn hl.1.2 hl'))
theorem rr_astore (F : Fx x ly g cc own ret f lo) {i : Nat} {a : Nat} (d : decode cc pc = .ok (.astore i, 2)) (hi : i < lv.length) (hn : nlg lv i = true) (k : Rn x ly g post (pc + 2) (lv.set i (some (.ref a))) (st) I L) : Rn x ly g post pc lv (.ref a :: st) I L := fun H locs ls hP hS hl => lv_astore F.1 F.2.1 d hl.has (Nat.lt_of_lt_of_le hi hl.1.2) rfl (fun ls' hl' => k H locs ls' hP hS (lvh_st1 hn hl.1.2 hl'))
theorem rr_astore_n (F : Fx x ly g cc own ret f lo) {i : Fin 4} {a : Nat} (d : decode cc pc = .ok (.astore_n i, 1)) (hi : (i : Nat) < lv.length) (hn : nlg lv i = true) (k : Rn x ly g post (pc + 1) (lv.set (i : Nat) (some (.ref a))) (st) I L) : Rn x ly g post pc lv (.ref a :: st) I L := fun H locs ls hP hS hl => lv_astore_n F.1 F.2.1 d rfl hl.has (Nat.lt_of_lt_of_le hi hl.1.2) rfl (fun ls' hl' => k H locs ls' hP hS (lvh_st1 hn hl.1.2 hl'))
theorem rr_lstore (F : Fx x ly g cc own ret f lo) {i : Nat} {a : Int64} (d : decode cc pc = .ok (.lstore i, 2)) (hi : i + 1 < lv.length) (hn : nlg lv i = true) (k : Rn x ly g post (pc + 2) ((lv.set i (some (.long a))).set (i + 1) none) (st) I L) : Rn x ly g post pc lv (.long a :: st) I L := fun H locs ls hP hS hl => lv_lstore F.1 F.2.1 d hl.has (Nat.lt_of_lt_of_le hi hl.1.2) rfl (fun ls' hl' => k H locs ls' hP hS (lvh_st2 hn hl.1.2 hl'))
theorem rr_lstore_n (F : Fx x ly g cc own ret f lo) {i : Fin 4} {a : Int64} (d : decode cc pc = .ok (.lstore_n i, 1)) (hi : (i : Nat) + 1 < lv.length) (hn : nlg lv i = true) (k : Rn x ly g post (pc + 1) ((lv.set (i : Nat) (some (.long a))).set ((i : Nat) + 1) none) (st) I L) : Rn x ly g post pc lv (.long a :: st) I L := fun H locs ls hP hS hl => lv_lstore_n F.1 F.2.1 d rfl hl.has (Nat.lt_of_lt_of_le hi hl.1.2) rfl (fun ls' hl' => k H locs ls' hP hS (lvh_st2 hn hl.1.2 hl'))
theorem rr_iinc (F : Fx x ly g cc own ret f lo) {i : Nat} {n a : Int} (d : decode cc pc = .ok (.iinc i n, 3)) (h : lv[i]? = some (some (.int (zI a)))) (hn : nlg lv i = true) (k : Rn x ly g post (pc + 3) (lv.set i (some (.int (zI (a + n))))) (st) I L) : Rn x ly g post pc lv (st) I L := fun H locs ls hP hS hl => by
  have hm := lvP_mem.mpr h
  obtain ⟨q, hq⟩ := List.getElem?_of_mem hm
  exact lv_iinc F.1 F.2.1 d hl.has (k := q) hq (Int32.ofInt_add a n).symm (Nat.lt_of_lt_of_le (List.getElem?_eq_some_iff.mp h).1 hl.1.2) rfl (fun ls' hl' => k H locs ls' hP hS (lvh_st1 hn hl.1.2 hl'))
theorem rr_drop (j : Nat) (k : Rn x ly g post pc (lv.set j none) (st) I L) : Rn x ly g post pc lv (st) I L := fun H locs ls hP hS hl => k H locs ls hP hS ⟨⟨hl.1.1, by simpa using hl.1.2⟩, hl.2.1, fun i v hv => by
  rw [List.getElem?_set] at hv
  split at hv
  · split at hv <;> cases hv
  · exact hl.2.2 i v hv⟩
theorem rr_if_eq (F : Fx x ly g cc own ret f lo) {a off : Int} {tgt : Nat} (d : decode cc pc = .ok (.ifCond .eq off, 3)) (ht : (pc : Int) + off = (tgt : Int)) (ha : rg a) (kt : a = 0 → Rn x ly g post tgt lv (st) I L) (kf : ¬ a = 0 → Rn x ly g post (pc + 3) lv (st) I L) : Rn x ly g post pc lv (.int (zI a) :: st) I L := fun H locs ls hP hS hl => lv_if_eq F.1 F.2.1 d ht (fun q => kt ((zI_eq ha rg0).mp q) H locs ls hP hS hl) (fun q => kf (fun e => q ((zI_eq ha rg0).mpr e)) H locs ls hP hS hl)
theorem rr_if_ne (F : Fx x ly g cc own ret f lo) {a off : Int} {tgt : Nat} (d : decode cc pc = .ok (.ifCond .ne off, 3)) (ht : (pc : Int) + off = (tgt : Int)) (ha : rg a) (kt : ¬ a = 0 → Rn x ly g post tgt lv (st) I L) (kf : a = 0 → Rn x ly g post (pc + 3) lv (st) I L) : Rn x ly g post pc lv (.int (zI a) :: st) I L := fun H locs ls hP hS hl => lv_if_ne F.1 F.2.1 d ht (fun q => kt (fun e => q ((zI_eq ha rg0).mpr e)) H locs ls hP hS hl) (fun q => kf ((zI_eq ha rg0).mp q) H locs ls hP hS hl)
theorem rr_if_lt (F : Fx x ly g cc own ret f lo) {a off : Int} {tgt : Nat} (d : decode cc pc = .ok (.ifCond .lt off, 3)) (ht : (pc : Int) + off = (tgt : Int)) (ha : rg a) (kt : a < 0 → Rn x ly g post tgt lv (st) I L) (kf : 0 ≤ a → Rn x ly g post (pc + 3) lv (st) I L) : Rn x ly g post pc lv (.int (zI a) :: st) I L := fun H locs ls hP hS hl => lv_if_lt F.1 F.2.1 d ht (fun q => kt ((zI_lt ha rg0).mp q) H locs ls hP hS hl) (fun q => kf (Int.not_lt.mp (fun e => q ((zI_lt ha rg0).mpr e))) H locs ls hP hS hl)
theorem rr_if_ge (F : Fx x ly g cc own ret f lo) {a off : Int} {tgt : Nat} (d : decode cc pc = .ok (.ifCond .ge off, 3)) (ht : (pc : Int) + off = (tgt : Int)) (ha : rg a) (kt : 0 ≤ a → Rn x ly g post tgt lv (st) I L) (kf : a < 0 → Rn x ly g post (pc + 3) lv (st) I L) : Rn x ly g post pc lv (.int (zI a) :: st) I L := fun H locs ls hP hS hl => lv_if_ge F.1 F.2.1 d ht (fun q => kt ((zI_le rg0 ha).mp q) H locs ls hP hS hl) (fun q => kf (Int.not_le.mp (fun e => q ((zI_le rg0 ha).mpr e))) H locs ls hP hS hl)
theorem rr_if_gt (F : Fx x ly g cc own ret f lo) {a off : Int} {tgt : Nat} (d : decode cc pc = .ok (.ifCond .gt off, 3)) (ht : (pc : Int) + off = (tgt : Int)) (ha : rg a) (kt : 0 < a → Rn x ly g post tgt lv (st) I L) (kf : a ≤ 0 → Rn x ly g post (pc + 3) lv (st) I L) : Rn x ly g post pc lv (.int (zI a) :: st) I L := fun H locs ls hP hS hl => lv_if_gt F.1 F.2.1 d ht (fun q => kt ((zI_lt rg0 ha).mp q) H locs ls hP hS hl) (fun q => kf (Int.not_lt.mp (fun e => q ((zI_lt rg0 ha).mpr e))) H locs ls hP hS hl)
theorem rr_if_le (F : Fx x ly g cc own ret f lo) {a off : Int} {tgt : Nat} (d : decode cc pc = .ok (.ifCond .le off, 3)) (ht : (pc : Int) + off = (tgt : Int)) (ha : rg a) (kt : a ≤ 0 → Rn x ly g post tgt lv (st) I L) (kf : 0 < a → Rn x ly g post (pc + 3) lv (st) I L) : Rn x ly g post pc lv (.int (zI a) :: st) I L := fun H locs ls hP hS hl => lv_if_le F.1 F.2.1 d ht (fun q => kt ((zI_le ha rg0).mp q) H locs ls hP hS hl) (fun q => kf (Int.not_le.mp (fun e => q ((zI_le ha rg0).mpr e))) H locs ls hP hS hl)
theorem rr_icmp_eq (F : Fx x ly g cc own ret f lo) {a b off : Int} {tgt : Nat} (d : decode cc pc = .ok (.if_icmp .eq off, 3)) (ht : (pc : Int) + off = (tgt : Int)) (ha : rg a) (hb : rg b) (kt : a = b → Rn x ly g post tgt lv (st) I L) (kf : ¬ a = b → Rn x ly g post (pc + 3) lv (st) I L) : Rn x ly g post pc lv (.int (zI b) :: .int (zI a) :: st) I L := fun H locs ls hP hS hl => lv_icmp_eq F.1 F.2.1 d ht (fun q => kt ((zI_eq ha hb).mp q) H locs ls hP hS hl) (fun q => kf (fun e => q ((zI_eq ha hb).mpr e)) H locs ls hP hS hl)
theorem rr_icmp_ne (F : Fx x ly g cc own ret f lo) {a b off : Int} {tgt : Nat} (d : decode cc pc = .ok (.if_icmp .ne off, 3)) (ht : (pc : Int) + off = (tgt : Int)) (ha : rg a) (hb : rg b) (kt : ¬ a = b → Rn x ly g post tgt lv (st) I L) (kf : a = b → Rn x ly g post (pc + 3) lv (st) I L) : Rn x ly g post pc lv (.int (zI b) :: .int (zI a) :: st) I L := fun H locs ls hP hS hl => lv_icmp_ne F.1 F.2.1 d ht (fun q => kt (fun e => q ((zI_eq ha hb).mpr e)) H locs ls hP hS hl) (fun q => kf ((zI_eq ha hb).mp q) H locs ls hP hS hl)
theorem rr_icmp_lt (F : Fx x ly g cc own ret f lo) {a b off : Int} {tgt : Nat} (d : decode cc pc = .ok (.if_icmp .lt off, 3)) (ht : (pc : Int) + off = (tgt : Int)) (ha : rg a) (hb : rg b) (kt : a < b → Rn x ly g post tgt lv (st) I L) (kf : b ≤ a → Rn x ly g post (pc + 3) lv (st) I L) : Rn x ly g post pc lv (.int (zI b) :: .int (zI a) :: st) I L := fun H locs ls hP hS hl => lv_icmp_lt F.1 F.2.1 d ht (fun q => kt ((zI_lt ha hb).mp q) H locs ls hP hS hl) (fun q => kf (Int.not_lt.mp (fun e => q ((zI_lt ha hb).mpr e))) H locs ls hP hS hl)
theorem rr_icmp_ge (F : Fx x ly g cc own ret f lo) {a b off : Int} {tgt : Nat} (d : decode cc pc = .ok (.if_icmp .ge off, 3)) (ht : (pc : Int) + off = (tgt : Int)) (ha : rg a) (hb : rg b) (kt : b ≤ a → Rn x ly g post tgt lv (st) I L) (kf : a < b → Rn x ly g post (pc + 3) lv (st) I L) : Rn x ly g post pc lv (.int (zI b) :: .int (zI a) :: st) I L := fun H locs ls hP hS hl => lv_icmp_ge F.1 F.2.1 d ht (fun q => kt ((zI_le hb ha).mp q) H locs ls hP hS hl) (fun q => kf (Int.not_le.mp (fun e => q ((zI_le hb ha).mpr e))) H locs ls hP hS hl)
theorem rr_icmp_gt (F : Fx x ly g cc own ret f lo) {a b off : Int} {tgt : Nat} (d : decode cc pc = .ok (.if_icmp .gt off, 3)) (ht : (pc : Int) + off = (tgt : Int)) (ha : rg a) (hb : rg b) (kt : b < a → Rn x ly g post tgt lv (st) I L) (kf : a ≤ b → Rn x ly g post (pc + 3) lv (st) I L) : Rn x ly g post pc lv (.int (zI b) :: .int (zI a) :: st) I L := fun H locs ls hP hS hl => lv_icmp_gt F.1 F.2.1 d ht (fun q => kt ((zI_lt hb ha).mp q) H locs ls hP hS hl) (fun q => kf (Int.not_lt.mp (fun e => q ((zI_lt hb ha).mpr e))) H locs ls hP hS hl)
theorem rr_icmp_le (F : Fx x ly g cc own ret f lo) {a b off : Int} {tgt : Nat} (d : decode cc pc = .ok (.if_icmp .le off, 3)) (ht : (pc : Int) + off = (tgt : Int)) (ha : rg a) (hb : rg b) (kt : a ≤ b → Rn x ly g post tgt lv (st) I L) (kf : b < a → Rn x ly g post (pc + 3) lv (st) I L) : Rn x ly g post pc lv (.int (zI b) :: .int (zI a) :: st) I L := fun H locs ls hP hS hl => lv_icmp_le F.1 F.2.1 d ht (fun q => kt ((zI_le ha hb).mp q) H locs ls hP hS hl) (fun q => kf (Int.not_le.mp (fun e => q ((zI_le ha hb).mpr e))) H locs ls hP hS hl)
theorem lgc_eq (a b : Int64) : lg_cmp a b = 0 ↔ a = b := by
  unfold lg_cmp
  by_cases h1 : a > b
  · rw [if_pos h1]
    exact ⟨fun q => absurd q (by decide), fun q => by subst q; exact absurd h1 Int64.lt_irrefl⟩
  · rw [if_neg h1]
    by_cases h2 : a = b
    · rw [if_pos h2]; exact ⟨fun _ => h2, fun _ => rfl⟩
    · rw [if_neg h2]; exact ⟨fun q => absurd q (by decide), fun q => absurd q h2⟩
theorem rr_lif_eq (F : Fx x ly g cc own ret f lo) {a b : Int64} {off : Int} {tgt : Nat} (d : decode cc pc = .ok (.ifCond .eq off, 3)) (ht : (pc : Int) + off = (tgt : Int)) (kt : a = b → Rn x ly g post tgt lv (st) I L) (kf : ¬ a = b → Rn x ly g post (pc + 3) lv (st) I L) : Rn x ly g post pc lv (.int (lg_cmp a b) :: st) I L := fun H locs ls hP hS hl => lv_if_eq F.1 F.2.1 d ht (fun q => kt ((lgc_eq a b).mp q) H locs ls hP hS hl) (fun q => kf (fun e => q ((lgc_eq a b).mpr e)) H locs ls hP hS hl)
theorem rr_lif_ne (F : Fx x ly g cc own ret f lo) {a b : Int64} {off : Int} {tgt : Nat} (d : decode cc pc = .ok (.ifCond .ne off, 3)) (ht : (pc : Int) + off = (tgt : Int)) (kt : ¬ a = b → Rn x ly g post tgt lv (st) I L) (kf : a = b → Rn x ly g post (pc + 3) lv (st) I L) : Rn x ly g post pc lv (.int (lg_cmp a b) :: st) I L := fun H locs ls hP hS hl => lv_if_ne F.1 F.2.1 d ht (fun q => kt (fun e => q ((lgc_eq a b).mpr e)) H locs ls hP hS hl) (fun q => kf ((lgc_eq a b).mp q) H locs ls hP hS hl)
theorem rr_top {a b : Value} (h : a = b) (k : Rn x ly g post pc lv (b :: st) I L) : Rn x ly g post pc lv (a :: st) I L := h ▸ k
theorem rr_topi {a b : Int} (h : a = b) (k : Rn x ly g post pc lv (.int (zI b) :: st) I L) : Rn x ly g post pc lv (.int (zI a) :: st) I L := h ▸ k
theorem rr_topv {a : Int32} (k : Rn x ly g post pc lv (.int (zI a.toInt) :: st) I L) : Rn x ly g post pc lv (.int a :: st) I L := by rw [zI_v] at k; exact k
theorem rr_get (F : Fx x ly g cc own ret f lo) {k idx ci N : Nat} {C : String} {T : u_T} {fs : List Value} {v : Value} (hk : k < ly.length) (hm : mkE g (ly.getD k (99, 0)) k (I k) (L k) = .inr (ci, fs)) (hc : vwCl[ci]? = some (C, T, N)) (hw : ∀ w ∈ u_ws C T N, w ∈ UW) (j : Nat) (hj : j < N) (hl : Cond.fieldLink own idx (T j).1 (T j).2.1 (T j).2.2.1 ∈ UW) (hv : fs[j]? = some v) (d : decode cc pc = .ok (.getfield idx, 3)) (kk : Rn x ly g post (pc + 3) lv (v :: st) I L) : Rn x ly g post pc lv (.ref (g.2.1 k) :: st) I L := fun H locs ls hP hS h => va_get F.1 F.2.1 (F.2.2.2.2.1) hw F.2.2.2.1 F.2.2.2.2.2.1.1 hP k (by rw [wl_get g I L hk, hm]) hc j hj (F.2.2.2.2.1 _ hl) (fun _ q => q) hv d (kk H locs ls hP hS h)
theorem rr_put (F : Fx x ly g cc own ret f lo) {k idx ci N : Nat} {C : String} {T : u_T} {fs : List Value} {v : Value} {I' : IM} {L' : LM} {ty : FieldType} (ty0 : Nat → FieldType) (hk : k < ly.length) (hm : mkE g (ly.getD k (99, 0)) k (I k) (L k) = .inr (ci, fs)) (hc : vwCl[ci]? = some (C, T, N)) (hw : ∀ w ∈ u_ws C T N, w ∈ UW) (hty : ∀ k, k < N → parseFieldDescriptor (T k).2.2.1 = some (ty0 k)) (hnm : ∀ a, a < N → ∀ b, b < N → a ≠ b → (T a).2.1 ≠ (T b).2.1) (j : Nat) (hj : j < N) (hl : Cond.fieldLink own idx (T j).1 (T j).2.1 (T j).2.2.1 ∈ UW) (hfin : (T j).2.2.2 = false) (hd : parseFieldDescriptor (T j).2.2.1 = some ty) (hn : narrow ty v = v) (hfit : fits ty v = true) (hlen : j < fs.length) (hm' : mkE g (ly.getD k (99, 0)) k (I' k) (L' k) = .inr (ci, fs.set j v)) (hI : ∀ q, q ≠ k → I' q = I q) (hL : ∀ q, q ≠ k → L' q = L q) (d : decode cc pc = .ok (.putfield idx, 3)) (kk : Rn x ly g post (pc + 3) lv (st) I' L') : Rn x ly g post pc lv (v :: .ref (g.2.1 k) :: st) I L := fun H locs ls hP hS h =>
  va_put F.1 F.2.1 (F.2.2.2.2.1) hw ty0 hty hnm F.2.2.2.1 F.2.2.2.2.2.1.1 hP (wl_D F.2.2.2.2.2.1.2.1 I L) hS k (by rw [wl_get g I L hk, hm]) hc j hj (F.2.2.2.2.1 _ hl) (fun _ q => q) hfin hd hn hfit hlen d (fun H1 locs1 hP1 _ hS1 => kk H1 locs1 ls (by rw [← hm', wl_set g hI hL] at hP1; exact hP1) hS1 h)
theorem mk_Book {k : Nat} (hk : kd ly k = 0) (f : Nat → Int) (h : Nat → Int64) : mkE g (ly.getD k (99, 0)) k f h = .inr (0, [.ref (g.2.1 (k + 1)), .int (zI (f 1)), .int (zI (f 2)), .int (zI (f 3)), .int (zI (f 4))]) := by
  have e : (ly.getD k (99, 0)).1 = 0 := hk
  simp only [mkE, e]
theorem rg_Book_tokens (F : Fx x ly g cc own ret f lo) {k idx : Nat} (hk : kd ly k = 0) (hl : Cond.fieldLink own idx "BorrowedPages$Book" "tokens" "[J" ∈ UW) (d : decode cc pc = .ok (.getfield idx, 3)) (kk : Rn x ly g post (pc + 3) lv (.ref (g.2.1 (k + 1)) :: st) I L) : Rn x ly g post pc lv (.ref (g.2.1 k) :: st) I L := rr_get F (kd_lt hk (by decide)) (mk_Book hk _ _) rfl inU0 0 (by decide) hl rfl d kk
theorem rg_Book_size (F : Fx x ly g cc own ret f lo) {k idx : Nat} (hk : kd ly k = 0) (hl : Cond.fieldLink own idx "BorrowedPages$Book" "size" "I" ∈ UW) (d : decode cc pc = .ok (.getfield idx, 3)) (kk : Rn x ly g post (pc + 3) lv (.int (zI (I k 1)) :: st) I L) : Rn x ly g post pc lv (.ref (g.2.1 k) :: st) I L := rr_get F (kd_lt hk (by decide)) (mk_Book hk _ _) rfl inU0 1 (by decide) hl rfl d kk
theorem rp_Book_size (F : Fx x ly g cc own ret f lo) {k idx : Nat} {a : Int} (hk : kd ly k = 0) (hl : Cond.fieldLink own idx "BorrowedPages$Book" "size" "I" ∈ UW) (d : decode cc pc = .ok (.putfield idx, 3)) (kk : Rn x ly g post (pc + 3) lv (st) (up2 I k 1 a) L) : Rn x ly g post pc lv (.int (zI a) :: .ref (g.2.1 k) :: st) I L := rr_put (ty := .int) F tyX0 (kd_lt hk (by decide)) (mk_Book hk _ _) rfl inU0 tyX0_ok nmX0 1 (by decide) hl rfl (by decide +kernel) rfl rfl (Nat.le_of_ble_eq_true rfl) ((mk_Book hk _ _).trans (by simp [up2])) (fun q h => up2_cell I _ _ h) (fun _ _ => rfl) d kk
theorem rg_Book_language (F : Fx x ly g cc own ret f lo) {k idx : Nat} (hk : kd ly k = 0) (hl : Cond.fieldLink own idx "BorrowedPages$Book" "language" "I" ∈ UW) (d : decode cc pc = .ok (.getfield idx, 3)) (kk : Rn x ly g post (pc + 3) lv (.int (zI (I k 2)) :: st) I L) : Rn x ly g post pc lv (.ref (g.2.1 k) :: st) I L := rr_get F (kd_lt hk (by decide)) (mk_Book hk _ _) rfl inU0 2 (by decide) hl rfl d kk
theorem rp_Book_language (F : Fx x ly g cc own ret f lo) {k idx : Nat} {a : Int} (hk : kd ly k = 0) (hl : Cond.fieldLink own idx "BorrowedPages$Book" "language" "I" ∈ UW) (d : decode cc pc = .ok (.putfield idx, 3)) (kk : Rn x ly g post (pc + 3) lv (st) (up2 I k 2 a) L) : Rn x ly g post pc lv (.int (zI a) :: .ref (g.2.1 k) :: st) I L := rr_put (ty := .int) F tyX0 (kd_lt hk (by decide)) (mk_Book hk _ _) rfl inU0 tyX0_ok nmX0 2 (by decide) hl rfl (by decide +kernel) rfl rfl (Nat.le_of_ble_eq_true rfl) ((mk_Book hk _ _).trans (by simp [up2])) (fun q h => up2_cell I _ _ h) (fun _ _ => rfl) d kk
theorem rg_Book_day (F : Fx x ly g cc own ret f lo) {k idx : Nat} (hk : kd ly k = 0) (hl : Cond.fieldLink own idx "BorrowedPages$Book" "day" "I" ∈ UW) (d : decode cc pc = .ok (.getfield idx, 3)) (kk : Rn x ly g post (pc + 3) lv (.int (zI (I k 3)) :: st) I L) : Rn x ly g post pc lv (.ref (g.2.1 k) :: st) I L := rr_get F (kd_lt hk (by decide)) (mk_Book hk _ _) rfl inU0 3 (by decide) hl rfl d kk
theorem rp_Book_day (F : Fx x ly g cc own ret f lo) {k idx : Nat} {a : Int} (hk : kd ly k = 0) (hl : Cond.fieldLink own idx "BorrowedPages$Book" "day" "I" ∈ UW) (d : decode cc pc = .ok (.putfield idx, 3)) (kk : Rn x ly g post (pc + 3) lv (st) (up2 I k 3 a) L) : Rn x ly g post pc lv (.int (zI a) :: .ref (g.2.1 k) :: st) I L := rr_put (ty := .int) F tyX0 (kd_lt hk (by decide)) (mk_Book hk _ _) rfl inU0 tyX0_ok nmX0 3 (by decide) hl rfl (by decide +kernel) rfl rfl (Nat.le_of_ble_eq_true rfl) ((mk_Book hk _ _).trans (by simp [up2])) (fun q h => up2_cell I _ _ h) (fun _ _ => rfl) d kk
theorem rg_Book_held (F : Fx x ly g cc own ret f lo) {k idx : Nat} (hk : kd ly k = 0) (hl : Cond.fieldLink own idx "BorrowedPages$Book" "held" "Z" ∈ UW) (d : decode cc pc = .ok (.getfield idx, 3)) (kk : Rn x ly g post (pc + 3) lv (.int (zI (I k 4)) :: st) I L) : Rn x ly g post pc lv (.ref (g.2.1 k) :: st) I L := rr_get F (kd_lt hk (by decide)) (mk_Book hk _ _) rfl inU0 4 (by decide) hl rfl d kk
theorem rp_Book_held (F : Fx x ly g cc own ret f lo) {k idx : Nat} {a : Int} (hk : kd ly k = 0) (hl : Cond.fieldLink own idx "BorrowedPages$Book" "held" "Z" ∈ UW) (hn : narrow .boolean (.int (zI a)) = .int (zI a)) (hft : fits .boolean (.int (zI a)) = true) (d : decode cc pc = .ok (.putfield idx, 3)) (kk : Rn x ly g post (pc + 3) lv (st) (up2 I k 4 a) L) : Rn x ly g post pc lv (.int (zI a) :: .ref (g.2.1 k) :: st) I L := rr_put (ty := .boolean) F tyX0 (kd_lt hk (by decide)) (mk_Book hk _ _) rfl inU0 tyX0_ok nmX0 4 (by decide) hl rfl (by decide +kernel) hn hft (Nat.le_of_ble_eq_true rfl) ((mk_Book hk _ _).trans (by simp [up2])) (fun q h => up2_cell I _ _ h) (fun _ _ => rfl) d kk
theorem mk_Comparison {k : Nat} (hk : kd ly k = 1) (f : Nat → Int) (h : Nat → Int64) : mkE g (ly.getD k (99, 0)) k f h = .inr (1, [.ref (g.2.1 (k + 1)), .int (zI (f 1)), .int (zI (f 2)), .int (zI (f 3)), .ref (g.2.1 (k + 4)), .ref (g.2.1 (k + 10)), .ref (g.2.1 (k + 16)), .ref (g.2.1 (k + 2)), .ref (g.2.1 (k + 3))]) := by
  have e : (ly.getD k (99, 0)).1 = 1 := hk
  simp only [mkE, e]
theorem rg_Comparison_chainRuns (F : Fx x ly g cc own ret f lo) {k idx : Nat} (hk : kd ly k = 1) (hl : Cond.fieldLink own idx "BorrowedPages$Comparison" "chainRuns" "[I" ∈ UW) (d : decode cc pc = .ok (.getfield idx, 3)) (kk : Rn x ly g post (pc + 3) lv (.ref (g.2.1 (k + 1)) :: st) I L) : Rn x ly g post pc lv (.ref (g.2.1 k) :: st) I L := rr_get F (kd_lt hk (by decide)) (mk_Comparison hk _ _) rfl inU1 0 (by decide) hl rfl d kk
theorem rg_Comparison_chainLength (F : Fx x ly g cc own ret f lo) {k idx : Nat} (hk : kd ly k = 1) (hl : Cond.fieldLink own idx "BorrowedPages$Comparison" "chainLength" "I" ∈ UW) (d : decode cc pc = .ok (.getfield idx, 3)) (kk : Rn x ly g post (pc + 3) lv (.int (zI (I k 1)) :: st) I L) : Rn x ly g post pc lv (.ref (g.2.1 k) :: st) I L := rr_get F (kd_lt hk (by decide)) (mk_Comparison hk _ _) rfl inU1 1 (by decide) hl rfl d kk
theorem rp_Comparison_chainLength (F : Fx x ly g cc own ret f lo) {k idx : Nat} {a : Int} (hk : kd ly k = 1) (hl : Cond.fieldLink own idx "BorrowedPages$Comparison" "chainLength" "I" ∈ UW) (d : decode cc pc = .ok (.putfield idx, 3)) (kk : Rn x ly g post (pc + 3) lv (st) (up2 I k 1 a) L) : Rn x ly g post pc lv (.int (zI a) :: .ref (g.2.1 k) :: st) I L := rr_put (ty := .int) F tyX1 (kd_lt hk (by decide)) (mk_Comparison hk _ _) rfl inU1 tyX1_ok nmX1 1 (by decide) hl rfl (by decide +kernel) rfl rfl (Nat.le_of_ble_eq_true rfl) ((mk_Comparison hk _ _).trans (by simp [up2])) (fun q h => up2_cell I _ _ h) (fun _ _ => rfl) d kk
theorem rg_Comparison_chainTokens (F : Fx x ly g cc own ret f lo) {k idx : Nat} (hk : kd ly k = 1) (hl : Cond.fieldLink own idx "BorrowedPages$Comparison" "chainTokens" "I" ∈ UW) (d : decode cc pc = .ok (.getfield idx, 3)) (kk : Rn x ly g post (pc + 3) lv (.int (zI (I k 2)) :: st) I L) : Rn x ly g post pc lv (.ref (g.2.1 k) :: st) I L := rr_get F (kd_lt hk (by decide)) (mk_Comparison hk _ _) rfl inU1 2 (by decide) hl rfl d kk
theorem rp_Comparison_chainTokens (F : Fx x ly g cc own ret f lo) {k idx : Nat} {a : Int} (hk : kd ly k = 1) (hl : Cond.fieldLink own idx "BorrowedPages$Comparison" "chainTokens" "I" ∈ UW) (d : decode cc pc = .ok (.putfield idx, 3)) (kk : Rn x ly g post (pc + 3) lv (st) (up2 I k 2 a) L) : Rn x ly g post pc lv (.int (zI a) :: .ref (g.2.1 k) :: st) I L := rr_put (ty := .int) F tyX1 (kd_lt hk (by decide)) (mk_Comparison hk _ _) rfl inU1 tyX1_ok nmX1 2 (by decide) hl rfl (by decide +kernel) rfl rfl (Nat.le_of_ble_eq_true rfl) ((mk_Comparison hk _ _).trans (by simp [up2])) (fun q h => up2_cell I _ _ h) (fun _ _ => rfl) d kk
theorem rg_Comparison_runCount (F : Fx x ly g cc own ret f lo) {k idx : Nat} (hk : kd ly k = 1) (hl : Cond.fieldLink own idx "BorrowedPages$Comparison" "runCount" "I" ∈ UW) (d : decode cc pc = .ok (.getfield idx, 3)) (kk : Rn x ly g post (pc + 3) lv (.int (zI (I k 3)) :: st) I L) : Rn x ly g post pc lv (.ref (g.2.1 k) :: st) I L := rr_get F (kd_lt hk (by decide)) (mk_Comparison hk _ _) rfl inU1 3 (by decide) hl rfl d kk
theorem rp_Comparison_runCount (F : Fx x ly g cc own ret f lo) {k idx : Nat} {a : Int} (hk : kd ly k = 1) (hl : Cond.fieldLink own idx "BorrowedPages$Comparison" "runCount" "I" ∈ UW) (d : decode cc pc = .ok (.putfield idx, 3)) (kk : Rn x ly g post (pc + 3) lv (st) (up2 I k 3 a) L) : Rn x ly g post pc lv (.int (zI a) :: .ref (g.2.1 k) :: st) I L := rr_put (ty := .int) F tyX1 (kd_lt hk (by decide)) (mk_Comparison hk _ _) rfl inU1 tyX1_ok nmX1 3 (by decide) hl rfl (by decide +kernel) rfl rfl (Nat.le_of_ble_eq_true rfl) ((mk_Comparison hk _ _).trans (by simp [up2])) (fun q h => up2_cell I _ _ h) (fun _ _ => rfl) d kk
theorem rg_Comparison_left (F : Fx x ly g cc own ret f lo) {k idx : Nat} (hk : kd ly k = 1) (hl : Cond.fieldLink own idx "BorrowedPages$Comparison" "left" "LBorrowedPages$Page;" ∈ UW) (d : decode cc pc = .ok (.getfield idx, 3)) (kk : Rn x ly g post (pc + 3) lv (.ref (g.2.1 (k + 4)) :: st) I L) : Rn x ly g post pc lv (.ref (g.2.1 k) :: st) I L := rr_get F (kd_lt hk (by decide)) (mk_Comparison hk _ _) rfl inU1 4 (by decide) hl rfl d kk
theorem rg_Comparison_right (F : Fx x ly g cc own ret f lo) {k idx : Nat} (hk : kd ly k = 1) (hl : Cond.fieldLink own idx "BorrowedPages$Comparison" "right" "LBorrowedPages$Page;" ∈ UW) (d : decode cc pc = .ok (.getfield idx, 3)) (kk : Rn x ly g post (pc + 3) lv (.ref (g.2.1 (k + 10)) :: st) I L) : Rn x ly g post pc lv (.ref (g.2.1 k) :: st) I L := rr_get F (kd_lt hk (by decide)) (mk_Comparison hk _ _) rfl inU1 5 (by decide) hl rfl d kk
theorem rg_Comparison_third (F : Fx x ly g cc own ret f lo) {k idx : Nat} (hk : kd ly k = 1) (hl : Cond.fieldLink own idx "BorrowedPages$Comparison" "third" "LBorrowedPages$Page;" ∈ UW) (d : decode cc pc = .ok (.getfield idx, 3)) (kk : Rn x ly g post (pc + 3) lv (.ref (g.2.1 (k + 16)) :: st) I L) : Rn x ly g post pc lv (.ref (g.2.1 k) :: st) I L := rr_get F (kd_lt hk (by decide)) (mk_Comparison hk _ _) rfl inU1 6 (by decide) hl rfl d kk
theorem rg_Comparison_runLengths (F : Fx x ly g cc own ret f lo) {k idx : Nat} (hk : kd ly k = 1) (hl : Cond.fieldLink own idx "BorrowedPages$Comparison" "runLengths" "[I" ∈ UW) (d : decode cc pc = .ok (.getfield idx, 3)) (kk : Rn x ly g post (pc + 3) lv (.ref (g.2.1 (k + 2)) :: st) I L) : Rn x ly g post pc lv (.ref (g.2.1 k) :: st) I L := rr_get F (kd_lt hk (by decide)) (mk_Comparison hk _ _) rfl inU1 7 (by decide) hl rfl d kk
theorem rg_Comparison_best (F : Fx x ly g cc own ret f lo) {k idx : Nat} (hk : kd ly k = 1) (hl : Cond.fieldLink own idx "BorrowedPages$Comparison" "best" "[I" ∈ UW) (d : decode cc pc = .ok (.getfield idx, 3)) (kk : Rn x ly g post (pc + 3) lv (.ref (g.2.1 (k + 3)) :: st) I L) : Rn x ly g post pc lv (.ref (g.2.1 k) :: st) I L := rr_get F (kd_lt hk (by decide)) (mk_Comparison hk _ _) rfl inU1 8 (by decide) hl rfl d kk
theorem mk_Groups {k : Nat} (hk : kd ly k = 2) (f : Nat → Int) (h : Nat → Int64) : mkE g (ly.getD k (99, 0)) k f h = .inr (2, [.ref (g.2.1 (k + 1)), .int (zI (f 1))]) := by
  have e : (ly.getD k (99, 0)).1 = 2 := hk
  simp only [mkE, e]
theorem rg_Groups_leaders (F : Fx x ly g cc own ret f lo) {k idx : Nat} (hk : kd ly k = 2) (hl : Cond.fieldLink own idx "BorrowedPages$Groups" "leaders" "[I" ∈ UW) (d : decode cc pc = .ok (.getfield idx, 3)) (kk : Rn x ly g post (pc + 3) lv (.ref (g.2.1 (k + 1)) :: st) I L) : Rn x ly g post pc lv (.ref (g.2.1 k) :: st) I L := rr_get F (kd_lt hk (by decide)) (mk_Groups hk _ _) rfl inU2 0 (by decide) hl rfl d kk
theorem rg_Groups_links (F : Fx x ly g cc own ret f lo) {k idx : Nat} (hk : kd ly k = 2) (hl : Cond.fieldLink own idx "BorrowedPages$Groups" "links" "I" ∈ UW) (d : decode cc pc = .ok (.getfield idx, 3)) (kk : Rn x ly g post (pc + 3) lv (.int (zI (I k 1)) :: st) I L) : Rn x ly g post pc lv (.ref (g.2.1 k) :: st) I L := rr_get F (kd_lt hk (by decide)) (mk_Groups hk _ _) rfl inU2 1 (by decide) hl rfl d kk
theorem rp_Groups_links (F : Fx x ly g cc own ret f lo) {k idx : Nat} {a : Int} (hk : kd ly k = 2) (hl : Cond.fieldLink own idx "BorrowedPages$Groups" "links" "I" ∈ UW) (d : decode cc pc = .ok (.putfield idx, 3)) (kk : Rn x ly g post (pc + 3) lv (st) (up2 I k 1 a) L) : Rn x ly g post pc lv (.int (zI a) :: .ref (g.2.1 k) :: st) I L := rr_put (ty := .int) F tyX2 (kd_lt hk (by decide)) (mk_Groups hk _ _) rfl inU2 tyX2_ok nmX2 1 (by decide) hl rfl (by decide +kernel) rfl rfl (Nat.le_of_ble_eq_true rfl) ((mk_Groups hk _ _).trans (by simp [up2])) (fun q h => up2_cell I _ _ h) (fun _ _ => rfl) d kk
theorem mk_Page {k : Nat} (hk : kd ly k = 3) (f : Nat → Int) (h : Nat → Int64) : mkE g (ly.getD k (99, 0)) k f h = .inr (3, [.ref (g.2.1 (k + 1)), .ref (g.2.1 (k + 2)), .ref (g.2.1 (k + 3)), .ref (g.2.1 (k + 4)), .ref (g.2.1 (k + 5)), .int (zI (f 5)), .int (zI (f 6)), .int (zI (f 7))]) := by
  have e : (ly.getD k (99, 0)).1 = 3 := hk
  simp only [mkE, e]
theorem rg_Page_tokens (F : Fx x ly g cc own ret f lo) {k idx : Nat} (hk : kd ly k = 3) (hl : Cond.fieldLink own idx "BorrowedPages$Page" "tokens" "[J" ∈ UW) (d : decode cc pc = .ok (.getfield idx, 3)) (kk : Rn x ly g post (pc + 3) lv (.ref (g.2.1 (k + 1)) :: st) I L) : Rn x ly g post pc lv (.ref (g.2.1 k) :: st) I L := rr_get F (kd_lt hk (by decide)) (mk_Page hk _ _) rfl inU3 0 (by decide) hl rfl d kk
theorem rg_Page_hashes (F : Fx x ly g cc own ret f lo) {k idx : Nat} (hk : kd ly k = 3) (hl : Cond.fieldLink own idx "BorrowedPages$Page" "hashes" "[I" ∈ UW) (d : decode cc pc = .ok (.getfield idx, 3)) (kk : Rn x ly g post (pc + 3) lv (.ref (g.2.1 (k + 2)) :: st) I L) : Rn x ly g post pc lv (.ref (g.2.1 k) :: st) I L := rr_get F (kd_lt hk (by decide)) (mk_Page hk _ _) rfl inU3 1 (by decide) hl rfl d kk
theorem rg_Page_isMark (F : Fx x ly g cc own ret f lo) {k idx : Nat} (hk : kd ly k = 3) (hl : Cond.fieldLink own idx "BorrowedPages$Page" "isMark" "[Z" ∈ UW) (d : decode cc pc = .ok (.getfield idx, 3)) (kk : Rn x ly g post (pc + 3) lv (.ref (g.2.1 (k + 3)) :: st) I L) : Rn x ly g post pc lv (.ref (g.2.1 k) :: st) I L := rr_get F (kd_lt hk (by decide)) (mk_Page hk _ _) rfl inU3 2 (by decide) hl rfl d kk
theorem rg_Page_isAside (F : Fx x ly g cc own ret f lo) {k idx : Nat} (hk : kd ly k = 3) (hl : Cond.fieldLink own idx "BorrowedPages$Page" "isAside" "[Z" ∈ UW) (d : decode cc pc = .ok (.getfield idx, 3)) (kk : Rn x ly g post (pc + 3) lv (.ref (g.2.1 (k + 4)) :: st) I L) : Rn x ly g post pc lv (.ref (g.2.1 k) :: st) I L := rr_get F (kd_lt hk (by decide)) (mk_Page hk _ _) rfl inU3 3 (by decide) hl rfl d kk
theorem rg_Page_sharedLengths (F : Fx x ly g cc own ret f lo) {k idx : Nat} (hk : kd ly k = 3) (hl : Cond.fieldLink own idx "BorrowedPages$Page" "sharedLengths" "[I" ∈ UW) (d : decode cc pc = .ok (.getfield idx, 3)) (kk : Rn x ly g post (pc + 3) lv (.ref (g.2.1 (k + 5)) :: st) I L) : Rn x ly g post pc lv (.ref (g.2.1 k) :: st) I L := rr_get F (kd_lt hk (by decide)) (mk_Page hk _ _) rfl inU3 4 (by decide) hl rfl d kk
theorem rg_Page_size (F : Fx x ly g cc own ret f lo) {k idx : Nat} (hk : kd ly k = 3) (hl : Cond.fieldLink own idx "BorrowedPages$Page" "size" "I" ∈ UW) (d : decode cc pc = .ok (.getfield idx, 3)) (kk : Rn x ly g post (pc + 3) lv (.int (zI (I k 5)) :: st) I L) : Rn x ly g post pc lv (.ref (g.2.1 k) :: st) I L := rr_get F (kd_lt hk (by decide)) (mk_Page hk _ _) rfl inU3 5 (by decide) hl rfl d kk
theorem rp_Page_size (F : Fx x ly g cc own ret f lo) {k idx : Nat} {a : Int} (hk : kd ly k = 3) (hl : Cond.fieldLink own idx "BorrowedPages$Page" "size" "I" ∈ UW) (d : decode cc pc = .ok (.putfield idx, 3)) (kk : Rn x ly g post (pc + 3) lv (st) (up2 I k 5 a) L) : Rn x ly g post pc lv (.int (zI a) :: .ref (g.2.1 k) :: st) I L := rr_put (ty := .int) F tyX3 (kd_lt hk (by decide)) (mk_Page hk _ _) rfl inU3 tyX3_ok nmX3 5 (by decide) hl rfl (by decide +kernel) rfl rfl (Nat.le_of_ble_eq_true rfl) ((mk_Page hk _ _).trans (by simp [up2])) (fun q h => up2_cell I _ _ h) (fun _ _ => rfl) d kk
theorem rg_Page_language (F : Fx x ly g cc own ret f lo) {k idx : Nat} (hk : kd ly k = 3) (hl : Cond.fieldLink own idx "BorrowedPages$Page" "language" "I" ∈ UW) (d : decode cc pc = .ok (.getfield idx, 3)) (kk : Rn x ly g post (pc + 3) lv (.int (zI (I k 6)) :: st) I L) : Rn x ly g post pc lv (.ref (g.2.1 k) :: st) I L := rr_get F (kd_lt hk (by decide)) (mk_Page hk _ _) rfl inU3 6 (by decide) hl rfl d kk
theorem rp_Page_language (F : Fx x ly g cc own ret f lo) {k idx : Nat} {a : Int} (hk : kd ly k = 3) (hl : Cond.fieldLink own idx "BorrowedPages$Page" "language" "I" ∈ UW) (d : decode cc pc = .ok (.putfield idx, 3)) (kk : Rn x ly g post (pc + 3) lv (st) (up2 I k 6 a) L) : Rn x ly g post pc lv (.int (zI a) :: .ref (g.2.1 k) :: st) I L := rr_put (ty := .int) F tyX3 (kd_lt hk (by decide)) (mk_Page hk _ _) rfl inU3 tyX3_ok nmX3 6 (by decide) hl rfl (by decide +kernel) rfl rfl (Nat.le_of_ble_eq_true rfl) ((mk_Page hk _ _).trans (by simp [up2])) (fun q h => up2_cell I _ _ h) (fun _ _ => rfl) d kk
theorem rg_Page_grams (F : Fx x ly g cc own ret f lo) {k idx : Nat} (hk : kd ly k = 3) (hl : Cond.fieldLink own idx "BorrowedPages$Page" "grams" "I" ∈ UW) (d : decode cc pc = .ok (.getfield idx, 3)) (kk : Rn x ly g post (pc + 3) lv (.int (zI (I k 7)) :: st) I L) : Rn x ly g post pc lv (.ref (g.2.1 k) :: st) I L := rr_get F (kd_lt hk (by decide)) (mk_Page hk _ _) rfl inU3 7 (by decide) hl rfl d kk
theorem rp_Page_grams (F : Fx x ly g cc own ret f lo) {k idx : Nat} {a : Int} (hk : kd ly k = 3) (hl : Cond.fieldLink own idx "BorrowedPages$Page" "grams" "I" ∈ UW) (d : decode cc pc = .ok (.putfield idx, 3)) (kk : Rn x ly g post (pc + 3) lv (st) (up2 I k 7 a) L) : Rn x ly g post pc lv (.int (zI a) :: .ref (g.2.1 k) :: st) I L := rr_put (ty := .int) F tyX3 (kd_lt hk (by decide)) (mk_Page hk _ _) rfl inU3 tyX3_ok nmX3 7 (by decide) hl rfl (by decide +kernel) rfl rfl (Nat.le_of_ble_eq_true rfl) ((mk_Page hk _ _).trans (by simp [up2])) (fun q h => up2_cell I _ _ h) (fun _ _ => rfl) d kk
theorem mk_Reader {k : Nat} (hk : kd ly k = 4) (f : Nat → Int) (h : Nat → Int64) : mkE g (ly.getD k (99, 0)) k f h = .inr (4, [.int (zI (f 0)), .int (zI (f 1)), .long (h 2)]) := by
  have e : (ly.getD k (99, 0)).1 = 4 := hk
  simp only [mkE, e]
theorem rg_Reader_piece (F : Fx x ly g cc own ret f lo) {k idx : Nat} (hk : kd ly k = 4) (hl : Cond.fieldLink own idx "BorrowedPages$Reader" "piece" "I" ∈ UW) (d : decode cc pc = .ok (.getfield idx, 3)) (kk : Rn x ly g post (pc + 3) lv (.int (zI (I k 0)) :: st) I L) : Rn x ly g post pc lv (.ref (g.2.1 k) :: st) I L := rr_get F (kd_lt hk (by decide)) (mk_Reader hk _ _) rfl inU4 0 (by decide) hl rfl d kk
theorem rp_Reader_piece (F : Fx x ly g cc own ret f lo) {k idx : Nat} {a : Int} (hk : kd ly k = 4) (hl : Cond.fieldLink own idx "BorrowedPages$Reader" "piece" "I" ∈ UW) (d : decode cc pc = .ok (.putfield idx, 3)) (kk : Rn x ly g post (pc + 3) lv (st) (up2 I k 0 a) L) : Rn x ly g post pc lv (.int (zI a) :: .ref (g.2.1 k) :: st) I L := rr_put (ty := .int) F tyX4 (kd_lt hk (by decide)) (mk_Reader hk _ _) rfl inU4 tyX4_ok nmX4 0 (by decide) hl rfl (by decide +kernel) rfl rfl (Nat.le_of_ble_eq_true rfl) ((mk_Reader hk _ _).trans (by simp [up2])) (fun q h => up2_cell I _ _ h) (fun _ _ => rfl) d kk
theorem rg_Reader_wordLength (F : Fx x ly g cc own ret f lo) {k idx : Nat} (hk : kd ly k = 4) (hl : Cond.fieldLink own idx "BorrowedPages$Reader" "wordLength" "I" ∈ UW) (d : decode cc pc = .ok (.getfield idx, 3)) (kk : Rn x ly g post (pc + 3) lv (.int (zI (I k 1)) :: st) I L) : Rn x ly g post pc lv (.ref (g.2.1 k) :: st) I L := rr_get F (kd_lt hk (by decide)) (mk_Reader hk _ _) rfl inU4 1 (by decide) hl rfl d kk
theorem rp_Reader_wordLength (F : Fx x ly g cc own ret f lo) {k idx : Nat} {a : Int} (hk : kd ly k = 4) (hl : Cond.fieldLink own idx "BorrowedPages$Reader" "wordLength" "I" ∈ UW) (d : decode cc pc = .ok (.putfield idx, 3)) (kk : Rn x ly g post (pc + 3) lv (st) (up2 I k 1 a) L) : Rn x ly g post pc lv (.int (zI a) :: .ref (g.2.1 k) :: st) I L := rr_put (ty := .int) F tyX4 (kd_lt hk (by decide)) (mk_Reader hk _ _) rfl inU4 tyX4_ok nmX4 1 (by decide) hl rfl (by decide +kernel) rfl rfl (Nat.le_of_ble_eq_true rfl) ((mk_Reader hk _ _).trans (by simp [up2])) (fun q h => up2_cell I _ _ h) (fun _ _ => rfl) d kk
theorem rg_Reader_wordNumber (F : Fx x ly g cc own ret f lo) {k idx : Nat} (hk : kd ly k = 4) (hl : Cond.fieldLink own idx "BorrowedPages$Reader" "wordNumber" "J" ∈ UW) (d : decode cc pc = .ok (.getfield idx, 3)) (kk : Rn x ly g post (pc + 3) lv (.long (L k 2) :: st) I L) : Rn x ly g post pc lv (.ref (g.2.1 k) :: st) I L := rr_get F (kd_lt hk (by decide)) (mk_Reader hk _ _) rfl inU4 2 (by decide) hl rfl d kk
theorem rp_Reader_wordNumber (F : Fx x ly g cc own ret f lo) {k idx : Nat} {a : Int64} (hk : kd ly k = 4) (hl : Cond.fieldLink own idx "BorrowedPages$Reader" "wordNumber" "J" ∈ UW) (d : decode cc pc = .ok (.putfield idx, 3)) (kk : Rn x ly g post (pc + 3) lv (st) I (up2 L k 2 a)) : Rn x ly g post pc lv (.long a :: .ref (g.2.1 k) :: st) I L := rr_put (ty := .long) F tyX4 (kd_lt hk (by decide)) (mk_Reader hk _ _) rfl inU4 tyX4_ok nmX4 2 (by decide) hl rfl (by decide +kernel) rfl rfl (Nat.le_of_ble_eq_true rfl) ((mk_Reader hk _ _).trans (by simp [up2])) (fun _ _ => rfl) (fun q h => up2_cell L _ _ h) d kk
theorem mk_Shelf {k : Nat} (hk : kd ly k = 5) (f : Nat → Int) (h : Nat → Int64) : mkE g (ly.getD k (99, 0)) k f h = .inr (5, [.ref (g.2.1 (k + 1)), .int (zI (f 1)), .int (zI (f 2)), .int (zI (f 3)), .int (zI (f 4)), .int (zI (f 5))]) := by
  have e : (ly.getD k (99, 0)).1 = 5 := hk
  simp only [mkE, e]
theorem rg_Shelf_books (F : Fx x ly g cc own ret f lo) {k idx : Nat} (hk : kd ly k = 5) (hl : Cond.fieldLink own idx "BorrowedPages$Shelf" "books" "[LBorrowedPages$Book;" ∈ UW) (d : decode cc pc = .ok (.getfield idx, 3)) (kk : Rn x ly g post (pc + 3) lv (.ref (g.2.1 (k + 1)) :: st) I L) : Rn x ly g post pc lv (.ref (g.2.1 k) :: st) I L := rr_get F (kd_lt hk (by decide)) (mk_Shelf hk _ _) rfl inU5 0 (by decide) hl rfl d kk
theorem rg_Shelf_givenNumber (F : Fx x ly g cc own ret f lo) {k idx : Nat} (hk : kd ly k = 5) (hl : Cond.fieldLink own idx "BorrowedPages$Shelf" "givenNumber" "I" ∈ UW) (d : decode cc pc = .ok (.getfield idx, 3)) (kk : Rn x ly g post (pc + 3) lv (.int (zI (I k 1)) :: st) I L) : Rn x ly g post pc lv (.ref (g.2.1 k) :: st) I L := rr_get F (kd_lt hk (by decide)) (mk_Shelf hk _ _) rfl inU5 1 (by decide) hl rfl d kk
theorem rp_Shelf_givenNumber (F : Fx x ly g cc own ret f lo) {k idx : Nat} {a : Int} (hk : kd ly k = 5) (hl : Cond.fieldLink own idx "BorrowedPages$Shelf" "givenNumber" "I" ∈ UW) (d : decode cc pc = .ok (.putfield idx, 3)) (kk : Rn x ly g post (pc + 3) lv (st) (up2 I k 1 a) L) : Rn x ly g post pc lv (.int (zI a) :: .ref (g.2.1 k) :: st) I L := rr_put (ty := .int) F tyX5 (kd_lt hk (by decide)) (mk_Shelf hk _ _) rfl inU5 tyX5_ok nmX5 1 (by decide) hl rfl (by decide +kernel) rfl rfl (Nat.le_of_ble_eq_true rfl) ((mk_Shelf hk _ _).trans (by simp [up2])) (fun q h => up2_cell I _ _ h) (fun _ _ => rfl) d kk
theorem rg_Shelf_gramLength (F : Fx x ly g cc own ret f lo) {k idx : Nat} (hk : kd ly k = 5) (hl : Cond.fieldLink own idx "BorrowedPages$Shelf" "gramLength" "I" ∈ UW) (d : decode cc pc = .ok (.getfield idx, 3)) (kk : Rn x ly g post (pc + 3) lv (.int (zI (I k 2)) :: st) I L) : Rn x ly g post pc lv (.ref (g.2.1 k) :: st) I L := rr_get F (kd_lt hk (by decide)) (mk_Shelf hk _ _) rfl inU5 2 (by decide) hl rfl d kk
theorem rp_Shelf_gramLength (F : Fx x ly g cc own ret f lo) {k idx : Nat} {a : Int} (hk : kd ly k = 5) (hl : Cond.fieldLink own idx "BorrowedPages$Shelf" "gramLength" "I" ∈ UW) (d : decode cc pc = .ok (.putfield idx, 3)) (kk : Rn x ly g post (pc + 3) lv (st) (up2 I k 2 a) L) : Rn x ly g post pc lv (.int (zI a) :: .ref (g.2.1 k) :: st) I L := rr_put (ty := .int) F tyX5 (kd_lt hk (by decide)) (mk_Shelf hk _ _) rfl inU5 tyX5_ok nmX5 2 (by decide) hl rfl (by decide +kernel) rfl rfl (Nat.le_of_ble_eq_true rfl) ((mk_Shelf hk _ _).trans (by simp [up2])) (fun q h => up2_cell I _ _ h) (fun _ _ => rfl) d kk
theorem rg_Shelf_windowLength (F : Fx x ly g cc own ret f lo) {k idx : Nat} (hk : kd ly k = 5) (hl : Cond.fieldLink own idx "BorrowedPages$Shelf" "windowLength" "I" ∈ UW) (d : decode cc pc = .ok (.getfield idx, 3)) (kk : Rn x ly g post (pc + 3) lv (.int (zI (I k 3)) :: st) I L) : Rn x ly g post pc lv (.ref (g.2.1 k) :: st) I L := rr_get F (kd_lt hk (by decide)) (mk_Shelf hk _ _) rfl inU5 3 (by decide) hl rfl d kk
theorem rp_Shelf_windowLength (F : Fx x ly g cc own ret f lo) {k idx : Nat} {a : Int} (hk : kd ly k = 5) (hl : Cond.fieldLink own idx "BorrowedPages$Shelf" "windowLength" "I" ∈ UW) (d : decode cc pc = .ok (.putfield idx, 3)) (kk : Rn x ly g post (pc + 3) lv (st) (up2 I k 3 a) L) : Rn x ly g post pc lv (.int (zI a) :: .ref (g.2.1 k) :: st) I L := rr_put (ty := .int) F tyX5 (kd_lt hk (by decide)) (mk_Shelf hk _ _) rfl inU5 tyX5_ok nmX5 3 (by decide) hl rfl (by decide +kernel) rfl rfl (Nat.le_of_ble_eq_true rfl) ((mk_Shelf hk _ _).trans (by simp [up2])) (fun q h => up2_cell I _ _ h) (fun _ _ => rfl) d kk
theorem rg_Shelf_gapCost (F : Fx x ly g cc own ret f lo) {k idx : Nat} (hk : kd ly k = 5) (hl : Cond.fieldLink own idx "BorrowedPages$Shelf" "gapCost" "I" ∈ UW) (d : decode cc pc = .ok (.getfield idx, 3)) (kk : Rn x ly g post (pc + 3) lv (.int (zI (I k 4)) :: st) I L) : Rn x ly g post pc lv (.ref (g.2.1 k) :: st) I L := rr_get F (kd_lt hk (by decide)) (mk_Shelf hk _ _) rfl inU5 4 (by decide) hl rfl d kk
theorem rp_Shelf_gapCost (F : Fx x ly g cc own ret f lo) {k idx : Nat} {a : Int} (hk : kd ly k = 5) (hl : Cond.fieldLink own idx "BorrowedPages$Shelf" "gapCost" "I" ∈ UW) (d : decode cc pc = .ok (.putfield idx, 3)) (kk : Rn x ly g post (pc + 3) lv (st) (up2 I k 4 a) L) : Rn x ly g post pc lv (.int (zI a) :: .ref (g.2.1 k) :: st) I L := rr_put (ty := .int) F tyX5 (kd_lt hk (by decide)) (mk_Shelf hk _ _) rfl inU5 tyX5_ok nmX5 4 (by decide) hl rfl (by decide +kernel) rfl rfl (Nat.le_of_ble_eq_true rfl) ((mk_Shelf hk _ _).trans (by simp [up2])) (fun q h => up2_cell I _ _ h) (fun _ _ => rfl) d kk
theorem rg_Shelf_linkScore (F : Fx x ly g cc own ret f lo) {k idx : Nat} (hk : kd ly k = 5) (hl : Cond.fieldLink own idx "BorrowedPages$Shelf" "linkScore" "I" ∈ UW) (d : decode cc pc = .ok (.getfield idx, 3)) (kk : Rn x ly g post (pc + 3) lv (.int (zI (I k 5)) :: st) I L) : Rn x ly g post pc lv (.ref (g.2.1 k) :: st) I L := rr_get F (kd_lt hk (by decide)) (mk_Shelf hk _ _) rfl inU5 5 (by decide) hl rfl d kk
theorem rp_Shelf_linkScore (F : Fx x ly g cc own ret f lo) {k idx : Nat} {a : Int} (hk : kd ly k = 5) (hl : Cond.fieldLink own idx "BorrowedPages$Shelf" "linkScore" "I" ∈ UW) (d : decode cc pc = .ok (.putfield idx, 3)) (kk : Rn x ly g post (pc + 3) lv (st) (up2 I k 5 a) L) : Rn x ly g post pc lv (.int (zI a) :: .ref (g.2.1 k) :: st) I L := rr_put (ty := .int) F tyX5 (kd_lt hk (by decide)) (mk_Shelf hk _ _) rfl inU5 tyX5_ok nmX5 5 (by decide) hl rfl (by decide +kernel) rfl rfl (Nat.le_of_ble_eq_true rfl) ((mk_Shelf hk _ _).trans (by simp [up2])) (fun q h => up2_cell I _ _ h) (fun _ _ => rfl) d kk
theorem mk_Tape {k : Nat} (hk : kd ly k = 6) (f : Nat → Int) (h : Nat → Int64) : mkE g (ly.getD k (99, 0)) k f h = .inr (6, [.ref (g.2.1 (k + 1)), .int (zI (f 1))]) := by
  have e : (ly.getD k (99, 0)).1 = 6 := hk
  simp only [mkE, e]
theorem rg_Tape_bytes (F : Fx x ly g cc own ret f lo) {k idx : Nat} (hk : kd ly k = 6) (hl : Cond.fieldLink own idx "BorrowedPages$Tape" "bytes" "[B" ∈ UW) (d : decode cc pc = .ok (.getfield idx, 3)) (kk : Rn x ly g post (pc + 3) lv (.ref (g.2.1 (k + 1)) :: st) I L) : Rn x ly g post pc lv (.ref (g.2.1 k) :: st) I L := rr_get F (kd_lt hk (by decide)) (mk_Tape hk _ _) rfl inU6 0 (by decide) hl rfl d kk
theorem rg_Tape_length (F : Fx x ly g cc own ret f lo) {k idx : Nat} (hk : kd ly k = 6) (hl : Cond.fieldLink own idx "BorrowedPages$Tape" "length" "I" ∈ UW) (d : decode cc pc = .ok (.getfield idx, 3)) (kk : Rn x ly g post (pc + 3) lv (.int (zI (I k 1)) :: st) I L) : Rn x ly g post pc lv (.ref (g.2.1 k) :: st) I L := rr_get F (kd_lt hk (by decide)) (mk_Tape hk _ _) rfl inU6 1 (by decide) hl rfl d kk
theorem rp_Tape_length (F : Fx x ly g cc own ret f lo) {k idx : Nat} {a : Int} (hk : kd ly k = 6) (hl : Cond.fieldLink own idx "BorrowedPages$Tape" "length" "I" ∈ UW) (d : decode cc pc = .ok (.putfield idx, 3)) (kk : Rn x ly g post (pc + 3) lv (st) (up2 I k 1 a) L) : Rn x ly g post pc lv (.int (zI a) :: .ref (g.2.1 k) :: st) I L := rr_put (ty := .int) F tyX6 (kd_lt hk (by decide)) (mk_Tape hk _ _) rfl inU6 tyX6_ok nmX6 1 (by decide) hl rfl (by decide +kernel) rfl rfl (Nat.le_of_ble_eq_true rfl) ((mk_Tape hk _ _).trans (by simp [up2])) (fun q h => up2_cell I _ _ h) (fun _ _ => rfl) d kk
theorem mk_BP {k : Nat} (hk : kd ly k = 7) (f : Nat → Int) (h : Nat → Int64) : mkE g (ly.getD k (99, 0)) k f h = .inr (7, [.ref (g.2.1 (k + 1)), .ref (g.2.1 (k + 3)), .ref (g.2.1 (k + 4)), .ref (g.2.1 (k + 18)), .ref (g.2.1 (k + 40))]) := by
  have e : (ly.getD k (99, 0)).1 = 7 := hk
  simp only [mkE, e]
theorem rg_BP_tape (F : Fx x ly g cc own ret f lo) {k idx : Nat} (hk : kd ly k = 7) (hl : Cond.fieldLink own idx "BorrowedPages" "tape" "LBorrowedPages$Tape;" ∈ UW) (d : decode cc pc = .ok (.getfield idx, 3)) (kk : Rn x ly g post (pc + 3) lv (.ref (g.2.1 (k + 1)) :: st) I L) : Rn x ly g post pc lv (.ref (g.2.1 k) :: st) I L := rr_get F (kd_lt hk (by decide)) (mk_BP hk _ _) rfl inU7 0 (by decide) hl rfl d kk
theorem rg_BP_reader (F : Fx x ly g cc own ret f lo) {k idx : Nat} (hk : kd ly k = 7) (hl : Cond.fieldLink own idx "BorrowedPages" "reader" "LBorrowedPages$Reader;" ∈ UW) (d : decode cc pc = .ok (.getfield idx, 3)) (kk : Rn x ly g post (pc + 3) lv (.ref (g.2.1 (k + 3)) :: st) I L) : Rn x ly g post pc lv (.ref (g.2.1 k) :: st) I L := rr_get F (kd_lt hk (by decide)) (mk_BP hk _ _) rfl inU7 1 (by decide) hl rfl d kk
theorem rg_BP_shelf (F : Fx x ly g cc own ret f lo) {k idx : Nat} (hk : kd ly k = 7) (hl : Cond.fieldLink own idx "BorrowedPages" "shelf" "LBorrowedPages$Shelf;" ∈ UW) (d : decode cc pc = .ok (.getfield idx, 3)) (kk : Rn x ly g post (pc + 3) lv (.ref (g.2.1 (k + 4)) :: st) I L) : Rn x ly g post pc lv (.ref (g.2.1 k) :: st) I L := rr_get F (kd_lt hk (by decide)) (mk_BP hk _ _) rfl inU7 2 (by decide) hl rfl d kk
theorem rg_BP_comparison (F : Fx x ly g cc own ret f lo) {k idx : Nat} (hk : kd ly k = 7) (hl : Cond.fieldLink own idx "BorrowedPages" "comparison" "LBorrowedPages$Comparison;" ∈ UW) (d : decode cc pc = .ok (.getfield idx, 3)) (kk : Rn x ly g post (pc + 3) lv (.ref (g.2.1 (k + 18)) :: st) I L) : Rn x ly g post pc lv (.ref (g.2.1 k) :: st) I L := rr_get F (kd_lt hk (by decide)) (mk_BP hk _ _) rfl inU7 3 (by decide) hl rfl d kk
theorem rg_BP_groups (F : Fx x ly g cc own ret f lo) {k idx : Nat} (hk : kd ly k = 7) (hl : Cond.fieldLink own idx "BorrowedPages" "groups" "LBorrowedPages$Groups;" ∈ UW) (d : decode cc pc = .ok (.getfield idx, 3)) (kk : Rn x ly g post (pc + 3) lv (.ref (g.2.1 (k + 40)) :: st) I L) : Rn x ly g post pc lv (.ref (g.2.1 k) :: st) I L := rr_get F (kd_lt hk (by decide)) (mk_BP hk _ _) rfl inU7 4 (by decide) hl rfl d kk
theorem mk_Model {k : Nat} (hk : kd ly k = 8) (f : Nat → Int) (h : Nat → Int64) : mkE g (ly.getD k (99, 0)) k f h = .inr (8, [.ref (g.2.1 (k + 1)), .int (zI (f 1)), .ref (g.2.1 (k + 2)), .ref (g.2.1 (k + 3)), .ref (g.2.1 (k + 4)), .ref (g.2.1 (k + 5)), .ref (g.2.1 (k + 6)), .int (zI (f 7)), .int (zI (f 8)), .int (zI (f 9)), .int (zI (f 10)), .int (zI (f 11)), .int (zI (f 12)), .int (zI (f 13)), .ref (g.2.1 (k + 7)), .ref (g.2.1 (k + 8)), .ref (g.2.1 (k + 9)), .ref (g.2.1 (k + 10)), .int (zI (f 18)), .ref (g.2.1 (k + 11)), .ref (g.2.1 (k + 12)), .ref (g.2.1 (k + 13)), .ref (g.2.1 (k + 14)), .ref (g.2.1 (k + 15)), .int (zI (f 24)), .ref (g.2.1 (k + 16)), .int (zI (f 26))]) := by
  have e : (ly.getD k (99, 0)).1 = 8 := hk
  simp only [mkE, e]
theorem rg_Model_tape (F : Fx x ly g cc own ret f lo) {k idx : Nat} (hk : kd ly k = 8) (hl : Cond.fieldLink own idx "BorrowedPagesModel" "tape" "[I" ∈ UW) (d : decode cc pc = .ok (.getfield idx, 3)) (kk : Rn x ly g post (pc + 3) lv (.ref (g.2.1 (k + 1)) :: st) I L) : Rn x ly g post pc lv (.ref (g.2.1 k) :: st) I L := rr_get F (kd_lt hk (by decide)) (mk_Model hk _ _) rfl inU8 0 (by decide) hl rfl d kk
theorem rg_Model_taped (F : Fx x ly g cc own ret f lo) {k idx : Nat} (hk : kd ly k = 8) (hl : Cond.fieldLink own idx "BorrowedPagesModel" "taped" "I" ∈ UW) (d : decode cc pc = .ok (.getfield idx, 3)) (kk : Rn x ly g post (pc + 3) lv (.int (zI (I k 1)) :: st) I L) : Rn x ly g post pc lv (.ref (g.2.1 k) :: st) I L := rr_get F (kd_lt hk (by decide)) (mk_Model hk _ _) rfl inU8 1 (by decide) hl rfl d kk
theorem rp_Model_taped (F : Fx x ly g cc own ret f lo) {k idx : Nat} {a : Int} (hk : kd ly k = 8) (hl : Cond.fieldLink own idx "BorrowedPagesModel" "taped" "I" ∈ UW) (d : decode cc pc = .ok (.putfield idx, 3)) (kk : Rn x ly g post (pc + 3) lv (st) (up2 I k 1 a) L) : Rn x ly g post pc lv (.int (zI a) :: .ref (g.2.1 k) :: st) I L := rr_put (ty := .int) F tyX8 (kd_lt hk (by decide)) (mk_Model hk _ _) rfl inU8 tyX8_ok nmX8 1 (by decide) hl rfl (by decide +kernel) rfl rfl (Nat.le_of_ble_eq_true rfl) ((mk_Model hk _ _).trans (by simp [up2])) (fun q h => up2_cell I _ _ h) (fun _ _ => rfl) d kk
theorem rg_Model_is (F : Fx x ly g cc own ret f lo) {k idx : Nat} (hk : kd ly k = 8) (hl : Cond.fieldLink own idx "BorrowedPagesModel" "is" "[Z" ∈ UW) (d : decode cc pc = .ok (.getfield idx, 3)) (kk : Rn x ly g post (pc + 3) lv (.ref (g.2.1 (k + 2)) :: st) I L) : Rn x ly g post pc lv (.ref (g.2.1 k) :: st) I L := rr_get F (kd_lt hk (by decide)) (mk_Model hk _ _) rfl inU8 2 (by decide) hl rfl d kk
theorem rg_Model_sizes (F : Fx x ly g cc own ret f lo) {k idx : Nat} (hk : kd ly k = 8) (hl : Cond.fieldLink own idx "BorrowedPagesModel" "sizes" "[I" ∈ UW) (d : decode cc pc = .ok (.getfield idx, 3)) (kk : Rn x ly g post (pc + 3) lv (.ref (g.2.1 (k + 3)) :: st) I L) : Rn x ly g post pc lv (.ref (g.2.1 k) :: st) I L := rr_get F (kd_lt hk (by decide)) (mk_Model hk _ _) rfl inU8 3 (by decide) hl rfl d kk
theorem rg_Model_languages (F : Fx x ly g cc own ret f lo) {k idx : Nat} (hk : kd ly k = 8) (hl : Cond.fieldLink own idx "BorrowedPagesModel" "languages" "[I" ∈ UW) (d : decode cc pc = .ok (.getfield idx, 3)) (kk : Rn x ly g post (pc + 3) lv (.ref (g.2.1 (k + 4)) :: st) I L) : Rn x ly g post pc lv (.ref (g.2.1 k) :: st) I L := rr_get F (kd_lt hk (by decide)) (mk_Model hk _ _) rfl inU8 4 (by decide) hl rfl d kk
theorem rg_Model_days (F : Fx x ly g cc own ret f lo) {k idx : Nat} (hk : kd ly k = 8) (hl : Cond.fieldLink own idx "BorrowedPagesModel" "days" "[I" ∈ UW) (d : decode cc pc = .ok (.getfield idx, 3)) (kk : Rn x ly g post (pc + 3) lv (.ref (g.2.1 (k + 5)) :: st) I L) : Rn x ly g post pc lv (.ref (g.2.1 k) :: st) I L := rr_get F (kd_lt hk (by decide)) (mk_Model hk _ _) rfl inU8 5 (by decide) hl rfl d kk
theorem rg_Model_tokens (F : Fx x ly g cc own ret f lo) {k idx : Nat} (hk : kd ly k = 8) (hl : Cond.fieldLink own idx "BorrowedPagesModel" "tokens" "[J" ∈ UW) (d : decode cc pc = .ok (.getfield idx, 3)) (kk : Rn x ly g post (pc + 3) lv (.ref (g.2.1 (k + 6)) :: st) I L) : Rn x ly g post pc lv (.ref (g.2.1 k) :: st) I L := rr_get F (kd_lt hk (by decide)) (mk_Model hk _ _) rfl inU8 6 (by decide) hl rfl d kk
theorem rg_Model_k (F : Fx x ly g cc own ret f lo) {k idx : Nat} (hk : kd ly k = 8) (hl : Cond.fieldLink own idx "BorrowedPagesModel" "k" "I" ∈ UW) (d : decode cc pc = .ok (.getfield idx, 3)) (kk : Rn x ly g post (pc + 3) lv (.int (zI (I k 7)) :: st) I L) : Rn x ly g post pc lv (.ref (g.2.1 k) :: st) I L := rr_get F (kd_lt hk (by decide)) (mk_Model hk _ _) rfl inU8 7 (by decide) hl rfl d kk
theorem rp_Model_k (F : Fx x ly g cc own ret f lo) {k idx : Nat} {a : Int} (hk : kd ly k = 8) (hl : Cond.fieldLink own idx "BorrowedPagesModel" "k" "I" ∈ UW) (d : decode cc pc = .ok (.putfield idx, 3)) (kk : Rn x ly g post (pc + 3) lv (st) (up2 I k 7 a) L) : Rn x ly g post pc lv (.int (zI a) :: .ref (g.2.1 k) :: st) I L := rr_put (ty := .int) F tyX8 (kd_lt hk (by decide)) (mk_Model hk _ _) rfl inU8 tyX8_ok nmX8 7 (by decide) hl rfl (by decide +kernel) rfl rfl (Nat.le_of_ble_eq_true rfl) ((mk_Model hk _ _).trans (by simp [up2])) (fun q h => up2_cell I _ _ h) (fun _ _ => rfl) d kk
theorem rg_Model_w (F : Fx x ly g cc own ret f lo) {k idx : Nat} (hk : kd ly k = 8) (hl : Cond.fieldLink own idx "BorrowedPagesModel" "w" "I" ∈ UW) (d : decode cc pc = .ok (.getfield idx, 3)) (kk : Rn x ly g post (pc + 3) lv (.int (zI (I k 8)) :: st) I L) : Rn x ly g post pc lv (.ref (g.2.1 k) :: st) I L := rr_get F (kd_lt hk (by decide)) (mk_Model hk _ _) rfl inU8 8 (by decide) hl rfl d kk
theorem rp_Model_w (F : Fx x ly g cc own ret f lo) {k idx : Nat} {a : Int} (hk : kd ly k = 8) (hl : Cond.fieldLink own idx "BorrowedPagesModel" "w" "I" ∈ UW) (d : decode cc pc = .ok (.putfield idx, 3)) (kk : Rn x ly g post (pc + 3) lv (st) (up2 I k 8 a) L) : Rn x ly g post pc lv (.int (zI a) :: .ref (g.2.1 k) :: st) I L := rr_put (ty := .int) F tyX8 (kd_lt hk (by decide)) (mk_Model hk _ _) rfl inU8 tyX8_ok nmX8 8 (by decide) hl rfl (by decide +kernel) rfl rfl (Nat.le_of_ble_eq_true rfl) ((mk_Model hk _ _).trans (by simp [up2])) (fun q h => up2_cell I _ _ h) (fun _ _ => rfl) d kk
theorem rg_Model_gap (F : Fx x ly g cc own ret f lo) {k idx : Nat} (hk : kd ly k = 8) (hl : Cond.fieldLink own idx "BorrowedPagesModel" "gap" "I" ∈ UW) (d : decode cc pc = .ok (.getfield idx, 3)) (kk : Rn x ly g post (pc + 3) lv (.int (zI (I k 9)) :: st) I L) : Rn x ly g post pc lv (.ref (g.2.1 k) :: st) I L := rr_get F (kd_lt hk (by decide)) (mk_Model hk _ _) rfl inU8 9 (by decide) hl rfl d kk
theorem rp_Model_gap (F : Fx x ly g cc own ret f lo) {k idx : Nat} {a : Int} (hk : kd ly k = 8) (hl : Cond.fieldLink own idx "BorrowedPagesModel" "gap" "I" ∈ UW) (d : decode cc pc = .ok (.putfield idx, 3)) (kk : Rn x ly g post (pc + 3) lv (st) (up2 I k 9 a) L) : Rn x ly g post pc lv (.int (zI a) :: .ref (g.2.1 k) :: st) I L := rr_put (ty := .int) F tyX8 (kd_lt hk (by decide)) (mk_Model hk _ _) rfl inU8 tyX8_ok nmX8 9 (by decide) hl rfl (by decide +kernel) rfl rfl (Nat.le_of_ble_eq_true rfl) ((mk_Model hk _ _).trans (by simp [up2])) (fun q h => up2_cell I _ _ h) (fun _ _ => rfl) d kk
theorem rg_Model_bound (F : Fx x ly g cc own ret f lo) {k idx : Nat} (hk : kd ly k = 8) (hl : Cond.fieldLink own idx "BorrowedPagesModel" "bound" "I" ∈ UW) (d : decode cc pc = .ok (.getfield idx, 3)) (kk : Rn x ly g post (pc + 3) lv (.int (zI (I k 10)) :: st) I L) : Rn x ly g post pc lv (.ref (g.2.1 k) :: st) I L := rr_get F (kd_lt hk (by decide)) (mk_Model hk _ _) rfl inU8 10 (by decide) hl rfl d kk
theorem rp_Model_bound (F : Fx x ly g cc own ret f lo) {k idx : Nat} {a : Int} (hk : kd ly k = 8) (hl : Cond.fieldLink own idx "BorrowedPagesModel" "bound" "I" ∈ UW) (d : decode cc pc = .ok (.putfield idx, 3)) (kk : Rn x ly g post (pc + 3) lv (st) (up2 I k 10 a) L) : Rn x ly g post pc lv (.int (zI a) :: .ref (g.2.1 k) :: st) I L := rr_put (ty := .int) F tyX8 (kd_lt hk (by decide)) (mk_Model hk _ _) rfl inU8 tyX8_ok nmX8 10 (by decide) hl rfl (by decide +kernel) rfl rfl (Nat.le_of_ble_eq_true rfl) ((mk_Model hk _ _).trans (by simp [up2])) (fun q h => up2_cell I _ _ h) (fun _ _ => rfl) d kk
theorem rg_Model_given (F : Fx x ly g cc own ret f lo) {k idx : Nat} (hk : kd ly k = 8) (hl : Cond.fieldLink own idx "BorrowedPagesModel" "given" "I" ∈ UW) (d : decode cc pc = .ok (.getfield idx, 3)) (kk : Rn x ly g post (pc + 3) lv (.int (zI (I k 11)) :: st) I L) : Rn x ly g post pc lv (.ref (g.2.1 k) :: st) I L := rr_get F (kd_lt hk (by decide)) (mk_Model hk _ _) rfl inU8 11 (by decide) hl rfl d kk
theorem rp_Model_given (F : Fx x ly g cc own ret f lo) {k idx : Nat} {a : Int} (hk : kd ly k = 8) (hl : Cond.fieldLink own idx "BorrowedPagesModel" "given" "I" ∈ UW) (d : decode cc pc = .ok (.putfield idx, 3)) (kk : Rn x ly g post (pc + 3) lv (st) (up2 I k 11 a) L) : Rn x ly g post pc lv (.int (zI a) :: .ref (g.2.1 k) :: st) I L := rr_put (ty := .int) F tyX8 (kd_lt hk (by decide)) (mk_Model hk _ _) rfl inU8 tyX8_ok nmX8 11 (by decide) hl rfl (by decide +kernel) rfl rfl (Nat.le_of_ble_eq_true rfl) ((mk_Model hk _ _).trans (by simp [up2])) (fun q h => up2_cell I _ _ h) (fun _ _ => rfl) d kk
theorem rg_Model_at (F : Fx x ly g cc own ret f lo) {k idx : Nat} (hk : kd ly k = 8) (hl : Cond.fieldLink own idx "BorrowedPagesModel" "at" "I" ∈ UW) (d : decode cc pc = .ok (.getfield idx, 3)) (kk : Rn x ly g post (pc + 3) lv (.int (zI (I k 12)) :: st) I L) : Rn x ly g post pc lv (.ref (g.2.1 k) :: st) I L := rr_get F (kd_lt hk (by decide)) (mk_Model hk _ _) rfl inU8 12 (by decide) hl rfl d kk
theorem rp_Model_at (F : Fx x ly g cc own ret f lo) {k idx : Nat} {a : Int} (hk : kd ly k = 8) (hl : Cond.fieldLink own idx "BorrowedPagesModel" "at" "I" ∈ UW) (d : decode cc pc = .ok (.putfield idx, 3)) (kk : Rn x ly g post (pc + 3) lv (st) (up2 I k 12 a) L) : Rn x ly g post pc lv (.int (zI a) :: .ref (g.2.1 k) :: st) I L := rr_put (ty := .int) F tyX8 (kd_lt hk (by decide)) (mk_Model hk _ _) rfl inU8 tyX8_ok nmX8 12 (by decide) hl rfl (by decide +kernel) rfl rfl (Nat.le_of_ble_eq_true rfl) ((mk_Model hk _ _).trans (by simp [up2])) (fun q h => up2_cell I _ _ h) (fun _ _ => rfl) d kk
theorem rg_Model_wordSize (F : Fx x ly g cc own ret f lo) {k idx : Nat} (hk : kd ly k = 8) (hl : Cond.fieldLink own idx "BorrowedPagesModel" "wordSize" "I" ∈ UW) (d : decode cc pc = .ok (.getfield idx, 3)) (kk : Rn x ly g post (pc + 3) lv (.int (zI (I k 13)) :: st) I L) : Rn x ly g post pc lv (.ref (g.2.1 k) :: st) I L := rr_get F (kd_lt hk (by decide)) (mk_Model hk _ _) rfl inU8 13 (by decide) hl rfl d kk
theorem rp_Model_wordSize (F : Fx x ly g cc own ret f lo) {k idx : Nat} {a : Int} (hk : kd ly k = 8) (hl : Cond.fieldLink own idx "BorrowedPagesModel" "wordSize" "I" ∈ UW) (d : decode cc pc = .ok (.putfield idx, 3)) (kk : Rn x ly g post (pc + 3) lv (st) (up2 I k 13 a) L) : Rn x ly g post pc lv (.int (zI a) :: .ref (g.2.1 k) :: st) I L := rr_put (ty := .int) F tyX8 (kd_lt hk (by decide)) (mk_Model hk _ _) rfl inU8 tyX8_ok nmX8 13 (by decide) hl rfl (by decide +kernel) rfl rfl (Nat.le_of_ble_eq_true rfl) ((mk_Model hk _ _).trans (by simp [up2])) (fun q h => up2_cell I _ _ h) (fun _ _ => rfl) d kk
theorem rg_Model_words (F : Fx x ly g cc own ret f lo) {k idx : Nat} (hk : kd ly k = 8) (hl : Cond.fieldLink own idx "BorrowedPagesModel" "words" "[J" ∈ UW) (d : decode cc pc = .ok (.getfield idx, 3)) (kk : Rn x ly g post (pc + 3) lv (.ref (g.2.1 (k + 7)) :: st) I L) : Rn x ly g post pc lv (.ref (g.2.1 k) :: st) I L := rr_get F (kd_lt hk (by decide)) (mk_Model hk _ _) rfl inU8 14 (by decide) hl rfl d kk
theorem rg_Model_marks (F : Fx x ly g cc own ret f lo) {k idx : Nat} (hk : kd ly k = 8) (hl : Cond.fieldLink own idx "BorrowedPagesModel" "marks" "[Z" ∈ UW) (d : decode cc pc = .ok (.getfield idx, 3)) (kk : Rn x ly g post (pc + 3) lv (.ref (g.2.1 (k + 8)) :: st) I L) : Rn x ly g post pc lv (.ref (g.2.1 k) :: st) I L := rr_get F (kd_lt hk (by decide)) (mk_Model hk _ _) rfl inU8 15 (by decide) hl rfl d kk
theorem rg_Model_hashes (F : Fx x ly g cc own ret f lo) {k idx : Nat} (hk : kd ly k = 8) (hl : Cond.fieldLink own idx "BorrowedPagesModel" "hashes" "[I" ∈ UW) (d : decode cc pc = .ok (.getfield idx, 3)) (kk : Rn x ly g post (pc + 3) lv (.ref (g.2.1 (k + 9)) :: st) I L) : Rn x ly g post pc lv (.ref (g.2.1 k) :: st) I L := rr_get F (kd_lt hk (by decide)) (mk_Model hk _ _) rfl inU8 16 (by decide) hl rfl d kk
theorem rg_Model_asides (F : Fx x ly g cc own ret f lo) {k idx : Nat} (hk : kd ly k = 8) (hl : Cond.fieldLink own idx "BorrowedPagesModel" "asides" "[Z" ∈ UW) (d : decode cc pc = .ok (.getfield idx, 3)) (kk : Rn x ly g post (pc + 3) lv (.ref (g.2.1 (k + 10)) :: st) I L) : Rn x ly g post pc lv (.ref (g.2.1 k) :: st) I L := rr_get F (kd_lt hk (by decide)) (mk_Model hk _ _) rfl inU8 17 (by decide) hl rfl d kk
theorem rg_Model_many (F : Fx x ly g cc own ret f lo) {k idx : Nat} (hk : kd ly k = 8) (hl : Cond.fieldLink own idx "BorrowedPagesModel" "many" "I" ∈ UW) (d : decode cc pc = .ok (.getfield idx, 3)) (kk : Rn x ly g post (pc + 3) lv (.int (zI (I k 18)) :: st) I L) : Rn x ly g post pc lv (.ref (g.2.1 k) :: st) I L := rr_get F (kd_lt hk (by decide)) (mk_Model hk _ _) rfl inU8 18 (by decide) hl rfl d kk
theorem rp_Model_many (F : Fx x ly g cc own ret f lo) {k idx : Nat} {a : Int} (hk : kd ly k = 8) (hl : Cond.fieldLink own idx "BorrowedPagesModel" "many" "I" ∈ UW) (d : decode cc pc = .ok (.putfield idx, 3)) (kk : Rn x ly g post (pc + 3) lv (st) (up2 I k 18 a) L) : Rn x ly g post pc lv (.int (zI a) :: .ref (g.2.1 k) :: st) I L := rr_put (ty := .int) F tyX8 (kd_lt hk (by decide)) (mk_Model hk _ _) rfl inU8 tyX8_ok nmX8 18 (by decide) hl rfl (by decide +kernel) rfl rfl (Nat.le_of_ble_eq_true rfl) ((mk_Model hk _ _).trans (by simp [up2])) (fun q h => up2_cell I _ _ h) (fun _ _ => rfl) d kk
theorem rg_Model_runA (F : Fx x ly g cc own ret f lo) {k idx : Nat} (hk : kd ly k = 8) (hl : Cond.fieldLink own idx "BorrowedPagesModel" "runA" "[I" ∈ UW) (d : decode cc pc = .ok (.getfield idx, 3)) (kk : Rn x ly g post (pc + 3) lv (.ref (g.2.1 (k + 11)) :: st) I L) : Rn x ly g post pc lv (.ref (g.2.1 k) :: st) I L := rr_get F (kd_lt hk (by decide)) (mk_Model hk _ _) rfl inU8 19 (by decide) hl rfl d kk
theorem rg_Model_runB (F : Fx x ly g cc own ret f lo) {k idx : Nat} (hk : kd ly k = 8) (hl : Cond.fieldLink own idx "BorrowedPagesModel" "runB" "[I" ∈ UW) (d : decode cc pc = .ok (.getfield idx, 3)) (kk : Rn x ly g post (pc + 3) lv (.ref (g.2.1 (k + 12)) :: st) I L) : Rn x ly g post pc lv (.ref (g.2.1 k) :: st) I L := rr_get F (kd_lt hk (by decide)) (mk_Model hk _ _) rfl inU8 20 (by decide) hl rfl d kk
theorem rg_Model_runN (F : Fx x ly g cc own ret f lo) {k idx : Nat} (hk : kd ly k = 8) (hl : Cond.fieldLink own idx "BorrowedPagesModel" "runN" "[I" ∈ UW) (d : decode cc pc = .ok (.getfield idx, 3)) (kk : Rn x ly g post (pc + 3) lv (.ref (g.2.1 (k + 13)) :: st) I L) : Rn x ly g post pc lv (.ref (g.2.1 k) :: st) I L := rr_get F (kd_lt hk (by decide)) (mk_Model hk _ _) rfl inU8 21 (by decide) hl rfl d kk
theorem rg_Model_best (F : Fx x ly g cc own ret f lo) {k idx : Nat} (hk : kd ly k = 8) (hl : Cond.fieldLink own idx "BorrowedPagesModel" "best" "[I" ∈ UW) (d : decode cc pc = .ok (.getfield idx, 3)) (kk : Rn x ly g post (pc + 3) lv (.ref (g.2.1 (k + 14)) :: st) I L) : Rn x ly g post pc lv (.ref (g.2.1 k) :: st) I L := rr_get F (kd_lt hk (by decide)) (mk_Model hk _ _) rfl inU8 22 (by decide) hl rfl d kk
theorem rg_Model_next (F : Fx x ly g cc own ret f lo) {k idx : Nat} (hk : kd ly k = 8) (hl : Cond.fieldLink own idx "BorrowedPagesModel" "next" "[I" ∈ UW) (d : decode cc pc = .ok (.getfield idx, 3)) (kk : Rn x ly g post (pc + 3) lv (.ref (g.2.1 (k + 15)) :: st) I L) : Rn x ly g post pc lv (.ref (g.2.1 k) :: st) I L := rr_get F (kd_lt hk (by decide)) (mk_Model hk _ _) rfl inU8 23 (by decide) hl rfl d kk
theorem rg_Model_first (F : Fx x ly g cc own ret f lo) {k idx : Nat} (hk : kd ly k = 8) (hl : Cond.fieldLink own idx "BorrowedPagesModel" "first" "I" ∈ UW) (d : decode cc pc = .ok (.getfield idx, 3)) (kk : Rn x ly g post (pc + 3) lv (.int (zI (I k 24)) :: st) I L) : Rn x ly g post pc lv (.ref (g.2.1 k) :: st) I L := rr_get F (kd_lt hk (by decide)) (mk_Model hk _ _) rfl inU8 24 (by decide) hl rfl d kk
theorem rp_Model_first (F : Fx x ly g cc own ret f lo) {k idx : Nat} {a : Int} (hk : kd ly k = 8) (hl : Cond.fieldLink own idx "BorrowedPagesModel" "first" "I" ∈ UW) (d : decode cc pc = .ok (.putfield idx, 3)) (kk : Rn x ly g post (pc + 3) lv (st) (up2 I k 24 a) L) : Rn x ly g post pc lv (.int (zI a) :: .ref (g.2.1 k) :: st) I L := rr_put (ty := .int) F tyX8 (kd_lt hk (by decide)) (mk_Model hk _ _) rfl inU8 tyX8_ok nmX8 24 (by decide) hl rfl (by decide +kernel) rfl rfl (Nat.le_of_ble_eq_true rfl) ((mk_Model hk _ _).trans (by simp [up2])) (fun q h => up2_cell I _ _ h) (fun _ _ => rfl) d kk
theorem rg_Model_groups (F : Fx x ly g cc own ret f lo) {k idx : Nat} (hk : kd ly k = 8) (hl : Cond.fieldLink own idx "BorrowedPagesModel" "groups" "[I" ∈ UW) (d : decode cc pc = .ok (.getfield idx, 3)) (kk : Rn x ly g post (pc + 3) lv (.ref (g.2.1 (k + 16)) :: st) I L) : Rn x ly g post pc lv (.ref (g.2.1 k) :: st) I L := rr_get F (kd_lt hk (by decide)) (mk_Model hk _ _) rfl inU8 25 (by decide) hl rfl d kk
theorem rg_Model_links (F : Fx x ly g cc own ret f lo) {k idx : Nat} (hk : kd ly k = 8) (hl : Cond.fieldLink own idx "BorrowedPagesModel" "links" "I" ∈ UW) (d : decode cc pc = .ok (.getfield idx, 3)) (kk : Rn x ly g post (pc + 3) lv (.int (zI (I k 26)) :: st) I L) : Rn x ly g post pc lv (.ref (g.2.1 k) :: st) I L := rr_get F (kd_lt hk (by decide)) (mk_Model hk _ _) rfl inU8 26 (by decide) hl rfl d kk
theorem rp_Model_links (F : Fx x ly g cc own ret f lo) {k idx : Nat} {a : Int} (hk : kd ly k = 8) (hl : Cond.fieldLink own idx "BorrowedPagesModel" "links" "I" ∈ UW) (d : decode cc pc = .ok (.putfield idx, 3)) (kk : Rn x ly g post (pc + 3) lv (st) (up2 I k 26 a) L) : Rn x ly g post pc lv (.int (zI a) :: .ref (g.2.1 k) :: st) I L := rr_put (ty := .int) F tyX8 (kd_lt hk (by decide)) (mk_Model hk _ _) rfl inU8 tyX8_ok nmX8 26 (by decide) hl rfl (by decide +kernel) rfl rfl (Nat.le_of_ble_eq_true rfl) ((mk_Model hk _ _).trans (by simp [up2])) (fun q h => up2_cell I _ _ h) (fun _ _ => rfl) d kk
theorem mk_arrB {k : Nat} (hk : kd ly k = 9) (f : Nat → Int) (h : Nat → Int64) : mkE g (ly.getD k (99, 0)) k f h = .inl (g.2.2 9, ln ly k, .inl (fun j => zI (f j))) := by
  have e : (ly.getD k (99, 0)).1 = 9 := hk
  simp only [mkE, e, ln]
theorem mk_arrI {k : Nat} (hk : kd ly k = 10) (f : Nat → Int) (h : Nat → Int64) : mkE g (ly.getD k (99, 0)) k f h = .inl (g.2.2 10, ln ly k, .inl (fun j => zI (f j))) := by
  have e : (ly.getD k (99, 0)).1 = 10 := hk
  simp only [mkE, e, ln]
theorem mk_arrJ {k : Nat} (hk : kd ly k = 11) (f : Nat → Int) (h : Nat → Int64) : mkE g (ly.getD k (99, 0)) k f h = .inl (g.2.2 11, ln ly k, .inr (.inl h)) := by
  have e : (ly.getD k (99, 0)).1 = 11 := hk
  simp only [mkE, e, ln]
theorem mk_arrZ {k : Nat} (hk : kd ly k = 12) (f : Nat → Int) (h : Nat → Int64) : mkE g (ly.getD k (99, 0)) k f h = .inl (g.2.2 12, ln ly k, .inl (fun j => zI (f j))) := by
  have e : (ly.getD k (99, 0)).1 = 12 := hk
  simp only [mkE, e, ln]
theorem mk_arrR {k : Nat} (hk : kd ly k = 13) (f : Nat → Int) (h : Nat → Int64) : mkE g (ly.getD k (99, 0)) k f h = .inl (g.2.2 13, ln ly k, .inr (.inr (.inr (.inr (fun j => some (g.2.1 (k + 1 + 2 * j))))))) := by
  have e : (ly.getD k (99, 0)).1 = 13 := hk
  simp only [mkE, e, ln]
theorem rr_iald (F : Fx x ly g cc own ret f lo) {k n : Nat} {i : Int} (hk : kd ly k = 10) (he : i = (n : Int)) (hn : n < ln ly k) (d : decode cc pc = .ok (.iaload, 1)) (kk : Rn x ly g post (pc + 1) lv (.int (zI (I k n)) :: st) I L) : Rn x ly g post pc lv (.int (zI i) :: .ref (g.2.1 k) :: st) I L := fun H locs ls hP hS h => by
  subst he
  have hN := F.2.2.2.2.2.1.2.2.2 k
  refine va_iald F.1 F.2.1 F.2.2.2.2.2.1.1 hP k 1 (by rw [wl_get g I L (kd_lt hk (by decide)), mk_arrI hk]) rfl (zI_in hn hN) d ?_
  rw [zI_clamp (Nat.lt_trans hn hN)]
  exact kk H locs ls hP hS h
theorem rr_bald (F : Fx x ly g cc own ret f lo) {k n : Nat} {i : Int} (hk : kd ly k = 9) (he : i = (n : Int)) (hn : n < ln ly k) (d : decode cc pc = .ok (.baload, 1)) (kk : Rn x ly g post (pc + 1) lv (.int (zI (I k n)) :: st) I L) : Rn x ly g post pc lv (.int (zI i) :: .ref (g.2.1 k) :: st) I L := fun H locs ls hP hS h => by
  subst he
  have hN := F.2.2.2.2.2.1.2.2.2 k
  refine va_bald F.1 F.2.1 F.2.2.2.2.2.1.1 hP k 0 (by rw [wl_get g I L (kd_lt hk (by decide)), mk_arrB hk]) rfl (zI_in hn hN) d ?_
  rw [zI_clamp (Nat.lt_trans hn hN)]
  exact kk H locs ls hP hS h
theorem rr_zald (F : Fx x ly g cc own ret f lo) {k n : Nat} {i : Int} (hk : kd ly k = 12) (he : i = (n : Int)) (hn : n < ln ly k) (d : decode cc pc = .ok (.baload, 1)) (kk : Rn x ly g post (pc + 1) lv (.int (zI (I k n)) :: st) I L) : Rn x ly g post pc lv (.int (zI i) :: .ref (g.2.1 k) :: st) I L := fun H locs ls hP hS h => by
  subst he
  have hN := F.2.2.2.2.2.1.2.2.2 k
  refine va_zald F.1 F.2.1 F.2.2.2.2.2.1.1 hP k 3 (by rw [wl_get g I L (kd_lt hk (by decide)), mk_arrZ hk]) rfl (zI_in hn hN) d ?_
  rw [zI_clamp (Nat.lt_trans hn hN)]
  exact kk H locs ls hP hS h
theorem rr_lald (F : Fx x ly g cc own ret f lo) {k n : Nat} {i : Int} (hk : kd ly k = 11) (he : i = (n : Int)) (hn : n < ln ly k) (d : decode cc pc = .ok (.laload, 1)) (kk : Rn x ly g post (pc + 1) lv (.long (L k n) :: st) I L) : Rn x ly g post pc lv (.int (zI i) :: .ref (g.2.1 k) :: st) I L := fun H locs ls hP hS h => by
  subst he
  have hN := F.2.2.2.2.2.1.2.2.2 k
  refine va_lald F.1 F.2.1 F.2.2.2.2.2.1.1 hP k 2 (by rw [wl_get g I L (kd_lt hk (by decide)), mk_arrJ hk]) rfl (zI_in hn hN) d ?_
  rw [zI_clamp (Nat.lt_trans hn hN)]
  exact kk H locs ls hP hS h
theorem rr_aald (F : Fx x ly g cc own ret f lo) {k n : Nat} {i : Int} (hk : kd ly k = 13) (he : i = (n : Int)) (hn : n < ln ly k) (d : decode cc pc = .ok (.aaload, 1)) (kk : Rn x ly g post (pc + 1) lv (.ref (g.2.1 (k + 1 + 2 * n)) :: st) I L) : Rn x ly g post pc lv (.int (zI i) :: .ref (g.2.1 k) :: st) I L := fun H locs ls hP hS h => by
  subst he
  have hN := F.2.2.2.2.2.1.2.2.2 k
  refine va_aldq F.1 F.2.1 F.2.2.2.2.2.1.1 hP k 4 (by rw [wl_get g I L (kd_lt hk (by decide)), mk_arrR hk]) rfl (zI_in hn hN) d ?_
  rw [zI_clamp (Nat.lt_trans hn hN)]
  exact kk H locs ls hP hS h
theorem wl_upB {k n : Nat} {a : Int} (hk : kd ly k = 9) : wl ly g (up2 I k n a) L = (wl ly g I L).set k (g.2.1 k, .inl (g.2.2 9, ln ly k, .inl (fun j => zI (if j = n then a else I k j)))) := by
  rw [← wl_set g (I := I) (L := L) (k := k) (fun j h => up2_cell I n a h) (fun _ _ => rfl), mk_arrB hk]
  simp only [up2, if_true]
theorem wl_upI {k n : Nat} {a : Int} (hk : kd ly k = 10) : wl ly g (up2 I k n a) L = (wl ly g I L).set k (g.2.1 k, .inl (g.2.2 10, ln ly k, .inl (fun j => zI (if j = n then a else I k j)))) := by
  rw [← wl_set g (I := I) (L := L) (k := k) (fun j h => up2_cell I n a h) (fun _ _ => rfl), mk_arrI hk]
  simp only [up2, if_true]
theorem wl_upZ {k n : Nat} {a : Int} (hk : kd ly k = 12) : wl ly g (up2 I k n a) L = (wl ly g I L).set k (g.2.1 k, .inl (g.2.2 12, ln ly k, .inl (fun j => zI (if j = n then a else I k j)))) := by
  rw [← wl_set g (I := I) (L := L) (k := k) (fun j h => up2_cell I n a h) (fun _ _ => rfl), mk_arrZ hk]
  simp only [up2, if_true]
theorem wl_upJ {k n : Nat} {a : Int64} (hk : kd ly k = 11) : wl ly g I (up2 L k n a) = (wl ly g I L).set k (g.2.1 k, .inl (g.2.2 11, ln ly k, .inr (.inl (vp_updL (L k) n a)))) := by
  rw [← wl_set g (I := I) (L := L) (k := k) (fun _ _ => rfl) (fun j h => up2_cell L n a h), mk_arrJ hk]
  have e : up2 L k n a k = vp_updL (L k) n a := by funext j; simp [up2, vp_updL]
  rw [e]
theorem upd_zI (f : Nat → Int) (n : Nat) (a : Int) : upd (fun j => zI (f j)) n (zI a) = fun j => zI (if j = n then a else f j) := by
  funext j
  by_cases h : j = n <;> simp [upd, h]
theorem rr_iast (F : Fx x ly g cc own ret f lo) {k n : Nat} {i a : Int} (hk : kd ly k = 10) (he : i = (n : Int)) (hn : n < ln ly k) (d : decode cc pc = .ok (.iastore, 1)) (kk : Rn x ly g post (pc + 1) lv (st) (up2 I k n a) L) : Rn x ly g post pc lv (.int (zI a) :: .int (zI i) :: .ref (g.2.1 k) :: st) I L := fun H locs ls hP hS h => by
  subst he
  have hN := F.2.2.2.2.2.1.2.2.2 k
  refine va_iast F.1 F.2.1 F.2.2.2.2.2.1.1 hP (wl_D F.2.2.2.2.2.1.2.1 I L) hS k 1 (by rw [wl_get g I L (kd_lt hk (by decide)), mk_arrI hk]) rfl (zI_in hn hN) d (fun H1 locs1 hP1 _ hS1 => kk H1 locs1 ls ?_ hS1 h)
  rw [zI_clamp (Nat.lt_trans hn hN), upd_zI, ← wl_upI hk] at hP1
  exact hP1
theorem rr_bast (F : Fx x ly g cc own ret f lo) {k n : Nat} {i a : Int} (hk : kd ly k = 9) (he : i = (n : Int)) (hn : n < ln ly k) (hv : vp_nar .byte (zI a) = zI a) (d : decode cc pc = .ok (.bastore, 1)) (kk : Rn x ly g post (pc + 1) lv (st) (up2 I k n a) L) : Rn x ly g post pc lv (.int (zI a) :: .int (zI i) :: .ref (g.2.1 k) :: st) I L := fun H locs ls hP hS h => by
  subst he
  have hN := F.2.2.2.2.2.1.2.2.2 k
  refine va_bast F.1 F.2.1 F.2.2.2.2.2.1.1 hP (wl_D F.2.2.2.2.2.1.2.1 I L) hS k 0 (by rw [wl_get g I L (kd_lt hk (by decide)), mk_arrB hk]) rfl (zI_in hn hN) d (fun H1 locs1 hP1 _ hS1 => kk H1 locs1 ls ?_ hS1 h)
  rw [zI_clamp (Nat.lt_trans hn hN), hv, upd_zI, ← wl_upB hk] at hP1
  exact hP1
theorem rr_zast (F : Fx x ly g cc own ret f lo) {k n : Nat} {i a : Int} (hk : kd ly k = 12) (he : i = (n : Int)) (hn : n < ln ly k) (hv : vp_nar .boolean (zI a) = zI a) (d : decode cc pc = .ok (.bastore, 1)) (kk : Rn x ly g post (pc + 1) lv (st) (up2 I k n a) L) : Rn x ly g post pc lv (.int (zI a) :: .int (zI i) :: .ref (g.2.1 k) :: st) I L := fun H locs ls hP hS h => by
  subst he
  have hN := F.2.2.2.2.2.1.2.2.2 k
  refine va_zast F.1 F.2.1 F.2.2.2.2.2.1.1 hP (wl_D F.2.2.2.2.2.1.2.1 I L) hS k 3 (by rw [wl_get g I L (kd_lt hk (by decide)), mk_arrZ hk]) rfl (zI_in hn hN) d (fun H1 locs1 hP1 _ hS1 => kk H1 locs1 ls ?_ hS1 h)
  rw [zI_clamp (Nat.lt_trans hn hN), hv, upd_zI, ← wl_upZ hk] at hP1
  exact hP1
theorem rr_last_0 : True := trivial
theorem rr_last (F : Fx x ly g cc own ret f lo) {k n : Nat} {i : Int} {a : Int64} (hk : kd ly k = 11) (he : i = (n : Int)) (hn : n < ln ly k) (d : decode cc pc = .ok (.lastore, 1)) (kk : Rn x ly g post (pc + 1) lv (st) I (up2 L k n a)) : Rn x ly g post pc lv (.long a :: .int (zI i) :: .ref (g.2.1 k) :: st) I L := fun H locs ls hP hS h => by
  subst he
  have hN := F.2.2.2.2.2.1.2.2.2 k
  refine va_last F.1 F.2.1 F.2.2.2.2.2.1.1 hP (wl_D F.2.2.2.2.2.1.2.1 I L) hS k 2 (by rw [wl_get g I L (kd_lt hk (by decide)), mk_arrJ hk]) rfl (zI_in hn hN) d (fun H1 locs1 hP1 _ hS1 => kk H1 locs1 ls ?_ hS1 h)
  rw [zI_clamp (Nat.lt_trans hn hN), ← wl_upJ hk] at hP1
  exact hP1
theorem rr_iret (F : Fx x ly g cc own (some .int) f lo) {a : Int} (d : decode cc pc = .ok (.ireturn, 1)) (hp : post (some (.int (zI a))) I L) : Rn x ly g post pc lv ([.int (zI a)]) I L := fun H locs ls hP hS hl => W.iret F.1 F.2.1 F.2.2.2.2.2.2.2.1 (fun t ht _ => ⟨⟨_, I, L, rfl, hp, by rw [ht]; exact hP⟩, hS.F ht⟩) hS.2.2 d F.2.2.2.2.2.2.1
theorem rr_zret (F : Fx x ly g cc own (some .boolean) f lo) {a : Int} (d : decode cc pc = .ok (.ireturn, 1)) (hn : narrow .boolean (.int (zI a)) = .int (zI a)) (hp : post (some (.int (zI a))) I L) : Rn x ly g post pc lv ([.int (zI a)]) I L := fun H locs ls hP hS hl => W.zret F.1 F.2.1 F.2.2.2.2.2.2.2.1 hn (fun t ht _ => ⟨⟨_, I, L, rfl, hp, by rw [ht]; exact hP⟩, hS.F ht⟩) hS.2.2 d F.2.2.2.2.2.2.1
theorem rr_lret (F : Fx x ly g cc own (some .long) f lo) {a : Int64} (d : decode cc pc = .ok (.lreturn, 1)) (hp : post (some (.long a)) I L) : Rn x ly g post pc lv ([.long a]) I L := fun H locs ls hP hS hl => W.lret F.1 F.2.1 F.2.2.2.2.2.2.2.1 (fun t ht _ => ⟨⟨_, I, L, rfl, hp, by rw [ht]; exact hP⟩, hS.F ht⟩) hS.2.2 d F.2.2.2.2.2.2.1
theorem rr_vret (F : Fx x ly g cc own none f lo) (d : decode cc pc = .ok (.return_, 1)) (hp : post none I L) : Rn x ly g post pc lv ([]) I L := fun H locs ls hP hS hl => W.vret F.1 F.2.1 F.2.2.2.2.2.2.2.1 (fun t ht _ => ⟨⟨_, I, L, rfl, hp, by rw [ht]; exact hP⟩, hS.F ht⟩) hS.2.2 d F.2.2.2.2.2.2.1
theorem rr_aret {C : String} (F : Fx x ly g cc own (some (.object C)) f lo) {a : Nat} (d : decode cc pc = .ok (.areturn, 1)) (hp : post (some (.ref a)) I L) : Rn x ly g post pc lv ([.ref a]) I L := fun H locs ls hP hS hl => W.aret F.1 F.2.1 F.2.2.2.2.2.2.2.1 (Or.inl ⟨_, rfl⟩) (Or.inr ⟨_, rfl⟩) (fun t ht _ => ⟨⟨_, I, L, rfl, hp, by rw [ht]; exact hP⟩, hS.F ht⟩) hS.2.2 d F.2.2.2.2.2.2.1
theorem zI_max {a b : Int} (ha : rg a) (hb : rg b) : (if zI a < zI b then zI b else zI a) = zI (max a b) := by
  by_cases h : a < b
  · rw [if_pos ((zI_lt ha hb).mpr h), Int.max_eq_right (Int.le_of_lt h)]
  · rw [if_neg (fun q => h ((zI_lt ha hb).mp q)), Int.max_eq_left (Int.not_lt.mp h)]
theorem rr_max (F : Fx x ly g cc own ret f lo) {idx : Nat} {a b : Int} (hl : Cond.methodLink own idx Lib.Math.max.name ∈ UW) (ha : rg a) (hb : rg b) (hf : 1 ≤ f) (hlo : (st.map fun v => v.category).sum + 13 ≤ lo) (d : decode cc pc = .ok (.invokestatic idx, 3)) (kk : Rn x ly g post (pc + 3) lv (.int (zI (max a b)) :: st) I L) : Rn x ly g post pc lv (.int (zI b) :: .int (zI a) :: st) I L := fun H locs ls hP hS hl' => va_mmax F.1 F.2.1 (F.2.2.1.trans hl'.1.1.symm) F.2.2.2.1 (F.2.2.2.2.1 _ hl) (F.2.2.2.2.1 _ mw_max_st) (F.2.2.2.2.1 _ mw_Math) (F.2.2.2.2.1 _ mw_max_code) (by rw [F.2.2.2.2.2.2.2.2]; exact hf) (by rw [F.2.2.2.2.2.2.2.2]; exact hlo) (Nat.zero_le _) (Nat.zero_le _) d (by rw [zI_max ha hb]; exact kk H locs ls hP hS hl')
theorem zI_min {a b : Int} (ha : rg a) (hb : rg b) : (if zI b < zI a then zI b else zI a) = zI (min a b) := by
  by_cases h : b < a
  · rw [if_pos ((zI_lt hb ha).mpr h), Int.min_eq_right (Int.le_of_lt h)]
  · rw [if_neg (fun q => h ((zI_lt hb ha).mp q)), Int.min_eq_left (Int.not_lt.mp h)]
theorem rr_min (F : Fx x ly g cc own ret f lo) {idx : Nat} {a b : Int} (hl : Cond.methodLink own idx Lib.Math.min.name ∈ UW) (ha : rg a) (hb : rg b) (hf : 1 ≤ f) (hlo : (st.map fun v => v.category).sum + 13 ≤ lo) (d : decode cc pc = .ok (.invokestatic idx, 3)) (kk : Rn x ly g post (pc + 3) lv (.int (zI (min a b)) :: st) I L) : Rn x ly g post pc lv (.int (zI b) :: .int (zI a) :: st) I L := fun H locs ls hP hS hl' => va_mmin F.1 F.2.1 (F.2.2.1.trans hl'.1.1.symm) F.2.2.2.1 (F.2.2.2.2.1 _ hl) (F.2.2.2.2.1 _ mw_min_st) (F.2.2.2.2.1 _ mw_Math) (F.2.2.2.2.1 _ mw_min_code) (by rw [F.2.2.2.2.2.2.2.2]; exact hf) (by rw [F.2.2.2.2.2.2.2.2]; exact hlo) (Nat.zero_le _) (Nat.zero_le _) d (by rw [zI_min ha hb]; exact kk H locs ls hP hS hl')
theorem rr_kw (F : Fx x ly g cc own ret f lo) {idx : Nat} (hl : Cond.fieldLink own idx "BorrowedPages$Reader" "KEYWORDS" "[I" ∈ UW) (d : decode cc pc = .ok (.getstatic idx, 3)) (kk : ∀ t : Nat, va_T .int t 5 kwv (AA ly g) x.2.2.2.2.1 x.2.2.2.2.1.heap → Rn x ly g post (pc + 3) lv (.ref t :: st) I L) : Rn x ly g post pc lv (st) I L := fun H locs ls hP hS h => by
  obtain ⟨t, hZ, hT⟩ := F.2.2.2.2.2.1.2.2.1
  exact va_gets F.1 F.2.1 hZ hS F.2.2.2.1 (F.2.2.2.2.1 _ hl) (fun _ q => q) d (kk t hT H locs ls hP hS h)
theorem rr_kwlen (F : Fx x ly g cc own ret f lo) {t : Nat} (hT : va_T .int t 5 kwv (AA ly g) x.2.2.2.2.1 x.2.2.2.2.1.heap) (d : decode cc pc = .ok (.arraylength, 1)) (kk : Rn x ly g post (pc + 1) lv (.int (zI 5) :: st) I L) : Rn x ly g post pc lv (.ref t :: st) I L := fun H locs ls hP hS h => va_tlen F.1 F.2.1 hT hS rfl d (kk H locs ls hP hS h)
theorem rr_kwld (F : Fx x ly g cc own ret f lo) {t n : Nat} {i : Int} {v : Value} (hT : va_T .int t 5 kwv (AA ly g) x.2.2.2.2.1 x.2.2.2.2.1.heap) (he : i = (n : Int)) (hn : n < 5) (hv : kwv n = v) (d : decode cc pc = .ok (.iaload, 1)) (kk : Rn x ly g post (pc + 1) lv (v :: st) I L) : Rn x ly g post pc lv (.int (zI i) :: .ref t :: st) I L := fun H locs ls hP hS h => by
  subst he
  exact va_ti F.1 F.2.1 hT hS (zI_in hn (by omega)) (by rw [zI_clamp (by omega)]; exact hv) d (kk H locs ls hP hS h)
theorem univ_good {y : MethodName} {cy : ByteArray} {ny : Nat} {ry : Option FieldType} (h : Cond.code y cy ny ry ∈ UW) : GoodIn UW (Cond.code y cy ny ry :: UW) := by
  intro w hw
  have hm : w ∈ UW := by
    rcases List.mem_cons.mp hw with rfl | q
    · exact h
    · exact q
  exact ⟨hm, good_of_word (List.mem_filter.mp hm).2⟩
theorem KW.go {A : Nat → Prop} {u U : State} {H H1 : Heap} (h : KW A u H) (hvm : u.vm.Alike U.vm) (hq : ∀ a : Nat, a < H.size → ¬ A a → H1[a]? = H[a]?) : KW A U H1 := by
  obtain ⟨t, h1, h2⟩ := h
  exact ⟨t, (h1.kept hq).moved hvm, (h2.kept hq).moved hvm⟩
theorem Bw.blind (av : List Value) : FrameBlind (va_Pc av (Bw ly g I L)) := fun a U gg mk q => by
  obtain ⟨q0, qP, qK, qi, qW, qn⟩ := q
  exact ⟨q0, qP, va_K.moved (u := U) (U := U.calling gg mk a) (Vm.Alike.refl U.vm) qK, qi, qW.go (U := U.calling gg mk a) (Vm.Alike.refl U.vm) (fun _ _ _ => rfl), qn⟩
theorem Kx.go {s U : State} {H : Heap} {locs : List Loc} (h : Kx ly g s) (hS : va_S (AA ly g) s.heap H locs) (hU : U.heap = H) (hvm : s.vm.Alike U.vm) : Kx ly g U := by
  obtain ⟨h1, h2, h3, h4⟩ := h
  exact ⟨va_K.moved hvm h1, h2, h3.go hvm (fun a ha hA => by rw [hU]; exact hS.2.1 a ha hA), h4⟩
theorem arity_of {y : MethodName} {n : Nat} (h : (parseMethodDescriptor y.desc).map (fun d => d.parameters.length) = some n) : ∀ sig, parseMethodDescriptor y.desc = some sig → n = sig.parameters.length := by
  intro sig hs
  rw [hs] at h
  exact (Option.some.inj h).symm
theorem mk_obj {k ci : Nat} (hk : kd ly k = ci) (hci : ci < 9) (f : Nat → Int) (h : Nat → Int64) : ∃ fs, mkE g (ly.getD k (99, 0)) k f h = .inr (ci, fs) := by
  subst hk
  have : kd ly k = 0 ∨ kd ly k = 1 ∨ kd ly k = 2 ∨ kd ly k = 3 ∨ kd ly k = 4 ∨ kd ly k = 5 ∨ kd ly k = 6 ∨ kd ly k = 7 ∨ kd ly k = 8 := by omega
  rcases this with e | e | e | e | e | e | e | e | e
  · exact ⟨_, by rw [e]; exact mk_Book e f h⟩
  · exact ⟨_, by rw [e]; exact mk_Comparison e f h⟩
  · exact ⟨_, by rw [e]; exact mk_Groups e f h⟩
  · exact ⟨_, by rw [e]; exact mk_Page e f h⟩
  · exact ⟨_, by rw [e]; exact mk_Reader e f h⟩
  · exact ⟨_, by rw [e]; exact mk_Shelf e f h⟩
  · exact ⟨_, by rw [e]; exact mk_Tape e f h⟩
  · exact ⟨_, by rw [e]; exact mk_BP e f h⟩
  · exact ⟨_, by rw [e]; exact mk_Model e f h⟩
theorem rr_callV (F : Fx x ly g cc own ret f lo) {y : MethodName} {cy : ByteArray} {ny f' lo' idx k ci N : Nat} {ry : Option FieldType} {As rest : List Value} {C : String} {T : u_T} {post' : poT} (hM : Ct x.2.1 y cy ny ry f' lo' ly g (.ref (g.2.1 k) :: As) I L post') (hF : MF y cy ny ry C As.length) (hl1 : Cond.methodLink own idx y ∈ UW) (hr : f' + 1 ≤ f ∧ 8 + (ny + 11) + lo' ≤ lo) (hk : kd ly k = ci) (hci : ci < 9) (hcl : vwCl[ci]? = some (C, T, N)) (hst : st = As.reverse ++ .ref (g.2.1 k) :: rest) (hrest : (rest.map fun v => v.category).sum ≤ 8) (d : decode cc pc = .ok (.invokevirtual idx, 3)) (kk : ∀ (v : Option Value) (I' : IM) (L' : LM), post' v I' L' → Rn x ly g post (pc + 3) lv (v.toList ++ rest) I' L') : Rn x ly g post pc lv (st) I L := fun H locs ls hP hS hl => by
  have hR : x.2.2.2.1 = rmT f lo := F.2.2.2.2.2.2.2.2
  obtain ⟨hc, hi, hs, hini, hy, hd⟩ := hF
  subst hst
  have hts := F.2.2.2.2.1
  have hcb : CallB x.2.2.2.1 x.2.2.2.2.1 x.2.2.2.2.2.2.1 own idx y cy ny ry (Cond.code y cy ny ry :: UW) (rmT f' lo') 0 0 As.length := ⟨rfl, rfl, by rw [hR]; exact hr.1, by rw [hR]; exact hr.2, pay_in hts (univ_good hc), List.mem_cons_self, hts _ hc, hts _ hini, hy, arity_of hd, hts _ hl1⟩
  have hrun := va_runV (e := x.2.2.1) (m := x.2.2.2.2.2.1) (below := x.2.2.2.2.2.2.2.1) (meth := x.2.2.2.2.2.2.2.2.1) (locs := locs) (cells := 0) (slots := 0) (rest := rest) (g := F0 x.2.2.2.2.2.1 pc ls (As.reverse ++ .ref (g.2.1 k) :: rest)) ⟨F.1, F.2.1, F.2.2.1, F.2.2.2.1, hts⟩ hM ⟨hcb, hts _ hi, hts _ hs⟩ ⟨Bw.blind _, va_recv F.2.2.2.2.2.1.1 hP hcl (q0 := k) (by rw [wl_get g I L (kd_lt hk (by omega)), (mk_obj hk hci _ _).choose_spec]), fun U hU hW => ⟨rfl, by rw [hU]; exact hP, F.2.2.2.2.2.1.go hS hU hW.alike⟩⟩ rfl rfl hl.1.1 rfl (lv_room hrest) d ⟨Nat.zero_le _, Nat.zero_le _⟩
  intro T hT X
  obtain ⟨v, st₀, t, T', LL, h0, X', hL, e1, e2, ⟨⟨v', I', L', hv, hp, hP'⟩, hz, hk'⟩, stp⟩ := hrun T hT X
  cases hv
  rw [h0] at hz hk'
  have hS' : va_S (AA ly g) x.2.2.2.2.1.heap T'.heap (locs ++ LL) := ⟨Nat.le_trans hS.1 (by rw [e1]; exact hz), fun q h1 h2 => by rw [e1, hk' q (Nat.lt_of_lt_of_le h1 hS.1) h2]; exact hS.2.1 q h1 h2, fun q hq => by
      rcases List.mem_append.mp hq with h | h
      · exact hS.2.2 q h
      · exact hL q h⟩
  obtain ⟨t2, a1, b1⟩ := kk v I' L' hp T'.heap (locs ++ LL) ls (by rw [e1]; exact hP') hS' hl T' rfl X'
  exact ⟨t2, stp t2 a1, b1⟩
theorem rr_callS (F : Fx x ly g cc own ret f lo) {y : MethodName} {cy : ByteArray} {ny f' lo' idx : Nat} {ry : Option FieldType} {As rest : List Value} {post' : poT} (hM : Ct x.2.1 y cy ny ry f' lo' ly g As I L post') (hF : MFs y cy ny ry As.length) (hl1 : Cond.methodLink own idx y ∈ UW) (hr : f' + 1 ≤ f ∧ 8 + (ny + 11) + lo' ≤ lo) (hst : st = As.reverse ++ rest) (hrest : (rest.map fun v => v.category).sum ≤ 8) (d : decode cc pc = .ok (.invokestatic idx, 3)) (kk : ∀ (v : Option Value) (I' : IM) (L' : LM), post' v I' L' → Rn x ly g post (pc + 3) lv (v.toList ++ rest) I' L') : Rn x ly g post pc lv (st) I L := fun H locs ls hP hS hl => by
  have hR : x.2.2.2.1 = rmT f lo := F.2.2.2.2.2.2.2.2
  obtain ⟨hc, hs, hini, hy, hd⟩ := hF
  subst hst
  have hts := F.2.2.2.2.1
  have hcb : CallB x.2.2.2.1 x.2.2.2.2.1 x.2.2.2.2.2.2.1 own idx y cy ny ry (Cond.code y cy ny ry :: UW) (rmT f' lo') 0 0 As.length := ⟨rfl, rfl, by rw [hR]; exact hr.1, by rw [hR]; exact hr.2, pay_in hts (univ_good hc), List.mem_cons_self, hts _ hc, hts _ hini, hy, arity_of hd, hts _ hl1⟩
  have hrun := va_runS (e := x.2.2.1) (m := x.2.2.2.2.2.1) (below := x.2.2.2.2.2.2.2.1) (meth := x.2.2.2.2.2.2.2.2.1) (locs := locs) (cells := 0) (slots := 0) (rest := rest) (g := F0 x.2.2.2.2.2.1 pc ls (As.reverse ++ rest)) ⟨F.1, F.2.1, F.2.2.1, F.2.2.2.1, hts⟩ hM ⟨hcb, hts _ hs⟩ ⟨Bw.blind _, fun U hU hW => ⟨rfl, by rw [hU]; exact hP, F.2.2.2.2.2.1.go hS hU hW.alike⟩⟩ rfl rfl hl.1.1 rfl (lv_room hrest) d ⟨Nat.zero_le _, Nat.zero_le _⟩
  intro T hT X
  obtain ⟨v, st₀, t, T', LL, h0, X', hL, e1, e2, ⟨⟨v', I', L', hv, hp, hP'⟩, hz, hk'⟩, stp⟩ := hrun T hT X
  cases hv
  rw [h0] at hz hk'
  have hS' : va_S (AA ly g) x.2.2.2.2.1.heap T'.heap (locs ++ LL) := ⟨Nat.le_trans hS.1 (by rw [e1]; exact hz), fun q h1 h2 => by rw [e1, hk' q (Nat.lt_of_lt_of_le h1 hS.1) h2]; exact hS.2.1 q h1 h2, fun q hq => by
      rcases List.mem_append.mp hq with h | h
      · exact hS.2.2 q h
      · exact hL q h⟩
  obtain ⟨t2, a1, b1⟩ := kk v I' L' hp T'.heap (locs ++ LL) ls (by rw [e1]; exact hP') hS' hl T' rfl X'
  exact ⟨t2, stp t2 a1, b1⟩
end RR
end
section
theorem zz_end : True := trivial
end
