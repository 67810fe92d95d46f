section
-- ===== PART A: goes FIRST, ahead of the names: the tables' words, and 'selects' of the private methods out of them =====
/-- a private method of a class that the tables say can be made, by its rows of tables_1 -/
def lw_okq (q : MethodName × Nat) : Prop := (q.1.cls ≠ "java/lang/invoke/MethodHandle" ∧ q.1.cls ≠ "java/lang/invoke/VarHandle") ∧ Cond.instantiable q.1.cls q.2 ∈ tables_1 ∧ Cond.privateMethod q.1 ∈ tables_1 ∧ Cond.instanceMethod q.1 ∈ tables_1
theorem lw_p0 : lw_okq (⟨"BorrowedPages$Reader", "takeByte", "(ILBorrowedPages$Book;)V"⟩, 3) := ⟨⟨by decide +kernel, by decide +kernel⟩, List.mem_of_getElem? (i := 37) (by decide +kernel), List.mem_of_getElem? (i := 271) (by decide +kernel), List.mem_of_getElem? (i := 272) (by decide +kernel)⟩
theorem lw_p1 : lw_okq (⟨"BorrowedPages$Reader", "lengthenWord", "(I)V"⟩, 3) := ⟨⟨by decide +kernel, by decide +kernel⟩, List.mem_of_getElem? (i := 37) (by decide +kernel), List.mem_of_getElem? (i := 278) (by decide +kernel), List.mem_of_getElem? (i := 279) (by decide +kernel)⟩
theorem lw_p2 : lw_okq (⟨"BorrowedPages$Reader", "endPiece", "(LBorrowedPages$Book;)V"⟩, 3) := ⟨⟨by decide +kernel, by decide +kernel⟩, List.mem_of_getElem? (i := 37) (by decide +kernel), List.mem_of_getElem? (i := 283) (by decide +kernel), List.mem_of_getElem? (i := 284) (by decide +kernel)⟩
theorem lw_p3 : lw_okq (⟨"BorrowedPages$Reader", "codeOfWord", "()I"⟩, 3) := ⟨⟨by decide +kernel, by decide +kernel⟩, List.mem_of_getElem? (i := 37) (by decide +kernel), List.mem_of_getElem? (i := 287) (by decide +kernel), List.mem_of_getElem? (i := 288) (by decide +kernel)⟩
theorem lw_p4 : lw_okq (⟨"BorrowedPages$Reader", "beginPiece", "(IILBorrowedPages$Book;)V"⟩, 3) := ⟨⟨by decide +kernel, by decide +kernel⟩, List.mem_of_getElem? (i := 37) (by decide +kernel), List.mem_of_getElem? (i := 298) (by decide +kernel), List.mem_of_getElem? (i := 299) (by decide +kernel)⟩
theorem lw_p5 : lw_okq (⟨"BorrowedPages", "refusalOfBook", "(I)I"⟩, 5) := ⟨⟨by decide +kernel, by decide +kernel⟩, List.mem_of_getElem? (i := 12) (by decide +kernel), List.mem_of_getElem? (i := 310) (by decide +kernel), List.mem_of_getElem? (i := 311) (by decide +kernel)⟩
theorem lw_p6 : lw_okq (⟨"BorrowedPages$Page", "hashOfGram", "(II)I"⟩, 8) := ⟨⟨by decide +kernel, by decide +kernel⟩, List.mem_of_getElem? (i := 132) (by decide +kernel), List.mem_of_getElem? (i := 366) (by decide +kernel), List.mem_of_getElem? (i := 367) (by decide +kernel)⟩
theorem lw_p7 : lw_okq (⟨"BorrowedPages$Page", "lastOfLeast", "(II)I"⟩, 8) := ⟨⟨by decide +kernel, by decide +kernel⟩, List.mem_of_getElem? (i := 132) (by decide +kernel), List.mem_of_getElem? (i := 376) (by decide +kernel), List.mem_of_getElem? (i := 377) (by decide +kernel)⟩
theorem lw_p8 : lw_okq (⟨"BorrowedPages$Page", "longestSharedUpTo", "(ILBorrowedPages$Page;)I"⟩, 8) := ⟨⟨by decide +kernel, by decide +kernel⟩, List.mem_of_getElem? (i := 132) (by decide +kernel), List.mem_of_getElem? (i := 388) (by decide +kernel), List.mem_of_getElem? (i := 389) (by decide +kernel)⟩
theorem lw_p9 : lw_okq (⟨"BorrowedPages", "refusalOfPair", "(II)I"⟩, 5) := ⟨⟨by decide +kernel, by decide +kernel⟩, List.mem_of_getElem? (i := 12) (by decide +kernel), List.mem_of_getElem? (i := 412) (by decide +kernel), List.mem_of_getElem? (i := 413) (by decide +kernel)⟩
theorem lw_p10 : lw_okq (⟨"BorrowedPages$Comparison", "setBothAside", "(LBorrowedPages$Shelf;II)V"⟩, 9) := ⟨⟨by decide +kernel, by decide +kernel⟩, List.mem_of_getElem? (i := 126) (by decide +kernel), List.mem_of_getElem? (i := 420) (by decide +kernel), List.mem_of_getElem? (i := 421) (by decide +kernel)⟩
theorem lw_p11 : lw_okq (⟨"BorrowedPages$Comparison", "runLengthAt", "(III)I"⟩, 9) := ⟨⟨by decide +kernel, by decide +kernel⟩, List.mem_of_getElem? (i := 126) (by decide +kernel), List.mem_of_getElem? (i := 424) (by decide +kernel), List.mem_of_getElem? (i := 425) (by decide +kernel)⟩
theorem lw_p12 : lw_okq (⟨"BorrowedPages$Comparison", "agree", "(II)Z"⟩, 9) := ⟨⟨by decide +kernel, by decide +kernel⟩, List.mem_of_getElem? (i := 126) (by decide +kernel), List.mem_of_getElem? (i := 428) (by decide +kernel), List.mem_of_getElem? (i := 429) (by decide +kernel)⟩
theorem lw_p13 : lw_okq (⟨"BorrowedPages$Comparison", "sharesMark", "(III)Z"⟩, 9) := ⟨⟨by decide +kernel, by decide +kernel⟩, List.mem_of_getElem? (i := 126) (by decide +kernel), List.mem_of_getElem? (i := 433) (by decide +kernel), List.mem_of_getElem? (i := 434) (by decide +kernel)⟩
theorem lw_p14 : lw_okq (⟨"BorrowedPages$Comparison", "findBest", "(I)V"⟩, 9) := ⟨⟨by decide +kernel, by decide +kernel⟩, List.mem_of_getElem? (i := 126) (by decide +kernel), List.mem_of_getElem? (i := 454) (by decide +kernel), List.mem_of_getElem? (i := 455) (by decide +kernel)⟩
theorem lw_p15 : lw_okq (⟨"BorrowedPages$Comparison", "bestFrom", "(III)I"⟩, 9) := ⟨⟨by decide +kernel, by decide +kernel⟩, List.mem_of_getElem? (i := 126) (by decide +kernel), List.mem_of_getElem? (i := 458) (by decide +kernel), List.mem_of_getElem? (i := 459) (by decide +kernel)⟩
def lw_privs_1 : List (MethodName × Nat) := [(⟨"BorrowedPages$Reader", "takeByte", "(ILBorrowedPages$Book;)V"⟩, 3), (⟨"BorrowedPages$Reader", "lengthenWord", "(I)V"⟩, 3), (⟨"BorrowedPages$Reader", "endPiece", "(LBorrowedPages$Book;)V"⟩, 3), (⟨"BorrowedPages$Reader", "codeOfWord", "()I"⟩, 3), (⟨"BorrowedPages$Reader", "beginPiece", "(IILBorrowedPages$Book;)V"⟩, 3), (⟨"BorrowedPages", "refusalOfBook", "(I)I"⟩, 5), (⟨"BorrowedPages$Page", "hashOfGram", "(II)I"⟩, 8), (⟨"BorrowedPages$Page", "lastOfLeast", "(II)I"⟩, 8), (⟨"BorrowedPages$Page", "longestSharedUpTo", "(ILBorrowedPages$Page;)I"⟩, 8), (⟨"BorrowedPages", "refusalOfPair", "(II)I"⟩, 5), (⟨"BorrowedPages$Comparison", "setBothAside", "(LBorrowedPages$Shelf;II)V"⟩, 9), (⟨"BorrowedPages$Comparison", "runLengthAt", "(III)I"⟩, 9), (⟨"BorrowedPages$Comparison", "agree", "(II)Z"⟩, 9), (⟨"BorrowedPages$Comparison", "sharesMark", "(III)Z"⟩, 9), (⟨"BorrowedPages$Comparison", "findBest", "(I)V"⟩, 9), (⟨"BorrowedPages$Comparison", "bestFrom", "(III)I"⟩, 9)]
theorem lw_r1 : ∀ q ∈ lw_privs_1, lw_okq q := List.forall_mem_cons.mpr ⟨lw_p0, List.forall_mem_cons.mpr ⟨lw_p1, List.forall_mem_cons.mpr ⟨lw_p2, List.forall_mem_cons.mpr ⟨lw_p3, List.forall_mem_cons.mpr ⟨lw_p4, List.forall_mem_cons.mpr ⟨lw_p5, List.forall_mem_cons.mpr ⟨lw_p6, List.forall_mem_cons.mpr ⟨lw_p7, List.forall_mem_cons.mpr ⟨lw_p8, List.forall_mem_cons.mpr ⟨lw_p9, List.forall_mem_cons.mpr ⟨lw_p10, List.forall_mem_cons.mpr ⟨lw_p11, List.forall_mem_cons.mpr ⟨lw_p12, List.forall_mem_cons.mpr ⟨lw_p13, List.forall_mem_cons.mpr ⟨lw_p14, List.forall_mem_cons.mpr ⟨lw_p15, fun _ h => absurd h List.not_mem_nil⟩⟩⟩⟩⟩⟩⟩⟩⟩⟩⟩⟩⟩⟩⟩⟩
theorem lw_p16 : lw_okq (⟨"BorrowedPages$Comparison", "bestWithRun", "(IIII)I"⟩, 9) := ⟨⟨by decide +kernel, by decide +kernel⟩, List.mem_of_getElem? (i := 126) (by decide +kernel), List.mem_of_getElem? (i := 463) (by decide +kernel), List.mem_of_getElem? (i := 464) (by decide +kernel)⟩
theorem lw_p17 : lw_okq (⟨"BorrowedPages$Comparison", "addToChain", "(II)V"⟩, 9) := ⟨⟨by decide +kernel, by decide +kernel⟩, List.mem_of_getElem? (i := 126) (by decide +kernel), List.mem_of_getElem? (i := 476) (by decide +kernel), List.mem_of_getElem? (i := 477) (by decide +kernel)⟩
theorem lw_p18 : lw_okq (⟨"BorrowedPages$Groups", "join", "(II)V"⟩, 2) := ⟨⟨by decide +kernel, by decide +kernel⟩, List.mem_of_getElem? (i := 206) (by decide +kernel), List.mem_of_getElem? (i := 494) (by decide +kernel), List.mem_of_getElem? (i := 495) (by decide +kernel)⟩
theorem lw_p19 : lw_okq (⟨"BorrowedPages$Groups", "membersOf", "(I)I"⟩, 2) := ⟨⟨by decide +kernel, by decide +kernel⟩, List.mem_of_getElem? (i := 206) (by decide +kernel), List.mem_of_getElem? (i := 519) (by decide +kernel), List.mem_of_getElem? (i := 520) (by decide +kernel)⟩
theorem lw_p20 : lw_okq (⟨"BorrowedPagesModel", "read", "(II)V"⟩, 27) := ⟨⟨by decide +kernel, by decide +kernel⟩, List.mem_of_getElem? (i := 527) (by decide +kernel), List.mem_of_getElem? (i := 635) (by decide +kernel), List.mem_of_getElem? (i := 636) (by decide +kernel)⟩
theorem lw_p21 : lw_okq (⟨"BorrowedPagesModel", "readWord", "()J"⟩, 27) := ⟨⟨by decide +kernel, by decide +kernel⟩, List.mem_of_getElem? (i := 527) (by decide +kernel), List.mem_of_getElem? (i := 642) (by decide +kernel), List.mem_of_getElem? (i := 643) (by decide +kernel)⟩
theorem lw_p22 : lw_okq (⟨"BorrowedPagesModel", "codeOf", "(J)I"⟩, 27) := ⟨⟨by decide +kernel, by decide +kernel⟩, List.mem_of_getElem? (i := 527) (by decide +kernel), List.mem_of_getElem? (i := 647) (by decide +kernel), List.mem_of_getElem? (i := 648) (by decide +kernel)⟩
theorem lw_p23 : lw_okq (⟨"BorrowedPagesModel", "add", "(IJ)V"⟩, 27) := ⟨⟨by decide +kernel, by decide +kernel⟩, List.mem_of_getElem? (i := 527) (by decide +kernel), List.mem_of_getElem? (i := 651) (by decide +kernel), List.mem_of_getElem? (i := 652) (by decide +kernel)⟩
theorem lw_p24 : lw_okq (⟨"BorrowedPagesModel", "grams", "(I)I"⟩, 27) := ⟨⟨by decide +kernel, by decide +kernel⟩, List.mem_of_getElem? (i := 527) (by decide +kernel), List.mem_of_getElem? (i := 687) (by decide +kernel), List.mem_of_getElem? (i := 688) (by decide +kernel)⟩
theorem lw_p25 : lw_okq (⟨"BorrowedPagesModel", "hashOf", "(II)I"⟩, 27) := ⟨⟨by decide +kernel, by decide +kernel⟩, List.mem_of_getElem? (i := 527) (by decide +kernel), List.mem_of_getElem? (i := 691) (by decide +kernel), List.mem_of_getElem? (i := 692) (by decide +kernel)⟩
theorem lw_p26 : lw_okq (⟨"BorrowedPagesModel", "findMarks", "(I)V"⟩, 27) := ⟨⟨by decide +kernel, by decide +kernel⟩, List.mem_of_getElem? (i := 527) (by decide +kernel), List.mem_of_getElem? (i := 701) (by decide +kernel), List.mem_of_getElem? (i := 702) (by decide +kernel)⟩
theorem lw_p27 : lw_okq (⟨"BorrowedPagesModel", "findAside", "(I)V"⟩, 27) := ⟨⟨by decide +kernel, by decide +kernel⟩, List.mem_of_getElem? (i := 527) (by decide +kernel), List.mem_of_getElem? (i := 709) (by decide +kernel), List.mem_of_getElem? (i := 710) (by decide +kernel)⟩
theorem lw_p28 : lw_okq (⟨"BorrowedPagesModel", "against", "(II)I"⟩, 27) := ⟨⟨by decide +kernel, by decide +kernel⟩, List.mem_of_getElem? (i := 527) (by decide +kernel), List.mem_of_getElem? (i := 717) (by decide +kernel), List.mem_of_getElem? (i := 718) (by decide +kernel)⟩
theorem lw_p29 : lw_okq (⟨"BorrowedPagesModel", "findRuns", "(II)V"⟩, 27) := ⟨⟨by decide +kernel, by decide +kernel⟩, List.mem_of_getElem? (i := 527) (by decide +kernel), List.mem_of_getElem? (i := 721) (by decide +kernel), List.mem_of_getElem? (i := 722) (by decide +kernel)⟩
theorem lw_p30 : lw_okq (⟨"BorrowedPagesModel", "isAlike", "(IIII)Z"⟩, 27) := ⟨⟨by decide +kernel, by decide +kernel⟩, List.mem_of_getElem? (i := 527) (by decide +kernel), List.mem_of_getElem? (i := 725) (by decide +kernel), List.mem_of_getElem? (i := 726) (by decide +kernel)⟩
theorem lw_p31 : lw_okq (⟨"BorrowedPagesModel", "findScore", "(II)I"⟩, 27) := ⟨⟨by decide +kernel, by decide +kernel⟩, List.mem_of_getElem? (i := 527) (by decide +kernel), List.mem_of_getElem? (i := 737) (by decide +kernel), List.mem_of_getElem? (i := 738) (by decide +kernel)⟩
def lw_privs_2 : List (MethodName × Nat) := [(⟨"BorrowedPages$Comparison", "bestWithRun", "(IIII)I"⟩, 9), (⟨"BorrowedPages$Comparison", "addToChain", "(II)V"⟩, 9), (⟨"BorrowedPages$Groups", "join", "(II)V"⟩, 2), (⟨"BorrowedPages$Groups", "membersOf", "(I)I"⟩, 2), (⟨"BorrowedPagesModel", "read", "(II)V"⟩, 27), (⟨"BorrowedPagesModel", "readWord", "()J"⟩, 27), (⟨"BorrowedPagesModel", "codeOf", "(J)I"⟩, 27), (⟨"BorrowedPagesModel", "add", "(IJ)V"⟩, 27), (⟨"BorrowedPagesModel", "grams", "(I)I"⟩, 27), (⟨"BorrowedPagesModel", "hashOf", "(II)I"⟩, 27), (⟨"BorrowedPagesModel", "findMarks", "(I)V"⟩, 27), (⟨"BorrowedPagesModel", "findAside", "(I)V"⟩, 27), (⟨"BorrowedPagesModel", "against", "(II)I"⟩, 27), (⟨"BorrowedPagesModel", "findRuns", "(II)V"⟩, 27), (⟨"BorrowedPagesModel", "isAlike", "(IIII)Z"⟩, 27), (⟨"BorrowedPagesModel", "findScore", "(II)I"⟩, 27)]
theorem lw_r2 : ∀ q ∈ lw_privs_2, lw_okq q := List.forall_mem_cons.mpr ⟨lw_p16, List.forall_mem_cons.mpr ⟨lw_p17, List.forall_mem_cons.mpr ⟨lw_p18, List.forall_mem_cons.mpr ⟨lw_p19, List.forall_mem_cons.mpr ⟨lw_p20, List.forall_mem_cons.mpr ⟨lw_p21, List.forall_mem_cons.mpr ⟨lw_p22, List.forall_mem_cons.mpr ⟨lw_p23, List.forall_mem_cons.mpr ⟨lw_p24, List.forall_mem_cons.mpr ⟨lw_p25, List.forall_mem_cons.mpr ⟨lw_p26, List.forall_mem_cons.mpr ⟨lw_p27, List.forall_mem_cons.mpr ⟨lw_p28, List.forall_mem_cons.mpr ⟨lw_p29, List.forall_mem_cons.mpr ⟨lw_p30, List.forall_mem_cons.mpr ⟨lw_p31, fun _ h => absurd h List.not_mem_nil⟩⟩⟩⟩⟩⟩⟩⟩⟩⟩⟩⟩⟩⟩⟩⟩
theorem lw_p32 : lw_okq (⟨"BorrowedPagesModel", "findGroups", "()V"⟩, 27) := ⟨⟨by decide +kernel, by decide +kernel⟩, List.mem_of_getElem? (i := 527) (by decide +kernel), List.mem_of_getElem? (i := 753) (by decide +kernel), List.mem_of_getElem? (i := 754) (by decide +kernel)⟩
theorem lw_p33 : lw_okq (⟨"BorrowedPagesModel", "join", "(II)V"⟩, 27) := ⟨⟨by decide +kernel, by decide +kernel⟩, List.mem_of_getElem? (i := 527) (by decide +kernel), List.mem_of_getElem? (i := 757) (by decide +kernel), List.mem_of_getElem? (i := 758) (by decide +kernel)⟩
theorem lw_p34 : lw_okq (⟨"BorrowedPagesModel", "turnOne", "(I)V"⟩, 27) := ⟨⟨by decide +kernel, by decide +kernel⟩, List.mem_of_getElem? (i := 527) (by decide +kernel), List.mem_of_getElem? (i := 773) (by decide +kernel), List.mem_of_getElem? (i := 774) (by decide +kernel)⟩
def lw_privs_3 : List (MethodName × Nat) := [(⟨"BorrowedPagesModel", "findGroups", "()V"⟩, 27), (⟨"BorrowedPagesModel", "join", "(II)V"⟩, 27), (⟨"BorrowedPagesModel", "turnOne", "(I)V"⟩, 27)]
theorem lw_r3 : ∀ q ∈ lw_privs_3, lw_okq q := List.forall_mem_cons.mpr ⟨lw_p32, List.forall_mem_cons.mpr ⟨lw_p33, List.forall_mem_cons.mpr ⟨lw_p34, fun _ h => absurd h List.not_mem_nil⟩⟩⟩
def lw_privs : List (MethodName × Nat) := lw_privs_1 ++ (lw_privs_2 ++ (lw_privs_3))
def lw_tbl : List Cond := k2_sels lw_privs ++ tables_1
theorem lw_privs_ok : ∀ q ∈ lw_privs, lw_okq q := by
  show ∀ q ∈ lw_privs_1 ++ (lw_privs_2 ++ (lw_privs_3)), lw_okq q
  exact List.forall_mem_append.mpr ⟨lw_r1, List.forall_mem_append.mpr ⟨lw_r2, lw_r3⟩⟩
end
section
/-! ===== BEGIN words of one list among another's, by their places ===== -/
theorem goodIn_r {big : List Cond} (ws : List Cond) (ps : List Nat) (hp : ws = ps.filterMap (fun i => big[i]?)) (h : ws.all goodWord = true) : GoodIn big ws := by
  intro w hw
  have h1 := List.all_eq_true.mp h w hw
  rw [hp] at hw
  obtain ⟨i, -, hi⟩ := List.mem_filterMap.mp hw
  have hm : w ∈ big := by first | exact List.mem_of_getElem? hi | exact List.getElem?_mem hi
  exact ⟨hm, good_of_word h1⟩
theorem goodIn_app {big a b : List Cond} (ha : GoodIn big a) (hb : GoodIn big b) : GoodIn big (a ++ b) := fun w h => (List.mem_append.mp h).elim (ha w) (hb w)
theorem goodIn_ca {big a b : List Cond} {c : Cond} (ha : GoodIn big (c :: a)) (hb : GoodIn big b) : GoodIn big (c :: (a ++ b)) := fun w h => (List.mem_cons.mp h).elim (fun e => ha w (List.mem_cons.mpr (Or.inl e))) (fun h => (List.mem_append.mp h).elim (fun h => ha w (List.mem_cons.mpr (Or.inr h))) (hb w))
theorem goodIn_sub {big ws : List Cond} (hm : ∀ w ∈ ws, w ∈ big) (h : ws.all goodWord = true) : GoodIn big ws := fun w hw => ⟨hm w hw, good_of_word (List.all_eq_true.mp h w hw)⟩
/-! ===== END ===== -/

/-! ===== BEGIN printed: names, fields, word lists, decode rows ===== -/
def RX0 : String := "BorrowedPages$Book"
def TX0 : u_T := fun k => match k with
  | 0 => ("BorrowedPages$Book", "tokens", "[J", true)
  | 1 => ("BorrowedPages$Book", "size", "I", false)
  | 2 => ("BorrowedPages$Book", "language", "I", false)
  | 3 => ("BorrowedPages$Book", "day", "I", false)
  | _ => ("BorrowedPages$Book", "held", "Z", false)
def tyX0 : Nat → FieldType := fun k => match k with
  | 0 => .array .long
  | 1 => .int
  | 2 => .int
  | 3 => .int
  | _ => .boolean
abbrev wsX00 : List Cond := u_ws RX0 TX0 5
theorem nmX0 : ∀ a, a < 5 → ∀ b, b < 5 → a ≠ b → (TX0 a).2.1 ≠ (TX0 b).2.1 := by decide +kernel
theorem tyX0_ok : ∀ k, k < 5 → parseFieldDescriptor (TX0 k).2.2.1 = some (tyX0 k) := by decide +kernel
abbrev cX0_init : ByteArray := prog_2_method_1_code
def yX0_init : MethodName := ⟨RX0, "<init>", "()V"⟩
abbrev cX0_open : ByteArray := prog_2_method_2_code
def yX0_open : MethodName := ⟨RX0, "open", "(II)V"⟩
abbrev cX0_close : ByteArray := prog_2_method_3_code
def yX0_close : MethodName := ⟨RX0, "close", "()V"⟩
abbrev cX0_add : ByteArray := prog_2_method_4_code
def yX0_add : MethodName := ⟨RX0, "add", "(J)V"⟩
def RX1 : String := "BorrowedPages$Comparison"
def TX1 : u_T := fun k => match k with
  | 0 => ("BorrowedPages$Comparison", "chainRuns", "[I", true)
  | 1 => ("BorrowedPages$Comparison", "chainLength", "I", false)
  | 2 => ("BorrowedPages$Comparison", "chainTokens", "I", false)
  | 3 => ("BorrowedPages$Comparison", "runCount", "I", false)
  | 4 => ("BorrowedPages$Comparison", "left", "LBorrowedPages$Page;", true)
  | 5 => ("BorrowedPages$Comparison", "right", "LBorrowedPages$Page;", true)
  | 6 => ("BorrowedPages$Comparison", "third", "LBorrowedPages$Page;", true)
  | 7 => ("BorrowedPages$Comparison", "runLengths", "[I", true)
  | _ => ("BorrowedPages$Comparison", "best", "[I", true)
def tyX1 : Nat → FieldType := fun k => match k with
  | 0 => .array .int
  | 1 => .int
  | 2 => .int
  | 3 => .int
  | 4 => .object "BorrowedPages$Page"
  | 5 => .object "BorrowedPages$Page"
  | 6 => .object "BorrowedPages$Page"
  | 7 => .array .int
  | _ => .array .int
abbrev wsX10 : List Cond := u_ws RX1 TX1 9
theorem nmX1 : ∀ a, a < 9 → ∀ b, b < 9 → a ≠ b → (TX1 a).2.1 ≠ (TX1 b).2.1 := by decide +kernel
theorem tyX1_ok : ∀ k, k < 9 → parseFieldDescriptor (TX1 k).2.2.1 = some (tyX1 k) := by decide +kernel
abbrev cX1_init : ByteArray := prog_3_method_1_code
def yX1_init : MethodName := ⟨RX1, "<init>", "()V"⟩
abbrev cX1_pageOf : ByteArray := prog_3_method_2_code
def yX1_pageOf : MethodName := ⟨RX1, "pageOf", "(LBorrowedPages$Shelf;I)LBorrowedPages$Page;"⟩
abbrev cX1_scoreOf : ByteArray := prog_3_method_3_code
def yX1_scoreOf : MethodName := ⟨RX1, "scoreOf", "(LBorrowedPages$Shelf;III)I"⟩
abbrev cX1_compare : ByteArray := prog_3_method_4_code
def yX1_compare : MethodName := ⟨RX1, "compare", "(LBorrowedPages$Shelf;III)V"⟩
abbrev cX1_layWithMarks : ByteArray := prog_3_method_5_code
def yX1_layWithMarks : MethodName := ⟨RX1, "layWithMarks", "(LBorrowedPages$Page;LBorrowedPages$Shelf;II)V"⟩
abbrev cX1_asideLength : ByteArray := prog_3_method_6_code
def yX1_asideLength : MethodName := ⟨RX1, "asideLength", "(LBorrowedPages$Shelf;)I"⟩
abbrev cX1_setBothAside : ByteArray := prog_3_method_7_code
def yX1_setBothAside : MethodName := ⟨RX1, "setBothAside", "(LBorrowedPages$Shelf;II)V"⟩
abbrev cX1_runLengthAt : ByteArray := prog_3_method_8_code
def yX1_runLengthAt : MethodName := ⟨RX1, "runLengthAt", "(III)I"⟩
abbrev cX1_agree : ByteArray := prog_3_method_9_code
def yX1_agree : MethodName := ⟨RX1, "agree", "(II)Z"⟩
abbrev cX1_sharesMark : ByteArray := prog_3_method_10_code
def yX1_sharesMark : MethodName := ⟨RX1, "sharesMark", "(III)Z"⟩
abbrev cX1_findBest : ByteArray := prog_3_method_11_code
def yX1_findBest : MethodName := ⟨RX1, "findBest", "(I)V"⟩
abbrev cX1_bestFrom : ByteArray := prog_3_method_12_code
def yX1_bestFrom : MethodName := ⟨RX1, "bestFrom", "(III)I"⟩
abbrev cX1_bestWithRun : ByteArray := prog_3_method_13_code
def yX1_bestWithRun : MethodName := ⟨RX1, "bestWithRun", "(IIII)I"⟩
abbrev cX1_partOfRun : ByteArray := prog_3_method_14_code
def yX1_partOfRun : MethodName := ⟨RX1, "partOfRun", "(II)I"⟩
abbrev cX1_traceChain : ByteArray := prog_3_method_15_code
def yX1_traceChain : MethodName := ⟨RX1, "traceChain", "(LBorrowedPages$Shelf;II)V"⟩
abbrev cX1_addToChain : ByteArray := prog_3_method_16_code
def yX1_addToChain : MethodName := ⟨RX1, "addToChain", "(II)V"⟩
def RX2 : String := "BorrowedPages$Groups"
def TX2 : u_T := fun k => match k with
  | 0 => ("BorrowedPages$Groups", "leaders", "[I", true)
  | _ => ("BorrowedPages$Groups", "links", "I", false)
def tyX2 : Nat → FieldType := fun k => match k with
  | 0 => .array .int
  | _ => .int
abbrev wsX20 : List Cond := u_ws RX2 TX2 2
theorem nmX2 : ∀ a, a < 2 → ∀ b, b < 2 → a ≠ b → (TX2 a).2.1 ≠ (TX2 b).2.1 := by decide +kernel
theorem tyX2_ok : ∀ k, k < 2 → parseFieldDescriptor (TX2 k).2.2.1 = some (tyX2 k) := by decide +kernel
abbrev cX2_init : ByteArray := prog_4_method_1_code
def yX2_init : MethodName := ⟨RX2, "<init>", "()V"⟩
abbrev cX2_form : ByteArray := prog_4_method_2_code
def yX2_form : MethodName := ⟨RX2, "form", "(LBorrowedPages$Shelf;LBorrowedPages$Comparison;)V"⟩
abbrev cX2_join : ByteArray := prog_4_method_3_code
def yX2_join : MethodName := ⟨RX2, "join", "(II)V"⟩
abbrev cX2_howMany : ByteArray := prog_4_method_4_code
def yX2_howMany : MethodName := ⟨RX2, "howMany", "(II)I"⟩
abbrev cX2_membersOf : ByteArray := prog_4_method_5_code
def yX2_membersOf : MethodName := ⟨RX2, "membersOf", "(I)I"⟩
abbrev cX2_earliest : ByteArray := prog_4_method_6_code
def yX2_earliest : MethodName := ⟨RX2, "earliest", "(LBorrowedPages$Shelf;I)I"⟩
def RX3 : String := "BorrowedPages$Page"
def TX3 : u_T := fun k => match k with
  | 0 => ("BorrowedPages$Page", "tokens", "[J", true)
  | 1 => ("BorrowedPages$Page", "hashes", "[I", true)
  | 2 => ("BorrowedPages$Page", "isMark", "[Z", true)
  | 3 => ("BorrowedPages$Page", "isAside", "[Z", true)
  | 4 => ("BorrowedPages$Page", "sharedLengths", "[I", true)
  | 5 => ("BorrowedPages$Page", "size", "I", false)
  | 6 => ("BorrowedPages$Page", "language", "I", false)
  | _ => ("BorrowedPages$Page", "grams", "I", false)
def tyX3 : Nat → FieldType := fun k => match k with
  | 0 => .array .long
  | 1 => .array .int
  | 2 => .array .boolean
  | 3 => .array .boolean
  | 4 => .array .int
  | 5 => .int
  | 6 => .int
  | _ => .int
abbrev wsX30 : List Cond := u_ws RX3 TX3 8
theorem nmX3 : ∀ a, a < 8 → ∀ b, b < 8 → a ≠ b → (TX3 a).2.1 ≠ (TX3 b).2.1 := by decide +kernel
theorem tyX3_ok : ∀ k, k < 8 → parseFieldDescriptor (TX3 k).2.2.1 = some (tyX3 k) := by decide +kernel
abbrev cX3_init : ByteArray := prog_5_method_1_code
def yX3_init : MethodName := ⟨RX3, "<init>", "()V"⟩
abbrev cX3_lay : ByteArray := prog_5_method_2_code
def yX3_lay : MethodName := ⟨RX3, "lay", "(LBorrowedPages$Book;I)V"⟩
abbrev cX3_findMarks : ByteArray := prog_5_method_3_code
def yX3_findMarks : MethodName := ⟨RX3, "findMarks", "(II)V"⟩
abbrev cX3_hashOfGram : ByteArray := prog_5_method_4_code
def yX3_hashOfGram : MethodName := ⟨RX3, "hashOfGram", "(II)I"⟩
abbrev cX3_lastOfLeast : ByteArray := prog_5_method_5_code
def yX3_lastOfLeast : MethodName := ⟨RX3, "lastOfLeast", "(II)I"⟩
abbrev cX3_howManyMarks : ByteArray := prog_5_method_6_code
def yX3_howManyMarks : MethodName := ⟨RX3, "howManyMarks", "()I"⟩
abbrev cX3_gramOfMark : ByteArray := prog_5_method_7_code
def yX3_gramOfMark : MethodName := ⟨RX3, "gramOfMark", "(I)I"⟩
abbrev cX3_setAside : ByteArray := prog_5_method_8_code
def yX3_setAside : MethodName := ⟨RX3, "setAside", "(LBorrowedPages$Page;I)V"⟩
abbrev cX3_longestSharedUpTo : ByteArray := prog_5_method_9_code
def yX3_longestSharedUpTo : MethodName := ⟨RX3, "longestSharedUpTo", "(ILBorrowedPages$Page;)I"⟩
def RX4 : String := "BorrowedPages$Reader"
def TX4 : u_T := fun k => match k with
  | 0 => ("BorrowedPages$Reader", "piece", "I", false)
  | 1 => ("BorrowedPages$Reader", "wordLength", "I", false)
  | _ => ("BorrowedPages$Reader", "wordNumber", "J", false)
def tyX4 : Nat → FieldType := fun k => match k with
  | 0 => .int
  | 1 => .int
  | _ => .long
abbrev wsX40 : List Cond := u_ws RX4 TX4 3
theorem nmX4 : ∀ a, a < 3 → ∀ b, b < 3 → a ≠ b → (TX4 a).2.1 ≠ (TX4 b).2.1 := by decide +kernel
theorem tyX4_ok : ∀ k, k < 3 → parseFieldDescriptor (TX4 k).2.2.1 = some (tyX4 k) := by decide +kernel
abbrev cX4_init : ByteArray := prog_6_method_1_code
def yX4_init : MethodName := ⟨RX4, "<init>", "()V"⟩
abbrev cX4_read : ByteArray := prog_6_method_2_code
def yX4_read : MethodName := ⟨RX4, "read", "(LBorrowedPages$Tape;LBorrowedPages$Book;)V"⟩
abbrev cX4_takeByte : ByteArray := prog_6_method_3_code
def yX4_takeByte : MethodName := ⟨RX4, "takeByte", "(ILBorrowedPages$Book;)V"⟩
abbrev cX4_beginPiece : ByteArray := prog_6_method_4_code
def yX4_beginPiece : MethodName := ⟨RX4, "beginPiece", "(IILBorrowedPages$Book;)V"⟩
abbrev cX4_endPiece : ByteArray := prog_6_method_5_code
def yX4_endPiece : MethodName := ⟨RX4, "endPiece", "(LBorrowedPages$Book;)V"⟩
abbrev cX4_lengthenWord : ByteArray := prog_6_method_6_code
def yX4_lengthenWord : MethodName := ⟨RX4, "lengthenWord", "(I)V"⟩
abbrev cX4_codeOfWord : ByteArray := prog_6_method_7_code
def yX4_codeOfWord : MethodName := ⟨RX4, "codeOfWord", "()I"⟩
abbrev cX4_valueOf : ByteArray := prog_6_method_8_code
def yX4_valueOf : MethodName := ⟨RX4, "valueOf", "(I)I"⟩
def RX5 : String := "BorrowedPages$Shelf"
def TX5 : u_T := fun k => match k with
  | 0 => ("BorrowedPages$Shelf", "books", "[LBorrowedPages$Book;", true)
  | 1 => ("BorrowedPages$Shelf", "givenNumber", "I", false)
  | 2 => ("BorrowedPages$Shelf", "gramLength", "I", false)
  | 3 => ("BorrowedPages$Shelf", "windowLength", "I", false)
  | 4 => ("BorrowedPages$Shelf", "gapCost", "I", false)
  | _ => ("BorrowedPages$Shelf", "linkScore", "I", false)
def tyX5 : Nat → FieldType := fun k => match k with
  | 0 => .array (.object "BorrowedPages$Book")
  | 1 => .int
  | 2 => .int
  | 3 => .int
  | 4 => .int
  | _ => .int
abbrev wsX50 : List Cond := u_ws RX5 TX5 6
theorem nmX5 : ∀ a, a < 6 → ∀ b, b < 6 → a ≠ b → (TX5 a).2.1 ≠ (TX5 b).2.1 := by decide +kernel
theorem tyX5_ok : ∀ k, k < 6 → parseFieldDescriptor (TX5 k).2.2.1 = some (tyX5 k) := by decide +kernel
abbrev cX5_init : ByteArray := prog_7_method_1_code
def yX5_init : MethodName := ⟨RX5, "<init>", "()V"⟩
abbrev cX5_names : ByteArray := prog_7_method_2_code
def yX5_names : MethodName := ⟨RX5, "names", "(I)Z"⟩
abbrev cX5_holds : ByteArray := prog_7_method_3_code
def yX5_holds : MethodName := ⟨RX5, "holds", "(I)Z"⟩
abbrev cX5_howManyBooks : ByteArray := prog_7_method_4_code
def yX5_howManyBooks : MethodName := ⟨RX5, "howManyBooks", "()I"⟩
def RX6 : String := "BorrowedPages$Tape"
def TX6 : u_T := fun k => match k with
  | 0 => ("BorrowedPages$Tape", "bytes", "[B", true)
  | _ => ("BorrowedPages$Tape", "length", "I", false)
def tyX6 : Nat → FieldType := fun k => match k with
  | 0 => .array .byte
  | _ => .int
abbrev wsX60 : List Cond := u_ws RX6 TX6 2
theorem nmX6 : ∀ a, a < 2 → ∀ b, b < 2 → a ≠ b → (TX6 a).2.1 ≠ (TX6 b).2.1 := by decide +kernel
theorem tyX6_ok : ∀ k, k < 2 → parseFieldDescriptor (TX6 k).2.2.1 = some (tyX6 k) := by decide +kernel
abbrev cX6_init : ByteArray := prog_8_method_1_code
def yX6_init : MethodName := ⟨RX6, "<init>", "()V"⟩
abbrev cX6_isText : ByteArray := prog_8_method_2_code
def yX6_isText : MethodName := ⟨RX6, "isText", "(JI)Z"⟩
abbrev cX6_byteAt : ByteArray := prog_8_method_3_code
def yX6_byteAt : MethodName := ⟨RX6, "byteAt", "(JI)I"⟩
abbrev cX6_hasRoomFor : ByteArray := prog_8_method_4_code
def yX6_hasRoomFor : MethodName := ⟨RX6, "hasRoomFor", "(I)Z"⟩
abbrev cX6_append : ByteArray := prog_8_method_5_code
def yX6_append : MethodName := ⟨RX6, "append", "(JI)V"⟩
abbrev cX6_clear : ByteArray := prog_8_method_6_code
def yX6_clear : MethodName := ⟨RX6, "clear", "()V"⟩
def RX7 : String := "BorrowedPages"
def TX7 : u_T := fun k => match k with
  | 0 => ("BorrowedPages", "tape", "LBorrowedPages$Tape;", true)
  | 1 => ("BorrowedPages", "reader", "LBorrowedPages$Reader;", true)
  | 2 => ("BorrowedPages", "shelf", "LBorrowedPages$Shelf;", true)
  | 3 => ("BorrowedPages", "comparison", "LBorrowedPages$Comparison;", true)
  | _ => ("BorrowedPages", "groups", "LBorrowedPages$Groups;", true)
def tyX7 : Nat → FieldType := fun k => match k with
  | 0 => .object "BorrowedPages$Tape"
  | 1 => .object "BorrowedPages$Reader"
  | 2 => .object "BorrowedPages$Shelf"
  | 3 => .object "BorrowedPages$Comparison"
  | _ => .object "BorrowedPages$Groups"
abbrev wsX70 : List Cond := u_ws RX7 TX7 5
theorem nmX7 : ∀ a, a < 5 → ∀ b, b < 5 → a ≠ b → (TX7 a).2.1 ≠ (TX7 b).2.1 := by decide +kernel
theorem tyX7_ok : ∀ k, k < 5 → parseFieldDescriptor (TX7 k).2.2.1 = some (tyX7 k) := by decide +kernel
abbrev cX7_init : ByteArray := prog_1_method_1_code
def yX7_init : MethodName := ⟨RX7, "<init>", "()V"⟩
abbrev cX7_type : ByteArray := prog_1_method_2_code
def yX7_type : MethodName := ⟨RX7, "type", "(JI)I"⟩
abbrev cX7_book : ByteArray := prog_1_method_3_code
def yX7_book : MethodName := ⟨RX7, "book", "(III)I"⟩
abbrev cX7_withdraw : ByteArray := prog_1_method_4_code
def yX7_withdraw : MethodName := ⟨RX7, "withdraw", "(I)I"⟩
abbrev cX7_token : ByteArray := prog_1_method_5_code
def yX7_token : MethodName := ⟨RX7, "token", "(II)J"⟩
abbrev cX7_windows : ByteArray := prog_1_method_6_code
def yX7_windows : MethodName := ⟨RX7, "windows", "(II)I"⟩
abbrev cX7_gap : ByteArray := prog_1_method_7_code
def yX7_gap : MethodName := ⟨RX7, "gap", "(I)I"⟩
abbrev cX7_link : ByteArray := prog_1_method_8_code
def yX7_link : MethodName := ⟨RX7, "link", "(I)I"⟩
abbrev cX7_given : ByteArray := prog_1_method_9_code
def yX7_given : MethodName := ⟨RX7, "given", "(I)I"⟩
abbrev cX7_hash : ByteArray := prog_1_method_10_code
def yX7_hash : MethodName := ⟨RX7, "hash", "(II)I"⟩
abbrev cX7_markAt : ByteArray := prog_1_method_11_code
def yX7_markAt : MethodName := ⟨RX7, "markAt", "(II)I"⟩
abbrev cX7_aside : ByteArray := prog_1_method_12_code
def yX7_aside : MethodName := ⟨RX7, "aside", "(II)I"⟩
abbrev cX7_runs : ByteArray := prog_1_method_13_code
def yX7_runs : MethodName := ⟨RX7, "runs", "(II)I"⟩
abbrev cX7_run : ByteArray := prog_1_method_14_code
def yX7_run : MethodName := ⟨RX7, "run", "(IIII)I"⟩
abbrev cX7_score : ByteArray := prog_1_method_15_code
def yX7_score : MethodName := ⟨RX7, "score", "(II)I"⟩
abbrev cX7_chain : ByteArray := prog_1_method_16_code
def yX7_chain : MethodName := ⟨RX7, "chain", "(III)I"⟩
abbrev cX7_covered : ByteArray := prog_1_method_17_code
def yX7_covered : MethodName := ⟨RX7, "covered", "(II)I"⟩
abbrev cX7_group : ByteArray := prog_1_method_18_code
def yX7_group : MethodName := ⟨RX7, "group", "(I)I"⟩
abbrev cX7_first : ByteArray := prog_1_method_19_code
def yX7_first : MethodName := ⟨RX7, "first", "(I)I"⟩
abbrev cX7_count : ByteArray := prog_1_method_20_code
def yX7_count : MethodName := ⟨RX7, "count", "(I)I"⟩
abbrev cX7_chance : ByteArray := prog_1_method_21_code
def yX7_chance : MethodName := ⟨RX7, "chance", "(II)I"⟩
abbrev cX7_refusalOfBook : ByteArray := prog_1_method_22_code
def yX7_refusalOfBook : MethodName := ⟨RX7, "refusalOfBook", "(I)I"⟩
abbrev cX7_refusalOfPair : ByteArray := prog_1_method_23_code
def yX7_refusalOfPair : MethodName := ⟨RX7, "refusalOfPair", "(II)I"⟩
def RX8 : String := "BorrowedPagesModel"
def TX8 : u_T := fun k => match k with
  | 0 => ("BorrowedPagesModel", "tape", "[I", true)
  | 1 => ("BorrowedPagesModel", "taped", "I", false)
  | 2 => ("BorrowedPagesModel", "is", "[Z", true)
  | 3 => ("BorrowedPagesModel", "sizes", "[I", true)
  | 4 => ("BorrowedPagesModel", "languages", "[I", true)
  | 5 => ("BorrowedPagesModel", "days", "[I", true)
  | 6 => ("BorrowedPagesModel", "tokens", "[J", true)
  | 7 => ("BorrowedPagesModel", "k", "I", false)
  | 8 => ("BorrowedPagesModel", "w", "I", false)
  | 9 => ("BorrowedPagesModel", "gap", "I", false)
  | 10 => ("BorrowedPagesModel", "bound", "I", false)
  | 11 => ("BorrowedPagesModel", "given", "I", false)
  | 12 => ("BorrowedPagesModel", "at", "I", false)
  | 13 => ("BorrowedPagesModel", "wordSize", "I", false)
  | 14 => ("BorrowedPagesModel", "words", "[J", true)
  | 15 => ("BorrowedPagesModel", "marks", "[Z", true)
  | 16 => ("BorrowedPagesModel", "hashes", "[I", true)
  | 17 => ("BorrowedPagesModel", "asides", "[Z", true)
  | 18 => ("BorrowedPagesModel", "many", "I", false)
  | 19 => ("BorrowedPagesModel", "runA", "[I", true)
  | 20 => ("BorrowedPagesModel", "runB", "[I", true)
  | 21 => ("BorrowedPagesModel", "runN", "[I", true)
  | 22 => ("BorrowedPagesModel", "best", "[I", true)
  | 23 => ("BorrowedPagesModel", "next", "[I", true)
  | 24 => ("BorrowedPagesModel", "first", "I", false)
  | 25 => ("BorrowedPagesModel", "groups", "[I", true)
  | _ => ("BorrowedPagesModel", "links", "I", false)
def tyX8 : Nat → FieldType := fun k => match k with
  | 0 => .array .int
  | 1 => .int
  | 2 => .array .boolean
  | 3 => .array .int
  | 4 => .array .int
  | 5 => .array .int
  | 6 => .array .long
  | 7 => .int
  | 8 => .int
  | 9 => .int
  | 10 => .int
  | 11 => .int
  | 12 => .int
  | 13 => .int
  | 14 => .array .long
  | 15 => .array .boolean
  | 16 => .array .int
  | 17 => .array .boolean
  | 18 => .int
  | 19 => .array .int
  | 20 => .array .int
  | 21 => .array .int
  | 22 => .array .int
  | 23 => .array .int
  | 24 => .int
  | 25 => .array .int
  | _ => .int
abbrev wsX80 : List Cond := u_ws RX8 TX8 27
theorem nmX8 : ∀ a, a < 27 → ∀ b, b < 27 → a ≠ b → (TX8 a).2.1 ≠ (TX8 b).2.1 := by decide +kernel
theorem tyX8_ok : ∀ k, k < 27 → parseFieldDescriptor (TX8 k).2.2.1 = some (tyX8 k) := by decide +kernel
abbrev cX8_init : ByteArray := prog_10_method_1_code
def yX8_init : MethodName := ⟨RX8, "<init>", "()V"⟩
abbrev cX8_in : ByteArray := prog_10_method_2_code
def yX8_in : MethodName := ⟨RX8, "in", "(III)Z"⟩
abbrev cX8_type : ByteArray := prog_10_method_3_code
def yX8_type : MethodName := ⟨RX8, "type", "(JI)I"⟩
abbrev cX8_letter : ByteArray := prog_10_method_4_code
def yX8_letter : MethodName := ⟨RX8, "letter", "(I)I"⟩
abbrev cX8_readWord : ByteArray := prog_10_method_5_code
def yX8_readWord : MethodName := ⟨RX8, "readWord", "()J"⟩
abbrev cX8_codeOf : ByteArray := prog_10_method_6_code
def yX8_codeOf : MethodName := ⟨RX8, "codeOf", "(J)I"⟩
abbrev cX8_add : ByteArray := prog_10_method_7_code
def yX8_add : MethodName := ⟨RX8, "add", "(IJ)V"⟩
abbrev cX8_read : ByteArray := prog_10_method_8_code
def yX8_read : MethodName := ⟨RX8, "read", "(II)V"⟩
abbrev cX8_isNumber : ByteArray := prog_10_method_9_code
def yX8_isNumber : MethodName := ⟨RX8, "isNumber", "(I)Z"⟩
abbrev cX8_book : ByteArray := prog_10_method_10_code
def yX8_book : MethodName := ⟨RX8, "book", "(III)I"⟩
abbrev cX8_withdraw : ByteArray := prog_10_method_11_code
def yX8_withdraw : MethodName := ⟨RX8, "withdraw", "(I)I"⟩
abbrev cX8_token : ByteArray := prog_10_method_12_code
def yX8_token : MethodName := ⟨RX8, "token", "(II)J"⟩
abbrev cX8_windows : ByteArray := prog_10_method_13_code
def yX8_windows : MethodName := ⟨RX8, "windows", "(II)I"⟩
abbrev cX8_gap : ByteArray := prog_10_method_14_code
def yX8_gap : MethodName := ⟨RX8, "gap", "(I)I"⟩
abbrev cX8_link : ByteArray := prog_10_method_15_code
def yX8_link : MethodName := ⟨RX8, "link", "(I)I"⟩
abbrev cX8_given : ByteArray := prog_10_method_16_code
def yX8_given : MethodName := ⟨RX8, "given", "(I)I"⟩
abbrev cX8_grams : ByteArray := prog_10_method_17_code
def yX8_grams : MethodName := ⟨RX8, "grams", "(I)I"⟩
abbrev cX8_hashOf : ByteArray := prog_10_method_18_code
def yX8_hashOf : MethodName := ⟨RX8, "hashOf", "(II)I"⟩
abbrev cX8_hash : ByteArray := prog_10_method_19_code
def yX8_hash : MethodName := ⟨RX8, "hash", "(II)I"⟩
abbrev cX8_findMarks : ByteArray := prog_10_method_20_code
def yX8_findMarks : MethodName := ⟨RX8, "findMarks", "(I)V"⟩
abbrev cX8_markAt : ByteArray := prog_10_method_21_code
def yX8_markAt : MethodName := ⟨RX8, "markAt", "(II)I"⟩
abbrev cX8_findAside : ByteArray := prog_10_method_22_code
def yX8_findAside : MethodName := ⟨RX8, "findAside", "(I)V"⟩
abbrev cX8_aside : ByteArray := prog_10_method_23_code
def yX8_aside : MethodName := ⟨RX8, "aside", "(II)I"⟩
abbrev cX8_isAlike : ByteArray := prog_10_method_24_code
def yX8_isAlike : MethodName := ⟨RX8, "isAlike", "(IIII)Z"⟩
abbrev cX8_findRuns : ByteArray := prog_10_method_25_code
def yX8_findRuns : MethodName := ⟨RX8, "findRuns", "(II)V"⟩
abbrev cX8_against : ByteArray := prog_10_method_26_code
def yX8_against : MethodName := ⟨RX8, "against", "(II)I"⟩
abbrev cX8_runs : ByteArray := prog_10_method_27_code
def yX8_runs : MethodName := ⟨RX8, "runs", "(II)I"⟩
abbrev cX8_run : ByteArray := prog_10_method_28_code
def yX8_run : MethodName := ⟨RX8, "run", "(IIII)I"⟩
abbrev cX8_findScore : ByteArray := prog_10_method_29_code
def yX8_findScore : MethodName := ⟨RX8, "findScore", "(II)I"⟩
abbrev cX8_score : ByteArray := prog_10_method_30_code
def yX8_score : MethodName := ⟨RX8, "score", "(II)I"⟩
abbrev cX8_chain : ByteArray := prog_10_method_31_code
def yX8_chain : MethodName := ⟨RX8, "chain", "(III)I"⟩
abbrev cX8_covered : ByteArray := prog_10_method_32_code
def yX8_covered : MethodName := ⟨RX8, "covered", "(II)I"⟩
abbrev cX8_findGroups : ByteArray := prog_10_method_33_code
def yX8_findGroups : MethodName := ⟨RX8, "findGroups", "()V"⟩
abbrev cX8_join : ByteArray := prog_10_method_34_code
def yX8_join : MethodName := ⟨RX8, "join", "(II)V"⟩
abbrev cX8_group : ByteArray := prog_10_method_35_code
def yX8_group : MethodName := ⟨RX8, "group", "(I)I"⟩
abbrev cX8_first : ByteArray := prog_10_method_36_code
def yX8_first : MethodName := ⟨RX8, "first", "(I)I"⟩
abbrev cX8_count : ByteArray := prog_10_method_37_code
def yX8_count : MethodName := ⟨RX8, "count", "(I)I"⟩
abbrev cX8_turnOne : ByteArray := prog_10_method_38_code
def yX8_turnOne : MethodName := ⟨RX8, "turnOne", "(I)V"⟩
abbrev cX8_chance : ByteArray := prog_10_method_39_code
def yX8_chance : MethodName := ⟨RX8, "chance", "(II)I"⟩
def RJ9 : String := "java/lang/Math"
def TJ9 : u_T := fun k => match k with
  | _ => ("", "", "", false)
def tyJ9 : Nat → FieldType := fun k => match k with
  | _ => .int
abbrev wsJ90 : List Cond := u_ws RJ9 TJ9 0
theorem nmJ9 : ∀ a, a < 0 → ∀ b, b < 0 → a ≠ b → (TJ9 a).2.1 ≠ (TJ9 b).2.1 := by decide +kernel
theorem tyJ9_ok : ∀ k, k < 0 → parseFieldDescriptor (TJ9 k).2.2.1 = some (tyJ9 k) := by decide +kernel
abbrev cJ9_max_7cf53 : ByteArray := prog_11_method_65_code
def yJ9_max_7cf53 : MethodName := ⟨RJ9, "max", "(II)I"⟩
abbrev cJ9_min_7cf53 : ByteArray := prog_11_method_69_code
def yJ9_min_7cf53 : MethodName := ⟨RJ9, "min", "(II)I"⟩
def RL : String := "BorrowedPagesLaw"
abbrev cL_law : ByteArray := code
def yL_law : MethodName := ⟨RL, "law", "([I)Z"⟩
abbrev vwCl : List vw_C := [(RX0, TX0, 5), (RX1, TX1, 9), (RX2, TX2, 2), (RX3, TX3, 8), (RX4, TX4, 3), (RX5, TX5, 6), (RX6, TX6, 2), (RX7, TX7, 5), (RX8, TX8, 27)]
end
section
/-! the words of the tables, each by its place -/
def UW : List Cond := lw_tbl.filter goodWord
theorem uw_of {w : Cond} (h : w ∈ lw_tbl) (hg : goodWord w = true) : w ∈ UW := List.mem_filter.mpr ⟨h, hg⟩
theorem uw0 (i : Nat) {w : Cond} (h : (k2_sels lw_privs)[i]? = some w) (hg : goodWord w = true) : w ∈ UW := uw_of (List.mem_append_left _ (List.mem_of_getElem? h)) hg
theorem uw1 (i : Nat) {w : Cond} (h : tables_1_1[i]? = some w) (hg : goodWord w = true) : w ∈ UW := uw_of (List.mem_append_right _ (List.mem_append_left _ (List.mem_of_getElem? h))) hg
theorem uw2 (i : Nat) {w : Cond} (h : tables_1_2[i]? = some w) (hg : goodWord w = true) : w ∈ UW := uw_of (List.mem_append_right _ (List.mem_append_right _ (List.mem_append_left _ (List.mem_of_getElem? h)))) hg
theorem uw3 (i : Nat) {w : Cond} (h : tables_1_3[i]? = some w) (hg : goodWord w = true) : w ∈ UW := uw_of (List.mem_append_right _ (List.mem_append_right _ (List.mem_append_right _ (List.mem_append_left _ (List.mem_of_getElem? h))))) hg
theorem uw4 (i : Nat) {w : Cond} (h : tables_1_4[i]? = some w) (hg : goodWord w = true) : w ∈ UW := uw_of (List.mem_append_right _ (List.mem_append_right _ (List.mem_append_right _ (List.mem_append_right _ (List.mem_of_getElem? h))))) hg
theorem fl_X0_9 : Cond.fieldLink RX0 9 "BorrowedPages$Book" "tokens" "[J" ∈ UW := uw1 65 rfl rfl
theorem fl_X0_15 : Cond.fieldLink RX0 15 "BorrowedPages$Book" "size" "I" ∈ UW := uw1 68 rfl rfl
theorem fl_X0_19 : Cond.fieldLink RX0 19 "BorrowedPages$Book" "language" "I" ∈ UW := uw1 71 rfl rfl
theorem fl_X0_22 : Cond.fieldLink RX0 22 "BorrowedPages$Book" "day" "I" ∈ UW := uw1 75 rfl rfl
theorem fl_X0_25 : Cond.fieldLink RX0 25 "BorrowedPages$Book" "held" "Z" ∈ UW := uw1 78 rfl rfl
theorem fl_X1_9 : Cond.fieldLink RX1 9 "BorrowedPages$Comparison" "chainRuns" "[I" ∈ UW := uw1 173 rfl rfl
theorem fl_X1_15 : Cond.fieldLink RX1 15 "BorrowedPages$Comparison" "chainLength" "I" ∈ UW := uw1 175 rfl rfl
theorem fl_X1_19 : Cond.fieldLink RX1 19 "BorrowedPages$Comparison" "chainTokens" "I" ∈ UW := uw1 177 rfl rfl
theorem fl_X1_22 : Cond.fieldLink RX1 22 "BorrowedPages$Comparison" "runCount" "I" ∈ UW := uw1 179 rfl rfl
theorem fl_X1_28 : Cond.fieldLink RX1 28 "BorrowedPages$Comparison" "left" "LBorrowedPages$Page;" ∈ UW := uw1 181 rfl rfl
theorem fl_X1_32 : Cond.fieldLink RX1 32 "BorrowedPages$Comparison" "right" "LBorrowedPages$Page;" ∈ UW := uw1 182 rfl rfl
theorem fl_X1_35 : Cond.fieldLink RX1 35 "BorrowedPages$Comparison" "third" "LBorrowedPages$Page;" ∈ UW := uw1 183 rfl rfl
theorem fl_X1_38 : Cond.fieldLink RX1 38 "BorrowedPages$Comparison" "runLengths" "[I" ∈ UW := uw1 184 rfl rfl
theorem fl_X1_41 : Cond.fieldLink RX1 41 "BorrowedPages$Comparison" "best" "[I" ∈ UW := uw1 185 rfl rfl
theorem fl_X1_48 : Cond.fieldLink RX1 48 "BorrowedPages$Shelf" "givenNumber" "I" ∈ UW := uw1 97 rfl rfl
theorem fl_X1_57 : Cond.fieldLink RX1 57 "BorrowedPages$Shelf" "books" "[LBorrowedPages$Book;" ∈ UW := uw1 93 rfl rfl
theorem fl_X1_77 : Cond.fieldLink RX1 77 "BorrowedPages$Shelf" "gapCost" "I" ∈ UW := uw1 107 rfl rfl
theorem fl_X1_88 : Cond.fieldLink RX1 88 "BorrowedPages$Page" "size" "I" ∈ UW := uw1 148 rfl rfl
theorem fl_X1_91 : Cond.fieldLink RX1 91 "BorrowedPages$Shelf" "gramLength" "I" ∈ UW := uw1 101 rfl rfl
theorem fl_X1_98 : Cond.fieldLink RX1 98 "BorrowedPages$Shelf" "windowLength" "I" ∈ UW := uw1 104 rfl rfl
theorem fl_X1_119 : Cond.fieldLink RX1 119 "BorrowedPages$Page" "tokens" "[J" ∈ UW := uw1 138 rfl rfl
theorem fl_X1_123 : Cond.fieldLink RX1 123 "BorrowedPages$Page" "language" "I" ∈ UW := uw1 151 rfl rfl
theorem fl_X1_126 : Cond.fieldLink RX1 126 "BorrowedPages$Page" "isAside" "[Z" ∈ UW := uw1 144 rfl rfl
theorem fl_X1_130 : Cond.fieldLink RX1 130 "BorrowedPages$Page" "isMark" "[Z" ∈ UW := uw1 142 rfl rfl
theorem fl_X2_9 : Cond.fieldLink RX2 9 "BorrowedPages$Groups" "leaders" "[I" ∈ UW := uw1 211 rfl rfl
theorem fl_X2_15 : Cond.fieldLink RX2 15 "BorrowedPages$Groups" "links" "I" ∈ UW := uw1 213 rfl rfl
theorem fl_X2_31 : Cond.fieldLink RX2 31 "BorrowedPages$Shelf" "linkScore" "I" ∈ UW := uw1 110 rfl rfl
theorem fl_X2_48 : Cond.fieldLink RX2 48 "BorrowedPages$Shelf" "givenNumber" "I" ∈ UW := uw1 99 rfl rfl
theorem fl_X2_51 : Cond.fieldLink RX2 51 "BorrowedPages$Shelf" "books" "[LBorrowedPages$Book;" ∈ UW := uw1 95 rfl rfl
theorem fl_X2_55 : Cond.fieldLink RX2 55 "BorrowedPages$Book" "day" "I" ∈ UW := uw1 77 rfl rfl
theorem fl_X3_9 : Cond.fieldLink RX3 9 "BorrowedPages$Page" "tokens" "[J" ∈ UW := uw1 137 rfl rfl
theorem fl_X3_15 : Cond.fieldLink RX3 15 "BorrowedPages$Page" "hashes" "[I" ∈ UW := uw1 139 rfl rfl
theorem fl_X3_19 : Cond.fieldLink RX3 19 "BorrowedPages$Page" "isMark" "[Z" ∈ UW := uw1 141 rfl rfl
theorem fl_X3_23 : Cond.fieldLink RX3 23 "BorrowedPages$Page" "isAside" "[Z" ∈ UW := uw1 143 rfl rfl
theorem fl_X3_26 : Cond.fieldLink RX3 26 "BorrowedPages$Page" "sharedLengths" "[I" ∈ UW := uw1 146 rfl rfl
theorem fl_X3_29 : Cond.fieldLink RX3 29 "BorrowedPages$Page" "size" "I" ∈ UW := uw1 147 rfl rfl
theorem fl_X3_33 : Cond.fieldLink RX3 33 "BorrowedPages$Page" "language" "I" ∈ UW := uw1 150 rfl rfl
theorem fl_X3_36 : Cond.fieldLink RX3 36 "BorrowedPages$Page" "grams" "I" ∈ UW := uw1 152 rfl rfl
theorem fl_X3_39 : Cond.fieldLink RX3 39 "BorrowedPages$Book" "size" "I" ∈ UW := uw1 69 rfl rfl
theorem fl_X3_42 : Cond.fieldLink RX3 42 "BorrowedPages$Book" "language" "I" ∈ UW := uw1 72 rfl rfl
theorem fl_X3_43 : Cond.fieldLink RX3 43 "BorrowedPages$Book" "tokens" "[J" ∈ UW := uw1 66 rfl rfl
theorem fl_X4_11 : Cond.fieldLink RX4 11 "BorrowedPages$Reader" "piece" "I" ∈ UW := uw1 42 rfl rfl
theorem fl_X4_15 : Cond.fieldLink RX4 15 "BorrowedPages$Reader" "wordLength" "I" ∈ UW := uw1 43 rfl rfl
theorem fl_X4_18 : Cond.fieldLink RX4 18 "BorrowedPages$Reader" "wordNumber" "J" ∈ UW := uw1 44 rfl rfl
theorem fl_X4_22 : Cond.fieldLink RX4 22 "BorrowedPages$Tape" "length" "I" ∈ UW := uw1 28 rfl rfl
theorem fl_X4_27 : Cond.fieldLink RX4 27 "BorrowedPages$Tape" "bytes" "[B" ∈ UW := uw1 26 rfl rfl
theorem fl_X4_51 : Cond.fieldLink RX4 51 "BorrowedPages$Book" "language" "I" ∈ UW := uw1 73 rfl rfl
theorem fl_X4_68 : Cond.fieldLink RX4 68 "BorrowedPages$Reader" "KEYWORDS" "[I" ∈ UW := uw2 50 rfl rfl
theorem fl_X5_11 : Cond.fieldLink RX5 11 "BorrowedPages$Shelf" "books" "[LBorrowedPages$Book;" ∈ UW := uw1 92 rfl rfl
theorem fl_X5_17 : Cond.fieldLink RX5 17 "BorrowedPages$Shelf" "givenNumber" "I" ∈ UW := uw1 96 rfl rfl
theorem fl_X5_21 : Cond.fieldLink RX5 21 "BorrowedPages$Shelf" "gramLength" "I" ∈ UW := uw1 100 rfl rfl
theorem fl_X5_24 : Cond.fieldLink RX5 24 "BorrowedPages$Shelf" "windowLength" "I" ∈ UW := uw1 103 rfl rfl
theorem fl_X5_27 : Cond.fieldLink RX5 27 "BorrowedPages$Shelf" "gapCost" "I" ∈ UW := uw1 106 rfl rfl
theorem fl_X5_30 : Cond.fieldLink RX5 30 "BorrowedPages$Shelf" "linkScore" "I" ∈ UW := uw1 109 rfl rfl
theorem fl_X5_38 : Cond.fieldLink RX5 38 "BorrowedPages$Book" "held" "Z" ∈ UW := uw1 79 rfl rfl
theorem fl_X6_9 : Cond.fieldLink RX6 9 "BorrowedPages$Tape" "bytes" "[B" ∈ UW := uw1 25 rfl rfl
theorem fl_X6_15 : Cond.fieldLink RX6 15 "BorrowedPages$Tape" "length" "I" ∈ UW := uw1 27 rfl rfl
theorem fl_X7_10 : Cond.fieldLink RX7 10 "BorrowedPages" "tape" "LBorrowedPages$Tape;" ∈ UW := uw1 220 rfl rfl
theorem fl_X7_19 : Cond.fieldLink RX7 19 "BorrowedPages" "reader" "LBorrowedPages$Reader;" ∈ UW := uw1 221 rfl rfl
theorem fl_X7_26 : Cond.fieldLink RX7 26 "BorrowedPages" "shelf" "LBorrowedPages$Shelf;" ∈ UW := uw1 222 rfl rfl
theorem fl_X7_33 : Cond.fieldLink RX7 33 "BorrowedPages" "comparison" "LBorrowedPages$Comparison;" ∈ UW := uw1 223 rfl rfl
theorem fl_X7_40 : Cond.fieldLink RX7 40 "BorrowedPages" "groups" "LBorrowedPages$Groups;" ∈ UW := uw1 224 rfl rfl
theorem fl_X7_56 : Cond.fieldLink RX7 56 "BorrowedPages$Tape" "length" "I" ∈ UW := uw1 29 rfl rfl
theorem fl_X7_63 : Cond.fieldLink RX7 63 "BorrowedPages$Shelf" "books" "[LBorrowedPages$Book;" ∈ UW := uw1 94 rfl rfl
theorem fl_X7_80 : Cond.fieldLink RX7 80 "BorrowedPages$Book" "size" "I" ∈ UW := uw1 70 rfl rfl
theorem fl_X7_90 : Cond.fieldLink RX7 90 "BorrowedPages$Shelf" "givenNumber" "I" ∈ UW := uw1 98 rfl rfl
theorem fl_X7_93 : Cond.fieldLink RX7 93 "BorrowedPages$Book" "day" "I" ∈ UW := uw1 76 rfl rfl
theorem fl_X7_96 : Cond.fieldLink RX7 96 "BorrowedPages$Book" "language" "I" ∈ UW := uw1 74 rfl rfl
theorem fl_X7_99 : Cond.fieldLink RX7 99 "BorrowedPages$Book" "tokens" "[J" ∈ UW := uw1 67 rfl rfl
theorem fl_X7_105 : Cond.fieldLink RX7 105 "BorrowedPages$Shelf" "gramLength" "I" ∈ UW := uw1 102 rfl rfl
theorem fl_X7_108 : Cond.fieldLink RX7 108 "BorrowedPages$Shelf" "windowLength" "I" ∈ UW := uw1 105 rfl rfl
theorem fl_X7_111 : Cond.fieldLink RX7 111 "BorrowedPages$Shelf" "gapCost" "I" ∈ UW := uw1 108 rfl rfl
theorem fl_X7_114 : Cond.fieldLink RX7 114 "BorrowedPages$Shelf" "linkScore" "I" ∈ UW := uw1 111 rfl rfl
theorem fl_X7_121 : Cond.fieldLink RX7 121 "BorrowedPages$Page" "grams" "I" ∈ UW := uw1 153 rfl rfl
theorem fl_X7_126 : Cond.fieldLink RX7 126 "BorrowedPages$Page" "hashes" "[I" ∈ UW := uw1 140 rfl rfl
theorem fl_X7_137 : Cond.fieldLink RX7 137 "BorrowedPages$Page" "size" "I" ∈ UW := uw1 149 rfl rfl
theorem fl_X7_138 : Cond.fieldLink RX7 138 "BorrowedPages$Page" "isAside" "[Z" ∈ UW := uw1 145 rfl rfl
theorem fl_X7_150 : Cond.fieldLink RX7 150 "BorrowedPages$Comparison" "runCount" "I" ∈ UW := uw1 180 rfl rfl
theorem fl_X7_164 : Cond.fieldLink RX7 164 "BorrowedPages$Comparison" "chainLength" "I" ∈ UW := uw1 176 rfl rfl
theorem fl_X7_167 : Cond.fieldLink RX7 167 "BorrowedPages$Comparison" "chainRuns" "[I" ∈ UW := uw1 174 rfl rfl
theorem fl_X7_170 : Cond.fieldLink RX7 170 "BorrowedPages$Comparison" "chainTokens" "I" ∈ UW := uw1 178 rfl rfl
theorem fl_X7_177 : Cond.fieldLink RX7 177 "BorrowedPages$Groups" "leaders" "[I" ∈ UW := uw1 212 rfl rfl
theorem fl_X7_187 : Cond.fieldLink RX7 187 "BorrowedPages$Groups" "links" "I" ∈ UW := uw1 214 rfl rfl
theorem fl_X8_7 : Cond.fieldLink RX8 7 "BorrowedPagesModel" "tape" "[I" ∈ UW := uw3 57 rfl rfl
theorem fl_X8_13 : Cond.fieldLink RX8 13 "BorrowedPagesModel" "is" "[Z" ∈ UW := uw3 59 rfl rfl
theorem fl_X8_17 : Cond.fieldLink RX8 17 "BorrowedPagesModel" "sizes" "[I" ∈ UW := uw3 60 rfl rfl
theorem fl_X8_20 : Cond.fieldLink RX8 20 "BorrowedPagesModel" "languages" "[I" ∈ UW := uw3 61 rfl rfl
theorem fl_X8_23 : Cond.fieldLink RX8 23 "BorrowedPagesModel" "days" "[I" ∈ UW := uw3 62 rfl rfl
theorem fl_X8_26 : Cond.fieldLink RX8 26 "BorrowedPagesModel" "tokens" "[J" ∈ UW := uw3 63 rfl rfl
theorem fl_X8_30 : Cond.fieldLink RX8 30 "BorrowedPagesModel" "k" "I" ∈ UW := uw3 64 rfl rfl
theorem fl_X8_34 : Cond.fieldLink RX8 34 "BorrowedPagesModel" "w" "I" ∈ UW := uw3 65 rfl rfl
theorem fl_X8_37 : Cond.fieldLink RX8 37 "BorrowedPagesModel" "gap" "I" ∈ UW := uw3 66 rfl rfl
theorem fl_X8_40 : Cond.fieldLink RX8 40 "BorrowedPagesModel" "bound" "I" ∈ UW := uw3 67 rfl rfl
theorem fl_X8_43 : Cond.fieldLink RX8 43 "BorrowedPagesModel" "given" "I" ∈ UW := uw3 68 rfl rfl
theorem fl_X8_56 : Cond.fieldLink RX8 56 "BorrowedPagesModel" "words" "[J" ∈ UW := uw3 71 rfl rfl
theorem fl_X8_59 : Cond.fieldLink RX8 59 "BorrowedPagesModel" "marks" "[Z" ∈ UW := uw3 72 rfl rfl
theorem fl_X8_62 : Cond.fieldLink RX8 62 "BorrowedPagesModel" "hashes" "[I" ∈ UW := uw3 73 rfl rfl
theorem fl_X8_65 : Cond.fieldLink RX8 65 "BorrowedPagesModel" "asides" "[Z" ∈ UW := uw3 74 rfl rfl
theorem fl_X8_68 : Cond.fieldLink RX8 68 "BorrowedPagesModel" "runA" "[I" ∈ UW := uw3 76 rfl rfl
theorem fl_X8_71 : Cond.fieldLink RX8 71 "BorrowedPagesModel" "runB" "[I" ∈ UW := uw3 77 rfl rfl
theorem fl_X8_74 : Cond.fieldLink RX8 74 "BorrowedPagesModel" "runN" "[I" ∈ UW := uw3 78 rfl rfl
theorem fl_X8_77 : Cond.fieldLink RX8 77 "BorrowedPagesModel" "best" "[I" ∈ UW := uw3 79 rfl rfl
theorem fl_X8_80 : Cond.fieldLink RX8 80 "BorrowedPagesModel" "next" "[I" ∈ UW := uw3 80 rfl rfl
theorem fl_X8_83 : Cond.fieldLink RX8 83 "BorrowedPagesModel" "groups" "[I" ∈ UW := uw3 82 rfl rfl
theorem fl_X8_92 : Cond.fieldLink RX8 92 "BorrowedPagesModel" "taped" "I" ∈ UW := uw3 58 rfl rfl
theorem fl_X8_95 : Cond.fieldLink RX8 95 "BorrowedPagesModel" "at" "I" ∈ UW := uw3 69 rfl rfl
theorem fl_X8_104 : Cond.fieldLink RX8 104 "BorrowedPagesModel" "wordSize" "I" ∈ UW := uw3 70 rfl rfl
theorem fl_X8_153 : Cond.fieldLink RX8 153 "BorrowedPagesModel" "many" "I" ∈ UW := uw3 75 rfl rfl
theorem fl_X8_166 : Cond.fieldLink RX8 166 "BorrowedPagesModel" "first" "I" ∈ UW := uw3 81 rfl rfl
theorem fl_X8_172 : Cond.fieldLink RX8 172 "BorrowedPagesModel" "links" "I" ∈ UW := uw3 83 rfl rfl
theorem ml_L_9 : Cond.methodLink RL 9 yX7_init ∈ UW := uw1 13 rfl rfl
theorem ml_L_12 : Cond.methodLink RL 12 yX8_init ∈ UW := uw3 48 rfl rfl
theorem ml_L_15 : Cond.methodLink RL 15 yX7_type ∈ UW := uw1 236 rfl rfl
theorem ml_L_19 : Cond.methodLink RL 19 yX8_type ∈ UW := uw3 139 rfl rfl
theorem ml_L_20 : Cond.methodLink RL 20 yX7_book ∈ UW := uw2 14 rfl rfl
theorem ml_L_24 : Cond.methodLink RL 24 yX8_book ∈ UW := uw3 147 rfl rfl
theorem ml_L_25 : Cond.methodLink RL 25 yX7_withdraw ∈ UW := uw2 65 rfl rfl
theorem ml_L_29 : Cond.methodLink RL 29 yX8_withdraw ∈ UW := uw3 176 rfl rfl
theorem ml_L_30 : Cond.methodLink RL 30 yX7_token ∈ UW := uw2 82 rfl rfl
theorem ml_L_34 : Cond.methodLink RL 34 yX8_token ∈ UW := uw3 180 rfl rfl
theorem ml_L_35 : Cond.methodLink RL 35 yX7_windows ∈ UW := uw2 87 rfl rfl
theorem ml_L_39 : Cond.methodLink RL 39 yX8_windows ∈ UW := uw3 186 rfl rfl
theorem ml_L_40 : Cond.methodLink RL 40 yX7_gap ∈ UW := uw2 91 rfl rfl
theorem ml_L_43 : Cond.methodLink RL 43 yX8_gap ∈ UW := uw3 190 rfl rfl
theorem ml_L_44 : Cond.methodLink RL 44 yX7_link ∈ UW := uw2 95 rfl rfl
theorem ml_L_47 : Cond.methodLink RL 47 yX8_link ∈ UW := uw3 194 rfl rfl
theorem ml_L_48 : Cond.methodLink RL 48 yX7_given ∈ UW := uw2 99 rfl rfl
theorem ml_L_51 : Cond.methodLink RL 51 yX8_given ∈ UW := uw3 198 rfl rfl
theorem ml_L_52 : Cond.methodLink RL 52 yX7_hash ∈ UW := uw2 103 rfl rfl
theorem ml_L_55 : Cond.methodLink RL 55 yX8_hash ∈ UW := uw3 202 rfl rfl
theorem ml_L_56 : Cond.methodLink RL 56 yX7_markAt ∈ UW := uw2 151 rfl rfl
theorem ml_L_59 : Cond.methodLink RL 59 yX8_markAt ∈ UW := uw3 216 rfl rfl
theorem ml_L_60 : Cond.methodLink RL 60 yX7_aside ∈ UW := uw2 163 rfl rfl
theorem ml_L_63 : Cond.methodLink RL 63 yX8_aside ∈ UW := uw3 224 rfl rfl
theorem ml_L_64 : Cond.methodLink RL 64 yX7_runs ∈ UW := uw2 167 rfl rfl
theorem ml_L_67 : Cond.methodLink RL 67 yX8_runs ∈ UW := uw3 232 rfl rfl
theorem ml_L_68 : Cond.methodLink RL 68 yX7_run ∈ UW := uw2 196 rfl rfl
theorem ml_L_72 : Cond.methodLink RL 72 yX8_run ∈ UW := uw4 8 rfl rfl
theorem ml_L_73 : Cond.methodLink RL 73 yX7_score ∈ UW := uw2 204 rfl rfl
theorem ml_L_76 : Cond.methodLink RL 76 yX8_score ∈ UW := uw4 12 rfl rfl
theorem ml_L_77 : Cond.methodLink RL 77 yX7_chain ∈ UW := uw2 226 rfl rfl
theorem ml_L_80 : Cond.methodLink RL 80 yX8_chain ∈ UW := uw4 20 rfl rfl
theorem ml_L_81 : Cond.methodLink RL 81 yX7_covered ∈ UW := uw2 239 rfl rfl
theorem ml_L_84 : Cond.methodLink RL 84 yX8_covered ∈ UW := uw4 24 rfl rfl
theorem ml_L_85 : Cond.methodLink RL 85 yX7_group ∈ UW := uw3 3 rfl rfl
theorem ml_L_88 : Cond.methodLink RL 88 yX8_group ∈ UW := uw4 28 rfl rfl
theorem ml_L_89 : Cond.methodLink RL 89 yX7_first ∈ UW := uw3 18 rfl rfl
theorem ml_L_92 : Cond.methodLink RL 92 yX8_first ∈ UW := uw4 40 rfl rfl
theorem ml_L_93 : Cond.methodLink RL 93 yX7_count ∈ UW := uw3 26 rfl rfl
theorem ml_L_96 : Cond.methodLink RL 96 yX8_count ∈ UW := uw4 44 rfl rfl
theorem ml_L_97 : Cond.methodLink RL 97 yX7_chance ∈ UW := uw3 42 rfl rfl
theorem ml_L_100 : Cond.methodLink RL 100 yX8_chance ∈ UW := uw4 48 rfl rfl
theorem ml_X0_3 : Cond.methodLink RX0 3 objectInit ∈ UW := uw1 64 rfl rfl
theorem ml_X1_3 : Cond.methodLink RX1 3 objectInit ∈ UW := uw1 130 rfl rfl
theorem ml_X1_44 : Cond.methodLink RX1 44 yX1_layWithMarks ∈ UW := uw2 111 rfl rfl
theorem ml_X1_53 : Cond.methodLink RX1 53 yX5_holds ∈ UW := uw2 139 rfl rfl
theorem ml_X1_61 : Cond.methodLink RX1 61 yX3_lay ∈ UW := uw2 114 rfl rfl
theorem ml_X1_65 : Cond.methodLink RX1 65 yX1_asideLength ∈ UW := uw2 140 rfl rfl
theorem ml_X1_69 : Cond.methodLink RX1 69 yX3_setAside ∈ UW := uw2 143 rfl rfl
theorem ml_X1_73 : Cond.methodLink RX1 73 yX1_compare ∈ UW := uw2 212 rfl rfl
theorem ml_X1_80 : Cond.methodLink RX1 80 yX1_findBest ∈ UW := uw2 213 rfl rfl
theorem ml_X1_84 : Cond.methodLink RX1 84 yX1_setBothAside ∈ UW := uw2 179 rfl rfl
theorem ml_X1_94 : Cond.methodLink RX1 94 yX1_runLengthAt ∈ UW := uw2 183 rfl rfl
theorem ml_X1_101 : Cond.methodLink RX1 101 yX3_findMarks ∈ UW := uw2 118 rfl rfl
theorem ml_X1_105 : Cond.methodLink RX1 105 yX1_agree ∈ UW := uw2 187 rfl rfl
theorem ml_X1_109 : Cond.methodLink RX1 109 Lib.Math.min.name ∈ UW := uw2 191 rfl rfl
theorem ml_X1_115 : Cond.methodLink RX1 115 yX1_sharesMark ∈ UW := uw2 192 rfl rfl
theorem ml_X1_133 : Cond.methodLink RX1 133 yX1_bestFrom ∈ UW := uw2 217 rfl rfl
theorem ml_X1_136 : Cond.methodLink RX1 136 Lib.Math.max.name ∈ UW := uw2 221 rfl rfl
theorem ml_X1_139 : Cond.methodLink RX1 139 yX1_bestWithRun ∈ UW := uw2 222 rfl rfl
theorem ml_X1_143 : Cond.methodLink RX1 143 yX1_scoreOf ∈ UW := uw2 234 rfl rfl
theorem ml_X1_147 : Cond.methodLink RX1 147 yX1_addToChain ∈ UW := uw2 235 rfl rfl
theorem ml_X2_3 : Cond.methodLink RX2 3 objectInit ∈ UW := uw1 210 rfl rfl
theorem ml_X2_19 : Cond.methodLink RX2 19 yX5_holds ∈ UW := uw3 11 rfl rfl
theorem ml_X2_25 : Cond.methodLink RX2 25 yX1_scoreOf ∈ UW := uw3 12 rfl rfl
theorem ml_X2_34 : Cond.methodLink RX2 34 yX2_join ∈ UW := uw3 13 rfl rfl
theorem ml_X2_38 : Cond.methodLink RX2 38 Lib.Math.min.name ∈ UW := uw3 17 rfl rfl
theorem ml_X2_44 : Cond.methodLink RX2 44 yX2_membersOf ∈ UW := uw3 38 rfl rfl
theorem ml_X3_3 : Cond.methodLink RX3 3 objectInit ∈ UW := uw1 136 rfl rfl
theorem ml_X3_44 : Cond.methodLink RX3 44 Lib.Math.max.name ∈ UW := uw2 122 rfl rfl
theorem ml_X3_50 : Cond.methodLink RX3 50 yX3_hashOfGram ∈ UW := uw2 125 rfl rfl
theorem ml_X3_53 : Cond.methodLink RX3 53 Lib.Math.min.name ∈ UW := uw2 132 rfl rfl
theorem ml_X3_56 : Cond.methodLink RX3 56 yX3_lastOfLeast ∈ UW := uw2 135 rfl rfl
theorem ml_X3_65 : Cond.methodLink RX3 65 yX3_longestSharedUpTo ∈ UW := uw2 147 rfl rfl
theorem ml_X4_3 : Cond.methodLink RX4 3 objectInit ∈ UW := uw1 41 rfl rfl
theorem ml_X4_31 : Cond.methodLink RX4 31 yX4_takeByte ∈ UW := uw2 30 rfl rfl
theorem ml_X4_35 : Cond.methodLink RX4 35 yX4_endPiece ∈ UW := uw2 42 rfl rfl
theorem ml_X4_39 : Cond.methodLink RX4 39 yX4_valueOf ∈ UW := uw2 34 rfl rfl
theorem ml_X4_43 : Cond.methodLink RX4 43 yX4_lengthenWord ∈ UW := uw2 37 rfl rfl
theorem ml_X4_47 : Cond.methodLink RX4 47 yX4_beginPiece ∈ UW := uw2 57 rfl rfl
theorem ml_X4_56 : Cond.methodLink RX4 56 yX0_add ∈ UW := uw2 52 rfl rfl
theorem ml_X4_60 : Cond.methodLink RX4 60 yX4_codeOfWord ∈ UW := uw2 46 rfl rfl
theorem ml_X5_3 : Cond.methodLink RX5 3 objectInit ∈ UW := uw1 57 rfl rfl
theorem ml_X5_34 : Cond.methodLink RX5 34 yX5_names ∈ UW := uw2 77 rfl rfl
theorem ml_X6_3 : Cond.methodLink RX6 3 objectInit ∈ UW := uw1 24 rfl rfl
theorem ml_X6_19 : Cond.methodLink RX6 19 yX6_byteAt ∈ UW := uw2 3 rfl rfl
theorem ml_X7_1 : Cond.methodLink RX7 1 objectInit ∈ UW := uw1 16 rfl rfl
theorem ml_X7_25 : Cond.methodLink RX7 25 yX5_init ∈ UW := uw1 54 rfl rfl
theorem ml_X7_44 : Cond.methodLink RX7 44 yX6_isText ∈ UW := uw2 0 rfl rfl
theorem ml_X7_48 : Cond.methodLink RX7 48 yX6_hasRoomFor ∈ UW := uw2 6 rfl rfl
theorem ml_X7_52 : Cond.methodLink RX7 52 yX6_append ∈ UW := uw2 10 rfl rfl
theorem ml_X7_60 : Cond.methodLink RX7 60 yX5_names ∈ UW := uw2 18 rfl rfl
theorem ml_X7_67 : Cond.methodLink RX7 67 yX0_open ∈ UW := uw2 22 rfl rfl
theorem ml_X7_73 : Cond.methodLink RX7 73 yX4_read ∈ UW := uw2 26 rfl rfl
theorem ml_X7_77 : Cond.methodLink RX7 77 yX6_clear ∈ UW := uw2 61 rfl rfl
theorem ml_X7_83 : Cond.methodLink RX7 83 yX7_refusalOfBook ∈ UW := uw2 69 rfl rfl
theorem ml_X7_87 : Cond.methodLink RX7 87 yX0_close ∈ UW := uw2 78 rfl rfl
theorem ml_X7_117 : Cond.methodLink RX7 117 yX1_pageOf ∈ UW := uw2 107 rfl rfl
theorem ml_X7_130 : Cond.methodLink RX7 130 yX3_howManyMarks ∈ UW := uw2 155 rfl rfl
theorem ml_X7_134 : Cond.methodLink RX7 134 yX3_gramOfMark ∈ UW := uw2 159 rfl rfl
theorem ml_X7_142 : Cond.methodLink RX7 142 yX7_refusalOfPair ∈ UW := uw2 171 rfl rfl
theorem ml_X7_146 : Cond.methodLink RX7 146 yX1_compare ∈ UW := uw2 175 rfl rfl
theorem ml_X7_153 : Cond.methodLink RX7 153 yX1_partOfRun ∈ UW := uw2 200 rfl rfl
theorem ml_X7_156 : Cond.methodLink RX7 156 yX1_scoreOf ∈ UW := uw2 208 rfl rfl
theorem ml_X7_160 : Cond.methodLink RX7 160 yX1_traceChain ∈ UW := uw2 230 rfl rfl
theorem ml_X7_173 : Cond.methodLink RX7 173 yX2_form ∈ UW := uw3 7 rfl rfl
theorem ml_X7_180 : Cond.methodLink RX7 180 yX2_earliest ∈ UW := uw3 22 rfl rfl
theorem ml_X7_184 : Cond.methodLink RX7 184 yX5_howManyBooks ∈ UW := uw3 30 rfl rfl
theorem ml_X7_190 : Cond.methodLink RX7 190 yX2_howMany ∈ UW := uw3 34 rfl rfl
theorem ml_X7_193 : Cond.methodLink RX7 193 yX5_holds ∈ UW := uw2 73 rfl rfl
theorem ml_X8_1 : Cond.methodLink RX8 1 objectInit ∈ UW := uw3 51 rfl rfl
theorem ml_X8_86 : Cond.methodLink RX8 86 yX8_in ∈ UW := uw3 143 rfl rfl
theorem ml_X8_98 : Cond.methodLink RX8 98 yX8_letter ∈ UW := uw3 158 rfl rfl
theorem ml_X8_107 : Cond.methodLink RX8 107 yX8_readWord ∈ UW := uw3 161 rfl rfl
theorem ml_X8_111 : Cond.methodLink RX8 111 yX8_codeOf ∈ UW := uw3 166 rfl rfl
theorem ml_X8_115 : Cond.methodLink RX8 115 yX8_add ∈ UW := uw3 170 rfl rfl
theorem ml_X8_123 : Cond.methodLink RX8 123 yX8_isNumber ∈ UW := uw3 151 rfl rfl
theorem ml_X8_127 : Cond.methodLink RX8 127 yX8_read ∈ UW := uw3 154 rfl rfl
theorem ml_X8_139 : Cond.methodLink RX8 139 yX8_grams ∈ UW := uw3 206 rfl rfl
theorem ml_X8_142 : Cond.methodLink RX8 142 yX8_hashOf ∈ UW := uw3 210 rfl rfl
theorem ml_X8_146 : Cond.methodLink RX8 146 yX8_findMarks ∈ UW := uw3 220 rfl rfl
theorem ml_X8_150 : Cond.methodLink RX8 150 yX8_findAside ∈ UW := uw3 228 rfl rfl
theorem ml_X8_156 : Cond.methodLink RX8 156 yX8_isAlike ∈ UW := uw4 4 rfl rfl
theorem ml_X8_160 : Cond.methodLink RX8 160 yX8_against ∈ UW := uw3 236 rfl rfl
theorem ml_X8_163 : Cond.methodLink RX8 163 yX8_findRuns ∈ UW := uw4 0 rfl rfl
theorem ml_X8_169 : Cond.methodLink RX8 169 yX8_findScore ∈ UW := uw4 16 rfl rfl
theorem ml_X8_175 : Cond.methodLink RX8 175 yX8_join ∈ UW := uw4 36 rfl rfl
theorem ml_X8_178 : Cond.methodLink RX8 178 yX8_findGroups ∈ UW := uw4 32 rfl rfl
theorem ml_X8_181 : Cond.methodLink RX8 181 yX8_turnOne ∈ UW := uw4 52 rfl rfl
theorem co_L_13 : Cond.constantLong RL 13 (4294967295) ∈ UW := uw4 56 rfl rfl
theorem co_X3_59 : Cond.constantLong RX3 59 (7) ∈ UW := uw2 129 rfl rfl
theorem co_X3_61 : Cond.constantLong RX3 61 (131) ∈ UW := uw2 130 rfl rfl
theorem co_X3_63 : Cond.constantLong RX3 63 (1000003) ∈ UW := uw2 131 rfl rfl
theorem co_X4_64 : Cond.constantLong RX4 64 (7) ∈ UW := uw2 56 rfl rfl
theorem co_X4_66 : Cond.constantLong RX4 66 (37) ∈ UW := uw2 41 rfl rfl
theorem co_X7_103 : Cond.constantLong RX7 103 (-1) ∈ UW := uw2 86 rfl rfl
theorem co_X8_46 : Cond.constantLong RX8 46 (339) ∈ UW := uw3 52 rfl rfl
theorem co_X8_48 : Cond.constantLong RX8 48 (8787) ∈ UW := uw3 53 rfl rfl
theorem co_X8_50 : Cond.constantLong RX8 50 (236) ∈ UW := uw3 54 rfl rfl
theorem co_X8_52 : Cond.constantLong RX8 52 (16633) ∈ UW := uw3 55 rfl rfl
theorem co_X8_54 : Cond.constantLong RX8 54 (7367) ∈ UW := uw3 56 rfl rfl
theorem co_X8_90 : Cond.constantLong RX8 90 (255) ∈ UW := uw3 146 rfl rfl
theorem co_X8_102 : Cond.constantLong RX8 102 (37) ∈ UW := uw3 165 rfl rfl
theorem co_X8_119 : Cond.constantLong RX8 119 (7) ∈ UW := uw3 174 rfl rfl
theorem co_X8_121 : Cond.constantLong RX8 121 (100) ∈ UW := uw3 175 rfl rfl
theorem co_X8_131 : Cond.constantLong RX8 131 (-1) ∈ UW := uw3 184 rfl rfl
theorem co_X8_133 : Cond.constantLong RX8 133 (-2) ∈ UW := uw3 185 rfl rfl
theorem co_X8_135 : Cond.constantLong RX8 135 (131) ∈ UW := uw3 214 rfl rfl
theorem co_X8_137 : Cond.constantLong RX8 137 (1000003) ∈ UW := uw3 215 rfl rfl
theorem iz_X7 : Cond.initialized RX7 ∈ UW := uw1 1 rfl rfl
theorem iz_X0 : Cond.initialized RX0 ∈ UW := uw1 5 rfl rfl
theorem iz_X1 : Cond.initialized RX1 ∈ UW := uw1 6 rfl rfl
theorem iz_X2 : Cond.initialized RX2 ∈ UW := uw1 8 rfl rfl
theorem iz_X3 : Cond.initialized RX3 ∈ UW := uw1 7 rfl rfl
theorem iz_X4 : Cond.initialized RX4 ∈ UW := uw1 3 rfl rfl
theorem iz_X5 : Cond.initialized RX5 ∈ UW := uw1 4 rfl rfl
theorem iz_X6 : Cond.initialized RX6 ∈ UW := uw1 2 rfl rfl
theorem iz_L : Cond.initialized RL ∈ UW := uw1 0 rfl rfl
theorem iz_X8 : Cond.initialized RX8 ∈ UW := uw1 9 rfl rfl
theorem mw_Math : Cond.initialized "java/lang/Math" ∈ UW := uw1 10 rfl rfl
theorem mw_max_st : Cond.static Lib.Math.max.name ∈ UW := uw2 123 rfl rfl
theorem mw_max_code : Cond.code Lib.Math.max.name Lib.Math.max.code 2 (some .int) ∈ UW := uw2 124 rfl rfl
theorem mw_min_st : Cond.static Lib.Math.min.name ∈ UW := uw2 133 rfl rfl
theorem mw_min_code : Cond.code Lib.Math.min.name Lib.Math.min.code 2 (some .int) ∈ UW := uw2 134 rfl rfl
theorem inU0 : ∀ w ∈ u_ws RX0 TX0 5, w ∈ UW := by
  intro w hw
  obtain ⟨k, hk, rfl⟩ := List.mem_map.mp hw
  have hk := List.mem_range.mp hk
  match k, hk with
  | 0, _ => exact uw1 80 rfl rfl
  | 1, _ => exact uw1 82 rfl rfl
  | 2, _ => exact uw1 84 rfl rfl
  | 3, _ => exact uw1 86 rfl rfl
  | 4, _ => exact uw1 88 rfl rfl
  | k + 5, h => exact absurd h (by omega)
theorem inU1 : ∀ w ∈ u_ws RX1 TX1 9, w ∈ UW := by
  intro w hw
  obtain ⟨k, hk, rfl⟩ := List.mem_map.mp hw
  have hk := List.mem_range.mp hk
  match k, hk with
  | 0, _ => exact uw1 186 rfl rfl
  | 1, _ => exact uw1 188 rfl rfl
  | 2, _ => exact uw1 190 rfl rfl
  | 3, _ => exact uw1 192 rfl rfl
  | 4, _ => exact uw1 194 rfl rfl
  | 5, _ => exact uw1 196 rfl rfl
  | 6, _ => exact uw1 198 rfl rfl
  | 7, _ => exact uw1 200 rfl rfl
  | 8, _ => exact uw1 202 rfl rfl
  | k + 9, h => exact absurd h (by omega)
theorem inU2 : ∀ w ∈ u_ws RX2 TX2 2, w ∈ UW := by
  intro w hw
  obtain ⟨k, hk, rfl⟩ := List.mem_map.mp hw
  have hk := List.mem_range.mp hk
  match k, hk with
  | 0, _ => exact uw1 215 rfl rfl
  | 1, _ => exact uw1 217 rfl rfl
  | k + 2, h => exact absurd h (by omega)
theorem inU3 : ∀ w ∈ u_ws RX3 TX3 8, w ∈ UW := by
  intro w hw
  obtain ⟨k, hk, rfl⟩ := List.mem_map.mp hw
  have hk := List.mem_range.mp hk
  match k, hk with
  | 0, _ => exact uw1 154 rfl rfl
  | 1, _ => exact uw1 156 rfl rfl
  | 2, _ => exact uw1 158 rfl rfl
  | 3, _ => exact uw1 160 rfl rfl
  | 4, _ => exact uw1 162 rfl rfl
  | 5, _ => exact uw1 164 rfl rfl
  | 6, _ => exact uw1 166 rfl rfl
  | 7, _ => exact uw1 168 rfl rfl
  | k + 8, h => exact absurd h (by omega)
theorem inU4 : ∀ w ∈ u_ws RX4 TX4 3, w ∈ UW := by
  intro w hw
  obtain ⟨k, hk, rfl⟩ := List.mem_map.mp hw
  have hk := List.mem_range.mp hk
  match k, hk with
  | 0, _ => exact uw1 45 rfl rfl
  | 1, _ => exact uw1 47 rfl rfl
  | 2, _ => exact uw1 49 rfl rfl
  | k + 3, h => exact absurd h (by omega)
theorem inU5 : ∀ w ∈ u_ws RX5 TX5 6, w ∈ UW := by
  intro w hw
  obtain ⟨k, hk, rfl⟩ := List.mem_map.mp hw
  have hk := List.mem_range.mp hk
  match k, hk with
  | 0, _ => exact uw1 112 rfl rfl
  | 1, _ => exact uw1 114 rfl rfl
  | 2, _ => exact uw1 116 rfl rfl
  | 3, _ => exact uw1 118 rfl rfl
  | 4, _ => exact uw1 120 rfl rfl
  | 5, _ => exact uw1 122 rfl rfl
  | k + 6, h => exact absurd h (by omega)
theorem inU6 : ∀ w ∈ u_ws RX6 TX6 2, w ∈ UW := by
  intro w hw
  obtain ⟨k, hk, rfl⟩ := List.mem_map.mp hw
  have hk := List.mem_range.mp hk
  match k, hk with
  | 0, _ => exact uw1 30 rfl rfl
  | 1, _ => exact uw1 32 rfl rfl
  | k + 2, h => exact absurd h (by omega)
theorem inU7 : ∀ w ∈ u_ws RX7 TX7 5, w ∈ UW := by
  intro w hw
  obtain ⟨k, hk, rfl⟩ := List.mem_map.mp hw
  have hk := List.mem_range.mp hk
  match k, hk with
  | 0, _ => exact uw1 225 rfl rfl
  | 1, _ => exact uw1 227 rfl rfl
  | 2, _ => exact uw1 229 rfl rfl
  | 3, _ => exact uw1 231 rfl rfl
  | 4, _ => exact uw1 233 rfl rfl
  | k + 5, h => exact absurd h (by omega)
theorem inU8 : ∀ w ∈ u_ws RX8 TX8 27, w ∈ UW := by
  intro w hw
  obtain ⟨k, hk, rfl⟩ := List.mem_map.mp hw
  have hk := List.mem_range.mp hk
  match k, hk with
  | 0, _ => exact uw3 84 rfl rfl
  | 1, _ => exact uw3 86 rfl rfl
  | 2, _ => exact uw3 88 rfl rfl
  | 3, _ => exact uw3 90 rfl rfl
  | 4, _ => exact uw3 92 rfl rfl
  | 5, _ => exact uw3 94 rfl rfl
  | 6, _ => exact uw3 96 rfl rfl
  | 7, _ => exact uw3 98 rfl rfl
  | 8, _ => exact uw3 100 rfl rfl
  | 9, _ => exact uw3 102 rfl rfl
  | 10, _ => exact uw3 104 rfl rfl
  | 11, _ => exact uw3 106 rfl rfl
  | 12, _ => exact uw3 108 rfl rfl
  | 13, _ => exact uw3 110 rfl rfl
  | 14, _ => exact uw3 112 rfl rfl
  | 15, _ => exact uw3 114 rfl rfl
  | 16, _ => exact uw3 116 rfl rfl
  | 17, _ => exact uw3 118 rfl rfl
  | 18, _ => exact uw3 120 rfl rfl
  | 19, _ => exact uw3 122 rfl rfl
  | 20, _ => exact uw3 124 rfl rfl
  | 21, _ => exact uw3 126 rfl rfl
  | 22, _ => exact uw3 128 rfl rfl
  | 23, _ => exact uw3 130 rfl rfl
  | 24, _ => exact uw3 132 rfl rfl
  | 25, _ => exact uw3 134 rfl rfl
  | 26, _ => exact uw3 136 rfl rfl
  | k + 27, h => exact absurd h (by omega)
/-- what the tables say of an instance method of ours -/
def MF (y : MethodName) (cy : ByteArray) (ny : Nat) (ry : Option FieldType) (C : String) (n : Nat) : Prop := Cond.code y cy ny ry ∈ UW ∧ Cond.instanceMethod y ∈ UW ∧ Cond.selects C y y ∈ UW ∧ Cond.initialized y.cls ∈ UW ∧ (y.cls ≠ "java/lang/invoke/MethodHandle" ∧ y.cls ≠ "java/lang/invoke/VarHandle") ∧ (parseMethodDescriptor y.desc).map (fun d => d.parameters.length) = some n
def MFs (y : MethodName) (cy : ByteArray) (ny : Nat) (ry : Option FieldType) (n : Nat) : Prop := Cond.code y cy ny ry ∈ UW ∧ Cond.static y ∈ UW ∧ Cond.initialized y.cls ∈ UW ∧ (y.cls ≠ "java/lang/invoke/MethodHandle" ∧ y.cls ≠ "java/lang/invoke/VarHandle") ∧ (parseMethodDescriptor y.desc).map (fun d => d.parameters.length) = some n
theorem mf_X7_type : MF yX7_type cX7_type 4 (some .int) RX7 2 := ⟨uw1 239 rfl rfl, uw1 237 rfl rfl, uw1 238 rfl rfl, iz_X7, ⟨by decide +kernel, by decide +kernel⟩, by decide +kernel⟩
theorem mf_X6_isText : MFs yX6_isText cX6_isText 5 (some .boolean) 2 := ⟨uw2 2 rfl rfl, uw2 1 rfl rfl, iz_X6, ⟨by decide +kernel, by decide +kernel⟩, by decide +kernel⟩
theorem mf_X6_byteAt : MFs yX6_byteAt cX6_byteAt 3 (some .int) 2 := ⟨uw2 5 rfl rfl, uw2 4 rfl rfl, iz_X6, ⟨by decide +kernel, by decide +kernel⟩, by decide +kernel⟩
theorem mf_X6_hasRoomFor : MF yX6_hasRoomFor cX6_hasRoomFor 2 (some .boolean) RX6 1 := ⟨uw2 9 rfl rfl, uw2 7 rfl rfl, uw2 8 rfl rfl, iz_X6, ⟨by decide +kernel, by decide +kernel⟩, by decide +kernel⟩
theorem mf_X6_append : MF yX6_append cX6_append 5 none RX6 2 := ⟨uw2 13 rfl rfl, uw2 11 rfl rfl, uw2 12 rfl rfl, iz_X6, ⟨by decide +kernel, by decide +kernel⟩, by decide +kernel⟩
theorem mf_X7_book : MF yX7_book cX7_book 5 (some .int) RX7 3 := ⟨uw2 17 rfl rfl, uw2 15 rfl rfl, uw2 16 rfl rfl, iz_X7, ⟨by decide +kernel, by decide +kernel⟩, by decide +kernel⟩
theorem mf_X5_names : MF yX5_names cX5_names 2 (some .boolean) RX5 1 := ⟨uw2 21 rfl rfl, uw2 19 rfl rfl, uw2 20 rfl rfl, iz_X5, ⟨by decide +kernel, by decide +kernel⟩, by decide +kernel⟩
theorem mf_X0_open : MF yX0_open cX0_open 3 none RX0 2 := ⟨uw2 25 rfl rfl, uw2 23 rfl rfl, uw2 24 rfl rfl, iz_X0, ⟨by decide +kernel, by decide +kernel⟩, by decide +kernel⟩
theorem mf_X4_read : MF yX4_read cX4_read 4 none RX4 2 := ⟨uw2 29 rfl rfl, uw2 27 rfl rfl, uw2 28 rfl rfl, iz_X4, ⟨by decide +kernel, by decide +kernel⟩, by decide +kernel⟩
theorem mf_X4_takeByte : MF yX4_takeByte cX4_takeByte 4 none RX4 2 := ⟨uw2 33 rfl rfl, uw2 32 rfl rfl, uw0 0 rfl rfl, iz_X4, ⟨by decide +kernel, by decide +kernel⟩, by decide +kernel⟩
theorem mf_X4_valueOf : MFs yX4_valueOf cX4_valueOf 1 (some .int) 1 := ⟨uw2 36 rfl rfl, uw2 35 rfl rfl, iz_X4, ⟨by decide +kernel, by decide +kernel⟩, by decide +kernel⟩
theorem mf_X4_lengthenWord : MF yX4_lengthenWord cX4_lengthenWord 2 none RX4 1 := ⟨uw2 40 rfl rfl, uw2 39 rfl rfl, uw0 1 rfl rfl, iz_X4, ⟨by decide +kernel, by decide +kernel⟩, by decide +kernel⟩
theorem mf_X4_endPiece : MF yX4_endPiece cX4_endPiece 2 none RX4 1 := ⟨uw2 45 rfl rfl, uw2 44 rfl rfl, uw0 2 rfl rfl, iz_X4, ⟨by decide +kernel, by decide +kernel⟩, by decide +kernel⟩
theorem mf_X4_codeOfWord : MF yX4_codeOfWord cX4_codeOfWord 2 (some .int) RX4 0 := ⟨uw2 49 rfl rfl, uw2 48 rfl rfl, uw0 3 rfl rfl, iz_X4, ⟨by decide +kernel, by decide +kernel⟩, by decide +kernel⟩
theorem mf_X0_add : MF yX0_add cX0_add 3 none RX0 1 := ⟨uw2 55 rfl rfl, uw2 53 rfl rfl, uw2 54 rfl rfl, iz_X0, ⟨by decide +kernel, by decide +kernel⟩, by decide +kernel⟩
theorem mf_X4_beginPiece : MF yX4_beginPiece cX4_beginPiece 4 none RX4 3 := ⟨uw2 60 rfl rfl, uw2 59 rfl rfl, uw0 4 rfl rfl, iz_X4, ⟨by decide +kernel, by decide +kernel⟩, by decide +kernel⟩
theorem mf_X6_clear : MF yX6_clear cX6_clear 1 none RX6 0 := ⟨uw2 64 rfl rfl, uw2 62 rfl rfl, uw2 63 rfl rfl, iz_X6, ⟨by decide +kernel, by decide +kernel⟩, by decide +kernel⟩
theorem mf_X7_withdraw : MF yX7_withdraw cX7_withdraw 4 (some .int) RX7 1 := ⟨uw2 68 rfl rfl, uw2 66 rfl rfl, uw2 67 rfl rfl, iz_X7, ⟨by decide +kernel, by decide +kernel⟩, by decide +kernel⟩
theorem mf_X7_refusalOfBook : MF yX7_refusalOfBook cX7_refusalOfBook 2 (some .int) RX7 1 := ⟨uw2 72 rfl rfl, uw2 71 rfl rfl, uw0 5 rfl rfl, iz_X7, ⟨by decide +kernel, by decide +kernel⟩, by decide +kernel⟩
theorem mf_X5_holds : MF yX5_holds cX5_holds 2 (some .boolean) RX5 1 := ⟨uw2 76 rfl rfl, uw2 74 rfl rfl, uw2 75 rfl rfl, iz_X5, ⟨by decide +kernel, by decide +kernel⟩, by decide +kernel⟩
theorem mf_X0_close : MF yX0_close cX0_close 1 none RX0 0 := ⟨uw2 81 rfl rfl, uw2 79 rfl rfl, uw2 80 rfl rfl, iz_X0, ⟨by decide +kernel, by decide +kernel⟩, by decide +kernel⟩
theorem mf_X7_token : MF yX7_token cX7_token 5 (some .long) RX7 2 := ⟨uw2 85 rfl rfl, uw2 83 rfl rfl, uw2 84 rfl rfl, iz_X7, ⟨by decide +kernel, by decide +kernel⟩, by decide +kernel⟩
theorem mf_X7_windows : MF yX7_windows cX7_windows 3 (some .int) RX7 2 := ⟨uw2 90 rfl rfl, uw2 88 rfl rfl, uw2 89 rfl rfl, iz_X7, ⟨by decide +kernel, by decide +kernel⟩, by decide +kernel⟩
theorem mf_X7_gap : MF yX7_gap cX7_gap 3 (some .int) RX7 1 := ⟨uw2 94 rfl rfl, uw2 92 rfl rfl, uw2 93 rfl rfl, iz_X7, ⟨by decide +kernel, by decide +kernel⟩, by decide +kernel⟩
theorem mf_X7_link : MF yX7_link cX7_link 3 (some .int) RX7 1 := ⟨uw2 98 rfl rfl, uw2 96 rfl rfl, uw2 97 rfl rfl, iz_X7, ⟨by decide +kernel, by decide +kernel⟩, by decide +kernel⟩
theorem mf_X7_given : MF yX7_given cX7_given 4 (some .int) RX7 1 := ⟨uw2 102 rfl rfl, uw2 100 rfl rfl, uw2 101 rfl rfl, iz_X7, ⟨by decide +kernel, by decide +kernel⟩, by decide +kernel⟩
theorem mf_X7_hash : MF yX7_hash cX7_hash 5 (some .int) RX7 2 := ⟨uw2 106 rfl rfl, uw2 104 rfl rfl, uw2 105 rfl rfl, iz_X7, ⟨by decide +kernel, by decide +kernel⟩, by decide +kernel⟩
theorem mf_X1_pageOf : MF yX1_pageOf cX1_pageOf 3 (some (.object "BorrowedPages$Page")) RX1 2 := ⟨uw2 110 rfl rfl, uw2 108 rfl rfl, uw2 109 rfl rfl, iz_X1, ⟨by decide +kernel, by decide +kernel⟩, by decide +kernel⟩
theorem mf_X1_layWithMarks : MFs yX1_layWithMarks cX1_layWithMarks 4 none 4 := ⟨uw2 113 rfl rfl, uw2 112 rfl rfl, iz_X1, ⟨by decide +kernel, by decide +kernel⟩, by decide +kernel⟩
theorem mf_X3_lay : MF yX3_lay cX3_lay 4 none RX3 2 := ⟨uw2 117 rfl rfl, uw2 115 rfl rfl, uw2 116 rfl rfl, iz_X3, ⟨by decide +kernel, by decide +kernel⟩, by decide +kernel⟩
theorem mf_X3_findMarks : MF yX3_findMarks cX3_findMarks 5 none RX3 2 := ⟨uw2 121 rfl rfl, uw2 119 rfl rfl, uw2 120 rfl rfl, iz_X3, ⟨by decide +kernel, by decide +kernel⟩, by decide +kernel⟩
theorem mf_X3_hashOfGram : MF yX3_hashOfGram cX3_hashOfGram 6 (some .int) RX3 2 := ⟨uw2 128 rfl rfl, uw2 127 rfl rfl, uw0 6 rfl rfl, iz_X3, ⟨by decide +kernel, by decide +kernel⟩, by decide +kernel⟩
theorem mf_X3_lastOfLeast : MF yX3_lastOfLeast cX3_lastOfLeast 5 (some .int) RX3 2 := ⟨uw2 138 rfl rfl, uw2 137 rfl rfl, uw0 7 rfl rfl, iz_X3, ⟨by decide +kernel, by decide +kernel⟩, by decide +kernel⟩
theorem mf_X1_asideLength : MFs yX1_asideLength cX1_asideLength 1 (some .int) 1 := ⟨uw2 142 rfl rfl, uw2 141 rfl rfl, iz_X1, ⟨by decide +kernel, by decide +kernel⟩, by decide +kernel⟩
theorem mf_X3_setAside : MF yX3_setAside cX3_setAside 5 none RX3 2 := ⟨uw2 146 rfl rfl, uw2 144 rfl rfl, uw2 145 rfl rfl, iz_X3, ⟨by decide +kernel, by decide +kernel⟩, by decide +kernel⟩
theorem mf_X3_longestSharedUpTo : MF yX3_longestSharedUpTo cX3_longestSharedUpTo 6 (some .int) RX3 2 := ⟨uw2 150 rfl rfl, uw2 149 rfl rfl, uw0 8 rfl rfl, iz_X3, ⟨by decide +kernel, by decide +kernel⟩, by decide +kernel⟩
theorem mf_X7_markAt : MF yX7_markAt cX7_markAt 5 (some .int) RX7 2 := ⟨uw2 154 rfl rfl, uw2 152 rfl rfl, uw2 153 rfl rfl, iz_X7, ⟨by decide +kernel, by decide +kernel⟩, by decide +kernel⟩
theorem mf_X3_howManyMarks : MF yX3_howManyMarks cX3_howManyMarks 3 (some .int) RX3 0 := ⟨uw2 158 rfl rfl, uw2 156 rfl rfl, uw2 157 rfl rfl, iz_X3, ⟨by decide +kernel, by decide +kernel⟩, by decide +kernel⟩
theorem mf_X3_gramOfMark : MF yX3_gramOfMark cX3_gramOfMark 4 (some .int) RX3 1 := ⟨uw2 162 rfl rfl, uw2 160 rfl rfl, uw2 161 rfl rfl, iz_X3, ⟨by decide +kernel, by decide +kernel⟩, by decide +kernel⟩
theorem mf_X7_aside : MF yX7_aside cX7_aside 5 (some .int) RX7 2 := ⟨uw2 166 rfl rfl, uw2 164 rfl rfl, uw2 165 rfl rfl, iz_X7, ⟨by decide +kernel, by decide +kernel⟩, by decide +kernel⟩
theorem mf_X7_runs : MF yX7_runs cX7_runs 4 (some .int) RX7 2 := ⟨uw2 170 rfl rfl, uw2 168 rfl rfl, uw2 169 rfl rfl, iz_X7, ⟨by decide +kernel, by decide +kernel⟩, by decide +kernel⟩
theorem mf_X7_refusalOfPair : MF yX7_refusalOfPair cX7_refusalOfPair 3 (some .int) RX7 2 := ⟨uw2 174 rfl rfl, uw2 173 rfl rfl, uw0 9 rfl rfl, iz_X7, ⟨by decide +kernel, by decide +kernel⟩, by decide +kernel⟩
theorem mf_X1_compare : MF yX1_compare cX1_compare 8 none RX1 4 := ⟨uw2 178 rfl rfl, uw2 176 rfl rfl, uw2 177 rfl rfl, iz_X1, ⟨by decide +kernel, by decide +kernel⟩, by decide +kernel⟩
theorem mf_X1_setBothAside : MF yX1_setBothAside cX1_setBothAside 5 none RX1 3 := ⟨uw2 182 rfl rfl, uw2 181 rfl rfl, uw0 10 rfl rfl, iz_X1, ⟨by decide +kernel, by decide +kernel⟩, by decide +kernel⟩
theorem mf_X1_runLengthAt : MF yX1_runLengthAt cX1_runLengthAt 6 (some .int) RX1 3 := ⟨uw2 186 rfl rfl, uw2 185 rfl rfl, uw0 11 rfl rfl, iz_X1, ⟨by decide +kernel, by decide +kernel⟩, by decide +kernel⟩
theorem mf_X1_agree : MF yX1_agree cX1_agree 3 (some .boolean) RX1 2 := ⟨uw2 190 rfl rfl, uw2 189 rfl rfl, uw0 12 rfl rfl, iz_X1, ⟨by decide +kernel, by decide +kernel⟩, by decide +kernel⟩
theorem mf_X1_sharesMark : MF yX1_sharesMark cX1_sharesMark 5 (some .boolean) RX1 3 := ⟨uw2 195 rfl rfl, uw2 194 rfl rfl, uw0 13 rfl rfl, iz_X1, ⟨by decide +kernel, by decide +kernel⟩, by decide +kernel⟩
theorem mf_X7_run : MF yX7_run cX7_run 6 (some .int) RX7 4 := ⟨uw2 199 rfl rfl, uw2 197 rfl rfl, uw2 198 rfl rfl, iz_X7, ⟨by decide +kernel, by decide +kernel⟩, by decide +kernel⟩
theorem mf_X1_partOfRun : MF yX1_partOfRun cX1_partOfRun 7 (some .int) RX1 2 := ⟨uw2 203 rfl rfl, uw2 201 rfl rfl, uw2 202 rfl rfl, iz_X1, ⟨by decide +kernel, by decide +kernel⟩, by decide +kernel⟩
theorem mf_X7_score : MF yX7_score cX7_score 4 (some .int) RX7 2 := ⟨uw2 207 rfl rfl, uw2 205 rfl rfl, uw2 206 rfl rfl, iz_X7, ⟨by decide +kernel, by decide +kernel⟩, by decide +kernel⟩
theorem mf_X1_scoreOf : MF yX1_scoreOf cX1_scoreOf 5 (some .int) RX1 4 := ⟨uw2 211 rfl rfl, uw2 209 rfl rfl, uw2 210 rfl rfl, iz_X1, ⟨by decide +kernel, by decide +kernel⟩, by decide +kernel⟩
theorem mf_X1_findBest : MF yX1_findBest cX1_findBest 4 none RX1 1 := ⟨uw2 216 rfl rfl, uw2 215 rfl rfl, uw0 14 rfl rfl, iz_X1, ⟨by decide +kernel, by decide +kernel⟩, by decide +kernel⟩
theorem mf_X1_bestFrom : MF yX1_bestFrom cX1_bestFrom 6 (some .int) RX1 3 := ⟨uw2 220 rfl rfl, uw2 219 rfl rfl, uw0 15 rfl rfl, iz_X1, ⟨by decide +kernel, by decide +kernel⟩, by decide +kernel⟩
theorem mf_X1_bestWithRun : MF yX1_bestWithRun cX1_bestWithRun 5 (some .int) RX1 4 := ⟨uw2 225 rfl rfl, uw2 224 rfl rfl, uw0 16 rfl rfl, iz_X1, ⟨by decide +kernel, by decide +kernel⟩, by decide +kernel⟩
theorem mf_X7_chain : MF yX7_chain cX7_chain 5 (some .int) RX7 3 := ⟨uw2 229 rfl rfl, uw2 227 rfl rfl, uw2 228 rfl rfl, iz_X7, ⟨by decide +kernel, by decide +kernel⟩, by decide +kernel⟩
theorem mf_X1_traceChain : MF yX1_traceChain cX1_traceChain 12 none RX1 3 := ⟨uw2 233 rfl rfl, uw2 231 rfl rfl, uw2 232 rfl rfl, iz_X1, ⟨by decide +kernel, by decide +kernel⟩, by decide +kernel⟩
theorem mf_X1_addToChain : MF yX1_addToChain cX1_addToChain 3 none RX1 2 := ⟨uw2 238 rfl rfl, uw2 237 rfl rfl, uw0 17 rfl rfl, iz_X1, ⟨by decide +kernel, by decide +kernel⟩, by decide +kernel⟩
theorem mf_X7_covered : MF yX7_covered cX7_covered 4 (some .int) RX7 2 := ⟨uw3 2 rfl rfl, uw3 0 rfl rfl, uw3 1 rfl rfl, iz_X7, ⟨by decide +kernel, by decide +kernel⟩, by decide +kernel⟩
theorem mf_X7_group : MF yX7_group cX7_group 3 (some .int) RX7 1 := ⟨uw3 6 rfl rfl, uw3 4 rfl rfl, uw3 5 rfl rfl, iz_X7, ⟨by decide +kernel, by decide +kernel⟩, by decide +kernel⟩
theorem mf_X2_form : MF yX2_form cX2_form 5 none RX2 2 := ⟨uw3 10 rfl rfl, uw3 8 rfl rfl, uw3 9 rfl rfl, iz_X2, ⟨by decide +kernel, by decide +kernel⟩, by decide +kernel⟩
theorem mf_X2_join : MF yX2_join cX2_join 5 none RX2 2 := ⟨uw3 16 rfl rfl, uw3 15 rfl rfl, uw0 18 rfl rfl, iz_X2, ⟨by decide +kernel, by decide +kernel⟩, by decide +kernel⟩
theorem mf_X7_first : MF yX7_first cX7_first 3 (some .int) RX7 1 := ⟨uw3 21 rfl rfl, uw3 19 rfl rfl, uw3 20 rfl rfl, iz_X7, ⟨by decide +kernel, by decide +kernel⟩, by decide +kernel⟩
theorem mf_X2_earliest : MF yX2_earliest cX2_earliest 5 (some .int) RX2 2 := ⟨uw3 25 rfl rfl, uw3 23 rfl rfl, uw3 24 rfl rfl, iz_X2, ⟨by decide +kernel, by decide +kernel⟩, by decide +kernel⟩
theorem mf_X7_count : MF yX7_count cX7_count 2 (some .int) RX7 1 := ⟨uw3 29 rfl rfl, uw3 27 rfl rfl, uw3 28 rfl rfl, iz_X7, ⟨by decide +kernel, by decide +kernel⟩, by decide +kernel⟩
theorem mf_X5_howManyBooks : MF yX5_howManyBooks cX5_howManyBooks 3 (some .int) RX5 0 := ⟨uw3 33 rfl rfl, uw3 31 rfl rfl, uw3 32 rfl rfl, iz_X5, ⟨by decide +kernel, by decide +kernel⟩, by decide +kernel⟩
theorem mf_X2_howMany : MF yX2_howMany cX2_howMany 6 (some .int) RX2 2 := ⟨uw3 37 rfl rfl, uw3 35 rfl rfl, uw3 36 rfl rfl, iz_X2, ⟨by decide +kernel, by decide +kernel⟩, by decide +kernel⟩
theorem mf_X2_membersOf : MF yX2_membersOf cX2_membersOf 4 (some .int) RX2 1 := ⟨uw3 41 rfl rfl, uw3 40 rfl rfl, uw0 19 rfl rfl, iz_X2, ⟨by decide +kernel, by decide +kernel⟩, by decide +kernel⟩
theorem mf_X7_chance : MF yX7_chance cX7_chance 7 (some .int) RX7 2 := ⟨uw3 45 rfl rfl, uw3 43 rfl rfl, uw3 44 rfl rfl, iz_X7, ⟨by decide +kernel, by decide +kernel⟩, by decide +kernel⟩
theorem mf_X8_type : MF yX8_type cX8_type 5 (some .int) RX8 2 := ⟨uw3 142 rfl rfl, uw3 140 rfl rfl, uw3 141 rfl rfl, iz_X8, ⟨by decide +kernel, by decide +kernel⟩, by decide +kernel⟩
theorem mf_X8_in : MFs yX8_in cX8_in 3 (some .boolean) 3 := ⟨uw3 145 rfl rfl, uw3 144 rfl rfl, iz_X8, ⟨by decide +kernel, by decide +kernel⟩, by decide +kernel⟩
theorem mf_X8_book : MF yX8_book cX8_book 4 (some .int) RX8 3 := ⟨uw3 150 rfl rfl, uw3 148 rfl rfl, uw3 149 rfl rfl, iz_X8, ⟨by decide +kernel, by decide +kernel⟩, by decide +kernel⟩
theorem mf_X8_isNumber : MFs yX8_isNumber cX8_isNumber 1 (some .boolean) 1 := ⟨uw3 153 rfl rfl, uw3 152 rfl rfl, iz_X8, ⟨by decide +kernel, by decide +kernel⟩, by decide +kernel⟩
theorem mf_X8_read : MF yX8_read cX8_read 7 none RX8 2 := ⟨uw3 157 rfl rfl, uw3 156 rfl rfl, uw0 20 rfl rfl, iz_X8, ⟨by decide +kernel, by decide +kernel⟩, by decide +kernel⟩
theorem mf_X8_letter : MFs yX8_letter cX8_letter 1 (some .int) 1 := ⟨uw3 160 rfl rfl, uw3 159 rfl rfl, iz_X8, ⟨by decide +kernel, by decide +kernel⟩, by decide +kernel⟩
theorem mf_X8_readWord : MF yX8_readWord cX8_readWord 4 (some .long) RX8 0 := ⟨uw3 164 rfl rfl, uw3 163 rfl rfl, uw0 21 rfl rfl, iz_X8, ⟨by decide +kernel, by decide +kernel⟩, by decide +kernel⟩
theorem mf_X8_codeOf : MF yX8_codeOf cX8_codeOf 5 (some .int) RX8 1 := ⟨uw3 169 rfl rfl, uw3 168 rfl rfl, uw0 22 rfl rfl, iz_X8, ⟨by decide +kernel, by decide +kernel⟩, by decide +kernel⟩
theorem mf_X8_add : MF yX8_add cX8_add 4 none RX8 2 := ⟨uw3 173 rfl rfl, uw3 172 rfl rfl, uw0 23 rfl rfl, iz_X8, ⟨by decide +kernel, by decide +kernel⟩, by decide +kernel⟩
theorem mf_X8_withdraw : MF yX8_withdraw cX8_withdraw 2 (some .int) RX8 1 := ⟨uw3 179 rfl rfl, uw3 177 rfl rfl, uw3 178 rfl rfl, iz_X8, ⟨by decide +kernel, by decide +kernel⟩, by decide +kernel⟩
theorem mf_X8_token : MF yX8_token cX8_token 3 (some .long) RX8 2 := ⟨uw3 183 rfl rfl, uw3 181 rfl rfl, uw3 182 rfl rfl, iz_X8, ⟨by decide +kernel, by decide +kernel⟩, by decide +kernel⟩
theorem mf_X8_windows : MF yX8_windows cX8_windows 3 (some .int) RX8 2 := ⟨uw3 189 rfl rfl, uw3 187 rfl rfl, uw3 188 rfl rfl, iz_X8, ⟨by decide +kernel, by decide +kernel⟩, by decide +kernel⟩
theorem mf_X8_gap : MF yX8_gap cX8_gap 3 (some .int) RX8 1 := ⟨uw3 193 rfl rfl, uw3 191 rfl rfl, uw3 192 rfl rfl, iz_X8, ⟨by decide +kernel, by decide +kernel⟩, by decide +kernel⟩
theorem mf_X8_link : MF yX8_link cX8_link 3 (some .int) RX8 1 := ⟨uw3 197 rfl rfl, uw3 195 rfl rfl, uw3 196 rfl rfl, iz_X8, ⟨by decide +kernel, by decide +kernel⟩, by decide +kernel⟩
theorem mf_X8_given : MF yX8_given cX8_given 3 (some .int) RX8 1 := ⟨uw3 201 rfl rfl, uw3 199 rfl rfl, uw3 200 rfl rfl, iz_X8, ⟨by decide +kernel, by decide +kernel⟩, by decide +kernel⟩
theorem mf_X8_hash : MF yX8_hash cX8_hash 3 (some .int) RX8 2 := ⟨uw3 205 rfl rfl, uw3 203 rfl rfl, uw3 204 rfl rfl, iz_X8, ⟨by decide +kernel, by decide +kernel⟩, by decide +kernel⟩
theorem mf_X8_grams : MF yX8_grams cX8_grams 2 (some .int) RX8 1 := ⟨uw3 209 rfl rfl, uw3 208 rfl rfl, uw0 24 rfl rfl, iz_X8, ⟨by decide +kernel, by decide +kernel⟩, by decide +kernel⟩
theorem mf_X8_hashOf : MF yX8_hashOf cX8_hashOf 6 (some .int) RX8 2 := ⟨uw3 213 rfl rfl, uw3 212 rfl rfl, uw0 25 rfl rfl, iz_X8, ⟨by decide +kernel, by decide +kernel⟩, by decide +kernel⟩
theorem mf_X8_markAt : MF yX8_markAt cX8_markAt 5 (some .int) RX8 2 := ⟨uw3 219 rfl rfl, uw3 217 rfl rfl, uw3 218 rfl rfl, iz_X8, ⟨by decide +kernel, by decide +kernel⟩, by decide +kernel⟩
theorem mf_X8_findMarks : MF yX8_findMarks cX8_findMarks 6 none RX8 1 := ⟨uw3 223 rfl rfl, uw3 222 rfl rfl, uw0 26 rfl rfl, iz_X8, ⟨by decide +kernel, by decide +kernel⟩, by decide +kernel⟩
theorem mf_X8_aside : MF yX8_aside cX8_aside 3 (some .int) RX8 2 := ⟨uw3 227 rfl rfl, uw3 225 rfl rfl, uw3 226 rfl rfl, iz_X8, ⟨by decide +kernel, by decide +kernel⟩, by decide +kernel⟩
theorem mf_X8_findAside : MF yX8_findAside cX8_findAside 7 none RX8 1 := ⟨uw3 231 rfl rfl, uw3 230 rfl rfl, uw0 27 rfl rfl, iz_X8, ⟨by decide +kernel, by decide +kernel⟩, by decide +kernel⟩
theorem mf_X8_runs : MF yX8_runs cX8_runs 4 (some .int) RX8 2 := ⟨uw3 235 rfl rfl, uw3 233 rfl rfl, uw3 234 rfl rfl, iz_X8, ⟨by decide +kernel, by decide +kernel⟩, by decide +kernel⟩
theorem mf_X8_against : MF yX8_against cX8_against 3 (some .int) RX8 2 := ⟨uw3 239 rfl rfl, uw3 238 rfl rfl, uw0 28 rfl rfl, iz_X8, ⟨by decide +kernel, by decide +kernel⟩, by decide +kernel⟩
theorem mf_X8_findRuns : MF yX8_findRuns cX8_findRuns 8 none RX8 2 := ⟨uw4 3 rfl rfl, uw4 2 rfl rfl, uw0 29 rfl rfl, iz_X8, ⟨by decide +kernel, by decide +kernel⟩, by decide +kernel⟩
theorem mf_X8_isAlike : MF yX8_isAlike cX8_isAlike 7 (some .boolean) RX8 4 := ⟨uw4 7 rfl rfl, uw4 6 rfl rfl, uw0 30 rfl rfl, iz_X8, ⟨by decide +kernel, by decide +kernel⟩, by decide +kernel⟩
theorem mf_X8_run : MF yX8_run cX8_run 6 (some .int) RX8 4 := ⟨uw4 11 rfl rfl, uw4 9 rfl rfl, uw4 10 rfl rfl, iz_X8, ⟨by decide +kernel, by decide +kernel⟩, by decide +kernel⟩
theorem mf_X8_score : MF yX8_score cX8_score 4 (some .int) RX8 2 := ⟨uw4 15 rfl rfl, uw4 13 rfl rfl, uw4 14 rfl rfl, iz_X8, ⟨by decide +kernel, by decide +kernel⟩, by decide +kernel⟩
theorem mf_X8_findScore : MF yX8_findScore cX8_findScore 7 (some .int) RX8 2 := ⟨uw4 19 rfl rfl, uw4 18 rfl rfl, uw0 31 rfl rfl, iz_X8, ⟨by decide +kernel, by decide +kernel⟩, by decide +kernel⟩
theorem mf_X8_chain : MF yX8_chain cX8_chain 8 (some .int) RX8 3 := ⟨uw4 23 rfl rfl, uw4 21 rfl rfl, uw4 22 rfl rfl, iz_X8, ⟨by decide +kernel, by decide +kernel⟩, by decide +kernel⟩
theorem mf_X8_covered : MF yX8_covered cX8_covered 7 (some .int) RX8 2 := ⟨uw4 27 rfl rfl, uw4 25 rfl rfl, uw4 26 rfl rfl, iz_X8, ⟨by decide +kernel, by decide +kernel⟩, by decide +kernel⟩
theorem mf_X8_group : MF yX8_group cX8_group 2 (some .int) RX8 1 := ⟨uw4 31 rfl rfl, uw4 29 rfl rfl, uw4 30 rfl rfl, iz_X8, ⟨by decide +kernel, by decide +kernel⟩, by decide +kernel⟩
theorem mf_X8_findGroups : MF yX8_findGroups cX8_findGroups 3 none RX8 0 := ⟨uw4 35 rfl rfl, uw4 34 rfl rfl, uw0 32 rfl rfl, iz_X8, ⟨by decide +kernel, by decide +kernel⟩, by decide +kernel⟩
theorem mf_X8_join : MF yX8_join cX8_join 5 none RX8 2 := ⟨uw4 39 rfl rfl, uw4 38 rfl rfl, uw0 33 rfl rfl, iz_X8, ⟨by decide +kernel, by decide +kernel⟩, by decide +kernel⟩
theorem mf_X8_first : MF yX8_first cX8_first 4 (some .int) RX8 1 := ⟨uw4 43 rfl rfl, uw4 41 rfl rfl, uw4 42 rfl rfl, iz_X8, ⟨by decide +kernel, by decide +kernel⟩, by decide +kernel⟩
theorem mf_X8_count : MF yX8_count cX8_count 8 (some .int) RX8 1 := ⟨uw4 47 rfl rfl, uw4 45 rfl rfl, uw4 46 rfl rfl, iz_X8, ⟨by decide +kernel, by decide +kernel⟩, by decide +kernel⟩
theorem mf_X8_chance : MF yX8_chance cX8_chance 7 (some .int) RX8 2 := ⟨uw4 51 rfl rfl, uw4 49 rfl rfl, uw4 50 rfl rfl, iz_X8, ⟨by decide +kernel, by decide +kernel⟩, by decide +kernel⟩
theorem mf_X8_turnOne : MF yX8_turnOne cX8_turnOne 5 none RX8 1 := ⟨uw4 55 rfl rfl, uw4 54 rfl rfl, uw0 34 rfl rfl, iz_X8, ⟨by decide +kernel, by decide +kernel⟩, by decide +kernel⟩
end
section
theorem dX0_init_0 : decode cX0_init 0 = .ok (.aload_n 0, 1) := by decide +kernel
theorem dX0_init_1 : decode cX0_init 1 = .ok (.invokespecial 3, 3) := by decide +kernel
theorem dX0_init_4 : decode cX0_init 4 = .ok (.aload_n 0, 1) := by decide +kernel
theorem dX0_init_5 : decode cX0_init 5 = .ok (.bipush 40, 2) := by decide +kernel
theorem dX0_init_7 : decode cX0_init 7 = .ok (.newarray .long, 2) := by decide +kernel
theorem dX0_init_9 : decode cX0_init 9 = .ok (.putfield 9, 3) := by decide +kernel
theorem dX0_init_12 : decode cX0_init 12 = .ok (.aload_n 0, 1) := by decide +kernel
theorem dX0_init_13 : decode cX0_init 13 = .ok (.iconst 0, 1) := by decide +kernel
theorem dX0_init_14 : decode cX0_init 14 = .ok (.putfield 15, 3) := by decide +kernel
theorem dX0_init_17 : decode cX0_init 17 = .ok (.aload_n 0, 1) := by decide +kernel
theorem dX0_init_18 : decode cX0_init 18 = .ok (.iconst 0, 1) := by decide +kernel
theorem dX0_init_19 : decode cX0_init 19 = .ok (.putfield 19, 3) := by decide +kernel
theorem dX0_init_22 : decode cX0_init 22 = .ok (.aload_n 0, 1) := by decide +kernel
theorem dX0_init_23 : decode cX0_init 23 = .ok (.iconst 0, 1) := by decide +kernel
theorem dX0_init_24 : decode cX0_init 24 = .ok (.putfield 22, 3) := by decide +kernel
theorem dX0_init_27 : decode cX0_init 27 = .ok (.aload_n 0, 1) := by decide +kernel
theorem dX0_init_28 : decode cX0_init 28 = .ok (.iconst 0, 1) := by decide +kernel
theorem dX0_init_29 : decode cX0_init 29 = .ok (.putfield 25, 3) := by decide +kernel
theorem dX0_init_32 : decode cX0_init 32 = .ok (.return_, 1) := by decide +kernel
theorem dX0_open_0 : decode cX0_open 0 = .ok (.aload_n 0, 1) := by decide +kernel
theorem dX0_open_1 : decode cX0_open 1 = .ok (.iconst 0, 1) := by decide +kernel
theorem dX0_open_2 : decode cX0_open 2 = .ok (.putfield 15, 3) := by decide +kernel
theorem dX0_open_5 : decode cX0_open 5 = .ok (.aload_n 0, 1) := by decide +kernel
theorem dX0_open_6 : decode cX0_open 6 = .ok (.iload_n 1, 1) := by decide +kernel
theorem dX0_open_7 : decode cX0_open 7 = .ok (.putfield 19, 3) := by decide +kernel
theorem dX0_open_10 : decode cX0_open 10 = .ok (.aload_n 0, 1) := by decide +kernel
theorem dX0_open_11 : decode cX0_open 11 = .ok (.iload_n 2, 1) := by decide +kernel
theorem dX0_open_12 : decode cX0_open 12 = .ok (.putfield 22, 3) := by decide +kernel
theorem dX0_open_15 : decode cX0_open 15 = .ok (.aload_n 0, 1) := by decide +kernel
theorem dX0_open_16 : decode cX0_open 16 = .ok (.iconst 1, 1) := by decide +kernel
theorem dX0_open_17 : decode cX0_open 17 = .ok (.putfield 25, 3) := by decide +kernel
theorem dX0_open_20 : decode cX0_open 20 = .ok (.return_, 1) := by decide +kernel
theorem dX0_close_0 : decode cX0_close 0 = .ok (.aload_n 0, 1) := by decide +kernel
theorem dX0_close_1 : decode cX0_close 1 = .ok (.iconst 0, 1) := by decide +kernel
theorem dX0_close_2 : decode cX0_close 2 = .ok (.putfield 15, 3) := by decide +kernel
theorem dX0_close_5 : decode cX0_close 5 = .ok (.aload_n 0, 1) := by decide +kernel
theorem dX0_close_6 : decode cX0_close 6 = .ok (.iconst 0, 1) := by decide +kernel
theorem dX0_close_7 : decode cX0_close 7 = .ok (.putfield 25, 3) := by decide +kernel
theorem dX0_close_10 : decode cX0_close 10 = .ok (.return_, 1) := by decide +kernel
theorem dX0_add_0 : decode cX0_add 0 = .ok (.aload_n 0, 1) := by decide +kernel
theorem dX0_add_1 : decode cX0_add 1 = .ok (.getfield 15, 3) := by decide +kernel
theorem dX0_add_4 : decode cX0_add 4 = .ok (.bipush 40, 2) := by decide +kernel
theorem dX0_add_6 : decode cX0_add 6 = .ok (.if_icmp .ge 23, 3) := by decide +kernel
theorem dX0_add_9 : decode cX0_add 9 = .ok (.aload_n 0, 1) := by decide +kernel
theorem dX0_add_10 : decode cX0_add 10 = .ok (.getfield 9, 3) := by decide +kernel
theorem dX0_add_13 : decode cX0_add 13 = .ok (.aload_n 0, 1) := by decide +kernel
theorem dX0_add_14 : decode cX0_add 14 = .ok (.getfield 15, 3) := by decide +kernel
theorem dX0_add_17 : decode cX0_add 17 = .ok (.lload_n 1, 1) := by decide +kernel
theorem dX0_add_18 : decode cX0_add 18 = .ok (.lastore, 1) := by decide +kernel
theorem dX0_add_19 : decode cX0_add 19 = .ok (.aload_n 0, 1) := by decide +kernel
theorem dX0_add_20 : decode cX0_add 20 = .ok (.dup, 1) := by decide +kernel
theorem dX0_add_21 : decode cX0_add 21 = .ok (.getfield 15, 3) := by decide +kernel
theorem dX0_add_24 : decode cX0_add 24 = .ok (.iconst 1, 1) := by decide +kernel
theorem dX0_add_25 : decode cX0_add 25 = .ok (.iadd, 1) := by decide +kernel
theorem dX0_add_26 : decode cX0_add 26 = .ok (.putfield 15, 3) := by decide +kernel
theorem dX0_add_29 : decode cX0_add 29 = .ok (.return_, 1) := by decide +kernel
theorem dX1_init_0 : decode cX1_init 0 = .ok (.aload_n 0, 1) := by decide +kernel
theorem dX1_init_1 : decode cX1_init 1 = .ok (.invokespecial 3, 3) := by decide +kernel
theorem dX1_init_4 : decode cX1_init 4 = .ok (.aload_n 0, 1) := by decide +kernel
theorem dX1_init_5 : decode cX1_init 5 = .ok (.bipush 40, 2) := by decide +kernel
theorem dX1_init_7 : decode cX1_init 7 = .ok (.newarray .int, 2) := by decide +kernel
theorem dX1_init_9 : decode cX1_init 9 = .ok (.putfield 9, 3) := by decide +kernel
theorem dX1_init_12 : decode cX1_init 12 = .ok (.aload_n 0, 1) := by decide +kernel
theorem dX1_init_13 : decode cX1_init 13 = .ok (.iconst 0, 1) := by decide +kernel
theorem dX1_init_14 : decode cX1_init 14 = .ok (.putfield 15, 3) := by decide +kernel
theorem dX1_init_17 : decode cX1_init 17 = .ok (.aload_n 0, 1) := by decide +kernel
theorem dX1_init_18 : decode cX1_init 18 = .ok (.iconst 0, 1) := by decide +kernel
theorem dX1_init_19 : decode cX1_init 19 = .ok (.putfield 19, 3) := by decide +kernel
theorem dX1_init_22 : decode cX1_init 22 = .ok (.aload_n 0, 1) := by decide +kernel
theorem dX1_init_23 : decode cX1_init 23 = .ok (.iconst 0, 1) := by decide +kernel
theorem dX1_init_24 : decode cX1_init 24 = .ok (.putfield 22, 3) := by decide +kernel
theorem dX1_init_27 : decode cX1_init 27 = .ok (.aload_n 0, 1) := by decide +kernel
theorem dX1_init_28 : decode cX1_init 28 = .ok (.new 25, 3) := by decide +kernel
theorem dX1_init_31 : decode cX1_init 31 = .ok (.dup, 1) := by decide +kernel
theorem dX1_init_32 : decode cX1_init 32 = .ok (.invokespecial 27, 3) := by decide +kernel
theorem dX1_init_35 : decode cX1_init 35 = .ok (.putfield 28, 3) := by decide +kernel
theorem dX1_init_38 : decode cX1_init 38 = .ok (.aload_n 0, 1) := by decide +kernel
theorem dX1_init_39 : decode cX1_init 39 = .ok (.new 25, 3) := by decide +kernel
theorem dX1_init_42 : decode cX1_init 42 = .ok (.dup, 1) := by decide +kernel
theorem dX1_init_43 : decode cX1_init 43 = .ok (.invokespecial 27, 3) := by decide +kernel
theorem dX1_init_46 : decode cX1_init 46 = .ok (.putfield 32, 3) := by decide +kernel
theorem dX1_init_49 : decode cX1_init 49 = .ok (.aload_n 0, 1) := by decide +kernel
theorem dX1_init_50 : decode cX1_init 50 = .ok (.new 25, 3) := by decide +kernel
theorem dX1_init_53 : decode cX1_init 53 = .ok (.dup, 1) := by decide +kernel
theorem dX1_init_54 : decode cX1_init 54 = .ok (.invokespecial 27, 3) := by decide +kernel
theorem dX1_init_57 : decode cX1_init 57 = .ok (.putfield 35, 3) := by decide +kernel
theorem dX1_init_60 : decode cX1_init 60 = .ok (.aload_n 0, 1) := by decide +kernel
theorem dX1_init_61 : decode cX1_init 61 = .ok (.sipush 1681, 3) := by decide +kernel
theorem dX1_init_64 : decode cX1_init 64 = .ok (.newarray .int, 2) := by decide +kernel
theorem dX1_init_66 : decode cX1_init 66 = .ok (.putfield 38, 3) := by decide +kernel
theorem dX1_init_69 : decode cX1_init 69 = .ok (.aload_n 0, 1) := by decide +kernel
theorem dX1_init_70 : decode cX1_init 70 = .ok (.sipush 1681, 3) := by decide +kernel
theorem dX1_init_73 : decode cX1_init 73 = .ok (.newarray .int, 2) := by decide +kernel
theorem dX1_init_75 : decode cX1_init 75 = .ok (.putfield 41, 3) := by decide +kernel
theorem dX1_init_78 : decode cX1_init 78 = .ok (.return_, 1) := by decide +kernel
theorem dX1_pageOf_0 : decode cX1_pageOf 0 = .ok (.aload_n 0, 1) := by decide +kernel
theorem dX1_pageOf_1 : decode cX1_pageOf 1 = .ok (.getfield 28, 3) := by decide +kernel
theorem dX1_pageOf_4 : decode cX1_pageOf 4 = .ok (.aload_n 1, 1) := by decide +kernel
theorem dX1_pageOf_5 : decode cX1_pageOf 5 = .ok (.iload_n 2, 1) := by decide +kernel
theorem dX1_pageOf_6 : decode cX1_pageOf 6 = .ok (.iconst 0, 1) := by decide +kernel
theorem dX1_pageOf_7 : decode cX1_pageOf 7 = .ok (.invokestatic 44, 3) := by decide +kernel
theorem dX1_pageOf_10 : decode cX1_pageOf 10 = .ok (.aload_n 1, 1) := by decide +kernel
theorem dX1_pageOf_11 : decode cX1_pageOf 11 = .ok (.aload_n 1, 1) := by decide +kernel
theorem dX1_pageOf_12 : decode cX1_pageOf 12 = .ok (.getfield 48, 3) := by decide +kernel
theorem dX1_pageOf_15 : decode cX1_pageOf 15 = .ok (.invokevirtual 53, 3) := by decide +kernel
theorem dX1_pageOf_18 : decode cX1_pageOf 18 = .ok (.ifCond .eq 43, 3) := by decide +kernel
theorem dX1_pageOf_21 : decode cX1_pageOf 21 = .ok (.aload_n 1, 1) := by decide +kernel
theorem dX1_pageOf_22 : decode cX1_pageOf 22 = .ok (.getfield 48, 3) := by decide +kernel
theorem dX1_pageOf_25 : decode cX1_pageOf 25 = .ok (.iload_n 2, 1) := by decide +kernel
theorem dX1_pageOf_26 : decode cX1_pageOf 26 = .ok (.if_icmp .eq 35, 3) := by decide +kernel
theorem dX1_pageOf_29 : decode cX1_pageOf 29 = .ok (.aload_n 0, 1) := by decide +kernel
theorem dX1_pageOf_30 : decode cX1_pageOf 30 = .ok (.getfield 35, 3) := by decide +kernel
theorem dX1_pageOf_33 : decode cX1_pageOf 33 = .ok (.aload_n 1, 1) := by decide +kernel
theorem dX1_pageOf_34 : decode cX1_pageOf 34 = .ok (.getfield 57, 3) := by decide +kernel
theorem dX1_pageOf_37 : decode cX1_pageOf 37 = .ok (.aload_n 1, 1) := by decide +kernel
theorem dX1_pageOf_38 : decode cX1_pageOf 38 = .ok (.getfield 48, 3) := by decide +kernel
theorem dX1_pageOf_41 : decode cX1_pageOf 41 = .ok (.aaload, 1) := by decide +kernel
theorem dX1_pageOf_42 : decode cX1_pageOf 42 = .ok (.iconst 0, 1) := by decide +kernel
theorem dX1_pageOf_43 : decode cX1_pageOf 43 = .ok (.invokevirtual 61, 3) := by decide +kernel
theorem dX1_pageOf_46 : decode cX1_pageOf 46 = .ok (.aload_n 0, 1) := by decide +kernel
theorem dX1_pageOf_47 : decode cX1_pageOf 47 = .ok (.getfield 28, 3) := by decide +kernel
theorem dX1_pageOf_50 : decode cX1_pageOf 50 = .ok (.aload_n 0, 1) := by decide +kernel
theorem dX1_pageOf_51 : decode cX1_pageOf 51 = .ok (.getfield 35, 3) := by decide +kernel
theorem dX1_pageOf_54 : decode cX1_pageOf 54 = .ok (.aload_n 1, 1) := by decide +kernel
theorem dX1_pageOf_55 : decode cX1_pageOf 55 = .ok (.invokestatic 65, 3) := by decide +kernel
theorem dX1_pageOf_58 : decode cX1_pageOf 58 = .ok (.invokevirtual 69, 3) := by decide +kernel
theorem dX1_pageOf_61 : decode cX1_pageOf 61 = .ok (.aload_n 0, 1) := by decide +kernel
theorem dX1_pageOf_62 : decode cX1_pageOf 62 = .ok (.getfield 28, 3) := by decide +kernel
theorem dX1_pageOf_65 : decode cX1_pageOf 65 = .ok (.areturn, 1) := by decide +kernel
theorem dX1_scoreOf_0 : decode cX1_scoreOf 0 = .ok (.aload_n 0, 1) := by decide +kernel
theorem dX1_scoreOf_1 : decode cX1_scoreOf 1 = .ok (.aload_n 1, 1) := by decide +kernel
theorem dX1_scoreOf_2 : decode cX1_scoreOf 2 = .ok (.iload_n 2, 1) := by decide +kernel
theorem dX1_scoreOf_3 : decode cX1_scoreOf 3 = .ok (.iload_n 3, 1) := by decide +kernel
theorem dX1_scoreOf_4 : decode cX1_scoreOf 4 = .ok (.iload 4, 2) := by decide +kernel
theorem dX1_scoreOf_6 : decode cX1_scoreOf 6 = .ok (.invokevirtual 73, 3) := by decide +kernel
theorem dX1_scoreOf_9 : decode cX1_scoreOf 9 = .ok (.aload_n 0, 1) := by decide +kernel
theorem dX1_scoreOf_10 : decode cX1_scoreOf 10 = .ok (.getfield 22, 3) := by decide +kernel
theorem dX1_scoreOf_13 : decode cX1_scoreOf 13 = .ok (.ifCond .ne 5, 3) := by decide +kernel
theorem dX1_scoreOf_16 : decode cX1_scoreOf 16 = .ok (.iconst 0, 1) := by decide +kernel
theorem dX1_scoreOf_17 : decode cX1_scoreOf 17 = .ok (.ireturn, 1) := by decide +kernel
theorem dX1_scoreOf_18 : decode cX1_scoreOf 18 = .ok (.aload_n 0, 1) := by decide +kernel
theorem dX1_scoreOf_19 : decode cX1_scoreOf 19 = .ok (.aload_n 1, 1) := by decide +kernel
theorem dX1_scoreOf_20 : decode cX1_scoreOf 20 = .ok (.getfield 77, 3) := by decide +kernel
theorem dX1_scoreOf_23 : decode cX1_scoreOf 23 = .ok (.invokevirtual 80, 3) := by decide +kernel
theorem dX1_scoreOf_26 : decode cX1_scoreOf 26 = .ok (.aload_n 0, 1) := by decide +kernel
theorem dX1_scoreOf_27 : decode cX1_scoreOf 27 = .ok (.getfield 41, 3) := by decide +kernel
theorem dX1_scoreOf_30 : decode cX1_scoreOf 30 = .ok (.iconst 0, 1) := by decide +kernel
theorem dX1_scoreOf_31 : decode cX1_scoreOf 31 = .ok (.iaload, 1) := by decide +kernel
theorem dX1_scoreOf_32 : decode cX1_scoreOf 32 = .ok (.ireturn, 1) := by decide +kernel
theorem dX1_compare_0 : decode cX1_compare 0 = .ok (.aload_n 0, 1) := by decide +kernel
theorem dX1_compare_1 : decode cX1_compare 1 = .ok (.getfield 28, 3) := by decide +kernel
theorem dX1_compare_4 : decode cX1_compare 4 = .ok (.aload_n 1, 1) := by decide +kernel
theorem dX1_compare_5 : decode cX1_compare 5 = .ok (.iload_n 2, 1) := by decide +kernel
theorem dX1_compare_6 : decode cX1_compare 6 = .ok (.iconst 0, 1) := by decide +kernel
theorem dX1_compare_7 : decode cX1_compare 7 = .ok (.invokestatic 44, 3) := by decide +kernel
theorem dX1_compare_10 : decode cX1_compare 10 = .ok (.aload_n 0, 1) := by decide +kernel
theorem dX1_compare_11 : decode cX1_compare 11 = .ok (.getfield 32, 3) := by decide +kernel
theorem dX1_compare_14 : decode cX1_compare 14 = .ok (.aload_n 1, 1) := by decide +kernel
theorem dX1_compare_15 : decode cX1_compare 15 = .ok (.iload_n 3, 1) := by decide +kernel
theorem dX1_compare_16 : decode cX1_compare 16 = .ok (.iload 4, 2) := by decide +kernel
theorem dX1_compare_18 : decode cX1_compare 18 = .ok (.invokestatic 44, 3) := by decide +kernel
theorem dX1_compare_21 : decode cX1_compare 21 = .ok (.aload_n 0, 1) := by decide +kernel
theorem dX1_compare_22 : decode cX1_compare 22 = .ok (.aload_n 1, 1) := by decide +kernel
theorem dX1_compare_23 : decode cX1_compare 23 = .ok (.iload_n 2, 1) := by decide +kernel
theorem dX1_compare_24 : decode cX1_compare 24 = .ok (.iload_n 3, 1) := by decide +kernel
theorem dX1_compare_25 : decode cX1_compare 25 = .ok (.invokevirtual 84, 3) := by decide +kernel
theorem dX1_compare_28 : decode cX1_compare 28 = .ok (.aload_n 0, 1) := by decide +kernel
theorem dX1_compare_29 : decode cX1_compare 29 = .ok (.iconst 0, 1) := by decide +kernel
theorem dX1_compare_30 : decode cX1_compare 30 = .ok (.putfield 22, 3) := by decide +kernel
theorem dX1_compare_33 : decode cX1_compare 33 = .ok (.iconst 0, 1) := by decide +kernel
theorem dX1_compare_34 : decode cX1_compare 34 = .ok (.istore 5, 2) := by decide +kernel
theorem dX1_compare_36 : decode cX1_compare 36 = .ok (.iload 5, 2) := by decide +kernel
theorem dX1_compare_38 : decode cX1_compare 38 = .ok (.aload_n 0, 1) := by decide +kernel
theorem dX1_compare_39 : decode cX1_compare 39 = .ok (.getfield 28, 3) := by decide +kernel
theorem dX1_compare_42 : decode cX1_compare 42 = .ok (.getfield 88, 3) := by decide +kernel
theorem dX1_compare_45 : decode cX1_compare 45 = .ok (.if_icmp .ge 74, 3) := by decide +kernel
theorem dX1_compare_48 : decode cX1_compare 48 = .ok (.iconst 0, 1) := by decide +kernel
theorem dX1_compare_49 : decode cX1_compare 49 = .ok (.istore 6, 2) := by decide +kernel
theorem dX1_compare_51 : decode cX1_compare 51 = .ok (.iload 6, 2) := by decide +kernel
theorem dX1_compare_53 : decode cX1_compare 53 = .ok (.aload_n 0, 1) := by decide +kernel
theorem dX1_compare_54 : decode cX1_compare 54 = .ok (.getfield 32, 3) := by decide +kernel
theorem dX1_compare_57 : decode cX1_compare 57 = .ok (.getfield 88, 3) := by decide +kernel
theorem dX1_compare_60 : decode cX1_compare 60 = .ok (.if_icmp .ge 53, 3) := by decide +kernel
theorem dX1_compare_63 : decode cX1_compare 63 = .ok (.aload_n 0, 1) := by decide +kernel
theorem dX1_compare_64 : decode cX1_compare 64 = .ok (.iload 5, 2) := by decide +kernel
theorem dX1_compare_66 : decode cX1_compare 66 = .ok (.iload 6, 2) := by decide +kernel
theorem dX1_compare_68 : decode cX1_compare 68 = .ok (.aload_n 1, 1) := by decide +kernel
theorem dX1_compare_69 : decode cX1_compare 69 = .ok (.getfield 91, 3) := by decide +kernel
theorem dX1_compare_72 : decode cX1_compare 72 = .ok (.invokevirtual 94, 3) := by decide +kernel
theorem dX1_compare_75 : decode cX1_compare 75 = .ok (.istore 7, 2) := by decide +kernel
theorem dX1_compare_77 : decode cX1_compare 77 = .ok (.aload_n 0, 1) := by decide +kernel
theorem dX1_compare_78 : decode cX1_compare 78 = .ok (.getfield 38, 3) := by decide +kernel
theorem dX1_compare_81 : decode cX1_compare 81 = .ok (.iload 5, 2) := by decide +kernel
theorem dX1_compare_83 : decode cX1_compare 83 = .ok (.bipush 41, 2) := by decide +kernel
theorem dX1_compare_85 : decode cX1_compare 85 = .ok (.imul, 1) := by decide +kernel
theorem dX1_compare_86 : decode cX1_compare 86 = .ok (.iload 6, 2) := by decide +kernel
theorem dX1_compare_88 : decode cX1_compare 88 = .ok (.iadd, 1) := by decide +kernel
theorem dX1_compare_89 : decode cX1_compare 89 = .ok (.iload 7, 2) := by decide +kernel
theorem dX1_compare_91 : decode cX1_compare 91 = .ok (.iastore, 1) := by decide +kernel
theorem dX1_compare_92 : decode cX1_compare 92 = .ok (.iload 7, 2) := by decide +kernel
theorem dX1_compare_94 : decode cX1_compare 94 = .ok (.ifCond .le 13, 3) := by decide +kernel
theorem dX1_compare_97 : decode cX1_compare 97 = .ok (.aload_n 0, 1) := by decide +kernel
theorem dX1_compare_98 : decode cX1_compare 98 = .ok (.dup, 1) := by decide +kernel
theorem dX1_compare_99 : decode cX1_compare 99 = .ok (.getfield 22, 3) := by decide +kernel
theorem dX1_compare_102 : decode cX1_compare 102 = .ok (.iconst 1, 1) := by decide +kernel
theorem dX1_compare_103 : decode cX1_compare 103 = .ok (.iadd, 1) := by decide +kernel
theorem dX1_compare_104 : decode cX1_compare 104 = .ok (.putfield 22, 3) := by decide +kernel
theorem dX1_compare_107 : decode cX1_compare 107 = .ok (.iinc 6 1, 3) := by decide +kernel
theorem dX1_compare_110 : decode cX1_compare 110 = .ok (.goto (-59), 3) := by decide +kernel
theorem dX1_compare_113 : decode cX1_compare 113 = .ok (.iinc 5 1, 3) := by decide +kernel
theorem dX1_compare_116 : decode cX1_compare 116 = .ok (.goto (-80), 3) := by decide +kernel
theorem dX1_compare_119 : decode cX1_compare 119 = .ok (.return_, 1) := by decide +kernel
theorem dX1_layWithMarks_0 : decode cX1_layWithMarks 0 = .ok (.aload_n 0, 1) := by decide +kernel
theorem dX1_layWithMarks_1 : decode cX1_layWithMarks 1 = .ok (.aload_n 1, 1) := by decide +kernel
theorem dX1_layWithMarks_2 : decode cX1_layWithMarks 2 = .ok (.getfield 57, 3) := by decide +kernel
theorem dX1_layWithMarks_5 : decode cX1_layWithMarks 5 = .ok (.iload_n 2, 1) := by decide +kernel
theorem dX1_layWithMarks_6 : decode cX1_layWithMarks 6 = .ok (.aaload, 1) := by decide +kernel
theorem dX1_layWithMarks_7 : decode cX1_layWithMarks 7 = .ok (.iload_n 3, 1) := by decide +kernel
theorem dX1_layWithMarks_8 : decode cX1_layWithMarks 8 = .ok (.invokevirtual 61, 3) := by decide +kernel
theorem dX1_layWithMarks_11 : decode cX1_layWithMarks 11 = .ok (.aload_n 0, 1) := by decide +kernel
theorem dX1_layWithMarks_12 : decode cX1_layWithMarks 12 = .ok (.aload_n 1, 1) := by decide +kernel
theorem dX1_layWithMarks_13 : decode cX1_layWithMarks 13 = .ok (.getfield 91, 3) := by decide +kernel
theorem dX1_layWithMarks_16 : decode cX1_layWithMarks 16 = .ok (.aload_n 1, 1) := by decide +kernel
theorem dX1_layWithMarks_17 : decode cX1_layWithMarks 17 = .ok (.getfield 98, 3) := by decide +kernel
theorem dX1_layWithMarks_20 : decode cX1_layWithMarks 20 = .ok (.invokevirtual 101, 3) := by decide +kernel
theorem dX1_layWithMarks_23 : decode cX1_layWithMarks 23 = .ok (.return_, 1) := by decide +kernel
theorem dX1_asideLength_0 : decode cX1_asideLength 0 = .ok (.aload_n 0, 1) := by decide +kernel
theorem dX1_asideLength_1 : decode cX1_asideLength 1 = .ok (.getfield 98, 3) := by decide +kernel
theorem dX1_asideLength_4 : decode cX1_asideLength 4 = .ok (.aload_n 0, 1) := by decide +kernel
theorem dX1_asideLength_5 : decode cX1_asideLength 5 = .ok (.getfield 91, 3) := by decide +kernel
theorem dX1_asideLength_8 : decode cX1_asideLength 8 = .ok (.iadd, 1) := by decide +kernel
theorem dX1_asideLength_9 : decode cX1_asideLength 9 = .ok (.iconst 1, 1) := by decide +kernel
theorem dX1_asideLength_10 : decode cX1_asideLength 10 = .ok (.isub, 1) := by decide +kernel
theorem dX1_asideLength_11 : decode cX1_asideLength 11 = .ok (.ireturn, 1) := by decide +kernel
theorem dX1_setBothAside_0 : decode cX1_setBothAside 0 = .ok (.aload_n 1, 1) := by decide +kernel
theorem dX1_setBothAside_1 : decode cX1_setBothAside 1 = .ok (.invokestatic 65, 3) := by decide +kernel
theorem dX1_setBothAside_4 : decode cX1_setBothAside 4 = .ok (.istore 4, 2) := by decide +kernel
theorem dX1_setBothAside_6 : decode cX1_setBothAside 6 = .ok (.aload_n 1, 1) := by decide +kernel
theorem dX1_setBothAside_7 : decode cX1_setBothAside 7 = .ok (.getfield 48, 3) := by decide +kernel
theorem dX1_setBothAside_10 : decode cX1_setBothAside 10 = .ok (.iload_n 2, 1) := by decide +kernel
theorem dX1_setBothAside_11 : decode cX1_setBothAside 11 = .ok (.if_icmp .ne 19, 3) := by decide +kernel
theorem dX1_setBothAside_14 : decode cX1_setBothAside 14 = .ok (.aload_n 0, 1) := by decide +kernel
theorem dX1_setBothAside_15 : decode cX1_setBothAside 15 = .ok (.getfield 32, 3) := by decide +kernel
theorem dX1_setBothAside_18 : decode cX1_setBothAside 18 = .ok (.aload_n 0, 1) := by decide +kernel
theorem dX1_setBothAside_19 : decode cX1_setBothAside 19 = .ok (.getfield 28, 3) := by decide +kernel
theorem dX1_setBothAside_22 : decode cX1_setBothAside 22 = .ok (.iload 4, 2) := by decide +kernel
theorem dX1_setBothAside_24 : decode cX1_setBothAside 24 = .ok (.invokevirtual 69, 3) := by decide +kernel
theorem dX1_setBothAside_27 : decode cX1_setBothAside 27 = .ok (.goto 81, 3) := by decide +kernel
theorem dX1_setBothAside_30 : decode cX1_setBothAside 30 = .ok (.aload_n 1, 1) := by decide +kernel
theorem dX1_setBothAside_31 : decode cX1_setBothAside 31 = .ok (.getfield 48, 3) := by decide +kernel
theorem dX1_setBothAside_34 : decode cX1_setBothAside 34 = .ok (.iload_n 3, 1) := by decide +kernel
theorem dX1_setBothAside_35 : decode cX1_setBothAside 35 = .ok (.if_icmp .ne 19, 3) := by decide +kernel
theorem dX1_setBothAside_38 : decode cX1_setBothAside 38 = .ok (.aload_n 0, 1) := by decide +kernel
theorem dX1_setBothAside_39 : decode cX1_setBothAside 39 = .ok (.getfield 28, 3) := by decide +kernel
theorem dX1_setBothAside_42 : decode cX1_setBothAside 42 = .ok (.aload_n 0, 1) := by decide +kernel
theorem dX1_setBothAside_43 : decode cX1_setBothAside 43 = .ok (.getfield 32, 3) := by decide +kernel
theorem dX1_setBothAside_46 : decode cX1_setBothAside 46 = .ok (.iload 4, 2) := by decide +kernel
theorem dX1_setBothAside_48 : decode cX1_setBothAside 48 = .ok (.invokevirtual 69, 3) := by decide +kernel
theorem dX1_setBothAside_51 : decode cX1_setBothAside 51 = .ok (.goto 57, 3) := by decide +kernel
theorem dX1_setBothAside_54 : decode cX1_setBothAside 54 = .ok (.aload_n 1, 1) := by decide +kernel
theorem dX1_setBothAside_55 : decode cX1_setBothAside 55 = .ok (.aload_n 1, 1) := by decide +kernel
theorem dX1_setBothAside_56 : decode cX1_setBothAside 56 = .ok (.getfield 48, 3) := by decide +kernel
theorem dX1_setBothAside_59 : decode cX1_setBothAside 59 = .ok (.invokevirtual 53, 3) := by decide +kernel
theorem dX1_setBothAside_62 : decode cX1_setBothAside 62 = .ok (.ifCond .eq 46, 3) := by decide +kernel
theorem dX1_setBothAside_65 : decode cX1_setBothAside 65 = .ok (.aload_n 0, 1) := by decide +kernel
theorem dX1_setBothAside_66 : decode cX1_setBothAside 66 = .ok (.getfield 35, 3) := by decide +kernel
theorem dX1_setBothAside_69 : decode cX1_setBothAside 69 = .ok (.aload_n 1, 1) := by decide +kernel
theorem dX1_setBothAside_70 : decode cX1_setBothAside 70 = .ok (.getfield 57, 3) := by decide +kernel
theorem dX1_setBothAside_73 : decode cX1_setBothAside 73 = .ok (.aload_n 1, 1) := by decide +kernel
theorem dX1_setBothAside_74 : decode cX1_setBothAside 74 = .ok (.getfield 48, 3) := by decide +kernel
theorem dX1_setBothAside_77 : decode cX1_setBothAside 77 = .ok (.aaload, 1) := by decide +kernel
theorem dX1_setBothAside_78 : decode cX1_setBothAside 78 = .ok (.iconst 0, 1) := by decide +kernel
theorem dX1_setBothAside_79 : decode cX1_setBothAside 79 = .ok (.invokevirtual 61, 3) := by decide +kernel
theorem dX1_setBothAside_82 : decode cX1_setBothAside 82 = .ok (.aload_n 0, 1) := by decide +kernel
theorem dX1_setBothAside_83 : decode cX1_setBothAside 83 = .ok (.getfield 28, 3) := by decide +kernel
theorem dX1_setBothAside_86 : decode cX1_setBothAside 86 = .ok (.aload_n 0, 1) := by decide +kernel
theorem dX1_setBothAside_87 : decode cX1_setBothAside 87 = .ok (.getfield 35, 3) := by decide +kernel
theorem dX1_setBothAside_90 : decode cX1_setBothAside 90 = .ok (.iload 4, 2) := by decide +kernel
theorem dX1_setBothAside_92 : decode cX1_setBothAside 92 = .ok (.invokevirtual 69, 3) := by decide +kernel
theorem dX1_setBothAside_95 : decode cX1_setBothAside 95 = .ok (.aload_n 0, 1) := by decide +kernel
theorem dX1_setBothAside_96 : decode cX1_setBothAside 96 = .ok (.getfield 32, 3) := by decide +kernel
theorem dX1_setBothAside_99 : decode cX1_setBothAside 99 = .ok (.aload_n 0, 1) := by decide +kernel
theorem dX1_setBothAside_100 : decode cX1_setBothAside 100 = .ok (.getfield 35, 3) := by decide +kernel
theorem dX1_setBothAside_103 : decode cX1_setBothAside 103 = .ok (.iload 4, 2) := by decide +kernel
theorem dX1_setBothAside_105 : decode cX1_setBothAside 105 = .ok (.invokevirtual 69, 3) := by decide +kernel
theorem dX1_setBothAside_108 : decode cX1_setBothAside 108 = .ok (.return_, 1) := by decide +kernel
theorem dX1_runLengthAt_0 : decode cX1_runLengthAt 0 = .ok (.aload_n 0, 1) := by decide +kernel
theorem dX1_runLengthAt_1 : decode cX1_runLengthAt 1 = .ok (.iload_n 1, 1) := by decide +kernel
theorem dX1_runLengthAt_2 : decode cX1_runLengthAt 2 = .ok (.iload_n 2, 1) := by decide +kernel
theorem dX1_runLengthAt_3 : decode cX1_runLengthAt 3 = .ok (.invokevirtual 105, 3) := by decide +kernel
theorem dX1_runLengthAt_6 : decode cX1_runLengthAt 6 = .ok (.ifCond .eq 16, 3) := by decide +kernel
theorem dX1_runLengthAt_9 : decode cX1_runLengthAt 9 = .ok (.aload_n 0, 1) := by decide +kernel
theorem dX1_runLengthAt_10 : decode cX1_runLengthAt 10 = .ok (.iload_n 1, 1) := by decide +kernel
theorem dX1_runLengthAt_11 : decode cX1_runLengthAt 11 = .ok (.iconst 1, 1) := by decide +kernel
theorem dX1_runLengthAt_12 : decode cX1_runLengthAt 12 = .ok (.isub, 1) := by decide +kernel
theorem dX1_runLengthAt_13 : decode cX1_runLengthAt 13 = .ok (.iload_n 2, 1) := by decide +kernel
theorem dX1_runLengthAt_14 : decode cX1_runLengthAt 14 = .ok (.iconst 1, 1) := by decide +kernel
theorem dX1_runLengthAt_15 : decode cX1_runLengthAt 15 = .ok (.isub, 1) := by decide +kernel
theorem dX1_runLengthAt_16 : decode cX1_runLengthAt 16 = .ok (.invokevirtual 105, 3) := by decide +kernel
theorem dX1_runLengthAt_19 : decode cX1_runLengthAt 19 = .ok (.ifCond .eq 5, 3) := by decide +kernel
theorem dX1_runLengthAt_22 : decode cX1_runLengthAt 22 = .ok (.iconst 0, 1) := by decide +kernel
theorem dX1_runLengthAt_23 : decode cX1_runLengthAt 23 = .ok (.ireturn, 1) := by decide +kernel
theorem dX1_runLengthAt_24 : decode cX1_runLengthAt 24 = .ok (.aload_n 0, 1) := by decide +kernel
theorem dX1_runLengthAt_25 : decode cX1_runLengthAt 25 = .ok (.getfield 28, 3) := by decide +kernel
theorem dX1_runLengthAt_28 : decode cX1_runLengthAt 28 = .ok (.getfield 88, 3) := by decide +kernel
theorem dX1_runLengthAt_31 : decode cX1_runLengthAt 31 = .ok (.iload_n 1, 1) := by decide +kernel
theorem dX1_runLengthAt_32 : decode cX1_runLengthAt 32 = .ok (.isub, 1) := by decide +kernel
theorem dX1_runLengthAt_33 : decode cX1_runLengthAt 33 = .ok (.aload_n 0, 1) := by decide +kernel
theorem dX1_runLengthAt_34 : decode cX1_runLengthAt 34 = .ok (.getfield 32, 3) := by decide +kernel
theorem dX1_runLengthAt_37 : decode cX1_runLengthAt 37 = .ok (.getfield 88, 3) := by decide +kernel
theorem dX1_runLengthAt_40 : decode cX1_runLengthAt 40 = .ok (.iload_n 2, 1) := by decide +kernel
theorem dX1_runLengthAt_41 : decode cX1_runLengthAt 41 = .ok (.isub, 1) := by decide +kernel
theorem dX1_runLengthAt_42 : decode cX1_runLengthAt 42 = .ok (.invokestatic 109, 3) := by decide +kernel
theorem dX1_runLengthAt_45 : decode cX1_runLengthAt 45 = .ok (.istore 4, 2) := by decide +kernel
theorem dX1_runLengthAt_47 : decode cX1_runLengthAt 47 = .ok (.iconst 1, 1) := by decide +kernel
theorem dX1_runLengthAt_48 : decode cX1_runLengthAt 48 = .ok (.istore 5, 2) := by decide +kernel
theorem dX1_runLengthAt_50 : decode cX1_runLengthAt 50 = .ok (.iload 5, 2) := by decide +kernel
theorem dX1_runLengthAt_52 : decode cX1_runLengthAt 52 = .ok (.iload 4, 2) := by decide +kernel
theorem dX1_runLengthAt_54 : decode cX1_runLengthAt 54 = .ok (.if_icmp .ge 24, 3) := by decide +kernel
theorem dX1_runLengthAt_57 : decode cX1_runLengthAt 57 = .ok (.aload_n 0, 1) := by decide +kernel
theorem dX1_runLengthAt_58 : decode cX1_runLengthAt 58 = .ok (.iload_n 1, 1) := by decide +kernel
theorem dX1_runLengthAt_59 : decode cX1_runLengthAt 59 = .ok (.iload 5, 2) := by decide +kernel
theorem dX1_runLengthAt_61 : decode cX1_runLengthAt 61 = .ok (.iadd, 1) := by decide +kernel
theorem dX1_runLengthAt_62 : decode cX1_runLengthAt 62 = .ok (.iload_n 2, 1) := by decide +kernel
theorem dX1_runLengthAt_63 : decode cX1_runLengthAt 63 = .ok (.iload 5, 2) := by decide +kernel
theorem dX1_runLengthAt_65 : decode cX1_runLengthAt 65 = .ok (.iadd, 1) := by decide +kernel
theorem dX1_runLengthAt_66 : decode cX1_runLengthAt 66 = .ok (.invokevirtual 105, 3) := by decide +kernel
theorem dX1_runLengthAt_69 : decode cX1_runLengthAt 69 = .ok (.ifCond .eq 9, 3) := by decide +kernel
theorem dX1_runLengthAt_72 : decode cX1_runLengthAt 72 = .ok (.iinc 5 1, 3) := by decide +kernel
theorem dX1_runLengthAt_75 : decode cX1_runLengthAt 75 = .ok (.goto (-25), 3) := by decide +kernel
theorem dX1_runLengthAt_78 : decode cX1_runLengthAt 78 = .ok (.aload_n 0, 1) := by decide +kernel
theorem dX1_runLengthAt_79 : decode cX1_runLengthAt 79 = .ok (.iload_n 1, 1) := by decide +kernel
theorem dX1_runLengthAt_80 : decode cX1_runLengthAt 80 = .ok (.iload_n 2, 1) := by decide +kernel
theorem dX1_runLengthAt_81 : decode cX1_runLengthAt 81 = .ok (.iload 5, 2) := by decide +kernel
theorem dX1_runLengthAt_83 : decode cX1_runLengthAt 83 = .ok (.iload_n 3, 1) := by decide +kernel
theorem dX1_runLengthAt_84 : decode cX1_runLengthAt 84 = .ok (.isub, 1) := by decide +kernel
theorem dX1_runLengthAt_85 : decode cX1_runLengthAt 85 = .ok (.invokevirtual 115, 3) := by decide +kernel
theorem dX1_runLengthAt_88 : decode cX1_runLengthAt 88 = .ok (.ifCond .eq 8, 3) := by decide +kernel
theorem dX1_runLengthAt_91 : decode cX1_runLengthAt 91 = .ok (.iload 5, 2) := by decide +kernel
theorem dX1_runLengthAt_93 : decode cX1_runLengthAt 93 = .ok (.goto 4, 3) := by decide +kernel
theorem dX1_runLengthAt_96 : decode cX1_runLengthAt 96 = .ok (.iconst 0, 1) := by decide +kernel
theorem dX1_runLengthAt_97 : decode cX1_runLengthAt 97 = .ok (.ireturn, 1) := by decide +kernel
theorem dX1_agree_0 : decode cX1_agree 0 = .ok (.iload_n 1, 1) := by decide +kernel
theorem dX1_agree_1 : decode cX1_agree 1 = .ok (.ifCond .lt 74, 3) := by decide +kernel
theorem dX1_agree_4 : decode cX1_agree 4 = .ok (.iload_n 2, 1) := by decide +kernel
theorem dX1_agree_5 : decode cX1_agree 5 = .ok (.ifCond .lt 70, 3) := by decide +kernel
theorem dX1_agree_8 : decode cX1_agree 8 = .ok (.aload_n 0, 1) := by decide +kernel
theorem dX1_agree_9 : decode cX1_agree 9 = .ok (.getfield 28, 3) := by decide +kernel
theorem dX1_agree_12 : decode cX1_agree 12 = .ok (.getfield 119, 3) := by decide +kernel
theorem dX1_agree_15 : decode cX1_agree 15 = .ok (.iload_n 1, 1) := by decide +kernel
theorem dX1_agree_16 : decode cX1_agree 16 = .ok (.laload, 1) := by decide +kernel
theorem dX1_agree_17 : decode cX1_agree 17 = .ok (.aload_n 0, 1) := by decide +kernel
theorem dX1_agree_18 : decode cX1_agree 18 = .ok (.getfield 32, 3) := by decide +kernel
theorem dX1_agree_21 : decode cX1_agree 21 = .ok (.getfield 119, 3) := by decide +kernel
theorem dX1_agree_24 : decode cX1_agree 24 = .ok (.iload_n 2, 1) := by decide +kernel
theorem dX1_agree_25 : decode cX1_agree 25 = .ok (.laload, 1) := by decide +kernel
theorem dX1_agree_26 : decode cX1_agree 26 = .ok (.lcmp, 1) := by decide +kernel
theorem dX1_agree_27 : decode cX1_agree 27 = .ok (.ifCond .ne 48, 3) := by decide +kernel
theorem dX1_agree_30 : decode cX1_agree 30 = .ok (.aload_n 0, 1) := by decide +kernel
theorem dX1_agree_31 : decode cX1_agree 31 = .ok (.getfield 28, 3) := by decide +kernel
theorem dX1_agree_34 : decode cX1_agree 34 = .ok (.getfield 123, 3) := by decide +kernel
theorem dX1_agree_37 : decode cX1_agree 37 = .ok (.aload_n 0, 1) := by decide +kernel
theorem dX1_agree_38 : decode cX1_agree 38 = .ok (.getfield 32, 3) := by decide +kernel
theorem dX1_agree_41 : decode cX1_agree 41 = .ok (.getfield 123, 3) := by decide +kernel
theorem dX1_agree_44 : decode cX1_agree 44 = .ok (.if_icmp .ne 31, 3) := by decide +kernel
theorem dX1_agree_47 : decode cX1_agree 47 = .ok (.aload_n 0, 1) := by decide +kernel
theorem dX1_agree_48 : decode cX1_agree 48 = .ok (.getfield 28, 3) := by decide +kernel
theorem dX1_agree_51 : decode cX1_agree 51 = .ok (.getfield 126, 3) := by decide +kernel
theorem dX1_agree_54 : decode cX1_agree 54 = .ok (.iload_n 1, 1) := by decide +kernel
theorem dX1_agree_55 : decode cX1_agree 55 = .ok (.baload, 1) := by decide +kernel
theorem dX1_agree_56 : decode cX1_agree 56 = .ok (.ifCond .ne 19, 3) := by decide +kernel
theorem dX1_agree_59 : decode cX1_agree 59 = .ok (.aload_n 0, 1) := by decide +kernel
theorem dX1_agree_60 : decode cX1_agree 60 = .ok (.getfield 32, 3) := by decide +kernel
theorem dX1_agree_63 : decode cX1_agree 63 = .ok (.getfield 126, 3) := by decide +kernel
theorem dX1_agree_66 : decode cX1_agree 66 = .ok (.iload_n 2, 1) := by decide +kernel
theorem dX1_agree_67 : decode cX1_agree 67 = .ok (.baload, 1) := by decide +kernel
theorem dX1_agree_68 : decode cX1_agree 68 = .ok (.ifCond .ne 7, 3) := by decide +kernel
theorem dX1_agree_71 : decode cX1_agree 71 = .ok (.iconst 1, 1) := by decide +kernel
theorem dX1_agree_72 : decode cX1_agree 72 = .ok (.goto 4, 3) := by decide +kernel
theorem dX1_agree_75 : decode cX1_agree 75 = .ok (.iconst 0, 1) := by decide +kernel
theorem dX1_agree_76 : decode cX1_agree 76 = .ok (.ireturn, 1) := by decide +kernel
theorem dX1_sharesMark_0 : decode cX1_sharesMark 0 = .ok (.iconst 0, 1) := by decide +kernel
theorem dX1_sharesMark_1 : decode cX1_sharesMark 1 = .ok (.istore 4, 2) := by decide +kernel
theorem dX1_sharesMark_3 : decode cX1_sharesMark 3 = .ok (.iload 4, 2) := by decide +kernel
theorem dX1_sharesMark_5 : decode cX1_sharesMark 5 = .ok (.iload_n 3, 1) := by decide +kernel
theorem dX1_sharesMark_6 : decode cX1_sharesMark 6 = .ok (.if_icmp .gt 41, 3) := by decide +kernel
theorem dX1_sharesMark_9 : decode cX1_sharesMark 9 = .ok (.aload_n 0, 1) := by decide +kernel
theorem dX1_sharesMark_10 : decode cX1_sharesMark 10 = .ok (.getfield 28, 3) := by decide +kernel
theorem dX1_sharesMark_13 : decode cX1_sharesMark 13 = .ok (.getfield 130, 3) := by decide +kernel
theorem dX1_sharesMark_16 : decode cX1_sharesMark 16 = .ok (.iload_n 1, 1) := by decide +kernel
theorem dX1_sharesMark_17 : decode cX1_sharesMark 17 = .ok (.iload 4, 2) := by decide +kernel
theorem dX1_sharesMark_19 : decode cX1_sharesMark 19 = .ok (.iadd, 1) := by decide +kernel
theorem dX1_sharesMark_20 : decode cX1_sharesMark 20 = .ok (.baload, 1) := by decide +kernel
theorem dX1_sharesMark_21 : decode cX1_sharesMark 21 = .ok (.ifCond .eq 20, 3) := by decide +kernel
theorem dX1_sharesMark_24 : decode cX1_sharesMark 24 = .ok (.aload_n 0, 1) := by decide +kernel
theorem dX1_sharesMark_25 : decode cX1_sharesMark 25 = .ok (.getfield 32, 3) := by decide +kernel
theorem dX1_sharesMark_28 : decode cX1_sharesMark 28 = .ok (.getfield 130, 3) := by decide +kernel
theorem dX1_sharesMark_31 : decode cX1_sharesMark 31 = .ok (.iload_n 2, 1) := by decide +kernel
theorem dX1_sharesMark_32 : decode cX1_sharesMark 32 = .ok (.iload 4, 2) := by decide +kernel
theorem dX1_sharesMark_34 : decode cX1_sharesMark 34 = .ok (.iadd, 1) := by decide +kernel
theorem dX1_sharesMark_35 : decode cX1_sharesMark 35 = .ok (.baload, 1) := by decide +kernel
theorem dX1_sharesMark_36 : decode cX1_sharesMark 36 = .ok (.ifCond .eq 5, 3) := by decide +kernel
theorem dX1_sharesMark_39 : decode cX1_sharesMark 39 = .ok (.iconst 1, 1) := by decide +kernel
theorem dX1_sharesMark_40 : decode cX1_sharesMark 40 = .ok (.ireturn, 1) := by decide +kernel
theorem dX1_sharesMark_41 : decode cX1_sharesMark 41 = .ok (.iinc 4 1, 3) := by decide +kernel
theorem dX1_sharesMark_44 : decode cX1_sharesMark 44 = .ok (.goto (-41), 3) := by decide +kernel
theorem dX1_sharesMark_47 : decode cX1_sharesMark 47 = .ok (.iconst 0, 1) := by decide +kernel
theorem dX1_sharesMark_48 : decode cX1_sharesMark 48 = .ok (.ireturn, 1) := by decide +kernel
theorem dX1_findBest_0 : decode cX1_findBest 0 = .ok (.aload_n 0, 1) := by decide +kernel
theorem dX1_findBest_1 : decode cX1_findBest 1 = .ok (.getfield 28, 3) := by decide +kernel
theorem dX1_findBest_4 : decode cX1_findBest 4 = .ok (.getfield 88, 3) := by decide +kernel
theorem dX1_findBest_7 : decode cX1_findBest 7 = .ok (.istore_n 2, 1) := by decide +kernel
theorem dX1_findBest_8 : decode cX1_findBest 8 = .ok (.iload_n 2, 1) := by decide +kernel
theorem dX1_findBest_9 : decode cX1_findBest 9 = .ok (.ifCond .lt 71, 3) := by decide +kernel
theorem dX1_findBest_12 : decode cX1_findBest 12 = .ok (.aload_n 0, 1) := by decide +kernel
theorem dX1_findBest_13 : decode cX1_findBest 13 = .ok (.getfield 32, 3) := by decide +kernel
theorem dX1_findBest_16 : decode cX1_findBest 16 = .ok (.getfield 88, 3) := by decide +kernel
theorem dX1_findBest_19 : decode cX1_findBest 19 = .ok (.istore_n 3, 1) := by decide +kernel
theorem dX1_findBest_20 : decode cX1_findBest 20 = .ok (.iload_n 3, 1) := by decide +kernel
theorem dX1_findBest_21 : decode cX1_findBest 21 = .ok (.ifCond .lt 53, 3) := by decide +kernel
theorem dX1_findBest_24 : decode cX1_findBest 24 = .ok (.aload_n 0, 1) := by decide +kernel
theorem dX1_findBest_25 : decode cX1_findBest 25 = .ok (.getfield 41, 3) := by decide +kernel
theorem dX1_findBest_28 : decode cX1_findBest 28 = .ok (.iload_n 2, 1) := by decide +kernel
theorem dX1_findBest_29 : decode cX1_findBest 29 = .ok (.bipush 41, 2) := by decide +kernel
theorem dX1_findBest_31 : decode cX1_findBest 31 = .ok (.imul, 1) := by decide +kernel
theorem dX1_findBest_32 : decode cX1_findBest 32 = .ok (.iload_n 3, 1) := by decide +kernel
theorem dX1_findBest_33 : decode cX1_findBest 33 = .ok (.iadd, 1) := by decide +kernel
theorem dX1_findBest_34 : decode cX1_findBest 34 = .ok (.iload_n 2, 1) := by decide +kernel
theorem dX1_findBest_35 : decode cX1_findBest 35 = .ok (.aload_n 0, 1) := by decide +kernel
theorem dX1_findBest_36 : decode cX1_findBest 36 = .ok (.getfield 28, 3) := by decide +kernel
theorem dX1_findBest_39 : decode cX1_findBest 39 = .ok (.getfield 88, 3) := by decide +kernel
theorem dX1_findBest_42 : decode cX1_findBest 42 = .ok (.if_icmp .ge 24, 3) := by decide +kernel
theorem dX1_findBest_45 : decode cX1_findBest 45 = .ok (.iload_n 3, 1) := by decide +kernel
theorem dX1_findBest_46 : decode cX1_findBest 46 = .ok (.aload_n 0, 1) := by decide +kernel
theorem dX1_findBest_47 : decode cX1_findBest 47 = .ok (.getfield 32, 3) := by decide +kernel
theorem dX1_findBest_50 : decode cX1_findBest 50 = .ok (.getfield 88, 3) := by decide +kernel
theorem dX1_findBest_53 : decode cX1_findBest 53 = .ok (.if_icmp .ge 13, 3) := by decide +kernel
theorem dX1_findBest_56 : decode cX1_findBest 56 = .ok (.aload_n 0, 1) := by decide +kernel
theorem dX1_findBest_57 : decode cX1_findBest 57 = .ok (.iload_n 2, 1) := by decide +kernel
theorem dX1_findBest_58 : decode cX1_findBest 58 = .ok (.iload_n 3, 1) := by decide +kernel
theorem dX1_findBest_59 : decode cX1_findBest 59 = .ok (.iload_n 1, 1) := by decide +kernel
theorem dX1_findBest_60 : decode cX1_findBest 60 = .ok (.invokevirtual 133, 3) := by decide +kernel
theorem dX1_findBest_63 : decode cX1_findBest 63 = .ok (.goto 4, 3) := by decide +kernel
theorem dX1_findBest_66 : decode cX1_findBest 66 = .ok (.iconst 0, 1) := by decide +kernel
theorem dX1_findBest_67 : decode cX1_findBest 67 = .ok (.iastore, 1) := by decide +kernel
theorem dX1_findBest_68 : decode cX1_findBest 68 = .ok (.iinc 3 (-1), 3) := by decide +kernel
theorem dX1_findBest_71 : decode cX1_findBest 71 = .ok (.goto (-51), 3) := by decide +kernel
theorem dX1_findBest_74 : decode cX1_findBest 74 = .ok (.iinc 2 (-1), 3) := by decide +kernel
theorem dX1_findBest_77 : decode cX1_findBest 77 = .ok (.goto (-69), 3) := by decide +kernel
theorem dX1_findBest_80 : decode cX1_findBest 80 = .ok (.return_, 1) := by decide +kernel
theorem dX1_bestFrom_0 : decode cX1_bestFrom 0 = .ok (.aload_n 0, 1) := by decide +kernel
theorem dX1_bestFrom_1 : decode cX1_bestFrom 1 = .ok (.getfield 41, 3) := by decide +kernel
theorem dX1_bestFrom_4 : decode cX1_bestFrom 4 = .ok (.iload_n 1, 1) := by decide +kernel
theorem dX1_bestFrom_5 : decode cX1_bestFrom 5 = .ok (.iconst 1, 1) := by decide +kernel
theorem dX1_bestFrom_6 : decode cX1_bestFrom 6 = .ok (.iadd, 1) := by decide +kernel
theorem dX1_bestFrom_7 : decode cX1_bestFrom 7 = .ok (.bipush 41, 2) := by decide +kernel
theorem dX1_bestFrom_9 : decode cX1_bestFrom 9 = .ok (.imul, 1) := by decide +kernel
theorem dX1_bestFrom_10 : decode cX1_bestFrom 10 = .ok (.iload_n 2, 1) := by decide +kernel
theorem dX1_bestFrom_11 : decode cX1_bestFrom 11 = .ok (.iadd, 1) := by decide +kernel
theorem dX1_bestFrom_12 : decode cX1_bestFrom 12 = .ok (.iaload, 1) := by decide +kernel
theorem dX1_bestFrom_13 : decode cX1_bestFrom 13 = .ok (.aload_n 0, 1) := by decide +kernel
theorem dX1_bestFrom_14 : decode cX1_bestFrom 14 = .ok (.getfield 41, 3) := by decide +kernel
theorem dX1_bestFrom_17 : decode cX1_bestFrom 17 = .ok (.iload_n 1, 1) := by decide +kernel
theorem dX1_bestFrom_18 : decode cX1_bestFrom 18 = .ok (.bipush 41, 2) := by decide +kernel
theorem dX1_bestFrom_20 : decode cX1_bestFrom 20 = .ok (.imul, 1) := by decide +kernel
theorem dX1_bestFrom_21 : decode cX1_bestFrom 21 = .ok (.iload_n 2, 1) := by decide +kernel
theorem dX1_bestFrom_22 : decode cX1_bestFrom 22 = .ok (.iadd, 1) := by decide +kernel
theorem dX1_bestFrom_23 : decode cX1_bestFrom 23 = .ok (.iconst 1, 1) := by decide +kernel
theorem dX1_bestFrom_24 : decode cX1_bestFrom 24 = .ok (.iadd, 1) := by decide +kernel
theorem dX1_bestFrom_25 : decode cX1_bestFrom 25 = .ok (.iaload, 1) := by decide +kernel
theorem dX1_bestFrom_26 : decode cX1_bestFrom 26 = .ok (.invokestatic 136, 3) := by decide +kernel
theorem dX1_bestFrom_29 : decode cX1_bestFrom 29 = .ok (.istore 4, 2) := by decide +kernel
theorem dX1_bestFrom_31 : decode cX1_bestFrom 31 = .ok (.aload_n 0, 1) := by decide +kernel
theorem dX1_bestFrom_32 : decode cX1_bestFrom 32 = .ok (.getfield 38, 3) := by decide +kernel
theorem dX1_bestFrom_35 : decode cX1_bestFrom 35 = .ok (.iload_n 1, 1) := by decide +kernel
theorem dX1_bestFrom_36 : decode cX1_bestFrom 36 = .ok (.bipush 41, 2) := by decide +kernel
theorem dX1_bestFrom_38 : decode cX1_bestFrom 38 = .ok (.imul, 1) := by decide +kernel
theorem dX1_bestFrom_39 : decode cX1_bestFrom 39 = .ok (.iload_n 2, 1) := by decide +kernel
theorem dX1_bestFrom_40 : decode cX1_bestFrom 40 = .ok (.iadd, 1) := by decide +kernel
theorem dX1_bestFrom_41 : decode cX1_bestFrom 41 = .ok (.iaload, 1) := by decide +kernel
theorem dX1_bestFrom_42 : decode cX1_bestFrom 42 = .ok (.istore 5, 2) := by decide +kernel
theorem dX1_bestFrom_44 : decode cX1_bestFrom 44 = .ok (.iload 5, 2) := by decide +kernel
theorem dX1_bestFrom_46 : decode cX1_bestFrom 46 = .ok (.ifCond .le 20, 3) := by decide +kernel
theorem dX1_bestFrom_49 : decode cX1_bestFrom 49 = .ok (.iload 4, 2) := by decide +kernel
theorem dX1_bestFrom_51 : decode cX1_bestFrom 51 = .ok (.aload_n 0, 1) := by decide +kernel
theorem dX1_bestFrom_52 : decode cX1_bestFrom 52 = .ok (.iload_n 1, 1) := by decide +kernel
theorem dX1_bestFrom_53 : decode cX1_bestFrom 53 = .ok (.iload_n 2, 1) := by decide +kernel
theorem dX1_bestFrom_54 : decode cX1_bestFrom 54 = .ok (.iload 5, 2) := by decide +kernel
theorem dX1_bestFrom_56 : decode cX1_bestFrom 56 = .ok (.iload_n 3, 1) := by decide +kernel
theorem dX1_bestFrom_57 : decode cX1_bestFrom 57 = .ok (.invokevirtual 139, 3) := by decide +kernel
theorem dX1_bestFrom_60 : decode cX1_bestFrom 60 = .ok (.invokestatic 136, 3) := by decide +kernel
theorem dX1_bestFrom_63 : decode cX1_bestFrom 63 = .ok (.goto 5, 3) := by decide +kernel
theorem dX1_bestFrom_66 : decode cX1_bestFrom 66 = .ok (.iload 4, 2) := by decide +kernel
theorem dX1_bestFrom_68 : decode cX1_bestFrom 68 = .ok (.ireturn, 1) := by decide +kernel
theorem dX1_bestWithRun_0 : decode cX1_bestWithRun 0 = .ok (.iload_n 3, 1) := by decide +kernel
theorem dX1_bestWithRun_1 : decode cX1_bestWithRun 1 = .ok (.iconst 0, 1) := by decide +kernel
theorem dX1_bestWithRun_2 : decode cX1_bestWithRun 2 = .ok (.aload_n 0, 1) := by decide +kernel
theorem dX1_bestWithRun_3 : decode cX1_bestWithRun 3 = .ok (.getfield 41, 3) := by decide +kernel
theorem dX1_bestWithRun_6 : decode cX1_bestWithRun 6 = .ok (.iload_n 1, 1) := by decide +kernel
theorem dX1_bestWithRun_7 : decode cX1_bestWithRun 7 = .ok (.iload_n 3, 1) := by decide +kernel
theorem dX1_bestWithRun_8 : decode cX1_bestWithRun 8 = .ok (.iadd, 1) := by decide +kernel
theorem dX1_bestWithRun_9 : decode cX1_bestWithRun 9 = .ok (.bipush 41, 2) := by decide +kernel
theorem dX1_bestWithRun_11 : decode cX1_bestWithRun 11 = .ok (.imul, 1) := by decide +kernel
theorem dX1_bestWithRun_12 : decode cX1_bestWithRun 12 = .ok (.iload_n 2, 1) := by decide +kernel
theorem dX1_bestWithRun_13 : decode cX1_bestWithRun 13 = .ok (.iadd, 1) := by decide +kernel
theorem dX1_bestWithRun_14 : decode cX1_bestWithRun 14 = .ok (.iload_n 3, 1) := by decide +kernel
theorem dX1_bestWithRun_15 : decode cX1_bestWithRun 15 = .ok (.iadd, 1) := by decide +kernel
theorem dX1_bestWithRun_16 : decode cX1_bestWithRun 16 = .ok (.iaload, 1) := by decide +kernel
theorem dX1_bestWithRun_17 : decode cX1_bestWithRun 17 = .ok (.iload 4, 2) := by decide +kernel
theorem dX1_bestWithRun_19 : decode cX1_bestWithRun 19 = .ok (.isub, 1) := by decide +kernel
theorem dX1_bestWithRun_20 : decode cX1_bestWithRun 20 = .ok (.invokestatic 136, 3) := by decide +kernel
theorem dX1_bestWithRun_23 : decode cX1_bestWithRun 23 = .ok (.iadd, 1) := by decide +kernel
theorem dX1_bestWithRun_24 : decode cX1_bestWithRun 24 = .ok (.ireturn, 1) := by decide +kernel
theorem dX1_partOfRun_0 : decode cX1_partOfRun 0 = .ok (.iconst 0, 1) := by decide +kernel
theorem dX1_partOfRun_1 : decode cX1_partOfRun 1 = .ok (.istore_n 3, 1) := by decide +kernel
theorem dX1_partOfRun_2 : decode cX1_partOfRun 2 = .ok (.iconst 0, 1) := by decide +kernel
theorem dX1_partOfRun_3 : decode cX1_partOfRun 3 = .ok (.istore 4, 2) := by decide +kernel
theorem dX1_partOfRun_5 : decode cX1_partOfRun 5 = .ok (.iload 4, 2) := by decide +kernel
theorem dX1_partOfRun_7 : decode cX1_partOfRun 7 = .ok (.aload_n 0, 1) := by decide +kernel
theorem dX1_partOfRun_8 : decode cX1_partOfRun 8 = .ok (.getfield 28, 3) := by decide +kernel
theorem dX1_partOfRun_11 : decode cX1_partOfRun 11 = .ok (.getfield 88, 3) := by decide +kernel
theorem dX1_partOfRun_14 : decode cX1_partOfRun 14 = .ok (.if_icmp .ge 80, 3) := by decide +kernel
theorem dX1_partOfRun_17 : decode cX1_partOfRun 17 = .ok (.iconst 0, 1) := by decide +kernel
theorem dX1_partOfRun_18 : decode cX1_partOfRun 18 = .ok (.istore 5, 2) := by decide +kernel
theorem dX1_partOfRun_20 : decode cX1_partOfRun 20 = .ok (.iload 5, 2) := by decide +kernel
theorem dX1_partOfRun_22 : decode cX1_partOfRun 22 = .ok (.aload_n 0, 1) := by decide +kernel
theorem dX1_partOfRun_23 : decode cX1_partOfRun 23 = .ok (.getfield 32, 3) := by decide +kernel
theorem dX1_partOfRun_26 : decode cX1_partOfRun 26 = .ok (.getfield 88, 3) := by decide +kernel
theorem dX1_partOfRun_29 : decode cX1_partOfRun 29 = .ok (.if_icmp .ge 59, 3) := by decide +kernel
theorem dX1_partOfRun_32 : decode cX1_partOfRun 32 = .ok (.aload_n 0, 1) := by decide +kernel
theorem dX1_partOfRun_33 : decode cX1_partOfRun 33 = .ok (.getfield 38, 3) := by decide +kernel
theorem dX1_partOfRun_36 : decode cX1_partOfRun 36 = .ok (.iload 4, 2) := by decide +kernel
theorem dX1_partOfRun_38 : decode cX1_partOfRun 38 = .ok (.bipush 41, 2) := by decide +kernel
theorem dX1_partOfRun_40 : decode cX1_partOfRun 40 = .ok (.imul, 1) := by decide +kernel
theorem dX1_partOfRun_41 : decode cX1_partOfRun 41 = .ok (.iload 5, 2) := by decide +kernel
theorem dX1_partOfRun_43 : decode cX1_partOfRun 43 = .ok (.iadd, 1) := by decide +kernel
theorem dX1_partOfRun_44 : decode cX1_partOfRun 44 = .ok (.iaload, 1) := by decide +kernel
theorem dX1_partOfRun_45 : decode cX1_partOfRun 45 = .ok (.istore 6, 2) := by decide +kernel
theorem dX1_partOfRun_47 : decode cX1_partOfRun 47 = .ok (.iload 6, 2) := by decide +kernel
theorem dX1_partOfRun_49 : decode cX1_partOfRun 49 = .ok (.ifCond .le 33, 3) := by decide +kernel
theorem dX1_partOfRun_52 : decode cX1_partOfRun 52 = .ok (.iload_n 3, 1) := by decide +kernel
theorem dX1_partOfRun_53 : decode cX1_partOfRun 53 = .ok (.iload_n 1, 1) := by decide +kernel
theorem dX1_partOfRun_54 : decode cX1_partOfRun 54 = .ok (.if_icmp .ne 25, 3) := by decide +kernel
theorem dX1_partOfRun_57 : decode cX1_partOfRun 57 = .ok (.iload_n 2, 1) := by decide +kernel
theorem dX1_partOfRun_58 : decode cX1_partOfRun 58 = .ok (.ifCond .ne 8, 3) := by decide +kernel
theorem dX1_partOfRun_61 : decode cX1_partOfRun 61 = .ok (.iload 4, 2) := by decide +kernel
theorem dX1_partOfRun_63 : decode cX1_partOfRun 63 = .ok (.goto 15, 3) := by decide +kernel
theorem dX1_partOfRun_66 : decode cX1_partOfRun 66 = .ok (.iload_n 2, 1) := by decide +kernel
theorem dX1_partOfRun_67 : decode cX1_partOfRun 67 = .ok (.iconst 1, 1) := by decide +kernel
theorem dX1_partOfRun_68 : decode cX1_partOfRun 68 = .ok (.if_icmp .ne 8, 3) := by decide +kernel
theorem dX1_partOfRun_71 : decode cX1_partOfRun 71 = .ok (.iload 5, 2) := by decide +kernel
theorem dX1_partOfRun_73 : decode cX1_partOfRun 73 = .ok (.goto 5, 3) := by decide +kernel
theorem dX1_partOfRun_76 : decode cX1_partOfRun 76 = .ok (.iload 6, 2) := by decide +kernel
theorem dX1_partOfRun_78 : decode cX1_partOfRun 78 = .ok (.ireturn, 1) := by decide +kernel
theorem dX1_partOfRun_79 : decode cX1_partOfRun 79 = .ok (.iinc 3 1, 3) := by decide +kernel
theorem dX1_partOfRun_82 : decode cX1_partOfRun 82 = .ok (.iinc 5 1, 3) := by decide +kernel
theorem dX1_partOfRun_85 : decode cX1_partOfRun 85 = .ok (.goto (-65), 3) := by decide +kernel
theorem dX1_partOfRun_88 : decode cX1_partOfRun 88 = .ok (.iinc 4 1, 3) := by decide +kernel
theorem dX1_partOfRun_91 : decode cX1_partOfRun 91 = .ok (.goto (-86), 3) := by decide +kernel
theorem dX1_partOfRun_94 : decode cX1_partOfRun 94 = .ok (.iconst (-1), 1) := by decide +kernel
theorem dX1_partOfRun_95 : decode cX1_partOfRun 95 = .ok (.ireturn, 1) := by decide +kernel
theorem dX1_traceChain_0 : decode cX1_traceChain 0 = .ok (.aload_n 0, 1) := by decide +kernel
theorem dX1_traceChain_1 : decode cX1_traceChain 1 = .ok (.aload_n 1, 1) := by decide +kernel
theorem dX1_traceChain_2 : decode cX1_traceChain 2 = .ok (.iload_n 2, 1) := by decide +kernel
theorem dX1_traceChain_3 : decode cX1_traceChain 3 = .ok (.iload_n 3, 1) := by decide +kernel
theorem dX1_traceChain_4 : decode cX1_traceChain 4 = .ok (.iconst 0, 1) := by decide +kernel
theorem dX1_traceChain_5 : decode cX1_traceChain 5 = .ok (.invokevirtual 143, 3) := by decide +kernel
theorem dX1_traceChain_8 : decode cX1_traceChain 8 = .ok (.istore 4, 2) := by decide +kernel
theorem dX1_traceChain_10 : decode cX1_traceChain 10 = .ok (.iconst 0, 1) := by decide +kernel
theorem dX1_traceChain_11 : decode cX1_traceChain 11 = .ok (.istore 5, 2) := by decide +kernel
theorem dX1_traceChain_13 : decode cX1_traceChain 13 = .ok (.iconst 0, 1) := by decide +kernel
theorem dX1_traceChain_14 : decode cX1_traceChain 14 = .ok (.istore 6, 2) := by decide +kernel
theorem dX1_traceChain_16 : decode cX1_traceChain 16 = .ok (.iconst 0, 1) := by decide +kernel
theorem dX1_traceChain_17 : decode cX1_traceChain 17 = .ok (.istore 7, 2) := by decide +kernel
theorem dX1_traceChain_19 : decode cX1_traceChain 19 = .ok (.aload_n 0, 1) := by decide +kernel
theorem dX1_traceChain_20 : decode cX1_traceChain 20 = .ok (.iconst 0, 1) := by decide +kernel
theorem dX1_traceChain_21 : decode cX1_traceChain 21 = .ok (.putfield 15, 3) := by decide +kernel
theorem dX1_traceChain_24 : decode cX1_traceChain 24 = .ok (.aload_n 0, 1) := by decide +kernel
theorem dX1_traceChain_25 : decode cX1_traceChain 25 = .ok (.iconst 0, 1) := by decide +kernel
theorem dX1_traceChain_26 : decode cX1_traceChain 26 = .ok (.putfield 19, 3) := by decide +kernel
theorem dX1_traceChain_29 : decode cX1_traceChain 29 = .ok (.iconst 0, 1) := by decide +kernel
theorem dX1_traceChain_30 : decode cX1_traceChain 30 = .ok (.istore 8, 2) := by decide +kernel
theorem dX1_traceChain_32 : decode cX1_traceChain 32 = .ok (.iload 8, 2) := by decide +kernel
theorem dX1_traceChain_34 : decode cX1_traceChain 34 = .ok (.aload_n 0, 1) := by decide +kernel
theorem dX1_traceChain_35 : decode cX1_traceChain 35 = .ok (.getfield 28, 3) := by decide +kernel
theorem dX1_traceChain_38 : decode cX1_traceChain 38 = .ok (.getfield 88, 3) := by decide +kernel
theorem dX1_traceChain_41 : decode cX1_traceChain 41 = .ok (.if_icmp .ge 148, 3) := by decide +kernel
theorem dX1_traceChain_44 : decode cX1_traceChain 44 = .ok (.iconst 0, 1) := by decide +kernel
theorem dX1_traceChain_45 : decode cX1_traceChain 45 = .ok (.istore 9, 2) := by decide +kernel
theorem dX1_traceChain_47 : decode cX1_traceChain 47 = .ok (.iload 9, 2) := by decide +kernel
theorem dX1_traceChain_49 : decode cX1_traceChain 49 = .ok (.aload_n 0, 1) := by decide +kernel
theorem dX1_traceChain_50 : decode cX1_traceChain 50 = .ok (.getfield 32, 3) := by decide +kernel
theorem dX1_traceChain_53 : decode cX1_traceChain 53 = .ok (.getfield 88, 3) := by decide +kernel
theorem dX1_traceChain_56 : decode cX1_traceChain 56 = .ok (.if_icmp .ge 127, 3) := by decide +kernel
theorem dX1_traceChain_59 : decode cX1_traceChain 59 = .ok (.aload_n 0, 1) := by decide +kernel
theorem dX1_traceChain_60 : decode cX1_traceChain 60 = .ok (.getfield 38, 3) := by decide +kernel
theorem dX1_traceChain_63 : decode cX1_traceChain 63 = .ok (.iload 8, 2) := by decide +kernel
theorem dX1_traceChain_65 : decode cX1_traceChain 65 = .ok (.bipush 41, 2) := by decide +kernel
theorem dX1_traceChain_67 : decode cX1_traceChain 67 = .ok (.imul, 1) := by decide +kernel
theorem dX1_traceChain_68 : decode cX1_traceChain 68 = .ok (.iload 9, 2) := by decide +kernel
theorem dX1_traceChain_70 : decode cX1_traceChain 70 = .ok (.iadd, 1) := by decide +kernel
theorem dX1_traceChain_71 : decode cX1_traceChain 71 = .ok (.iaload, 1) := by decide +kernel
theorem dX1_traceChain_72 : decode cX1_traceChain 72 = .ok (.istore 10, 2) := by decide +kernel
theorem dX1_traceChain_74 : decode cX1_traceChain 74 = .ok (.iload 10, 2) := by decide +kernel
theorem dX1_traceChain_76 : decode cX1_traceChain 76 = .ok (.ifCond .ne 6, 3) := by decide +kernel
theorem dX1_traceChain_79 : decode cX1_traceChain 79 = .ok (.goto 98, 3) := by decide +kernel
theorem dX1_traceChain_82 : decode cX1_traceChain 82 = .ok (.iload 4, 2) := by decide +kernel
theorem dX1_traceChain_84 : decode cX1_traceChain 84 = .ok (.ifCond .le 90, 3) := by decide +kernel
theorem dX1_traceChain_87 : decode cX1_traceChain 87 = .ok (.iload 8, 2) := by decide +kernel
theorem dX1_traceChain_89 : decode cX1_traceChain 89 = .ok (.iload 5, 2) := by decide +kernel
theorem dX1_traceChain_91 : decode cX1_traceChain 91 = .ok (.if_icmp .lt 83, 3) := by decide +kernel
theorem dX1_traceChain_94 : decode cX1_traceChain 94 = .ok (.iload 9, 2) := by decide +kernel
theorem dX1_traceChain_96 : decode cX1_traceChain 96 = .ok (.iload 6, 2) := by decide +kernel
theorem dX1_traceChain_98 : decode cX1_traceChain 98 = .ok (.if_icmp .lt 76, 3) := by decide +kernel
theorem dX1_traceChain_101 : decode cX1_traceChain 101 = .ok (.aload_n 0, 1) := by decide +kernel
theorem dX1_traceChain_102 : decode cX1_traceChain 102 = .ok (.iload 8, 2) := by decide +kernel
theorem dX1_traceChain_104 : decode cX1_traceChain 104 = .ok (.iload 9, 2) := by decide +kernel
theorem dX1_traceChain_106 : decode cX1_traceChain 106 = .ok (.iload 10, 2) := by decide +kernel
theorem dX1_traceChain_108 : decode cX1_traceChain 108 = .ok (.aload_n 1, 1) := by decide +kernel
theorem dX1_traceChain_109 : decode cX1_traceChain 109 = .ok (.getfield 77, 3) := by decide +kernel
theorem dX1_traceChain_112 : decode cX1_traceChain 112 = .ok (.invokevirtual 139, 3) := by decide +kernel
theorem dX1_traceChain_115 : decode cX1_traceChain 115 = .ok (.iload 4, 2) := by decide +kernel
theorem dX1_traceChain_117 : decode cX1_traceChain 117 = .ok (.if_icmp .ne 57, 3) := by decide +kernel
theorem dX1_traceChain_120 : decode cX1_traceChain 120 = .ok (.aload_n 0, 1) := by decide +kernel
theorem dX1_traceChain_121 : decode cX1_traceChain 121 = .ok (.iload 7, 2) := by decide +kernel
theorem dX1_traceChain_123 : decode cX1_traceChain 123 = .ok (.iload 10, 2) := by decide +kernel
theorem dX1_traceChain_125 : decode cX1_traceChain 125 = .ok (.invokevirtual 147, 3) := by decide +kernel
theorem dX1_traceChain_128 : decode cX1_traceChain 128 = .ok (.iload 8, 2) := by decide +kernel
theorem dX1_traceChain_130 : decode cX1_traceChain 130 = .ok (.iload 10, 2) := by decide +kernel
theorem dX1_traceChain_132 : decode cX1_traceChain 132 = .ok (.iadd, 1) := by decide +kernel
theorem dX1_traceChain_133 : decode cX1_traceChain 133 = .ok (.istore 5, 2) := by decide +kernel
theorem dX1_traceChain_135 : decode cX1_traceChain 135 = .ok (.iload 9, 2) := by decide +kernel
theorem dX1_traceChain_137 : decode cX1_traceChain 137 = .ok (.iload 10, 2) := by decide +kernel
theorem dX1_traceChain_139 : decode cX1_traceChain 139 = .ok (.iadd, 1) := by decide +kernel
theorem dX1_traceChain_140 : decode cX1_traceChain 140 = .ok (.istore 6, 2) := by decide +kernel
theorem dX1_traceChain_142 : decode cX1_traceChain 142 = .ok (.aload_n 0, 1) := by decide +kernel
theorem dX1_traceChain_143 : decode cX1_traceChain 143 = .ok (.getfield 41, 3) := by decide +kernel
theorem dX1_traceChain_146 : decode cX1_traceChain 146 = .ok (.iload 5, 2) := by decide +kernel
theorem dX1_traceChain_148 : decode cX1_traceChain 148 = .ok (.bipush 41, 2) := by decide +kernel
theorem dX1_traceChain_150 : decode cX1_traceChain 150 = .ok (.imul, 1) := by decide +kernel
theorem dX1_traceChain_151 : decode cX1_traceChain 151 = .ok (.iload 6, 2) := by decide +kernel
theorem dX1_traceChain_153 : decode cX1_traceChain 153 = .ok (.iadd, 1) := by decide +kernel
theorem dX1_traceChain_154 : decode cX1_traceChain 154 = .ok (.iaload, 1) := by decide +kernel
theorem dX1_traceChain_155 : decode cX1_traceChain 155 = .ok (.istore 11, 2) := by decide +kernel
theorem dX1_traceChain_157 : decode cX1_traceChain 157 = .ok (.iload 11, 2) := by decide +kernel
theorem dX1_traceChain_159 : decode cX1_traceChain 159 = .ok (.aload_n 1, 1) := by decide +kernel
theorem dX1_traceChain_160 : decode cX1_traceChain 160 = .ok (.getfield 77, 3) := by decide +kernel
theorem dX1_traceChain_163 : decode cX1_traceChain 163 = .ok (.if_icmp .lt 8, 3) := by decide +kernel
theorem dX1_traceChain_166 : decode cX1_traceChain 166 = .ok (.iload 11, 2) := by decide +kernel
theorem dX1_traceChain_168 : decode cX1_traceChain 168 = .ok (.goto 4, 3) := by decide +kernel
theorem dX1_traceChain_171 : decode cX1_traceChain 171 = .ok (.iconst 0, 1) := by decide +kernel
theorem dX1_traceChain_172 : decode cX1_traceChain 172 = .ok (.istore 4, 2) := by decide +kernel
theorem dX1_traceChain_174 : decode cX1_traceChain 174 = .ok (.iinc 7 1, 3) := by decide +kernel
theorem dX1_traceChain_177 : decode cX1_traceChain 177 = .ok (.iinc 9 1, 3) := by decide +kernel
theorem dX1_traceChain_180 : decode cX1_traceChain 180 = .ok (.goto (-133), 3) := by decide +kernel
theorem dX1_traceChain_183 : decode cX1_traceChain 183 = .ok (.iinc 8 1, 3) := by decide +kernel
theorem dX1_traceChain_186 : decode cX1_traceChain 186 = .ok (.goto (-154), 3) := by decide +kernel
theorem dX1_traceChain_189 : decode cX1_traceChain 189 = .ok (.return_, 1) := by decide +kernel
theorem dX1_addToChain_0 : decode cX1_addToChain 0 = .ok (.aload_n 0, 1) := by decide +kernel
theorem dX1_addToChain_1 : decode cX1_addToChain 1 = .ok (.getfield 15, 3) := by decide +kernel
theorem dX1_addToChain_4 : decode cX1_addToChain 4 = .ok (.bipush 40, 2) := by decide +kernel
theorem dX1_addToChain_6 : decode cX1_addToChain 6 = .ok (.if_icmp .ge 33, 3) := by decide +kernel
theorem dX1_addToChain_9 : decode cX1_addToChain 9 = .ok (.aload_n 0, 1) := by decide +kernel
theorem dX1_addToChain_10 : decode cX1_addToChain 10 = .ok (.getfield 9, 3) := by decide +kernel
theorem dX1_addToChain_13 : decode cX1_addToChain 13 = .ok (.aload_n 0, 1) := by decide +kernel
theorem dX1_addToChain_14 : decode cX1_addToChain 14 = .ok (.getfield 15, 3) := by decide +kernel
theorem dX1_addToChain_17 : decode cX1_addToChain 17 = .ok (.iload_n 1, 1) := by decide +kernel
theorem dX1_addToChain_18 : decode cX1_addToChain 18 = .ok (.iastore, 1) := by decide +kernel
theorem dX1_addToChain_19 : decode cX1_addToChain 19 = .ok (.aload_n 0, 1) := by decide +kernel
theorem dX1_addToChain_20 : decode cX1_addToChain 20 = .ok (.dup, 1) := by decide +kernel
theorem dX1_addToChain_21 : decode cX1_addToChain 21 = .ok (.getfield 15, 3) := by decide +kernel
theorem dX1_addToChain_24 : decode cX1_addToChain 24 = .ok (.iconst 1, 1) := by decide +kernel
theorem dX1_addToChain_25 : decode cX1_addToChain 25 = .ok (.iadd, 1) := by decide +kernel
theorem dX1_addToChain_26 : decode cX1_addToChain 26 = .ok (.putfield 15, 3) := by decide +kernel
theorem dX1_addToChain_29 : decode cX1_addToChain 29 = .ok (.aload_n 0, 1) := by decide +kernel
theorem dX1_addToChain_30 : decode cX1_addToChain 30 = .ok (.dup, 1) := by decide +kernel
theorem dX1_addToChain_31 : decode cX1_addToChain 31 = .ok (.getfield 19, 3) := by decide +kernel
theorem dX1_addToChain_34 : decode cX1_addToChain 34 = .ok (.iload_n 2, 1) := by decide +kernel
theorem dX1_addToChain_35 : decode cX1_addToChain 35 = .ok (.iadd, 1) := by decide +kernel
theorem dX1_addToChain_36 : decode cX1_addToChain 36 = .ok (.putfield 19, 3) := by decide +kernel
theorem dX1_addToChain_39 : decode cX1_addToChain 39 = .ok (.return_, 1) := by decide +kernel
theorem dX2_init_0 : decode cX2_init 0 = .ok (.aload_n 0, 1) := by decide +kernel
theorem dX2_init_1 : decode cX2_init 1 = .ok (.invokespecial 3, 3) := by decide +kernel
theorem dX2_init_4 : decode cX2_init 4 = .ok (.aload_n 0, 1) := by decide +kernel
theorem dX2_init_5 : decode cX2_init 5 = .ok (.bipush 6, 2) := by decide +kernel
theorem dX2_init_7 : decode cX2_init 7 = .ok (.newarray .int, 2) := by decide +kernel
theorem dX2_init_9 : decode cX2_init 9 = .ok (.putfield 9, 3) := by decide +kernel
theorem dX2_init_12 : decode cX2_init 12 = .ok (.aload_n 0, 1) := by decide +kernel
theorem dX2_init_13 : decode cX2_init 13 = .ok (.iconst 0, 1) := by decide +kernel
theorem dX2_init_14 : decode cX2_init 14 = .ok (.putfield 15, 3) := by decide +kernel
theorem dX2_init_17 : decode cX2_init 17 = .ok (.return_, 1) := by decide +kernel
theorem dX2_form_0 : decode cX2_form 0 = .ok (.aload_n 0, 1) := by decide +kernel
theorem dX2_form_1 : decode cX2_form 1 = .ok (.iconst 0, 1) := by decide +kernel
theorem dX2_form_2 : decode cX2_form 2 = .ok (.putfield 15, 3) := by decide +kernel
theorem dX2_form_5 : decode cX2_form 5 = .ok (.iconst 0, 1) := by decide +kernel
theorem dX2_form_6 : decode cX2_form 6 = .ok (.istore_n 3, 1) := by decide +kernel
theorem dX2_form_7 : decode cX2_form 7 = .ok (.iload_n 3, 1) := by decide +kernel
theorem dX2_form_8 : decode cX2_form 8 = .ok (.bipush 6, 2) := by decide +kernel
theorem dX2_form_10 : decode cX2_form 10 = .ok (.if_icmp .ge 28, 3) := by decide +kernel
theorem dX2_form_13 : decode cX2_form 13 = .ok (.aload_n 0, 1) := by decide +kernel
theorem dX2_form_14 : decode cX2_form 14 = .ok (.getfield 9, 3) := by decide +kernel
theorem dX2_form_17 : decode cX2_form 17 = .ok (.iload_n 3, 1) := by decide +kernel
theorem dX2_form_18 : decode cX2_form 18 = .ok (.aload_n 1, 1) := by decide +kernel
theorem dX2_form_19 : decode cX2_form 19 = .ok (.iload_n 3, 1) := by decide +kernel
theorem dX2_form_20 : decode cX2_form 20 = .ok (.invokevirtual 19, 3) := by decide +kernel
theorem dX2_form_23 : decode cX2_form 23 = .ok (.ifCond .eq 7, 3) := by decide +kernel
theorem dX2_form_26 : decode cX2_form 26 = .ok (.iload_n 3, 1) := by decide +kernel
theorem dX2_form_27 : decode cX2_form 27 = .ok (.goto 4, 3) := by decide +kernel
theorem dX2_form_30 : decode cX2_form 30 = .ok (.iconst (-1), 1) := by decide +kernel
theorem dX2_form_31 : decode cX2_form 31 = .ok (.iastore, 1) := by decide +kernel
theorem dX2_form_32 : decode cX2_form 32 = .ok (.iinc 3 1, 3) := by decide +kernel
theorem dX2_form_35 : decode cX2_form 35 = .ok (.goto (-28), 3) := by decide +kernel
theorem dX2_form_38 : decode cX2_form 38 = .ok (.iconst 0, 1) := by decide +kernel
theorem dX2_form_39 : decode cX2_form 39 = .ok (.istore_n 3, 1) := by decide +kernel
theorem dX2_form_40 : decode cX2_form 40 = .ok (.iload_n 3, 1) := by decide +kernel
theorem dX2_form_41 : decode cX2_form 41 = .ok (.bipush 6, 2) := by decide +kernel
theorem dX2_form_43 : decode cX2_form 43 = .ok (.if_icmp .ge 87, 3) := by decide +kernel
theorem dX2_form_46 : decode cX2_form 46 = .ok (.iload_n 3, 1) := by decide +kernel
theorem dX2_form_47 : decode cX2_form 47 = .ok (.iconst 1, 1) := by decide +kernel
theorem dX2_form_48 : decode cX2_form 48 = .ok (.iadd, 1) := by decide +kernel
theorem dX2_form_49 : decode cX2_form 49 = .ok (.istore 4, 2) := by decide +kernel
theorem dX2_form_51 : decode cX2_form 51 = .ok (.iload 4, 2) := by decide +kernel
theorem dX2_form_53 : decode cX2_form 53 = .ok (.bipush 6, 2) := by decide +kernel
theorem dX2_form_55 : decode cX2_form 55 = .ok (.if_icmp .ge 69, 3) := by decide +kernel
theorem dX2_form_58 : decode cX2_form 58 = .ok (.aload_n 1, 1) := by decide +kernel
theorem dX2_form_59 : decode cX2_form 59 = .ok (.iload_n 3, 1) := by decide +kernel
theorem dX2_form_60 : decode cX2_form 60 = .ok (.invokevirtual 19, 3) := by decide +kernel
theorem dX2_form_63 : decode cX2_form 63 = .ok (.ifCond .eq 55, 3) := by decide +kernel
theorem dX2_form_66 : decode cX2_form 66 = .ok (.aload_n 1, 1) := by decide +kernel
theorem dX2_form_67 : decode cX2_form 67 = .ok (.iload 4, 2) := by decide +kernel
theorem dX2_form_69 : decode cX2_form 69 = .ok (.invokevirtual 19, 3) := by decide +kernel
theorem dX2_form_72 : decode cX2_form 72 = .ok (.ifCond .eq 46, 3) := by decide +kernel
theorem dX2_form_75 : decode cX2_form 75 = .ok (.aload_n 2, 1) := by decide +kernel
theorem dX2_form_76 : decode cX2_form 76 = .ok (.aload_n 1, 1) := by decide +kernel
theorem dX2_form_77 : decode cX2_form 77 = .ok (.iload_n 3, 1) := by decide +kernel
theorem dX2_form_78 : decode cX2_form 78 = .ok (.iload 4, 2) := by decide +kernel
theorem dX2_form_80 : decode cX2_form 80 = .ok (.iconst 0, 1) := by decide +kernel
theorem dX2_form_81 : decode cX2_form 81 = .ok (.invokevirtual 25, 3) := by decide +kernel
theorem dX2_form_84 : decode cX2_form 84 = .ok (.aload_n 1, 1) := by decide +kernel
theorem dX2_form_85 : decode cX2_form 85 = .ok (.getfield 31, 3) := by decide +kernel
theorem dX2_form_88 : decode cX2_form 88 = .ok (.if_icmp .lt 30, 3) := by decide +kernel
theorem dX2_form_91 : decode cX2_form 91 = .ok (.aload_n 0, 1) := by decide +kernel
theorem dX2_form_92 : decode cX2_form 92 = .ok (.dup, 1) := by decide +kernel
theorem dX2_form_93 : decode cX2_form 93 = .ok (.getfield 15, 3) := by decide +kernel
theorem dX2_form_96 : decode cX2_form 96 = .ok (.iconst 1, 1) := by decide +kernel
theorem dX2_form_97 : decode cX2_form 97 = .ok (.iadd, 1) := by decide +kernel
theorem dX2_form_98 : decode cX2_form 98 = .ok (.putfield 15, 3) := by decide +kernel
theorem dX2_form_101 : decode cX2_form 101 = .ok (.aload_n 0, 1) := by decide +kernel
theorem dX2_form_102 : decode cX2_form 102 = .ok (.aload_n 0, 1) := by decide +kernel
theorem dX2_form_103 : decode cX2_form 103 = .ok (.getfield 9, 3) := by decide +kernel
theorem dX2_form_106 : decode cX2_form 106 = .ok (.iload_n 3, 1) := by decide +kernel
theorem dX2_form_107 : decode cX2_form 107 = .ok (.iaload, 1) := by decide +kernel
theorem dX2_form_108 : decode cX2_form 108 = .ok (.aload_n 0, 1) := by decide +kernel
theorem dX2_form_109 : decode cX2_form 109 = .ok (.getfield 9, 3) := by decide +kernel
theorem dX2_form_112 : decode cX2_form 112 = .ok (.iload 4, 2) := by decide +kernel
theorem dX2_form_114 : decode cX2_form 114 = .ok (.iaload, 1) := by decide +kernel
theorem dX2_form_115 : decode cX2_form 115 = .ok (.invokevirtual 34, 3) := by decide +kernel
theorem dX2_form_118 : decode cX2_form 118 = .ok (.iinc 4 1, 3) := by decide +kernel
theorem dX2_form_121 : decode cX2_form 121 = .ok (.goto (-70), 3) := by decide +kernel
theorem dX2_form_124 : decode cX2_form 124 = .ok (.iinc 3 1, 3) := by decide +kernel
theorem dX2_form_127 : decode cX2_form 127 = .ok (.goto (-87), 3) := by decide +kernel
theorem dX2_form_130 : decode cX2_form 130 = .ok (.return_, 1) := by decide +kernel
theorem dX2_join_0 : decode cX2_join 0 = .ok (.iload_n 1, 1) := by decide +kernel
theorem dX2_join_1 : decode cX2_join 1 = .ok (.iload_n 2, 1) := by decide +kernel
theorem dX2_join_2 : decode cX2_join 2 = .ok (.invokestatic 38, 3) := by decide +kernel
theorem dX2_join_5 : decode cX2_join 5 = .ok (.istore_n 3, 1) := by decide +kernel
theorem dX2_join_6 : decode cX2_join 6 = .ok (.iconst 0, 1) := by decide +kernel
theorem dX2_join_7 : decode cX2_join 7 = .ok (.istore 4, 2) := by decide +kernel
theorem dX2_join_9 : decode cX2_join 9 = .ok (.iload 4, 2) := by decide +kernel
theorem dX2_join_11 : decode cX2_join 11 = .ok (.bipush 6, 2) := by decide +kernel
theorem dX2_join_13 : decode cX2_join 13 = .ok (.if_icmp .ge 39, 3) := by decide +kernel
theorem dX2_join_16 : decode cX2_join 16 = .ok (.aload_n 0, 1) := by decide +kernel
theorem dX2_join_17 : decode cX2_join 17 = .ok (.getfield 9, 3) := by decide +kernel
theorem dX2_join_20 : decode cX2_join 20 = .ok (.iload 4, 2) := by decide +kernel
theorem dX2_join_22 : decode cX2_join 22 = .ok (.iaload, 1) := by decide +kernel
theorem dX2_join_23 : decode cX2_join 23 = .ok (.iload_n 1, 1) := by decide +kernel
theorem dX2_join_24 : decode cX2_join 24 = .ok (.if_icmp .eq 14, 3) := by decide +kernel
theorem dX2_join_27 : decode cX2_join 27 = .ok (.aload_n 0, 1) := by decide +kernel
theorem dX2_join_28 : decode cX2_join 28 = .ok (.getfield 9, 3) := by decide +kernel
theorem dX2_join_31 : decode cX2_join 31 = .ok (.iload 4, 2) := by decide +kernel
theorem dX2_join_33 : decode cX2_join 33 = .ok (.iaload, 1) := by decide +kernel
theorem dX2_join_34 : decode cX2_join 34 = .ok (.iload_n 2, 1) := by decide +kernel
theorem dX2_join_35 : decode cX2_join 35 = .ok (.if_icmp .ne 11, 3) := by decide +kernel
theorem dX2_join_38 : decode cX2_join 38 = .ok (.aload_n 0, 1) := by decide +kernel
theorem dX2_join_39 : decode cX2_join 39 = .ok (.getfield 9, 3) := by decide +kernel
theorem dX2_join_42 : decode cX2_join 42 = .ok (.iload 4, 2) := by decide +kernel
theorem dX2_join_44 : decode cX2_join 44 = .ok (.iload_n 3, 1) := by decide +kernel
theorem dX2_join_45 : decode cX2_join 45 = .ok (.iastore, 1) := by decide +kernel
theorem dX2_join_46 : decode cX2_join 46 = .ok (.iinc 4 1, 3) := by decide +kernel
theorem dX2_join_49 : decode cX2_join 49 = .ok (.goto (-40), 3) := by decide +kernel
theorem dX2_join_52 : decode cX2_join 52 = .ok (.return_, 1) := by decide +kernel
theorem dX2_howMany_0 : decode cX2_howMany 0 = .ok (.iconst 0, 1) := by decide +kernel
theorem dX2_howMany_1 : decode cX2_howMany 1 = .ok (.istore_n 3, 1) := by decide +kernel
theorem dX2_howMany_2 : decode cX2_howMany 2 = .ok (.iconst 0, 1) := by decide +kernel
theorem dX2_howMany_3 : decode cX2_howMany 3 = .ok (.istore 4, 2) := by decide +kernel
theorem dX2_howMany_5 : decode cX2_howMany 5 = .ok (.iload 4, 2) := by decide +kernel
theorem dX2_howMany_7 : decode cX2_howMany 7 = .ok (.bipush 6, 2) := by decide +kernel
theorem dX2_howMany_9 : decode cX2_howMany 9 = .ok (.if_icmp .ge 48, 3) := by decide +kernel
theorem dX2_howMany_12 : decode cX2_howMany 12 = .ok (.aload_n 0, 1) := by decide +kernel
theorem dX2_howMany_13 : decode cX2_howMany 13 = .ok (.getfield 9, 3) := by decide +kernel
theorem dX2_howMany_16 : decode cX2_howMany 16 = .ok (.iload 4, 2) := by decide +kernel
theorem dX2_howMany_18 : decode cX2_howMany 18 = .ok (.iaload, 1) := by decide +kernel
theorem dX2_howMany_19 : decode cX2_howMany 19 = .ok (.iload 4, 2) := by decide +kernel
theorem dX2_howMany_21 : decode cX2_howMany 21 = .ok (.if_icmp .ne 12, 3) := by decide +kernel
theorem dX2_howMany_24 : decode cX2_howMany 24 = .ok (.aload_n 0, 1) := by decide +kernel
theorem dX2_howMany_25 : decode cX2_howMany 25 = .ok (.iload 4, 2) := by decide +kernel
theorem dX2_howMany_27 : decode cX2_howMany 27 = .ok (.invokevirtual 44, 3) := by decide +kernel
theorem dX2_howMany_30 : decode cX2_howMany 30 = .ok (.goto 4, 3) := by decide +kernel
theorem dX2_howMany_33 : decode cX2_howMany 33 = .ok (.iconst 0, 1) := by decide +kernel
theorem dX2_howMany_34 : decode cX2_howMany 34 = .ok (.istore 5, 2) := by decide +kernel
theorem dX2_howMany_36 : decode cX2_howMany 36 = .ok (.iload 5, 2) := by decide +kernel
theorem dX2_howMany_38 : decode cX2_howMany 38 = .ok (.iload_n 1, 1) := by decide +kernel
theorem dX2_howMany_39 : decode cX2_howMany 39 = .ok (.if_icmp .lt 12, 3) := by decide +kernel
theorem dX2_howMany_42 : decode cX2_howMany 42 = .ok (.iload 5, 2) := by decide +kernel
theorem dX2_howMany_44 : decode cX2_howMany 44 = .ok (.iload_n 2, 1) := by decide +kernel
theorem dX2_howMany_45 : decode cX2_howMany 45 = .ok (.if_icmp .gt 6, 3) := by decide +kernel
theorem dX2_howMany_48 : decode cX2_howMany 48 = .ok (.iinc 3 1, 3) := by decide +kernel
theorem dX2_howMany_51 : decode cX2_howMany 51 = .ok (.iinc 4 1, 3) := by decide +kernel
theorem dX2_howMany_54 : decode cX2_howMany 54 = .ok (.goto (-49), 3) := by decide +kernel
theorem dX2_howMany_57 : decode cX2_howMany 57 = .ok (.iload_n 3, 1) := by decide +kernel
theorem dX2_howMany_58 : decode cX2_howMany 58 = .ok (.ireturn, 1) := by decide +kernel
theorem dX2_membersOf_0 : decode cX2_membersOf 0 = .ok (.iconst 0, 1) := by decide +kernel
theorem dX2_membersOf_1 : decode cX2_membersOf 1 = .ok (.istore_n 2, 1) := by decide +kernel
theorem dX2_membersOf_2 : decode cX2_membersOf 2 = .ok (.iconst 0, 1) := by decide +kernel
theorem dX2_membersOf_3 : decode cX2_membersOf 3 = .ok (.istore_n 3, 1) := by decide +kernel
theorem dX2_membersOf_4 : decode cX2_membersOf 4 = .ok (.iload_n 3, 1) := by decide +kernel
theorem dX2_membersOf_5 : decode cX2_membersOf 5 = .ok (.bipush 6, 2) := by decide +kernel
theorem dX2_membersOf_7 : decode cX2_membersOf 7 = .ok (.if_icmp .ge 22, 3) := by decide +kernel
theorem dX2_membersOf_10 : decode cX2_membersOf 10 = .ok (.aload_n 0, 1) := by decide +kernel
theorem dX2_membersOf_11 : decode cX2_membersOf 11 = .ok (.getfield 9, 3) := by decide +kernel
theorem dX2_membersOf_14 : decode cX2_membersOf 14 = .ok (.iload_n 3, 1) := by decide +kernel
theorem dX2_membersOf_15 : decode cX2_membersOf 15 = .ok (.iaload, 1) := by decide +kernel
theorem dX2_membersOf_16 : decode cX2_membersOf 16 = .ok (.iload_n 1, 1) := by decide +kernel
theorem dX2_membersOf_17 : decode cX2_membersOf 17 = .ok (.if_icmp .ne 6, 3) := by decide +kernel
theorem dX2_membersOf_20 : decode cX2_membersOf 20 = .ok (.iinc 2 1, 3) := by decide +kernel
theorem dX2_membersOf_23 : decode cX2_membersOf 23 = .ok (.iinc 3 1, 3) := by decide +kernel
theorem dX2_membersOf_26 : decode cX2_membersOf 26 = .ok (.goto (-22), 3) := by decide +kernel
theorem dX2_membersOf_29 : decode cX2_membersOf 29 = .ok (.iload_n 2, 1) := by decide +kernel
theorem dX2_membersOf_30 : decode cX2_membersOf 30 = .ok (.ireturn, 1) := by decide +kernel
theorem dX2_earliest_0 : decode cX2_earliest 0 = .ok (.iconst (-1), 1) := by decide +kernel
theorem dX2_earliest_1 : decode cX2_earliest 1 = .ok (.istore_n 3, 1) := by decide +kernel
theorem dX2_earliest_2 : decode cX2_earliest 2 = .ok (.iconst 0, 1) := by decide +kernel
theorem dX2_earliest_3 : decode cX2_earliest 3 = .ok (.istore 4, 2) := by decide +kernel
theorem dX2_earliest_5 : decode cX2_earliest 5 = .ok (.iload 4, 2) := by decide +kernel
theorem dX2_earliest_7 : decode cX2_earliest 7 = .ok (.bipush 6, 2) := by decide +kernel
theorem dX2_earliest_9 : decode cX2_earliest 9 = .ok (.if_icmp .ge 59, 3) := by decide +kernel
theorem dX2_earliest_12 : decode cX2_earliest 12 = .ok (.aload_n 0, 1) := by decide +kernel
theorem dX2_earliest_13 : decode cX2_earliest 13 = .ok (.getfield 9, 3) := by decide +kernel
theorem dX2_earliest_16 : decode cX2_earliest 16 = .ok (.iload 4, 2) := by decide +kernel
theorem dX2_earliest_18 : decode cX2_earliest 18 = .ok (.iaload, 1) := by decide +kernel
theorem dX2_earliest_19 : decode cX2_earliest 19 = .ok (.iload_n 2, 1) := by decide +kernel
theorem dX2_earliest_20 : decode cX2_earliest 20 = .ok (.if_icmp .ne 42, 3) := by decide +kernel
theorem dX2_earliest_23 : decode cX2_earliest 23 = .ok (.iload 4, 2) := by decide +kernel
theorem dX2_earliest_25 : decode cX2_earliest 25 = .ok (.aload_n 1, 1) := by decide +kernel
theorem dX2_earliest_26 : decode cX2_earliest 26 = .ok (.getfield 48, 3) := by decide +kernel
theorem dX2_earliest_29 : decode cX2_earliest 29 = .ok (.if_icmp .eq 33, 3) := by decide +kernel
theorem dX2_earliest_32 : decode cX2_earliest 32 = .ok (.iload_n 3, 1) := by decide +kernel
theorem dX2_earliest_33 : decode cX2_earliest 33 = .ok (.iconst (-1), 1) := by decide +kernel
theorem dX2_earliest_34 : decode cX2_earliest 34 = .ok (.if_icmp .eq 25, 3) := by decide +kernel
theorem dX2_earliest_37 : decode cX2_earliest 37 = .ok (.aload_n 1, 1) := by decide +kernel
theorem dX2_earliest_38 : decode cX2_earliest 38 = .ok (.getfield 51, 3) := by decide +kernel
theorem dX2_earliest_41 : decode cX2_earliest 41 = .ok (.iload 4, 2) := by decide +kernel
theorem dX2_earliest_43 : decode cX2_earliest 43 = .ok (.aaload, 1) := by decide +kernel
theorem dX2_earliest_44 : decode cX2_earliest 44 = .ok (.getfield 55, 3) := by decide +kernel
theorem dX2_earliest_47 : decode cX2_earliest 47 = .ok (.aload_n 1, 1) := by decide +kernel
theorem dX2_earliest_48 : decode cX2_earliest 48 = .ok (.getfield 51, 3) := by decide +kernel
theorem dX2_earliest_51 : decode cX2_earliest 51 = .ok (.iload_n 3, 1) := by decide +kernel
theorem dX2_earliest_52 : decode cX2_earliest 52 = .ok (.aaload, 1) := by decide +kernel
theorem dX2_earliest_53 : decode cX2_earliest 53 = .ok (.getfield 55, 3) := by decide +kernel
theorem dX2_earliest_56 : decode cX2_earliest 56 = .ok (.if_icmp .ge 6, 3) := by decide +kernel
theorem dX2_earliest_59 : decode cX2_earliest 59 = .ok (.iload 4, 2) := by decide +kernel
theorem dX2_earliest_61 : decode cX2_earliest 61 = .ok (.istore_n 3, 1) := by decide +kernel
theorem dX2_earliest_62 : decode cX2_earliest 62 = .ok (.iinc 4 1, 3) := by decide +kernel
theorem dX2_earliest_65 : decode cX2_earliest 65 = .ok (.goto (-60), 3) := by decide +kernel
theorem dX2_earliest_68 : decode cX2_earliest 68 = .ok (.iload_n 3, 1) := by decide +kernel
theorem dX2_earliest_69 : decode cX2_earliest 69 = .ok (.iconst (-1), 1) := by decide +kernel
theorem dX2_earliest_70 : decode cX2_earliest 70 = .ok (.if_icmp .ne 10, 3) := by decide +kernel
theorem dX2_earliest_73 : decode cX2_earliest 73 = .ok (.aload_n 1, 1) := by decide +kernel
theorem dX2_earliest_74 : decode cX2_earliest 74 = .ok (.getfield 48, 3) := by decide +kernel
theorem dX2_earliest_77 : decode cX2_earliest 77 = .ok (.goto 4, 3) := by decide +kernel
theorem dX2_earliest_80 : decode cX2_earliest 80 = .ok (.iload_n 3, 1) := by decide +kernel
theorem dX2_earliest_81 : decode cX2_earliest 81 = .ok (.ireturn, 1) := by decide +kernel
theorem dX3_init_0 : decode cX3_init 0 = .ok (.aload_n 0, 1) := by decide +kernel
theorem dX3_init_1 : decode cX3_init 1 = .ok (.invokespecial 3, 3) := by decide +kernel
theorem dX3_init_4 : decode cX3_init 4 = .ok (.aload_n 0, 1) := by decide +kernel
theorem dX3_init_5 : decode cX3_init 5 = .ok (.bipush 40, 2) := by decide +kernel
theorem dX3_init_7 : decode cX3_init 7 = .ok (.newarray .long, 2) := by decide +kernel
theorem dX3_init_9 : decode cX3_init 9 = .ok (.putfield 9, 3) := by decide +kernel
theorem dX3_init_12 : decode cX3_init 12 = .ok (.aload_n 0, 1) := by decide +kernel
theorem dX3_init_13 : decode cX3_init 13 = .ok (.bipush 40, 2) := by decide +kernel
theorem dX3_init_15 : decode cX3_init 15 = .ok (.newarray .int, 2) := by decide +kernel
theorem dX3_init_17 : decode cX3_init 17 = .ok (.putfield 15, 3) := by decide +kernel
theorem dX3_init_20 : decode cX3_init 20 = .ok (.aload_n 0, 1) := by decide +kernel
theorem dX3_init_21 : decode cX3_init 21 = .ok (.bipush 40, 2) := by decide +kernel
theorem dX3_init_23 : decode cX3_init 23 = .ok (.newarray .boolean, 2) := by decide +kernel
theorem dX3_init_25 : decode cX3_init 25 = .ok (.putfield 19, 3) := by decide +kernel
theorem dX3_init_28 : decode cX3_init 28 = .ok (.aload_n 0, 1) := by decide +kernel
theorem dX3_init_29 : decode cX3_init 29 = .ok (.bipush 40, 2) := by decide +kernel
theorem dX3_init_31 : decode cX3_init 31 = .ok (.newarray .boolean, 2) := by decide +kernel
theorem dX3_init_33 : decode cX3_init 33 = .ok (.putfield 23, 3) := by decide +kernel
theorem dX3_init_36 : decode cX3_init 36 = .ok (.aload_n 0, 1) := by decide +kernel
theorem dX3_init_37 : decode cX3_init 37 = .ok (.bipush 40, 2) := by decide +kernel
theorem dX3_init_39 : decode cX3_init 39 = .ok (.newarray .int, 2) := by decide +kernel
theorem dX3_init_41 : decode cX3_init 41 = .ok (.putfield 26, 3) := by decide +kernel
theorem dX3_init_44 : decode cX3_init 44 = .ok (.aload_n 0, 1) := by decide +kernel
theorem dX3_init_45 : decode cX3_init 45 = .ok (.iconst 0, 1) := by decide +kernel
theorem dX3_init_46 : decode cX3_init 46 = .ok (.putfield 29, 3) := by decide +kernel
theorem dX3_init_49 : decode cX3_init 49 = .ok (.aload_n 0, 1) := by decide +kernel
theorem dX3_init_50 : decode cX3_init 50 = .ok (.iconst 0, 1) := by decide +kernel
theorem dX3_init_51 : decode cX3_init 51 = .ok (.putfield 33, 3) := by decide +kernel
theorem dX3_init_54 : decode cX3_init 54 = .ok (.aload_n 0, 1) := by decide +kernel
theorem dX3_init_55 : decode cX3_init 55 = .ok (.iconst 0, 1) := by decide +kernel
theorem dX3_init_56 : decode cX3_init 56 = .ok (.putfield 36, 3) := by decide +kernel
theorem dX3_init_59 : decode cX3_init 59 = .ok (.return_, 1) := by decide +kernel
theorem dX3_lay_0 : decode cX3_lay 0 = .ok (.aload_n 0, 1) := by decide +kernel
theorem dX3_lay_1 : decode cX3_lay 1 = .ok (.aload_n 1, 1) := by decide +kernel
theorem dX3_lay_2 : decode cX3_lay 2 = .ok (.getfield 39, 3) := by decide +kernel
theorem dX3_lay_5 : decode cX3_lay 5 = .ok (.putfield 29, 3) := by decide +kernel
theorem dX3_lay_8 : decode cX3_lay 8 = .ok (.aload_n 0, 1) := by decide +kernel
theorem dX3_lay_9 : decode cX3_lay 9 = .ok (.aload_n 1, 1) := by decide +kernel
theorem dX3_lay_10 : decode cX3_lay 10 = .ok (.getfield 42, 3) := by decide +kernel
theorem dX3_lay_13 : decode cX3_lay 13 = .ok (.putfield 33, 3) := by decide +kernel
theorem dX3_lay_16 : decode cX3_lay 16 = .ok (.iconst 0, 1) := by decide +kernel
theorem dX3_lay_17 : decode cX3_lay 17 = .ok (.istore_n 3, 1) := by decide +kernel
theorem dX3_lay_18 : decode cX3_lay 18 = .ok (.iload_n 3, 1) := by decide +kernel
theorem dX3_lay_19 : decode cX3_lay 19 = .ok (.aload_n 0, 1) := by decide +kernel
theorem dX3_lay_20 : decode cX3_lay 20 = .ok (.getfield 29, 3) := by decide +kernel
theorem dX3_lay_23 : decode cX3_lay 23 = .ok (.if_icmp .ge 35, 3) := by decide +kernel
theorem dX3_lay_26 : decode cX3_lay 26 = .ok (.aload_n 0, 1) := by decide +kernel
theorem dX3_lay_27 : decode cX3_lay 27 = .ok (.getfield 9, 3) := by decide +kernel
theorem dX3_lay_30 : decode cX3_lay 30 = .ok (.iload_n 3, 1) := by decide +kernel
theorem dX3_lay_31 : decode cX3_lay 31 = .ok (.aload_n 1, 1) := by decide +kernel
theorem dX3_lay_32 : decode cX3_lay 32 = .ok (.getfield 43, 3) := by decide +kernel
theorem dX3_lay_35 : decode cX3_lay 35 = .ok (.iload_n 3, 1) := by decide +kernel
theorem dX3_lay_36 : decode cX3_lay 36 = .ok (.iload_n 2, 1) := by decide +kernel
theorem dX3_lay_37 : decode cX3_lay 37 = .ok (.iadd, 1) := by decide +kernel
theorem dX3_lay_38 : decode cX3_lay 38 = .ok (.aload_n 0, 1) := by decide +kernel
theorem dX3_lay_39 : decode cX3_lay 39 = .ok (.getfield 29, 3) := by decide +kernel
theorem dX3_lay_42 : decode cX3_lay 42 = .ok (.irem, 1) := by decide +kernel
theorem dX3_lay_43 : decode cX3_lay 43 = .ok (.laload, 1) := by decide +kernel
theorem dX3_lay_44 : decode cX3_lay 44 = .ok (.lastore, 1) := by decide +kernel
theorem dX3_lay_45 : decode cX3_lay 45 = .ok (.aload_n 0, 1) := by decide +kernel
theorem dX3_lay_46 : decode cX3_lay 46 = .ok (.getfield 23, 3) := by decide +kernel
theorem dX3_lay_49 : decode cX3_lay 49 = .ok (.iload_n 3, 1) := by decide +kernel
theorem dX3_lay_50 : decode cX3_lay 50 = .ok (.iconst 0, 1) := by decide +kernel
theorem dX3_lay_51 : decode cX3_lay 51 = .ok (.bastore, 1) := by decide +kernel
theorem dX3_lay_52 : decode cX3_lay 52 = .ok (.iinc 3 1, 3) := by decide +kernel
theorem dX3_lay_55 : decode cX3_lay 55 = .ok (.goto (-37), 3) := by decide +kernel
theorem dX3_lay_58 : decode cX3_lay 58 = .ok (.return_, 1) := by decide +kernel
theorem dX3_findMarks_0 : decode cX3_findMarks 0 = .ok (.aload_n 0, 1) := by decide +kernel
theorem dX3_findMarks_1 : decode cX3_findMarks 1 = .ok (.iconst 0, 1) := by decide +kernel
theorem dX3_findMarks_2 : decode cX3_findMarks 2 = .ok (.aload_n 0, 1) := by decide +kernel
theorem dX3_findMarks_3 : decode cX3_findMarks 3 = .ok (.getfield 29, 3) := by decide +kernel
theorem dX3_findMarks_6 : decode cX3_findMarks 6 = .ok (.iload_n 1, 1) := by decide +kernel
theorem dX3_findMarks_7 : decode cX3_findMarks 7 = .ok (.isub, 1) := by decide +kernel
theorem dX3_findMarks_8 : decode cX3_findMarks 8 = .ok (.iconst 1, 1) := by decide +kernel
theorem dX3_findMarks_9 : decode cX3_findMarks 9 = .ok (.iadd, 1) := by decide +kernel
theorem dX3_findMarks_10 : decode cX3_findMarks 10 = .ok (.invokestatic 44, 3) := by decide +kernel
theorem dX3_findMarks_13 : decode cX3_findMarks 13 = .ok (.putfield 36, 3) := by decide +kernel
theorem dX3_findMarks_16 : decode cX3_findMarks 16 = .ok (.iconst 0, 1) := by decide +kernel
theorem dX3_findMarks_17 : decode cX3_findMarks 17 = .ok (.istore_n 3, 1) := by decide +kernel
theorem dX3_findMarks_18 : decode cX3_findMarks 18 = .ok (.iload_n 3, 1) := by decide +kernel
theorem dX3_findMarks_19 : decode cX3_findMarks 19 = .ok (.aload_n 0, 1) := by decide +kernel
theorem dX3_findMarks_20 : decode cX3_findMarks 20 = .ok (.getfield 36, 3) := by decide +kernel
theorem dX3_findMarks_23 : decode cX3_findMarks 23 = .ok (.if_icmp .ge 28, 3) := by decide +kernel
theorem dX3_findMarks_26 : decode cX3_findMarks 26 = .ok (.aload_n 0, 1) := by decide +kernel
theorem dX3_findMarks_27 : decode cX3_findMarks 27 = .ok (.getfield 15, 3) := by decide +kernel
theorem dX3_findMarks_30 : decode cX3_findMarks 30 = .ok (.iload_n 3, 1) := by decide +kernel
theorem dX3_findMarks_31 : decode cX3_findMarks 31 = .ok (.aload_n 0, 1) := by decide +kernel
theorem dX3_findMarks_32 : decode cX3_findMarks 32 = .ok (.iload_n 3, 1) := by decide +kernel
theorem dX3_findMarks_33 : decode cX3_findMarks 33 = .ok (.iload_n 1, 1) := by decide +kernel
theorem dX3_findMarks_34 : decode cX3_findMarks 34 = .ok (.invokevirtual 50, 3) := by decide +kernel
theorem dX3_findMarks_37 : decode cX3_findMarks 37 = .ok (.iastore, 1) := by decide +kernel
theorem dX3_findMarks_38 : decode cX3_findMarks 38 = .ok (.aload_n 0, 1) := by decide +kernel
theorem dX3_findMarks_39 : decode cX3_findMarks 39 = .ok (.getfield 19, 3) := by decide +kernel
theorem dX3_findMarks_42 : decode cX3_findMarks 42 = .ok (.iload_n 3, 1) := by decide +kernel
theorem dX3_findMarks_43 : decode cX3_findMarks 43 = .ok (.iconst 0, 1) := by decide +kernel
theorem dX3_findMarks_44 : decode cX3_findMarks 44 = .ok (.bastore, 1) := by decide +kernel
theorem dX3_findMarks_45 : decode cX3_findMarks 45 = .ok (.iinc 3 1, 3) := by decide +kernel
theorem dX3_findMarks_48 : decode cX3_findMarks 48 = .ok (.goto (-30), 3) := by decide +kernel
theorem dX3_findMarks_51 : decode cX3_findMarks 51 = .ok (.iload_n 2, 1) := by decide +kernel
theorem dX3_findMarks_52 : decode cX3_findMarks 52 = .ok (.aload_n 0, 1) := by decide +kernel
theorem dX3_findMarks_53 : decode cX3_findMarks 53 = .ok (.getfield 36, 3) := by decide +kernel
theorem dX3_findMarks_56 : decode cX3_findMarks 56 = .ok (.invokestatic 53, 3) := by decide +kernel
theorem dX3_findMarks_59 : decode cX3_findMarks 59 = .ok (.istore_n 3, 1) := by decide +kernel
theorem dX3_findMarks_60 : decode cX3_findMarks 60 = .ok (.iload_n 3, 1) := by decide +kernel
theorem dX3_findMarks_61 : decode cX3_findMarks 61 = .ok (.istore 4, 2) := by decide +kernel
theorem dX3_findMarks_63 : decode cX3_findMarks 63 = .ok (.iload 4, 2) := by decide +kernel
theorem dX3_findMarks_65 : decode cX3_findMarks 65 = .ok (.aload_n 0, 1) := by decide +kernel
theorem dX3_findMarks_66 : decode cX3_findMarks 66 = .ok (.getfield 36, 3) := by decide +kernel
theorem dX3_findMarks_69 : decode cX3_findMarks 69 = .ok (.if_icmp .gt 29, 3) := by decide +kernel
theorem dX3_findMarks_72 : decode cX3_findMarks 72 = .ok (.iload_n 3, 1) := by decide +kernel
theorem dX3_findMarks_73 : decode cX3_findMarks 73 = .ok (.ifCond .le 25, 3) := by decide +kernel
theorem dX3_findMarks_76 : decode cX3_findMarks 76 = .ok (.aload_n 0, 1) := by decide +kernel
theorem dX3_findMarks_77 : decode cX3_findMarks 77 = .ok (.getfield 19, 3) := by decide +kernel
theorem dX3_findMarks_80 : decode cX3_findMarks 80 = .ok (.aload_n 0, 1) := by decide +kernel
theorem dX3_findMarks_81 : decode cX3_findMarks 81 = .ok (.iload 4, 2) := by decide +kernel
theorem dX3_findMarks_83 : decode cX3_findMarks 83 = .ok (.iload_n 3, 1) := by decide +kernel
theorem dX3_findMarks_84 : decode cX3_findMarks 84 = .ok (.isub, 1) := by decide +kernel
theorem dX3_findMarks_85 : decode cX3_findMarks 85 = .ok (.iload 4, 2) := by decide +kernel
theorem dX3_findMarks_87 : decode cX3_findMarks 87 = .ok (.invokevirtual 56, 3) := by decide +kernel
theorem dX3_findMarks_90 : decode cX3_findMarks 90 = .ok (.iconst 1, 1) := by decide +kernel
theorem dX3_findMarks_91 : decode cX3_findMarks 91 = .ok (.bastore, 1) := by decide +kernel
theorem dX3_findMarks_92 : decode cX3_findMarks 92 = .ok (.iinc 4 1, 3) := by decide +kernel
theorem dX3_findMarks_95 : decode cX3_findMarks 95 = .ok (.goto (-32), 3) := by decide +kernel
theorem dX3_findMarks_98 : decode cX3_findMarks 98 = .ok (.return_, 1) := by decide +kernel
theorem dX3_hashOfGram_0 : decode cX3_hashOfGram 0 = .ok (.ldc2_w 59, 3) := by decide +kernel
theorem dX3_hashOfGram_3 : decode cX3_hashOfGram 3 = .ok (.lstore_n 3, 1) := by decide +kernel
theorem dX3_hashOfGram_4 : decode cX3_hashOfGram 4 = .ok (.iload_n 1, 1) := by decide +kernel
theorem dX3_hashOfGram_5 : decode cX3_hashOfGram 5 = .ok (.istore 5, 2) := by decide +kernel
theorem dX3_hashOfGram_7 : decode cX3_hashOfGram 7 = .ok (.iload 5, 2) := by decide +kernel
theorem dX3_hashOfGram_9 : decode cX3_hashOfGram 9 = .ok (.iload_n 1, 1) := by decide +kernel
theorem dX3_hashOfGram_10 : decode cX3_hashOfGram 10 = .ok (.iload_n 2, 1) := by decide +kernel
theorem dX3_hashOfGram_11 : decode cX3_hashOfGram 11 = .ok (.iadd, 1) := by decide +kernel
theorem dX3_hashOfGram_12 : decode cX3_hashOfGram 12 = .ok (.if_icmp .ge 27, 3) := by decide +kernel
theorem dX3_hashOfGram_15 : decode cX3_hashOfGram 15 = .ok (.lload_n 3, 1) := by decide +kernel
theorem dX3_hashOfGram_16 : decode cX3_hashOfGram 16 = .ok (.ldc2_w 61, 3) := by decide +kernel
theorem dX3_hashOfGram_19 : decode cX3_hashOfGram 19 = .ok (.lmul, 1) := by decide +kernel
theorem dX3_hashOfGram_20 : decode cX3_hashOfGram 20 = .ok (.aload_n 0, 1) := by decide +kernel
theorem dX3_hashOfGram_21 : decode cX3_hashOfGram 21 = .ok (.getfield 9, 3) := by decide +kernel
theorem dX3_hashOfGram_24 : decode cX3_hashOfGram 24 = .ok (.iload 5, 2) := by decide +kernel
theorem dX3_hashOfGram_26 : decode cX3_hashOfGram 26 = .ok (.laload, 1) := by decide +kernel
theorem dX3_hashOfGram_27 : decode cX3_hashOfGram 27 = .ok (.ladd, 1) := by decide +kernel
theorem dX3_hashOfGram_28 : decode cX3_hashOfGram 28 = .ok (.ldc2_w 63, 3) := by decide +kernel
theorem dX3_hashOfGram_31 : decode cX3_hashOfGram 31 = .ok (.lrem, 1) := by decide +kernel
theorem dX3_hashOfGram_32 : decode cX3_hashOfGram 32 = .ok (.lstore_n 3, 1) := by decide +kernel
theorem dX3_hashOfGram_33 : decode cX3_hashOfGram 33 = .ok (.iinc 5 1, 3) := by decide +kernel
theorem dX3_hashOfGram_36 : decode cX3_hashOfGram 36 = .ok (.goto (-29), 3) := by decide +kernel
theorem dX3_hashOfGram_39 : decode cX3_hashOfGram 39 = .ok (.lload_n 3, 1) := by decide +kernel
theorem dX3_hashOfGram_40 : decode cX3_hashOfGram 40 = .ok (.l2i, 1) := by decide +kernel
theorem dX3_hashOfGram_41 : decode cX3_hashOfGram 41 = .ok (.ireturn, 1) := by decide +kernel
theorem dX3_lastOfLeast_0 : decode cX3_lastOfLeast 0 = .ok (.iload_n 1, 1) := by decide +kernel
theorem dX3_lastOfLeast_1 : decode cX3_lastOfLeast 1 = .ok (.istore_n 3, 1) := by decide +kernel
theorem dX3_lastOfLeast_2 : decode cX3_lastOfLeast 2 = .ok (.iload_n 1, 1) := by decide +kernel
theorem dX3_lastOfLeast_3 : decode cX3_lastOfLeast 3 = .ok (.iconst 1, 1) := by decide +kernel
theorem dX3_lastOfLeast_4 : decode cX3_lastOfLeast 4 = .ok (.iadd, 1) := by decide +kernel
theorem dX3_lastOfLeast_5 : decode cX3_lastOfLeast 5 = .ok (.istore 4, 2) := by decide +kernel
theorem dX3_lastOfLeast_7 : decode cX3_lastOfLeast 7 = .ok (.iload 4, 2) := by decide +kernel
theorem dX3_lastOfLeast_9 : decode cX3_lastOfLeast 9 = .ok (.iload_n 2, 1) := by decide +kernel
theorem dX3_lastOfLeast_10 : decode cX3_lastOfLeast 10 = .ok (.if_icmp .ge 28, 3) := by decide +kernel
theorem dX3_lastOfLeast_13 : decode cX3_lastOfLeast 13 = .ok (.aload_n 0, 1) := by decide +kernel
theorem dX3_lastOfLeast_14 : decode cX3_lastOfLeast 14 = .ok (.getfield 15, 3) := by decide +kernel
theorem dX3_lastOfLeast_17 : decode cX3_lastOfLeast 17 = .ok (.iload 4, 2) := by decide +kernel
theorem dX3_lastOfLeast_19 : decode cX3_lastOfLeast 19 = .ok (.iaload, 1) := by decide +kernel
theorem dX3_lastOfLeast_20 : decode cX3_lastOfLeast 20 = .ok (.aload_n 0, 1) := by decide +kernel
theorem dX3_lastOfLeast_21 : decode cX3_lastOfLeast 21 = .ok (.getfield 15, 3) := by decide +kernel
theorem dX3_lastOfLeast_24 : decode cX3_lastOfLeast 24 = .ok (.iload_n 3, 1) := by decide +kernel
theorem dX3_lastOfLeast_25 : decode cX3_lastOfLeast 25 = .ok (.iaload, 1) := by decide +kernel
theorem dX3_lastOfLeast_26 : decode cX3_lastOfLeast 26 = .ok (.if_icmp .gt 6, 3) := by decide +kernel
theorem dX3_lastOfLeast_29 : decode cX3_lastOfLeast 29 = .ok (.iload 4, 2) := by decide +kernel
theorem dX3_lastOfLeast_31 : decode cX3_lastOfLeast 31 = .ok (.istore_n 3, 1) := by decide +kernel
theorem dX3_lastOfLeast_32 : decode cX3_lastOfLeast 32 = .ok (.iinc 4 1, 3) := by decide +kernel
theorem dX3_lastOfLeast_35 : decode cX3_lastOfLeast 35 = .ok (.goto (-28), 3) := by decide +kernel
theorem dX3_lastOfLeast_38 : decode cX3_lastOfLeast 38 = .ok (.iload_n 3, 1) := by decide +kernel
theorem dX3_lastOfLeast_39 : decode cX3_lastOfLeast 39 = .ok (.ireturn, 1) := by decide +kernel
theorem dX3_howManyMarks_0 : decode cX3_howManyMarks 0 = .ok (.iconst 0, 1) := by decide +kernel
theorem dX3_howManyMarks_1 : decode cX3_howManyMarks 1 = .ok (.istore_n 1, 1) := by decide +kernel
theorem dX3_howManyMarks_2 : decode cX3_howManyMarks 2 = .ok (.iconst 0, 1) := by decide +kernel
theorem dX3_howManyMarks_3 : decode cX3_howManyMarks 3 = .ok (.istore_n 2, 1) := by decide +kernel
theorem dX3_howManyMarks_4 : decode cX3_howManyMarks 4 = .ok (.iload_n 2, 1) := by decide +kernel
theorem dX3_howManyMarks_5 : decode cX3_howManyMarks 5 = .ok (.aload_n 0, 1) := by decide +kernel
theorem dX3_howManyMarks_6 : decode cX3_howManyMarks 6 = .ok (.getfield 36, 3) := by decide +kernel
theorem dX3_howManyMarks_9 : decode cX3_howManyMarks 9 = .ok (.if_icmp .ge 21, 3) := by decide +kernel
theorem dX3_howManyMarks_12 : decode cX3_howManyMarks 12 = .ok (.aload_n 0, 1) := by decide +kernel
theorem dX3_howManyMarks_13 : decode cX3_howManyMarks 13 = .ok (.getfield 19, 3) := by decide +kernel
theorem dX3_howManyMarks_16 : decode cX3_howManyMarks 16 = .ok (.iload_n 2, 1) := by decide +kernel
theorem dX3_howManyMarks_17 : decode cX3_howManyMarks 17 = .ok (.baload, 1) := by decide +kernel
theorem dX3_howManyMarks_18 : decode cX3_howManyMarks 18 = .ok (.ifCond .eq 6, 3) := by decide +kernel
theorem dX3_howManyMarks_21 : decode cX3_howManyMarks 21 = .ok (.iinc 1 1, 3) := by decide +kernel
theorem dX3_howManyMarks_24 : decode cX3_howManyMarks 24 = .ok (.iinc 2 1, 3) := by decide +kernel
theorem dX3_howManyMarks_27 : decode cX3_howManyMarks 27 = .ok (.goto (-23), 3) := by decide +kernel
theorem dX3_howManyMarks_30 : decode cX3_howManyMarks 30 = .ok (.iload_n 1, 1) := by decide +kernel
theorem dX3_howManyMarks_31 : decode cX3_howManyMarks 31 = .ok (.ireturn, 1) := by decide +kernel
theorem dX3_gramOfMark_0 : decode cX3_gramOfMark 0 = .ok (.iconst 0, 1) := by decide +kernel
theorem dX3_gramOfMark_1 : decode cX3_gramOfMark 1 = .ok (.istore_n 2, 1) := by decide +kernel
theorem dX3_gramOfMark_2 : decode cX3_gramOfMark 2 = .ok (.iconst 0, 1) := by decide +kernel
theorem dX3_gramOfMark_3 : decode cX3_gramOfMark 3 = .ok (.istore_n 3, 1) := by decide +kernel
theorem dX3_gramOfMark_4 : decode cX3_gramOfMark 4 = .ok (.iload_n 3, 1) := by decide +kernel
theorem dX3_gramOfMark_5 : decode cX3_gramOfMark 5 = .ok (.aload_n 0, 1) := by decide +kernel
theorem dX3_gramOfMark_6 : decode cX3_gramOfMark 6 = .ok (.getfield 36, 3) := by decide +kernel
theorem dX3_gramOfMark_9 : decode cX3_gramOfMark 9 = .ok (.if_icmp .ge 28, 3) := by decide +kernel
theorem dX3_gramOfMark_12 : decode cX3_gramOfMark 12 = .ok (.aload_n 0, 1) := by decide +kernel
theorem dX3_gramOfMark_13 : decode cX3_gramOfMark 13 = .ok (.getfield 19, 3) := by decide +kernel
theorem dX3_gramOfMark_16 : decode cX3_gramOfMark 16 = .ok (.iload_n 3, 1) := by decide +kernel
theorem dX3_gramOfMark_17 : decode cX3_gramOfMark 17 = .ok (.baload, 1) := by decide +kernel
theorem dX3_gramOfMark_18 : decode cX3_gramOfMark 18 = .ok (.ifCond .eq 13, 3) := by decide +kernel
theorem dX3_gramOfMark_21 : decode cX3_gramOfMark 21 = .ok (.iload_n 2, 1) := by decide +kernel
theorem dX3_gramOfMark_22 : decode cX3_gramOfMark 22 = .ok (.iload_n 1, 1) := by decide +kernel
theorem dX3_gramOfMark_23 : decode cX3_gramOfMark 23 = .ok (.if_icmp .ne 5, 3) := by decide +kernel
theorem dX3_gramOfMark_26 : decode cX3_gramOfMark 26 = .ok (.iload_n 3, 1) := by decide +kernel
theorem dX3_gramOfMark_27 : decode cX3_gramOfMark 27 = .ok (.ireturn, 1) := by decide +kernel
theorem dX3_gramOfMark_28 : decode cX3_gramOfMark 28 = .ok (.iinc 2 1, 3) := by decide +kernel
theorem dX3_gramOfMark_31 : decode cX3_gramOfMark 31 = .ok (.iinc 3 1, 3) := by decide +kernel
theorem dX3_gramOfMark_34 : decode cX3_gramOfMark 34 = .ok (.goto (-30), 3) := by decide +kernel
theorem dX3_gramOfMark_37 : decode cX3_gramOfMark 37 = .ok (.iconst (-1), 1) := by decide +kernel
theorem dX3_gramOfMark_38 : decode cX3_gramOfMark 38 = .ok (.ireturn, 1) := by decide +kernel
theorem dX3_setAside_0 : decode cX3_setAside 0 = .ok (.aload_n 0, 1) := by decide +kernel
theorem dX3_setAside_1 : decode cX3_setAside 1 = .ok (.getfield 33, 3) := by decide +kernel
theorem dX3_setAside_4 : decode cX3_setAside 4 = .ok (.aload_n 1, 1) := by decide +kernel
theorem dX3_setAside_5 : decode cX3_setAside 5 = .ok (.getfield 33, 3) := by decide +kernel
theorem dX3_setAside_8 : decode cX3_setAside 8 = .ok (.if_icmp .eq 4, 3) := by decide +kernel
theorem dX3_setAside_11 : decode cX3_setAside 11 = .ok (.return_, 1) := by decide +kernel
theorem dX3_setAside_12 : decode cX3_setAside 12 = .ok (.iconst 0, 1) := by decide +kernel
theorem dX3_setAside_13 : decode cX3_setAside 13 = .ok (.istore_n 3, 1) := by decide +kernel
theorem dX3_setAside_14 : decode cX3_setAside 14 = .ok (.iload_n 3, 1) := by decide +kernel
theorem dX3_setAside_15 : decode cX3_setAside 15 = .ok (.aload_n 1, 1) := by decide +kernel
theorem dX3_setAside_16 : decode cX3_setAside 16 = .ok (.getfield 29, 3) := by decide +kernel
theorem dX3_setAside_19 : decode cX3_setAside 19 = .ok (.if_icmp .ge 16, 3) := by decide +kernel
theorem dX3_setAside_22 : decode cX3_setAside 22 = .ok (.aload_n 0, 1) := by decide +kernel
theorem dX3_setAside_23 : decode cX3_setAside 23 = .ok (.getfield 26, 3) := by decide +kernel
theorem dX3_setAside_26 : decode cX3_setAside 26 = .ok (.iload_n 3, 1) := by decide +kernel
theorem dX3_setAside_27 : decode cX3_setAside 27 = .ok (.iconst 0, 1) := by decide +kernel
theorem dX3_setAside_28 : decode cX3_setAside 28 = .ok (.iastore, 1) := by decide +kernel
theorem dX3_setAside_29 : decode cX3_setAside 29 = .ok (.iinc 3 1, 3) := by decide +kernel
theorem dX3_setAside_32 : decode cX3_setAside 32 = .ok (.goto (-18), 3) := by decide +kernel
theorem dX3_setAside_35 : decode cX3_setAside 35 = .ok (.iconst 0, 1) := by decide +kernel
theorem dX3_setAside_36 : decode cX3_setAside 36 = .ok (.istore_n 3, 1) := by decide +kernel
theorem dX3_setAside_37 : decode cX3_setAside 37 = .ok (.iload_n 3, 1) := by decide +kernel
theorem dX3_setAside_38 : decode cX3_setAside 38 = .ok (.aload_n 0, 1) := by decide +kernel
theorem dX3_setAside_39 : decode cX3_setAside 39 = .ok (.getfield 29, 3) := by decide +kernel
theorem dX3_setAside_42 : decode cX3_setAside 42 = .ok (.if_icmp .ge 50, 3) := by decide +kernel
theorem dX3_setAside_45 : decode cX3_setAside 45 = .ok (.aload_n 0, 1) := by decide +kernel
theorem dX3_setAside_46 : decode cX3_setAside 46 = .ok (.iload_n 3, 1) := by decide +kernel
theorem dX3_setAside_47 : decode cX3_setAside 47 = .ok (.aload_n 1, 1) := by decide +kernel
theorem dX3_setAside_48 : decode cX3_setAside 48 = .ok (.invokevirtual 65, 3) := by decide +kernel
theorem dX3_setAside_51 : decode cX3_setAside 51 = .ok (.iload_n 2, 1) := by decide +kernel
theorem dX3_setAside_52 : decode cX3_setAside 52 = .ok (.if_icmp .lt 34, 3) := by decide +kernel
theorem dX3_setAside_55 : decode cX3_setAside 55 = .ok (.iconst 0, 1) := by decide +kernel
theorem dX3_setAside_56 : decode cX3_setAside 56 = .ok (.istore 4, 2) := by decide +kernel
theorem dX3_setAside_58 : decode cX3_setAside 58 = .ok (.iload 4, 2) := by decide +kernel
theorem dX3_setAside_60 : decode cX3_setAside 60 = .ok (.iload_n 2, 1) := by decide +kernel
theorem dX3_setAside_61 : decode cX3_setAside 61 = .ok (.if_icmp .ge 25, 3) := by decide +kernel
theorem dX3_setAside_64 : decode cX3_setAside 64 = .ok (.iload 4, 2) := by decide +kernel
theorem dX3_setAside_66 : decode cX3_setAside 66 = .ok (.iload_n 3, 1) := by decide +kernel
theorem dX3_setAside_67 : decode cX3_setAside 67 = .ok (.if_icmp .gt 19, 3) := by decide +kernel
theorem dX3_setAside_70 : decode cX3_setAside 70 = .ok (.aload_n 0, 1) := by decide +kernel
theorem dX3_setAside_71 : decode cX3_setAside 71 = .ok (.getfield 23, 3) := by decide +kernel
theorem dX3_setAside_74 : decode cX3_setAside 74 = .ok (.iload_n 3, 1) := by decide +kernel
theorem dX3_setAside_75 : decode cX3_setAside 75 = .ok (.iload 4, 2) := by decide +kernel
theorem dX3_setAside_77 : decode cX3_setAside 77 = .ok (.isub, 1) := by decide +kernel
theorem dX3_setAside_78 : decode cX3_setAside 78 = .ok (.iconst 1, 1) := by decide +kernel
theorem dX3_setAside_79 : decode cX3_setAside 79 = .ok (.bastore, 1) := by decide +kernel
theorem dX3_setAside_80 : decode cX3_setAside 80 = .ok (.iinc 4 1, 3) := by decide +kernel
theorem dX3_setAside_83 : decode cX3_setAside 83 = .ok (.goto (-25), 3) := by decide +kernel
theorem dX3_setAside_86 : decode cX3_setAside 86 = .ok (.iinc 3 1, 3) := by decide +kernel
theorem dX3_setAside_89 : decode cX3_setAside 89 = .ok (.goto (-52), 3) := by decide +kernel
theorem dX3_setAside_92 : decode cX3_setAside 92 = .ok (.return_, 1) := by decide +kernel
theorem dX3_longestSharedUpTo_0 : decode cX3_longestSharedUpTo 0 = .ok (.iconst 0, 1) := by decide +kernel
theorem dX3_longestSharedUpTo_1 : decode cX3_longestSharedUpTo 1 = .ok (.istore_n 3, 1) := by decide +kernel
theorem dX3_longestSharedUpTo_2 : decode cX3_longestSharedUpTo 2 = .ok (.aload_n 2, 1) := by decide +kernel
theorem dX3_longestSharedUpTo_3 : decode cX3_longestSharedUpTo 3 = .ok (.getfield 29, 3) := by decide +kernel
theorem dX3_longestSharedUpTo_6 : decode cX3_longestSharedUpTo 6 = .ok (.iconst 1, 1) := by decide +kernel
theorem dX3_longestSharedUpTo_7 : decode cX3_longestSharedUpTo 7 = .ok (.isub, 1) := by decide +kernel
theorem dX3_longestSharedUpTo_8 : decode cX3_longestSharedUpTo 8 = .ok (.istore 4, 2) := by decide +kernel
theorem dX3_longestSharedUpTo_10 : decode cX3_longestSharedUpTo 10 = .ok (.iload 4, 2) := by decide +kernel
theorem dX3_longestSharedUpTo_12 : decode cX3_longestSharedUpTo 12 = .ok (.ifCond .lt 80, 3) := by decide +kernel
theorem dX3_longestSharedUpTo_15 : decode cX3_longestSharedUpTo 15 = .ok (.iload 4, 2) := by decide +kernel
theorem dX3_longestSharedUpTo_17 : decode cX3_longestSharedUpTo 17 = .ok (.ifCond .le 15, 3) := by decide +kernel
theorem dX3_longestSharedUpTo_20 : decode cX3_longestSharedUpTo 20 = .ok (.aload_n 0, 1) := by decide +kernel
theorem dX3_longestSharedUpTo_21 : decode cX3_longestSharedUpTo 21 = .ok (.getfield 26, 3) := by decide +kernel
theorem dX3_longestSharedUpTo_24 : decode cX3_longestSharedUpTo 24 = .ok (.iload 4, 2) := by decide +kernel
theorem dX3_longestSharedUpTo_26 : decode cX3_longestSharedUpTo 26 = .ok (.iconst 1, 1) := by decide +kernel
theorem dX3_longestSharedUpTo_27 : decode cX3_longestSharedUpTo 27 = .ok (.isub, 1) := by decide +kernel
theorem dX3_longestSharedUpTo_28 : decode cX3_longestSharedUpTo 28 = .ok (.iaload, 1) := by decide +kernel
theorem dX3_longestSharedUpTo_29 : decode cX3_longestSharedUpTo 29 = .ok (.goto 4, 3) := by decide +kernel
theorem dX3_longestSharedUpTo_32 : decode cX3_longestSharedUpTo 32 = .ok (.iconst 0, 1) := by decide +kernel
theorem dX3_longestSharedUpTo_33 : decode cX3_longestSharedUpTo 33 = .ok (.istore 5, 2) := by decide +kernel
theorem dX3_longestSharedUpTo_35 : decode cX3_longestSharedUpTo 35 = .ok (.aload_n 0, 1) := by decide +kernel
theorem dX3_longestSharedUpTo_36 : decode cX3_longestSharedUpTo 36 = .ok (.getfield 26, 3) := by decide +kernel
theorem dX3_longestSharedUpTo_39 : decode cX3_longestSharedUpTo 39 = .ok (.iload 4, 2) := by decide +kernel
theorem dX3_longestSharedUpTo_41 : decode cX3_longestSharedUpTo 41 = .ok (.aload_n 0, 1) := by decide +kernel
theorem dX3_longestSharedUpTo_42 : decode cX3_longestSharedUpTo 42 = .ok (.getfield 9, 3) := by decide +kernel
theorem dX3_longestSharedUpTo_45 : decode cX3_longestSharedUpTo 45 = .ok (.iload_n 1, 1) := by decide +kernel
theorem dX3_longestSharedUpTo_46 : decode cX3_longestSharedUpTo 46 = .ok (.laload, 1) := by decide +kernel
theorem dX3_longestSharedUpTo_47 : decode cX3_longestSharedUpTo 47 = .ok (.aload_n 2, 1) := by decide +kernel
theorem dX3_longestSharedUpTo_48 : decode cX3_longestSharedUpTo 48 = .ok (.getfield 9, 3) := by decide +kernel
theorem dX3_longestSharedUpTo_51 : decode cX3_longestSharedUpTo 51 = .ok (.iload 4, 2) := by decide +kernel
theorem dX3_longestSharedUpTo_53 : decode cX3_longestSharedUpTo 53 = .ok (.laload, 1) := by decide +kernel
theorem dX3_longestSharedUpTo_54 : decode cX3_longestSharedUpTo 54 = .ok (.lcmp, 1) := by decide +kernel
theorem dX3_longestSharedUpTo_55 : decode cX3_longestSharedUpTo 55 = .ok (.ifCond .ne 10, 3) := by decide +kernel
theorem dX3_longestSharedUpTo_58 : decode cX3_longestSharedUpTo 58 = .ok (.iload 5, 2) := by decide +kernel
theorem dX3_longestSharedUpTo_60 : decode cX3_longestSharedUpTo 60 = .ok (.iconst 1, 1) := by decide +kernel
theorem dX3_longestSharedUpTo_61 : decode cX3_longestSharedUpTo 61 = .ok (.iadd, 1) := by decide +kernel
theorem dX3_longestSharedUpTo_62 : decode cX3_longestSharedUpTo 62 = .ok (.goto 4, 3) := by decide +kernel
theorem dX3_longestSharedUpTo_65 : decode cX3_longestSharedUpTo 65 = .ok (.iconst 0, 1) := by decide +kernel
theorem dX3_longestSharedUpTo_66 : decode cX3_longestSharedUpTo 66 = .ok (.iastore, 1) := by decide +kernel
theorem dX3_longestSharedUpTo_67 : decode cX3_longestSharedUpTo 67 = .ok (.aload_n 0, 1) := by decide +kernel
theorem dX3_longestSharedUpTo_68 : decode cX3_longestSharedUpTo 68 = .ok (.getfield 26, 3) := by decide +kernel
theorem dX3_longestSharedUpTo_71 : decode cX3_longestSharedUpTo 71 = .ok (.iload 4, 2) := by decide +kernel
theorem dX3_longestSharedUpTo_73 : decode cX3_longestSharedUpTo 73 = .ok (.iaload, 1) := by decide +kernel
theorem dX3_longestSharedUpTo_74 : decode cX3_longestSharedUpTo 74 = .ok (.iload_n 3, 1) := by decide +kernel
theorem dX3_longestSharedUpTo_75 : decode cX3_longestSharedUpTo 75 = .ok (.if_icmp .le 11, 3) := by decide +kernel
theorem dX3_longestSharedUpTo_78 : decode cX3_longestSharedUpTo 78 = .ok (.aload_n 0, 1) := by decide +kernel
theorem dX3_longestSharedUpTo_79 : decode cX3_longestSharedUpTo 79 = .ok (.getfield 26, 3) := by decide +kernel
theorem dX3_longestSharedUpTo_82 : decode cX3_longestSharedUpTo 82 = .ok (.iload 4, 2) := by decide +kernel
theorem dX3_longestSharedUpTo_84 : decode cX3_longestSharedUpTo 84 = .ok (.iaload, 1) := by decide +kernel
theorem dX3_longestSharedUpTo_85 : decode cX3_longestSharedUpTo 85 = .ok (.istore_n 3, 1) := by decide +kernel
theorem dX3_longestSharedUpTo_86 : decode cX3_longestSharedUpTo 86 = .ok (.iinc 4 (-1), 3) := by decide +kernel
theorem dX3_longestSharedUpTo_89 : decode cX3_longestSharedUpTo 89 = .ok (.goto (-79), 3) := by decide +kernel
theorem dX3_longestSharedUpTo_92 : decode cX3_longestSharedUpTo 92 = .ok (.iload_n 3, 1) := by decide +kernel
theorem dX3_longestSharedUpTo_93 : decode cX3_longestSharedUpTo 93 = .ok (.ireturn, 1) := by decide +kernel
theorem dX4_init_0 : decode cX4_init 0 = .ok (.aload_n 0, 1) := by decide +kernel
theorem dX4_init_1 : decode cX4_init 1 = .ok (.invokespecial 3, 3) := by decide +kernel
theorem dX4_init_4 : decode cX4_init 4 = .ok (.aload_n 0, 1) := by decide +kernel
theorem dX4_init_5 : decode cX4_init 5 = .ok (.iconst 0, 1) := by decide +kernel
theorem dX4_init_6 : decode cX4_init 6 = .ok (.putfield 11, 3) := by decide +kernel
theorem dX4_init_9 : decode cX4_init 9 = .ok (.aload_n 0, 1) := by decide +kernel
theorem dX4_init_10 : decode cX4_init 10 = .ok (.iconst 0, 1) := by decide +kernel
theorem dX4_init_11 : decode cX4_init 11 = .ok (.putfield 15, 3) := by decide +kernel
theorem dX4_init_14 : decode cX4_init 14 = .ok (.aload_n 0, 1) := by decide +kernel
theorem dX4_init_15 : decode cX4_init 15 = .ok (.lconst 0, 1) := by decide +kernel
theorem dX4_init_16 : decode cX4_init 16 = .ok (.putfield 18, 3) := by decide +kernel
theorem dX4_init_19 : decode cX4_init 19 = .ok (.return_, 1) := by decide +kernel
theorem dX4_read_0 : decode cX4_read 0 = .ok (.aload_n 0, 1) := by decide +kernel
theorem dX4_read_1 : decode cX4_read 1 = .ok (.iconst 0, 1) := by decide +kernel
theorem dX4_read_2 : decode cX4_read 2 = .ok (.putfield 11, 3) := by decide +kernel
theorem dX4_read_5 : decode cX4_read 5 = .ok (.iconst 0, 1) := by decide +kernel
theorem dX4_read_6 : decode cX4_read 6 = .ok (.istore_n 3, 1) := by decide +kernel
theorem dX4_read_7 : decode cX4_read 7 = .ok (.iload_n 3, 1) := by decide +kernel
theorem dX4_read_8 : decode cX4_read 8 = .ok (.aload_n 1, 1) := by decide +kernel
theorem dX4_read_9 : decode cX4_read 9 = .ok (.getfield 22, 3) := by decide +kernel
theorem dX4_read_12 : decode cX4_read 12 = .ok (.if_icmp .ge 20, 3) := by decide +kernel
theorem dX4_read_15 : decode cX4_read 15 = .ok (.aload_n 0, 1) := by decide +kernel
theorem dX4_read_16 : decode cX4_read 16 = .ok (.aload_n 1, 1) := by decide +kernel
theorem dX4_read_17 : decode cX4_read 17 = .ok (.getfield 27, 3) := by decide +kernel
theorem dX4_read_20 : decode cX4_read 20 = .ok (.iload_n 3, 1) := by decide +kernel
theorem dX4_read_21 : decode cX4_read 21 = .ok (.baload, 1) := by decide +kernel
theorem dX4_read_22 : decode cX4_read 22 = .ok (.aload_n 2, 1) := by decide +kernel
theorem dX4_read_23 : decode cX4_read 23 = .ok (.invokevirtual 31, 3) := by decide +kernel
theorem dX4_read_26 : decode cX4_read 26 = .ok (.iinc 3 1, 3) := by decide +kernel
theorem dX4_read_29 : decode cX4_read 29 = .ok (.goto (-22), 3) := by decide +kernel
theorem dX4_read_32 : decode cX4_read 32 = .ok (.aload_n 0, 1) := by decide +kernel
theorem dX4_read_33 : decode cX4_read 33 = .ok (.aload_n 2, 1) := by decide +kernel
theorem dX4_read_34 : decode cX4_read 34 = .ok (.invokevirtual 35, 3) := by decide +kernel
theorem dX4_read_37 : decode cX4_read 37 = .ok (.return_, 1) := by decide +kernel
theorem dX4_takeByte_0 : decode cX4_takeByte 0 = .ok (.iload_n 1, 1) := by decide +kernel
theorem dX4_takeByte_1 : decode cX4_takeByte 1 = .ok (.invokestatic 39, 3) := by decide +kernel
theorem dX4_takeByte_4 : decode cX4_takeByte 4 = .ok (.istore_n 3, 1) := by decide +kernel
theorem dX4_takeByte_5 : decode cX4_takeByte 5 = .ok (.aload_n 0, 1) := by decide +kernel
theorem dX4_takeByte_6 : decode cX4_takeByte 6 = .ok (.getfield 11, 3) := by decide +kernel
theorem dX4_takeByte_9 : decode cX4_takeByte 9 = .ok (.iconst 1, 1) := by decide +kernel
theorem dX4_takeByte_10 : decode cX4_takeByte 10 = .ok (.if_icmp .ne 15, 3) := by decide +kernel
theorem dX4_takeByte_13 : decode cX4_takeByte 13 = .ok (.iload_n 3, 1) := by decide +kernel
theorem dX4_takeByte_14 : decode cX4_takeByte 14 = .ok (.ifCond .le 11, 3) := by decide +kernel
theorem dX4_takeByte_17 : decode cX4_takeByte 17 = .ok (.aload_n 0, 1) := by decide +kernel
theorem dX4_takeByte_18 : decode cX4_takeByte 18 = .ok (.iload_n 3, 1) := by decide +kernel
theorem dX4_takeByte_19 : decode cX4_takeByte 19 = .ok (.invokevirtual 43, 3) := by decide +kernel
theorem dX4_takeByte_22 : decode cX4_takeByte 22 = .ok (.goto 29, 3) := by decide +kernel
theorem dX4_takeByte_25 : decode cX4_takeByte 25 = .ok (.aload_n 0, 1) := by decide +kernel
theorem dX4_takeByte_26 : decode cX4_takeByte 26 = .ok (.getfield 11, 3) := by decide +kernel
theorem dX4_takeByte_29 : decode cX4_takeByte 29 = .ok (.iconst 2, 1) := by decide +kernel
theorem dX4_takeByte_30 : decode cX4_takeByte 30 = .ok (.if_icmp .ne 9, 3) := by decide +kernel
theorem dX4_takeByte_33 : decode cX4_takeByte 33 = .ok (.iload_n 3, 1) := by decide +kernel
theorem dX4_takeByte_34 : decode cX4_takeByte 34 = .ok (.bipush 26, 2) := by decide +kernel
theorem dX4_takeByte_36 : decode cX4_takeByte 36 = .ok (.if_icmp .gt 15, 3) := by decide +kernel
theorem dX4_takeByte_39 : decode cX4_takeByte 39 = .ok (.aload_n 0, 1) := by decide +kernel
theorem dX4_takeByte_40 : decode cX4_takeByte 40 = .ok (.aload_n 2, 1) := by decide +kernel
theorem dX4_takeByte_41 : decode cX4_takeByte 41 = .ok (.invokevirtual 35, 3) := by decide +kernel
theorem dX4_takeByte_44 : decode cX4_takeByte 44 = .ok (.aload_n 0, 1) := by decide +kernel
theorem dX4_takeByte_45 : decode cX4_takeByte 45 = .ok (.iload_n 1, 1) := by decide +kernel
theorem dX4_takeByte_46 : decode cX4_takeByte 46 = .ok (.iload_n 3, 1) := by decide +kernel
theorem dX4_takeByte_47 : decode cX4_takeByte 47 = .ok (.aload_n 2, 1) := by decide +kernel
theorem dX4_takeByte_48 : decode cX4_takeByte 48 = .ok (.invokevirtual 47, 3) := by decide +kernel
theorem dX4_takeByte_51 : decode cX4_takeByte 51 = .ok (.return_, 1) := by decide +kernel
theorem dX4_beginPiece_0 : decode cX4_beginPiece 0 = .ok (.iload_n 2, 1) := by decide +kernel
theorem dX4_beginPiece_1 : decode cX4_beginPiece 1 = .ok (.bipush 26, 2) := by decide +kernel
theorem dX4_beginPiece_3 : decode cX4_beginPiece 3 = .ok (.if_icmp .le 11, 3) := by decide +kernel
theorem dX4_beginPiece_6 : decode cX4_beginPiece 6 = .ok (.aload_n 0, 1) := by decide +kernel
theorem dX4_beginPiece_7 : decode cX4_beginPiece 7 = .ok (.iconst 2, 1) := by decide +kernel
theorem dX4_beginPiece_8 : decode cX4_beginPiece 8 = .ok (.putfield 11, 3) := by decide +kernel
theorem dX4_beginPiece_11 : decode cX4_beginPiece 11 = .ok (.goto 53, 3) := by decide +kernel
theorem dX4_beginPiece_14 : decode cX4_beginPiece 14 = .ok (.iload_n 2, 1) := by decide +kernel
theorem dX4_beginPiece_15 : decode cX4_beginPiece 15 = .ok (.ifCond .le 26, 3) := by decide +kernel
theorem dX4_beginPiece_18 : decode cX4_beginPiece 18 = .ok (.aload_n 0, 1) := by decide +kernel
theorem dX4_beginPiece_19 : decode cX4_beginPiece 19 = .ok (.iconst 1, 1) := by decide +kernel
theorem dX4_beginPiece_20 : decode cX4_beginPiece 20 = .ok (.putfield 11, 3) := by decide +kernel
theorem dX4_beginPiece_23 : decode cX4_beginPiece 23 = .ok (.aload_n 0, 1) := by decide +kernel
theorem dX4_beginPiece_24 : decode cX4_beginPiece 24 = .ok (.iconst 0, 1) := by decide +kernel
theorem dX4_beginPiece_25 : decode cX4_beginPiece 25 = .ok (.putfield 15, 3) := by decide +kernel
theorem dX4_beginPiece_28 : decode cX4_beginPiece 28 = .ok (.aload_n 0, 1) := by decide +kernel
theorem dX4_beginPiece_29 : decode cX4_beginPiece 29 = .ok (.lconst 0, 1) := by decide +kernel
theorem dX4_beginPiece_30 : decode cX4_beginPiece 30 = .ok (.putfield 18, 3) := by decide +kernel
theorem dX4_beginPiece_33 : decode cX4_beginPiece 33 = .ok (.aload_n 0, 1) := by decide +kernel
theorem dX4_beginPiece_34 : decode cX4_beginPiece 34 = .ok (.iload_n 2, 1) := by decide +kernel
theorem dX4_beginPiece_35 : decode cX4_beginPiece 35 = .ok (.invokevirtual 43, 3) := by decide +kernel
theorem dX4_beginPiece_38 : decode cX4_beginPiece 38 = .ok (.goto 26, 3) := by decide +kernel
theorem dX4_beginPiece_41 : decode cX4_beginPiece 41 = .ok (.iload_n 1, 1) := by decide +kernel
theorem dX4_beginPiece_42 : decode cX4_beginPiece 42 = .ok (.bipush 32, 2) := by decide +kernel
theorem dX4_beginPiece_44 : decode cX4_beginPiece 44 = .ok (.if_icmp .eq 20, 3) := by decide +kernel
theorem dX4_beginPiece_47 : decode cX4_beginPiece 47 = .ok (.aload_n 3, 1) := by decide +kernel
theorem dX4_beginPiece_48 : decode cX4_beginPiece 48 = .ok (.getfield 51, 3) := by decide +kernel
theorem dX4_beginPiece_51 : decode cX4_beginPiece 51 = .ok (.iconst 1, 1) := by decide +kernel
theorem dX4_beginPiece_52 : decode cX4_beginPiece 52 = .ok (.if_icmp .ne 12, 3) := by decide +kernel
theorem dX4_beginPiece_55 : decode cX4_beginPiece 55 = .ok (.aload_n 3, 1) := by decide +kernel
theorem dX4_beginPiece_56 : decode cX4_beginPiece 56 = .ok (.bipush 100, 2) := by decide +kernel
theorem dX4_beginPiece_58 : decode cX4_beginPiece 58 = .ok (.iload_n 1, 1) := by decide +kernel
theorem dX4_beginPiece_59 : decode cX4_beginPiece 59 = .ok (.iadd, 1) := by decide +kernel
theorem dX4_beginPiece_60 : decode cX4_beginPiece 60 = .ok (.i2l, 1) := by decide +kernel
theorem dX4_beginPiece_61 : decode cX4_beginPiece 61 = .ok (.invokevirtual 56, 3) := by decide +kernel
theorem dX4_beginPiece_64 : decode cX4_beginPiece 64 = .ok (.return_, 1) := by decide +kernel
theorem dX4_endPiece_0 : decode cX4_endPiece 0 = .ok (.aload_n 0, 1) := by decide +kernel
theorem dX4_endPiece_1 : decode cX4_endPiece 1 = .ok (.getfield 11, 3) := by decide +kernel
theorem dX4_endPiece_4 : decode cX4_endPiece 4 = .ok (.iconst 1, 1) := by decide +kernel
theorem dX4_endPiece_5 : decode cX4_endPiece 5 = .ok (.if_icmp .ne 30, 3) := by decide +kernel
theorem dX4_endPiece_8 : decode cX4_endPiece 8 = .ok (.aload_n 1, 1) := by decide +kernel
theorem dX4_endPiece_9 : decode cX4_endPiece 9 = .ok (.aload_n 1, 1) := by decide +kernel
theorem dX4_endPiece_10 : decode cX4_endPiece 10 = .ok (.getfield 51, 3) := by decide +kernel
theorem dX4_endPiece_13 : decode cX4_endPiece 13 = .ok (.iconst 1, 1) := by decide +kernel
theorem dX4_endPiece_14 : decode cX4_endPiece 14 = .ok (.if_icmp .ne 11, 3) := by decide +kernel
theorem dX4_endPiece_17 : decode cX4_endPiece 17 = .ok (.aload_n 0, 1) := by decide +kernel
theorem dX4_endPiece_18 : decode cX4_endPiece 18 = .ok (.invokevirtual 60, 3) := by decide +kernel
theorem dX4_endPiece_21 : decode cX4_endPiece 21 = .ok (.i2l, 1) := by decide +kernel
theorem dX4_endPiece_22 : decode cX4_endPiece 22 = .ok (.goto 7, 3) := by decide +kernel
theorem dX4_endPiece_25 : decode cX4_endPiece 25 = .ok (.aload_n 0, 1) := by decide +kernel
theorem dX4_endPiece_26 : decode cX4_endPiece 26 = .ok (.getfield 18, 3) := by decide +kernel
theorem dX4_endPiece_29 : decode cX4_endPiece 29 = .ok (.invokevirtual 56, 3) := by decide +kernel
theorem dX4_endPiece_32 : decode cX4_endPiece 32 = .ok (.goto 26, 3) := by decide +kernel
theorem dX4_endPiece_35 : decode cX4_endPiece 35 = .ok (.aload_n 0, 1) := by decide +kernel
theorem dX4_endPiece_36 : decode cX4_endPiece 36 = .ok (.getfield 11, 3) := by decide +kernel
theorem dX4_endPiece_39 : decode cX4_endPiece 39 = .ok (.iconst 2, 1) := by decide +kernel
theorem dX4_endPiece_40 : decode cX4_endPiece 40 = .ok (.if_icmp .ne 18, 3) := by decide +kernel
theorem dX4_endPiece_43 : decode cX4_endPiece 43 = .ok (.aload_n 1, 1) := by decide +kernel
theorem dX4_endPiece_44 : decode cX4_endPiece 44 = .ok (.getfield 51, 3) := by decide +kernel
theorem dX4_endPiece_47 : decode cX4_endPiece 47 = .ok (.iconst 1, 1) := by decide +kernel
theorem dX4_endPiece_48 : decode cX4_endPiece 48 = .ok (.if_icmp .ne 10, 3) := by decide +kernel
theorem dX4_endPiece_51 : decode cX4_endPiece 51 = .ok (.aload_n 1, 1) := by decide +kernel
theorem dX4_endPiece_52 : decode cX4_endPiece 52 = .ok (.ldc2_w 64, 3) := by decide +kernel
theorem dX4_endPiece_55 : decode cX4_endPiece 55 = .ok (.invokevirtual 56, 3) := by decide +kernel
theorem dX4_endPiece_58 : decode cX4_endPiece 58 = .ok (.aload_n 0, 1) := by decide +kernel
theorem dX4_endPiece_59 : decode cX4_endPiece 59 = .ok (.iconst 0, 1) := by decide +kernel
theorem dX4_endPiece_60 : decode cX4_endPiece 60 = .ok (.putfield 11, 3) := by decide +kernel
theorem dX4_endPiece_63 : decode cX4_endPiece 63 = .ok (.return_, 1) := by decide +kernel
theorem dX4_lengthenWord_0 : decode cX4_lengthenWord 0 = .ok (.aload_n 0, 1) := by decide +kernel
theorem dX4_lengthenWord_1 : decode cX4_lengthenWord 1 = .ok (.getfield 15, 3) := by decide +kernel
theorem dX4_lengthenWord_4 : decode cX4_lengthenWord 4 = .ok (.bipush 6, 2) := by decide +kernel
theorem dX4_lengthenWord_6 : decode cX4_lengthenWord 6 = .ok (.if_icmp .ge 28, 3) := by decide +kernel
theorem dX4_lengthenWord_9 : decode cX4_lengthenWord 9 = .ok (.aload_n 0, 1) := by decide +kernel
theorem dX4_lengthenWord_10 : decode cX4_lengthenWord 10 = .ok (.aload_n 0, 1) := by decide +kernel
theorem dX4_lengthenWord_11 : decode cX4_lengthenWord 11 = .ok (.getfield 18, 3) := by decide +kernel
theorem dX4_lengthenWord_14 : decode cX4_lengthenWord 14 = .ok (.ldc2_w 66, 3) := by decide +kernel
theorem dX4_lengthenWord_17 : decode cX4_lengthenWord 17 = .ok (.lmul, 1) := by decide +kernel
theorem dX4_lengthenWord_18 : decode cX4_lengthenWord 18 = .ok (.iload_n 1, 1) := by decide +kernel
theorem dX4_lengthenWord_19 : decode cX4_lengthenWord 19 = .ok (.i2l, 1) := by decide +kernel
theorem dX4_lengthenWord_20 : decode cX4_lengthenWord 20 = .ok (.ladd, 1) := by decide +kernel
theorem dX4_lengthenWord_21 : decode cX4_lengthenWord 21 = .ok (.putfield 18, 3) := by decide +kernel
theorem dX4_lengthenWord_24 : decode cX4_lengthenWord 24 = .ok (.aload_n 0, 1) := by decide +kernel
theorem dX4_lengthenWord_25 : decode cX4_lengthenWord 25 = .ok (.dup, 1) := by decide +kernel
theorem dX4_lengthenWord_26 : decode cX4_lengthenWord 26 = .ok (.getfield 15, 3) := by decide +kernel
theorem dX4_lengthenWord_29 : decode cX4_lengthenWord 29 = .ok (.iconst 1, 1) := by decide +kernel
theorem dX4_lengthenWord_30 : decode cX4_lengthenWord 30 = .ok (.iadd, 1) := by decide +kernel
theorem dX4_lengthenWord_31 : decode cX4_lengthenWord 31 = .ok (.putfield 15, 3) := by decide +kernel
theorem dX4_lengthenWord_34 : decode cX4_lengthenWord 34 = .ok (.return_, 1) := by decide +kernel
theorem dX4_codeOfWord_0 : decode cX4_codeOfWord 0 = .ok (.iconst 0, 1) := by decide +kernel
theorem dX4_codeOfWord_1 : decode cX4_codeOfWord 1 = .ok (.istore_n 1, 1) := by decide +kernel
theorem dX4_codeOfWord_2 : decode cX4_codeOfWord 2 = .ok (.iload_n 1, 1) := by decide +kernel
theorem dX4_codeOfWord_3 : decode cX4_codeOfWord 3 = .ok (.getstatic 68, 3) := by decide +kernel
theorem dX4_codeOfWord_6 : decode cX4_codeOfWord 6 = .ok (.arraylength, 1) := by decide +kernel
theorem dX4_codeOfWord_7 : decode cX4_codeOfWord 7 = .ok (.if_icmp .ge 27, 3) := by decide +kernel
theorem dX4_codeOfWord_10 : decode cX4_codeOfWord 10 = .ok (.aload_n 0, 1) := by decide +kernel
theorem dX4_codeOfWord_11 : decode cX4_codeOfWord 11 = .ok (.getfield 18, 3) := by decide +kernel
theorem dX4_codeOfWord_14 : decode cX4_codeOfWord 14 = .ok (.getstatic 68, 3) := by decide +kernel
theorem dX4_codeOfWord_17 : decode cX4_codeOfWord 17 = .ok (.iload_n 1, 1) := by decide +kernel
theorem dX4_codeOfWord_18 : decode cX4_codeOfWord 18 = .ok (.iaload, 1) := by decide +kernel
theorem dX4_codeOfWord_19 : decode cX4_codeOfWord 19 = .ok (.i2l, 1) := by decide +kernel
theorem dX4_codeOfWord_20 : decode cX4_codeOfWord 20 = .ok (.lcmp, 1) := by decide +kernel
theorem dX4_codeOfWord_21 : decode cX4_codeOfWord 21 = .ok (.ifCond .ne 7, 3) := by decide +kernel
theorem dX4_codeOfWord_24 : decode cX4_codeOfWord 24 = .ok (.iload_n 1, 1) := by decide +kernel
theorem dX4_codeOfWord_25 : decode cX4_codeOfWord 25 = .ok (.iconst 1, 1) := by decide +kernel
theorem dX4_codeOfWord_26 : decode cX4_codeOfWord 26 = .ok (.iadd, 1) := by decide +kernel
theorem dX4_codeOfWord_27 : decode cX4_codeOfWord 27 = .ok (.ireturn, 1) := by decide +kernel
theorem dX4_codeOfWord_28 : decode cX4_codeOfWord 28 = .ok (.iinc 1 1, 3) := by decide +kernel
theorem dX4_codeOfWord_31 : decode cX4_codeOfWord 31 = .ok (.goto (-29), 3) := by decide +kernel
theorem dX4_codeOfWord_34 : decode cX4_codeOfWord 34 = .ok (.bipush 6, 2) := by decide +kernel
theorem dX4_codeOfWord_36 : decode cX4_codeOfWord 36 = .ok (.ireturn, 1) := by decide +kernel
theorem dX4_valueOf_0 : decode cX4_valueOf 0 = .ok (.iload_n 0, 1) := by decide +kernel
theorem dX4_valueOf_1 : decode cX4_valueOf 1 = .ok (.bipush 97, 2) := by decide +kernel
theorem dX4_valueOf_3 : decode cX4_valueOf 3 = .ok (.if_icmp .lt 16, 3) := by decide +kernel
theorem dX4_valueOf_6 : decode cX4_valueOf 6 = .ok (.iload_n 0, 1) := by decide +kernel
theorem dX4_valueOf_7 : decode cX4_valueOf 7 = .ok (.bipush 122, 2) := by decide +kernel
theorem dX4_valueOf_9 : decode cX4_valueOf 9 = .ok (.if_icmp .gt 10, 3) := by decide +kernel
theorem dX4_valueOf_12 : decode cX4_valueOf 12 = .ok (.iload_n 0, 1) := by decide +kernel
theorem dX4_valueOf_13 : decode cX4_valueOf 13 = .ok (.bipush 97, 2) := by decide +kernel
theorem dX4_valueOf_15 : decode cX4_valueOf 15 = .ok (.isub, 1) := by decide +kernel
theorem dX4_valueOf_16 : decode cX4_valueOf 16 = .ok (.iconst 1, 1) := by decide +kernel
theorem dX4_valueOf_17 : decode cX4_valueOf 17 = .ok (.iadd, 1) := by decide +kernel
theorem dX4_valueOf_18 : decode cX4_valueOf 18 = .ok (.ireturn, 1) := by decide +kernel
theorem dX4_valueOf_19 : decode cX4_valueOf 19 = .ok (.iload_n 0, 1) := by decide +kernel
theorem dX4_valueOf_20 : decode cX4_valueOf 20 = .ok (.bipush 65, 2) := by decide +kernel
theorem dX4_valueOf_22 : decode cX4_valueOf 22 = .ok (.if_icmp .lt 16, 3) := by decide +kernel
theorem dX4_valueOf_25 : decode cX4_valueOf 25 = .ok (.iload_n 0, 1) := by decide +kernel
theorem dX4_valueOf_26 : decode cX4_valueOf 26 = .ok (.bipush 90, 2) := by decide +kernel
theorem dX4_valueOf_28 : decode cX4_valueOf 28 = .ok (.if_icmp .gt 10, 3) := by decide +kernel
theorem dX4_valueOf_31 : decode cX4_valueOf 31 = .ok (.iload_n 0, 1) := by decide +kernel
theorem dX4_valueOf_32 : decode cX4_valueOf 32 = .ok (.bipush 65, 2) := by decide +kernel
theorem dX4_valueOf_34 : decode cX4_valueOf 34 = .ok (.isub, 1) := by decide +kernel
theorem dX4_valueOf_35 : decode cX4_valueOf 35 = .ok (.iconst 1, 1) := by decide +kernel
theorem dX4_valueOf_36 : decode cX4_valueOf 36 = .ok (.iadd, 1) := by decide +kernel
theorem dX4_valueOf_37 : decode cX4_valueOf 37 = .ok (.ireturn, 1) := by decide +kernel
theorem dX4_valueOf_38 : decode cX4_valueOf 38 = .ok (.iload_n 0, 1) := by decide +kernel
theorem dX4_valueOf_39 : decode cX4_valueOf 39 = .ok (.bipush 48, 2) := by decide +kernel
theorem dX4_valueOf_41 : decode cX4_valueOf 41 = .ok (.if_icmp .lt 19, 3) := by decide +kernel
theorem dX4_valueOf_44 : decode cX4_valueOf 44 = .ok (.iload_n 0, 1) := by decide +kernel
theorem dX4_valueOf_45 : decode cX4_valueOf 45 = .ok (.bipush 57, 2) := by decide +kernel
theorem dX4_valueOf_47 : decode cX4_valueOf 47 = .ok (.if_icmp .gt 13, 3) := by decide +kernel
theorem dX4_valueOf_50 : decode cX4_valueOf 50 = .ok (.iload_n 0, 1) := by decide +kernel
theorem dX4_valueOf_51 : decode cX4_valueOf 51 = .ok (.bipush 48, 2) := by decide +kernel
theorem dX4_valueOf_53 : decode cX4_valueOf 53 = .ok (.isub, 1) := by decide +kernel
theorem dX4_valueOf_54 : decode cX4_valueOf 54 = .ok (.bipush 26, 2) := by decide +kernel
theorem dX4_valueOf_56 : decode cX4_valueOf 56 = .ok (.iadd, 1) := by decide +kernel
theorem dX4_valueOf_57 : decode cX4_valueOf 57 = .ok (.iconst 1, 1) := by decide +kernel
theorem dX4_valueOf_58 : decode cX4_valueOf 58 = .ok (.iadd, 1) := by decide +kernel
theorem dX4_valueOf_59 : decode cX4_valueOf 59 = .ok (.ireturn, 1) := by decide +kernel
theorem dX4_valueOf_60 : decode cX4_valueOf 60 = .ok (.iconst 0, 1) := by decide +kernel
theorem dX4_valueOf_61 : decode cX4_valueOf 61 = .ok (.ireturn, 1) := by decide +kernel
theorem dX5_init_0 : decode cX5_init 0 = .ok (.aload_n 0, 1) := by decide +kernel
theorem dX5_init_1 : decode cX5_init 1 = .ok (.invokespecial 3, 3) := by decide +kernel
theorem dX5_init_4 : decode cX5_init 4 = .ok (.aload_n 0, 1) := by decide +kernel
theorem dX5_init_5 : decode cX5_init 5 = .ok (.bipush 6, 2) := by decide +kernel
theorem dX5_init_7 : decode cX5_init 7 = .ok (.anewarray 9, 3) := by decide +kernel
theorem dX5_init_10 : decode cX5_init 10 = .ok (.putfield 11, 3) := by decide +kernel
theorem dX5_init_13 : decode cX5_init 13 = .ok (.aload_n 0, 1) := by decide +kernel
theorem dX5_init_14 : decode cX5_init 14 = .ok (.iconst (-1), 1) := by decide +kernel
theorem dX5_init_15 : decode cX5_init 15 = .ok (.putfield 17, 3) := by decide +kernel
theorem dX5_init_18 : decode cX5_init 18 = .ok (.aload_n 0, 1) := by decide +kernel
theorem dX5_init_19 : decode cX5_init 19 = .ok (.iconst 3, 1) := by decide +kernel
theorem dX5_init_20 : decode cX5_init 20 = .ok (.putfield 21, 3) := by decide +kernel
theorem dX5_init_23 : decode cX5_init 23 = .ok (.aload_n 0, 1) := by decide +kernel
theorem dX5_init_24 : decode cX5_init 24 = .ok (.iconst 4, 1) := by decide +kernel
theorem dX5_init_25 : decode cX5_init 25 = .ok (.putfield 24, 3) := by decide +kernel
theorem dX5_init_28 : decode cX5_init 28 = .ok (.aload_n 0, 1) := by decide +kernel
theorem dX5_init_29 : decode cX5_init 29 = .ok (.iconst 2, 1) := by decide +kernel
theorem dX5_init_30 : decode cX5_init 30 = .ok (.putfield 27, 3) := by decide +kernel
theorem dX5_init_33 : decode cX5_init 33 = .ok (.aload_n 0, 1) := by decide +kernel
theorem dX5_init_34 : decode cX5_init 34 = .ok (.bipush 8, 2) := by decide +kernel
theorem dX5_init_36 : decode cX5_init 36 = .ok (.putfield 30, 3) := by decide +kernel
theorem dX5_init_39 : decode cX5_init 39 = .ok (.iconst 0, 1) := by decide +kernel
theorem dX5_init_40 : decode cX5_init 40 = .ok (.istore_n 1, 1) := by decide +kernel
theorem dX5_init_41 : decode cX5_init 41 = .ok (.iload_n 1, 1) := by decide +kernel
theorem dX5_init_42 : decode cX5_init 42 = .ok (.bipush 6, 2) := by decide +kernel
theorem dX5_init_44 : decode cX5_init 44 = .ok (.if_icmp .ge 22, 3) := by decide +kernel
theorem dX5_init_47 : decode cX5_init 47 = .ok (.aload_n 0, 1) := by decide +kernel
theorem dX5_init_48 : decode cX5_init 48 = .ok (.getfield 11, 3) := by decide +kernel
theorem dX5_init_51 : decode cX5_init 51 = .ok (.iload_n 1, 1) := by decide +kernel
theorem dX5_init_52 : decode cX5_init 52 = .ok (.new 9, 3) := by decide +kernel
theorem dX5_init_55 : decode cX5_init 55 = .ok (.dup, 1) := by decide +kernel
theorem dX5_init_56 : decode cX5_init 56 = .ok (.invokespecial 33, 3) := by decide +kernel
theorem dX5_init_59 : decode cX5_init 59 = .ok (.aastore, 1) := by decide +kernel
theorem dX5_init_60 : decode cX5_init 60 = .ok (.iinc 1 1, 3) := by decide +kernel
theorem dX5_init_63 : decode cX5_init 63 = .ok (.goto (-22), 3) := by decide +kernel
theorem dX5_init_66 : decode cX5_init 66 = .ok (.return_, 1) := by decide +kernel
theorem dX5_names_0 : decode cX5_names 0 = .ok (.iload_n 1, 1) := by decide +kernel
theorem dX5_names_1 : decode cX5_names 1 = .ok (.ifCond .lt 13, 3) := by decide +kernel
theorem dX5_names_4 : decode cX5_names 4 = .ok (.iload_n 1, 1) := by decide +kernel
theorem dX5_names_5 : decode cX5_names 5 = .ok (.bipush 6, 2) := by decide +kernel
theorem dX5_names_7 : decode cX5_names 7 = .ok (.if_icmp .ge 7, 3) := by decide +kernel
theorem dX5_names_10 : decode cX5_names 10 = .ok (.iconst 1, 1) := by decide +kernel
theorem dX5_names_11 : decode cX5_names 11 = .ok (.goto 4, 3) := by decide +kernel
theorem dX5_names_14 : decode cX5_names 14 = .ok (.iconst 0, 1) := by decide +kernel
theorem dX5_names_15 : decode cX5_names 15 = .ok (.ireturn, 1) := by decide +kernel
theorem dX5_holds_0 : decode cX5_holds 0 = .ok (.aload_n 0, 1) := by decide +kernel
theorem dX5_holds_1 : decode cX5_holds 1 = .ok (.iload_n 1, 1) := by decide +kernel
theorem dX5_holds_2 : decode cX5_holds 2 = .ok (.invokevirtual 34, 3) := by decide +kernel
theorem dX5_holds_5 : decode cX5_holds 5 = .ok (.ifCond .eq 19, 3) := by decide +kernel
theorem dX5_holds_8 : decode cX5_holds 8 = .ok (.aload_n 0, 1) := by decide +kernel
theorem dX5_holds_9 : decode cX5_holds 9 = .ok (.getfield 11, 3) := by decide +kernel
theorem dX5_holds_12 : decode cX5_holds 12 = .ok (.iload_n 1, 1) := by decide +kernel
theorem dX5_holds_13 : decode cX5_holds 13 = .ok (.aaload, 1) := by decide +kernel
theorem dX5_holds_14 : decode cX5_holds 14 = .ok (.getfield 38, 3) := by decide +kernel
theorem dX5_holds_17 : decode cX5_holds 17 = .ok (.ifCond .eq 7, 3) := by decide +kernel
theorem dX5_holds_20 : decode cX5_holds 20 = .ok (.iconst 1, 1) := by decide +kernel
theorem dX5_holds_21 : decode cX5_holds 21 = .ok (.goto 4, 3) := by decide +kernel
theorem dX5_holds_24 : decode cX5_holds 24 = .ok (.iconst 0, 1) := by decide +kernel
theorem dX5_holds_25 : decode cX5_holds 25 = .ok (.ireturn, 1) := by decide +kernel
theorem dX5_howManyBooks_0 : decode cX5_howManyBooks 0 = .ok (.iconst 0, 1) := by decide +kernel
theorem dX5_howManyBooks_1 : decode cX5_howManyBooks 1 = .ok (.istore_n 1, 1) := by decide +kernel
theorem dX5_howManyBooks_2 : decode cX5_howManyBooks 2 = .ok (.iconst 0, 1) := by decide +kernel
theorem dX5_howManyBooks_3 : decode cX5_howManyBooks 3 = .ok (.istore_n 2, 1) := by decide +kernel
theorem dX5_howManyBooks_4 : decode cX5_howManyBooks 4 = .ok (.iload_n 2, 1) := by decide +kernel
theorem dX5_howManyBooks_5 : decode cX5_howManyBooks 5 = .ok (.bipush 6, 2) := by decide +kernel
theorem dX5_howManyBooks_7 : decode cX5_howManyBooks 7 = .ok (.if_icmp .ge 24, 3) := by decide +kernel
theorem dX5_howManyBooks_10 : decode cX5_howManyBooks 10 = .ok (.aload_n 0, 1) := by decide +kernel
theorem dX5_howManyBooks_11 : decode cX5_howManyBooks 11 = .ok (.getfield 11, 3) := by decide +kernel
theorem dX5_howManyBooks_14 : decode cX5_howManyBooks 14 = .ok (.iload_n 2, 1) := by decide +kernel
theorem dX5_howManyBooks_15 : decode cX5_howManyBooks 15 = .ok (.aaload, 1) := by decide +kernel
theorem dX5_howManyBooks_16 : decode cX5_howManyBooks 16 = .ok (.getfield 38, 3) := by decide +kernel
theorem dX5_howManyBooks_19 : decode cX5_howManyBooks 19 = .ok (.ifCond .eq 6, 3) := by decide +kernel
theorem dX5_howManyBooks_22 : decode cX5_howManyBooks 22 = .ok (.iinc 1 1, 3) := by decide +kernel
theorem dX5_howManyBooks_25 : decode cX5_howManyBooks 25 = .ok (.iinc 2 1, 3) := by decide +kernel
theorem dX5_howManyBooks_28 : decode cX5_howManyBooks 28 = .ok (.goto (-24), 3) := by decide +kernel
theorem dX5_howManyBooks_31 : decode cX5_howManyBooks 31 = .ok (.iload_n 1, 1) := by decide +kernel
theorem dX5_howManyBooks_32 : decode cX5_howManyBooks 32 = .ok (.ireturn, 1) := by decide +kernel
theorem dX6_init_0 : decode cX6_init 0 = .ok (.aload_n 0, 1) := by decide +kernel
theorem dX6_init_1 : decode cX6_init 1 = .ok (.invokespecial 3, 3) := by decide +kernel
theorem dX6_init_4 : decode cX6_init 4 = .ok (.aload_n 0, 1) := by decide +kernel
theorem dX6_init_5 : decode cX6_init 5 = .ok (.sipush 240, 3) := by decide +kernel
theorem dX6_init_8 : decode cX6_init 8 = .ok (.newarray .byte, 2) := by decide +kernel
theorem dX6_init_10 : decode cX6_init 10 = .ok (.putfield 9, 3) := by decide +kernel
theorem dX6_init_13 : decode cX6_init 13 = .ok (.aload_n 0, 1) := by decide +kernel
theorem dX6_init_14 : decode cX6_init 14 = .ok (.iconst 0, 1) := by decide +kernel
theorem dX6_init_15 : decode cX6_init 15 = .ok (.putfield 15, 3) := by decide +kernel
theorem dX6_init_18 : decode cX6_init 18 = .ok (.return_, 1) := by decide +kernel
theorem dX6_isText_0 : decode cX6_isText 0 = .ok (.iconst 0, 1) := by decide +kernel
theorem dX6_isText_1 : decode cX6_isText 1 = .ok (.istore_n 3, 1) := by decide +kernel
theorem dX6_isText_2 : decode cX6_isText 2 = .ok (.iload_n 3, 1) := by decide +kernel
theorem dX6_isText_3 : decode cX6_isText 3 = .ok (.iload_n 2, 1) := by decide +kernel
theorem dX6_isText_4 : decode cX6_isText 4 = .ok (.if_icmp .ge 32, 3) := by decide +kernel
theorem dX6_isText_7 : decode cX6_isText 7 = .ok (.lload_n 0, 1) := by decide +kernel
theorem dX6_isText_8 : decode cX6_isText 8 = .ok (.iload_n 3, 1) := by decide +kernel
theorem dX6_isText_9 : decode cX6_isText 9 = .ok (.invokestatic 19, 3) := by decide +kernel
theorem dX6_isText_12 : decode cX6_isText 12 = .ok (.istore 4, 2) := by decide +kernel
theorem dX6_isText_14 : decode cX6_isText 14 = .ok (.iload 4, 2) := by decide +kernel
theorem dX6_isText_16 : decode cX6_isText 16 = .ok (.bipush 32, 2) := by decide +kernel
theorem dX6_isText_18 : decode cX6_isText 18 = .ok (.if_icmp .lt 10, 3) := by decide +kernel
theorem dX6_isText_21 : decode cX6_isText 21 = .ok (.iload 4, 2) := by decide +kernel
theorem dX6_isText_23 : decode cX6_isText 23 = .ok (.bipush 126, 2) := by decide +kernel
theorem dX6_isText_25 : decode cX6_isText 25 = .ok (.if_icmp .le 5, 3) := by decide +kernel
theorem dX6_isText_28 : decode cX6_isText 28 = .ok (.iconst 0, 1) := by decide +kernel
theorem dX6_isText_29 : decode cX6_isText 29 = .ok (.ireturn, 1) := by decide +kernel
theorem dX6_isText_30 : decode cX6_isText 30 = .ok (.iinc 3 1, 3) := by decide +kernel
theorem dX6_isText_33 : decode cX6_isText 33 = .ok (.goto (-31), 3) := by decide +kernel
theorem dX6_isText_36 : decode cX6_isText 36 = .ok (.iconst 1, 1) := by decide +kernel
theorem dX6_isText_37 : decode cX6_isText 37 = .ok (.ireturn, 1) := by decide +kernel
theorem dX6_byteAt_0 : decode cX6_byteAt 0 = .ok (.lload_n 0, 1) := by decide +kernel
theorem dX6_byteAt_1 : decode cX6_byteAt 1 = .ok (.bipush 8, 2) := by decide +kernel
theorem dX6_byteAt_3 : decode cX6_byteAt 3 = .ok (.iload_n 2, 1) := by decide +kernel
theorem dX6_byteAt_4 : decode cX6_byteAt 4 = .ok (.imul, 1) := by decide +kernel
theorem dX6_byteAt_5 : decode cX6_byteAt 5 = .ok (.lushr, 1) := by decide +kernel
theorem dX6_byteAt_6 : decode cX6_byteAt 6 = .ok (.l2i, 1) := by decide +kernel
theorem dX6_byteAt_7 : decode cX6_byteAt 7 = .ok (.sipush 255, 3) := by decide +kernel
theorem dX6_byteAt_10 : decode cX6_byteAt 10 = .ok (.iand, 1) := by decide +kernel
theorem dX6_byteAt_11 : decode cX6_byteAt 11 = .ok (.ireturn, 1) := by decide +kernel
theorem dX6_hasRoomFor_0 : decode cX6_hasRoomFor 0 = .ok (.aload_n 0, 1) := by decide +kernel
theorem dX6_hasRoomFor_1 : decode cX6_hasRoomFor 1 = .ok (.getfield 15, 3) := by decide +kernel
theorem dX6_hasRoomFor_4 : decode cX6_hasRoomFor 4 = .ok (.iload_n 1, 1) := by decide +kernel
theorem dX6_hasRoomFor_5 : decode cX6_hasRoomFor 5 = .ok (.iadd, 1) := by decide +kernel
theorem dX6_hasRoomFor_6 : decode cX6_hasRoomFor 6 = .ok (.sipush 240, 3) := by decide +kernel
theorem dX6_hasRoomFor_9 : decode cX6_hasRoomFor 9 = .ok (.if_icmp .gt 7, 3) := by decide +kernel
theorem dX6_hasRoomFor_12 : decode cX6_hasRoomFor 12 = .ok (.iconst 1, 1) := by decide +kernel
theorem dX6_hasRoomFor_13 : decode cX6_hasRoomFor 13 = .ok (.goto 4, 3) := by decide +kernel
theorem dX6_hasRoomFor_16 : decode cX6_hasRoomFor 16 = .ok (.iconst 0, 1) := by decide +kernel
theorem dX6_hasRoomFor_17 : decode cX6_hasRoomFor 17 = .ok (.ireturn, 1) := by decide +kernel
theorem dX6_append_0 : decode cX6_append 0 = .ok (.iload_n 3, 1) := by decide +kernel
theorem dX6_append_1 : decode cX6_append 1 = .ok (.iconst 1, 1) := by decide +kernel
theorem dX6_append_2 : decode cX6_append 2 = .ok (.isub, 1) := by decide +kernel
theorem dX6_append_3 : decode cX6_append 3 = .ok (.istore 4, 2) := by decide +kernel
theorem dX6_append_5 : decode cX6_append 5 = .ok (.iload 4, 2) := by decide +kernel
theorem dX6_append_7 : decode cX6_append 7 = .ok (.ifCond .lt 45, 3) := by decide +kernel
theorem dX6_append_10 : decode cX6_append 10 = .ok (.aload_n 0, 1) := by decide +kernel
theorem dX6_append_11 : decode cX6_append 11 = .ok (.getfield 15, 3) := by decide +kernel
theorem dX6_append_14 : decode cX6_append 14 = .ok (.sipush 240, 3) := by decide +kernel
theorem dX6_append_17 : decode cX6_append 17 = .ok (.if_icmp .ge 35, 3) := by decide +kernel
theorem dX6_append_20 : decode cX6_append 20 = .ok (.aload_n 0, 1) := by decide +kernel
theorem dX6_append_21 : decode cX6_append 21 = .ok (.getfield 9, 3) := by decide +kernel
theorem dX6_append_24 : decode cX6_append 24 = .ok (.aload_n 0, 1) := by decide +kernel
theorem dX6_append_25 : decode cX6_append 25 = .ok (.getfield 15, 3) := by decide +kernel
theorem dX6_append_28 : decode cX6_append 28 = .ok (.lload_n 1, 1) := by decide +kernel
theorem dX6_append_29 : decode cX6_append 29 = .ok (.iload 4, 2) := by decide +kernel
theorem dX6_append_31 : decode cX6_append 31 = .ok (.invokestatic 19, 3) := by decide +kernel
theorem dX6_append_34 : decode cX6_append 34 = .ok (.i2b, 1) := by decide +kernel
theorem dX6_append_35 : decode cX6_append 35 = .ok (.bastore, 1) := by decide +kernel
theorem dX6_append_36 : decode cX6_append 36 = .ok (.aload_n 0, 1) := by decide +kernel
theorem dX6_append_37 : decode cX6_append 37 = .ok (.dup, 1) := by decide +kernel
theorem dX6_append_38 : decode cX6_append 38 = .ok (.getfield 15, 3) := by decide +kernel
theorem dX6_append_41 : decode cX6_append 41 = .ok (.iconst 1, 1) := by decide +kernel
theorem dX6_append_42 : decode cX6_append 42 = .ok (.iadd, 1) := by decide +kernel
theorem dX6_append_43 : decode cX6_append 43 = .ok (.putfield 15, 3) := by decide +kernel
theorem dX6_append_46 : decode cX6_append 46 = .ok (.iinc 4 (-1), 3) := by decide +kernel
theorem dX6_append_49 : decode cX6_append 49 = .ok (.goto (-44), 3) := by decide +kernel
theorem dX6_append_52 : decode cX6_append 52 = .ok (.return_, 1) := by decide +kernel
theorem dX6_clear_0 : decode cX6_clear 0 = .ok (.aload_n 0, 1) := by decide +kernel
theorem dX6_clear_1 : decode cX6_clear 1 = .ok (.iconst 0, 1) := by decide +kernel
theorem dX6_clear_2 : decode cX6_clear 2 = .ok (.putfield 15, 3) := by decide +kernel
theorem dX6_clear_5 : decode cX6_clear 5 = .ok (.return_, 1) := by decide +kernel
theorem dX7_init_0 : decode cX7_init 0 = .ok (.aload_n 0, 1) := by decide +kernel
theorem dX7_init_1 : decode cX7_init 1 = .ok (.invokespecial 1, 3) := by decide +kernel
theorem dX7_init_4 : decode cX7_init 4 = .ok (.aload_n 0, 1) := by decide +kernel
theorem dX7_init_5 : decode cX7_init 5 = .ok (.new 7, 3) := by decide +kernel
theorem dX7_init_8 : decode cX7_init 8 = .ok (.dup, 1) := by decide +kernel
theorem dX7_init_9 : decode cX7_init 9 = .ok (.invokespecial 9, 3) := by decide +kernel
theorem dX7_init_12 : decode cX7_init 12 = .ok (.putfield 10, 3) := by decide +kernel
theorem dX7_init_15 : decode cX7_init 15 = .ok (.aload_n 0, 1) := by decide +kernel
theorem dX7_init_16 : decode cX7_init 16 = .ok (.new 16, 3) := by decide +kernel
theorem dX7_init_19 : decode cX7_init 19 = .ok (.dup, 1) := by decide +kernel
theorem dX7_init_20 : decode cX7_init 20 = .ok (.invokespecial 18, 3) := by decide +kernel
theorem dX7_init_23 : decode cX7_init 23 = .ok (.putfield 19, 3) := by decide +kernel
theorem dX7_init_26 : decode cX7_init 26 = .ok (.aload_n 0, 1) := by decide +kernel
theorem dX7_init_27 : decode cX7_init 27 = .ok (.new 23, 3) := by decide +kernel
theorem dX7_init_30 : decode cX7_init 30 = .ok (.dup, 1) := by decide +kernel
theorem dX7_init_31 : decode cX7_init 31 = .ok (.invokespecial 25, 3) := by decide +kernel
theorem dX7_init_34 : decode cX7_init 34 = .ok (.putfield 26, 3) := by decide +kernel
theorem dX7_init_37 : decode cX7_init 37 = .ok (.aload_n 0, 1) := by decide +kernel
theorem dX7_init_38 : decode cX7_init 38 = .ok (.new 30, 3) := by decide +kernel
theorem dX7_init_41 : decode cX7_init 41 = .ok (.dup, 1) := by decide +kernel
theorem dX7_init_42 : decode cX7_init 42 = .ok (.invokespecial 32, 3) := by decide +kernel
theorem dX7_init_45 : decode cX7_init 45 = .ok (.putfield 33, 3) := by decide +kernel
theorem dX7_init_48 : decode cX7_init 48 = .ok (.aload_n 0, 1) := by decide +kernel
theorem dX7_init_49 : decode cX7_init 49 = .ok (.new 37, 3) := by decide +kernel
theorem dX7_init_52 : decode cX7_init 52 = .ok (.dup, 1) := by decide +kernel
theorem dX7_init_53 : decode cX7_init 53 = .ok (.invokespecial 39, 3) := by decide +kernel
theorem dX7_init_56 : decode cX7_init 56 = .ok (.putfield 40, 3) := by decide +kernel
theorem dX7_init_59 : decode cX7_init 59 = .ok (.return_, 1) := by decide +kernel
theorem dX7_type_0 : decode cX7_type 0 = .ok (.iload_n 3, 1) := by decide +kernel
theorem dX7_type_1 : decode cX7_type 1 = .ok (.iconst 1, 1) := by decide +kernel
theorem dX7_type_2 : decode cX7_type 2 = .ok (.if_icmp .lt 17, 3) := by decide +kernel
theorem dX7_type_5 : decode cX7_type 5 = .ok (.iload_n 3, 1) := by decide +kernel
theorem dX7_type_6 : decode cX7_type 6 = .ok (.bipush 8, 2) := by decide +kernel
theorem dX7_type_8 : decode cX7_type 8 = .ok (.if_icmp .gt 11, 3) := by decide +kernel
theorem dX7_type_11 : decode cX7_type 11 = .ok (.lload_n 1, 1) := by decide +kernel
theorem dX7_type_12 : decode cX7_type 12 = .ok (.iload_n 3, 1) := by decide +kernel
theorem dX7_type_13 : decode cX7_type 13 = .ok (.invokestatic 44, 3) := by decide +kernel
theorem dX7_type_16 : decode cX7_type 16 = .ok (.ifCond .ne 5, 3) := by decide +kernel
theorem dX7_type_19 : decode cX7_type 19 = .ok (.iconst (-1), 1) := by decide +kernel
theorem dX7_type_20 : decode cX7_type 20 = .ok (.ireturn, 1) := by decide +kernel
theorem dX7_type_21 : decode cX7_type 21 = .ok (.aload_n 0, 1) := by decide +kernel
theorem dX7_type_22 : decode cX7_type 22 = .ok (.getfield 10, 3) := by decide +kernel
theorem dX7_type_25 : decode cX7_type 25 = .ok (.iload_n 3, 1) := by decide +kernel
theorem dX7_type_26 : decode cX7_type 26 = .ok (.invokevirtual 48, 3) := by decide +kernel
theorem dX7_type_29 : decode cX7_type 29 = .ok (.ifCond .ne 6, 3) := by decide +kernel
theorem dX7_type_32 : decode cX7_type 32 = .ok (.bipush (-3), 2) := by decide +kernel
theorem dX7_type_34 : decode cX7_type 34 = .ok (.ireturn, 1) := by decide +kernel
theorem dX7_type_35 : decode cX7_type 35 = .ok (.aload_n 0, 1) := by decide +kernel
theorem dX7_type_36 : decode cX7_type 36 = .ok (.getfield 10, 3) := by decide +kernel
theorem dX7_type_39 : decode cX7_type 39 = .ok (.lload_n 1, 1) := by decide +kernel
theorem dX7_type_40 : decode cX7_type 40 = .ok (.iload_n 3, 1) := by decide +kernel
theorem dX7_type_41 : decode cX7_type 41 = .ok (.invokevirtual 52, 3) := by decide +kernel
theorem dX7_type_44 : decode cX7_type 44 = .ok (.aload_n 0, 1) := by decide +kernel
theorem dX7_type_45 : decode cX7_type 45 = .ok (.getfield 10, 3) := by decide +kernel
theorem dX7_type_48 : decode cX7_type 48 = .ok (.getfield 56, 3) := by decide +kernel
theorem dX7_type_51 : decode cX7_type 51 = .ok (.ireturn, 1) := by decide +kernel
theorem dX7_book_0 : decode cX7_book 0 = .ok (.aload_n 0, 1) := by decide +kernel
theorem dX7_book_1 : decode cX7_book 1 = .ok (.getfield 26, 3) := by decide +kernel
theorem dX7_book_4 : decode cX7_book 4 = .ok (.iload_n 1, 1) := by decide +kernel
theorem dX7_book_5 : decode cX7_book 5 = .ok (.invokevirtual 60, 3) := by decide +kernel
theorem dX7_book_8 : decode cX7_book 8 = .ok (.ifCond .eq 23, 3) := by decide +kernel
theorem dX7_book_11 : decode cX7_book 11 = .ok (.iload_n 2, 1) := by decide +kernel
theorem dX7_book_12 : decode cX7_book 12 = .ok (.ifCond .lt 19, 3) := by decide +kernel
theorem dX7_book_15 : decode cX7_book 15 = .ok (.iload_n 2, 1) := by decide +kernel
theorem dX7_book_16 : decode cX7_book 16 = .ok (.iconst 1, 1) := by decide +kernel
theorem dX7_book_17 : decode cX7_book 17 = .ok (.if_icmp .gt 14, 3) := by decide +kernel
theorem dX7_book_20 : decode cX7_book 20 = .ok (.iload_n 3, 1) := by decide +kernel
theorem dX7_book_21 : decode cX7_book 21 = .ok (.ifCond .lt 10, 3) := by decide +kernel
theorem dX7_book_24 : decode cX7_book 24 = .ok (.iload_n 3, 1) := by decide +kernel
theorem dX7_book_25 : decode cX7_book 25 = .ok (.sipush 9999, 3) := by decide +kernel
theorem dX7_book_28 : decode cX7_book 28 = .ok (.if_icmp .le 5, 3) := by decide +kernel
theorem dX7_book_31 : decode cX7_book 31 = .ok (.iconst (-1), 1) := by decide +kernel
theorem dX7_book_32 : decode cX7_book 32 = .ok (.ireturn, 1) := by decide +kernel
theorem dX7_book_33 : decode cX7_book 33 = .ok (.aload_n 0, 1) := by decide +kernel
theorem dX7_book_34 : decode cX7_book 34 = .ok (.getfield 26, 3) := by decide +kernel
theorem dX7_book_37 : decode cX7_book 37 = .ok (.getfield 63, 3) := by decide +kernel
theorem dX7_book_40 : decode cX7_book 40 = .ok (.iload_n 1, 1) := by decide +kernel
theorem dX7_book_41 : decode cX7_book 41 = .ok (.aaload, 1) := by decide +kernel
theorem dX7_book_42 : decode cX7_book 42 = .ok (.astore 4, 2) := by decide +kernel
theorem dX7_book_44 : decode cX7_book 44 = .ok (.aload 4, 2) := by decide +kernel
theorem dX7_book_46 : decode cX7_book 46 = .ok (.iload_n 2, 1) := by decide +kernel
theorem dX7_book_47 : decode cX7_book 47 = .ok (.iload_n 3, 1) := by decide +kernel
theorem dX7_book_48 : decode cX7_book 48 = .ok (.invokevirtual 67, 3) := by decide +kernel
theorem dX7_book_51 : decode cX7_book 51 = .ok (.aload_n 0, 1) := by decide +kernel
theorem dX7_book_52 : decode cX7_book 52 = .ok (.getfield 19, 3) := by decide +kernel
theorem dX7_book_55 : decode cX7_book 55 = .ok (.aload_n 0, 1) := by decide +kernel
theorem dX7_book_56 : decode cX7_book 56 = .ok (.getfield 10, 3) := by decide +kernel
theorem dX7_book_59 : decode cX7_book 59 = .ok (.aload 4, 2) := by decide +kernel
theorem dX7_book_61 : decode cX7_book 61 = .ok (.invokevirtual 73, 3) := by decide +kernel
theorem dX7_book_64 : decode cX7_book 64 = .ok (.aload_n 0, 1) := by decide +kernel
theorem dX7_book_65 : decode cX7_book 65 = .ok (.getfield 10, 3) := by decide +kernel
theorem dX7_book_68 : decode cX7_book 68 = .ok (.invokevirtual 77, 3) := by decide +kernel
theorem dX7_book_71 : decode cX7_book 71 = .ok (.aload 4, 2) := by decide +kernel
theorem dX7_book_73 : decode cX7_book 73 = .ok (.getfield 80, 3) := by decide +kernel
theorem dX7_book_76 : decode cX7_book 76 = .ok (.ireturn, 1) := by decide +kernel
theorem dX7_withdraw_0 : decode cX7_withdraw 0 = .ok (.aload_n 0, 1) := by decide +kernel
theorem dX7_withdraw_1 : decode cX7_withdraw 1 = .ok (.iload_n 1, 1) := by decide +kernel
theorem dX7_withdraw_2 : decode cX7_withdraw 2 = .ok (.invokevirtual 83, 3) := by decide +kernel
theorem dX7_withdraw_5 : decode cX7_withdraw 5 = .ok (.istore_n 2, 1) := by decide +kernel
theorem dX7_withdraw_6 : decode cX7_withdraw 6 = .ok (.iload_n 2, 1) := by decide +kernel
theorem dX7_withdraw_7 : decode cX7_withdraw 7 = .ok (.ifCond .eq 5, 3) := by decide +kernel
theorem dX7_withdraw_10 : decode cX7_withdraw 10 = .ok (.iload_n 2, 1) := by decide +kernel
theorem dX7_withdraw_11 : decode cX7_withdraw 11 = .ok (.ireturn, 1) := by decide +kernel
theorem dX7_withdraw_12 : decode cX7_withdraw 12 = .ok (.aload_n 0, 1) := by decide +kernel
theorem dX7_withdraw_13 : decode cX7_withdraw 13 = .ok (.getfield 26, 3) := by decide +kernel
theorem dX7_withdraw_16 : decode cX7_withdraw 16 = .ok (.getfield 63, 3) := by decide +kernel
theorem dX7_withdraw_19 : decode cX7_withdraw 19 = .ok (.iload_n 1, 1) := by decide +kernel
theorem dX7_withdraw_20 : decode cX7_withdraw 20 = .ok (.aaload, 1) := by decide +kernel
theorem dX7_withdraw_21 : decode cX7_withdraw 21 = .ok (.getfield 80, 3) := by decide +kernel
theorem dX7_withdraw_24 : decode cX7_withdraw 24 = .ok (.istore_n 3, 1) := by decide +kernel
theorem dX7_withdraw_25 : decode cX7_withdraw 25 = .ok (.aload_n 0, 1) := by decide +kernel
theorem dX7_withdraw_26 : decode cX7_withdraw 26 = .ok (.getfield 26, 3) := by decide +kernel
theorem dX7_withdraw_29 : decode cX7_withdraw 29 = .ok (.getfield 63, 3) := by decide +kernel
theorem dX7_withdraw_32 : decode cX7_withdraw 32 = .ok (.iload_n 1, 1) := by decide +kernel
theorem dX7_withdraw_33 : decode cX7_withdraw 33 = .ok (.aaload, 1) := by decide +kernel
theorem dX7_withdraw_34 : decode cX7_withdraw 34 = .ok (.invokevirtual 87, 3) := by decide +kernel
theorem dX7_withdraw_37 : decode cX7_withdraw 37 = .ok (.aload_n 0, 1) := by decide +kernel
theorem dX7_withdraw_38 : decode cX7_withdraw 38 = .ok (.getfield 26, 3) := by decide +kernel
theorem dX7_withdraw_41 : decode cX7_withdraw 41 = .ok (.getfield 90, 3) := by decide +kernel
theorem dX7_withdraw_44 : decode cX7_withdraw 44 = .ok (.iload_n 1, 1) := by decide +kernel
theorem dX7_withdraw_45 : decode cX7_withdraw 45 = .ok (.if_icmp .ne 11, 3) := by decide +kernel
theorem dX7_withdraw_48 : decode cX7_withdraw 48 = .ok (.aload_n 0, 1) := by decide +kernel
theorem dX7_withdraw_49 : decode cX7_withdraw 49 = .ok (.getfield 26, 3) := by decide +kernel
theorem dX7_withdraw_52 : decode cX7_withdraw 52 = .ok (.iconst (-1), 1) := by decide +kernel
theorem dX7_withdraw_53 : decode cX7_withdraw 53 = .ok (.putfield 90, 3) := by decide +kernel
theorem dX7_withdraw_56 : decode cX7_withdraw 56 = .ok (.iload_n 3, 1) := by decide +kernel
theorem dX7_withdraw_57 : decode cX7_withdraw 57 = .ok (.ireturn, 1) := by decide +kernel
theorem dX7_token_0 : decode cX7_token 0 = .ok (.iload_n 2, 1) := by decide +kernel
theorem dX7_token_1 : decode cX7_token 1 = .ok (.bipush (-3), 2) := by decide +kernel
theorem dX7_token_3 : decode cX7_token 3 = .ok (.if_icmp .ge 7, 3) := by decide +kernel
theorem dX7_token_6 : decode cX7_token 6 = .ok (.iconst (-1), 1) := by decide +kernel
theorem dX7_token_7 : decode cX7_token 7 = .ok (.goto 8, 3) := by decide +kernel
theorem dX7_token_10 : decode cX7_token 10 = .ok (.aload_n 0, 1) := by decide +kernel
theorem dX7_token_11 : decode cX7_token 11 = .ok (.iload_n 1, 1) := by decide +kernel
theorem dX7_token_12 : decode cX7_token 12 = .ok (.invokevirtual 83, 3) := by decide +kernel
theorem dX7_token_15 : decode cX7_token 15 = .ok (.istore_n 3, 1) := by decide +kernel
theorem dX7_token_16 : decode cX7_token 16 = .ok (.iload_n 3, 1) := by decide +kernel
theorem dX7_token_17 : decode cX7_token 17 = .ok (.ifCond .eq 6, 3) := by decide +kernel
theorem dX7_token_20 : decode cX7_token 20 = .ok (.iload_n 3, 1) := by decide +kernel
theorem dX7_token_21 : decode cX7_token 21 = .ok (.i2l, 1) := by decide +kernel
theorem dX7_token_22 : decode cX7_token 22 = .ok (.lreturn, 1) := by decide +kernel
theorem dX7_token_23 : decode cX7_token 23 = .ok (.aload_n 0, 1) := by decide +kernel
theorem dX7_token_24 : decode cX7_token 24 = .ok (.getfield 26, 3) := by decide +kernel
theorem dX7_token_27 : decode cX7_token 27 = .ok (.getfield 63, 3) := by decide +kernel
theorem dX7_token_30 : decode cX7_token 30 = .ok (.iload_n 1, 1) := by decide +kernel
theorem dX7_token_31 : decode cX7_token 31 = .ok (.aaload, 1) := by decide +kernel
theorem dX7_token_32 : decode cX7_token 32 = .ok (.astore 4, 2) := by decide +kernel
theorem dX7_token_34 : decode cX7_token 34 = .ok (.iload_n 2, 1) := by decide +kernel
theorem dX7_token_35 : decode cX7_token 35 = .ok (.bipush (-3), 2) := by decide +kernel
theorem dX7_token_37 : decode cX7_token 37 = .ok (.if_icmp .ne 10, 3) := by decide +kernel
theorem dX7_token_40 : decode cX7_token 40 = .ok (.aload 4, 2) := by decide +kernel
theorem dX7_token_42 : decode cX7_token 42 = .ok (.getfield 93, 3) := by decide +kernel
theorem dX7_token_45 : decode cX7_token 45 = .ok (.i2l, 1) := by decide +kernel
theorem dX7_token_46 : decode cX7_token 46 = .ok (.lreturn, 1) := by decide +kernel
theorem dX7_token_47 : decode cX7_token 47 = .ok (.iload_n 2, 1) := by decide +kernel
theorem dX7_token_48 : decode cX7_token 48 = .ok (.bipush (-2), 2) := by decide +kernel
theorem dX7_token_50 : decode cX7_token 50 = .ok (.if_icmp .ne 10, 3) := by decide +kernel
theorem dX7_token_53 : decode cX7_token 53 = .ok (.aload 4, 2) := by decide +kernel
theorem dX7_token_55 : decode cX7_token 55 = .ok (.getfield 96, 3) := by decide +kernel
theorem dX7_token_58 : decode cX7_token 58 = .ok (.i2l, 1) := by decide +kernel
theorem dX7_token_59 : decode cX7_token 59 = .ok (.lreturn, 1) := by decide +kernel
theorem dX7_token_60 : decode cX7_token 60 = .ok (.iload_n 2, 1) := by decide +kernel
theorem dX7_token_61 : decode cX7_token 61 = .ok (.iconst (-1), 1) := by decide +kernel
theorem dX7_token_62 : decode cX7_token 62 = .ok (.if_icmp .ne 10, 3) := by decide +kernel
theorem dX7_token_65 : decode cX7_token 65 = .ok (.aload 4, 2) := by decide +kernel
theorem dX7_token_67 : decode cX7_token 67 = .ok (.getfield 80, 3) := by decide +kernel
theorem dX7_token_70 : decode cX7_token 70 = .ok (.i2l, 1) := by decide +kernel
theorem dX7_token_71 : decode cX7_token 71 = .ok (.lreturn, 1) := by decide +kernel
theorem dX7_token_72 : decode cX7_token 72 = .ok (.iload_n 2, 1) := by decide +kernel
theorem dX7_token_73 : decode cX7_token 73 = .ok (.aload 4, 2) := by decide +kernel
theorem dX7_token_75 : decode cX7_token 75 = .ok (.getfield 80, 3) := by decide +kernel
theorem dX7_token_78 : decode cX7_token 78 = .ok (.if_icmp .ge 13, 3) := by decide +kernel
theorem dX7_token_81 : decode cX7_token 81 = .ok (.aload 4, 2) := by decide +kernel
theorem dX7_token_83 : decode cX7_token 83 = .ok (.getfield 99, 3) := by decide +kernel
theorem dX7_token_86 : decode cX7_token 86 = .ok (.iload_n 2, 1) := by decide +kernel
theorem dX7_token_87 : decode cX7_token 87 = .ok (.laload, 1) := by decide +kernel
theorem dX7_token_88 : decode cX7_token 88 = .ok (.goto 6, 3) := by decide +kernel
theorem dX7_token_91 : decode cX7_token 91 = .ok (.ldc2_w 103, 3) := by decide +kernel
theorem dX7_token_94 : decode cX7_token 94 = .ok (.lreturn, 1) := by decide +kernel
theorem dX7_windows_0 : decode cX7_windows 0 = .ok (.iload_n 1, 1) := by decide +kernel
theorem dX7_windows_1 : decode cX7_windows 1 = .ok (.iconst 2, 1) := by decide +kernel
theorem dX7_windows_2 : decode cX7_windows 2 = .ok (.if_icmp .lt 19, 3) := by decide +kernel
theorem dX7_windows_5 : decode cX7_windows 5 = .ok (.iload_n 1, 1) := by decide +kernel
theorem dX7_windows_6 : decode cX7_windows 6 = .ok (.iconst 5, 1) := by decide +kernel
theorem dX7_windows_7 : decode cX7_windows 7 = .ok (.if_icmp .gt 14, 3) := by decide +kernel
theorem dX7_windows_10 : decode cX7_windows 10 = .ok (.iload_n 2, 1) := by decide +kernel
theorem dX7_windows_11 : decode cX7_windows 11 = .ok (.iconst 1, 1) := by decide +kernel
theorem dX7_windows_12 : decode cX7_windows 12 = .ok (.if_icmp .lt 9, 3) := by decide +kernel
theorem dX7_windows_15 : decode cX7_windows 15 = .ok (.iload_n 2, 1) := by decide +kernel
theorem dX7_windows_16 : decode cX7_windows 16 = .ok (.bipush 8, 2) := by decide +kernel
theorem dX7_windows_18 : decode cX7_windows 18 = .ok (.if_icmp .le 5, 3) := by decide +kernel
theorem dX7_windows_21 : decode cX7_windows 21 = .ok (.iconst (-1), 1) := by decide +kernel
theorem dX7_windows_22 : decode cX7_windows 22 = .ok (.ireturn, 1) := by decide +kernel
theorem dX7_windows_23 : decode cX7_windows 23 = .ok (.aload_n 0, 1) := by decide +kernel
theorem dX7_windows_24 : decode cX7_windows 24 = .ok (.getfield 26, 3) := by decide +kernel
theorem dX7_windows_27 : decode cX7_windows 27 = .ok (.iload_n 1, 1) := by decide +kernel
theorem dX7_windows_28 : decode cX7_windows 28 = .ok (.putfield 105, 3) := by decide +kernel
theorem dX7_windows_31 : decode cX7_windows 31 = .ok (.aload_n 0, 1) := by decide +kernel
theorem dX7_windows_32 : decode cX7_windows 32 = .ok (.getfield 26, 3) := by decide +kernel
theorem dX7_windows_35 : decode cX7_windows 35 = .ok (.iload_n 2, 1) := by decide +kernel
theorem dX7_windows_36 : decode cX7_windows 36 = .ok (.putfield 108, 3) := by decide +kernel
theorem dX7_windows_39 : decode cX7_windows 39 = .ok (.iconst 1, 1) := by decide +kernel
theorem dX7_windows_40 : decode cX7_windows 40 = .ok (.ireturn, 1) := by decide +kernel
theorem dX7_gap_0 : decode cX7_gap 0 = .ok (.iload_n 1, 1) := by decide +kernel
theorem dX7_gap_1 : decode cX7_gap 1 = .ok (.ifCond .lt 9, 3) := by decide +kernel
theorem dX7_gap_4 : decode cX7_gap 4 = .ok (.iload_n 1, 1) := by decide +kernel
theorem dX7_gap_5 : decode cX7_gap 5 = .ok (.bipush 20, 2) := by decide +kernel
theorem dX7_gap_7 : decode cX7_gap 7 = .ok (.if_icmp .le 5, 3) := by decide +kernel
theorem dX7_gap_10 : decode cX7_gap 10 = .ok (.iconst (-1), 1) := by decide +kernel
theorem dX7_gap_11 : decode cX7_gap 11 = .ok (.ireturn, 1) := by decide +kernel
theorem dX7_gap_12 : decode cX7_gap 12 = .ok (.aload_n 0, 1) := by decide +kernel
theorem dX7_gap_13 : decode cX7_gap 13 = .ok (.getfield 26, 3) := by decide +kernel
theorem dX7_gap_16 : decode cX7_gap 16 = .ok (.getfield 111, 3) := by decide +kernel
theorem dX7_gap_19 : decode cX7_gap 19 = .ok (.istore_n 2, 1) := by decide +kernel
theorem dX7_gap_20 : decode cX7_gap 20 = .ok (.aload_n 0, 1) := by decide +kernel
theorem dX7_gap_21 : decode cX7_gap 21 = .ok (.getfield 26, 3) := by decide +kernel
theorem dX7_gap_24 : decode cX7_gap 24 = .ok (.iload_n 1, 1) := by decide +kernel
theorem dX7_gap_25 : decode cX7_gap 25 = .ok (.putfield 111, 3) := by decide +kernel
theorem dX7_gap_28 : decode cX7_gap 28 = .ok (.iload_n 2, 1) := by decide +kernel
theorem dX7_gap_29 : decode cX7_gap 29 = .ok (.ireturn, 1) := by decide +kernel
theorem dX7_link_0 : decode cX7_link 0 = .ok (.iload_n 1, 1) := by decide +kernel
theorem dX7_link_1 : decode cX7_link 1 = .ok (.iconst 1, 1) := by decide +kernel
theorem dX7_link_2 : decode cX7_link 2 = .ok (.if_icmp .lt 10, 3) := by decide +kernel
theorem dX7_link_5 : decode cX7_link 5 = .ok (.iload_n 1, 1) := by decide +kernel
theorem dX7_link_6 : decode cX7_link 6 = .ok (.sipush 200, 3) := by decide +kernel
theorem dX7_link_9 : decode cX7_link 9 = .ok (.if_icmp .le 5, 3) := by decide +kernel
theorem dX7_link_12 : decode cX7_link 12 = .ok (.iconst (-1), 1) := by decide +kernel
theorem dX7_link_13 : decode cX7_link 13 = .ok (.ireturn, 1) := by decide +kernel
theorem dX7_link_14 : decode cX7_link 14 = .ok (.aload_n 0, 1) := by decide +kernel
theorem dX7_link_15 : decode cX7_link 15 = .ok (.getfield 26, 3) := by decide +kernel
theorem dX7_link_18 : decode cX7_link 18 = .ok (.getfield 114, 3) := by decide +kernel
theorem dX7_link_21 : decode cX7_link 21 = .ok (.istore_n 2, 1) := by decide +kernel
theorem dX7_link_22 : decode cX7_link 22 = .ok (.aload_n 0, 1) := by decide +kernel
theorem dX7_link_23 : decode cX7_link 23 = .ok (.getfield 26, 3) := by decide +kernel
theorem dX7_link_26 : decode cX7_link 26 = .ok (.iload_n 1, 1) := by decide +kernel
theorem dX7_link_27 : decode cX7_link 27 = .ok (.putfield 114, 3) := by decide +kernel
theorem dX7_link_30 : decode cX7_link 30 = .ok (.iload_n 2, 1) := by decide +kernel
theorem dX7_link_31 : decode cX7_link 31 = .ok (.ireturn, 1) := by decide +kernel
theorem dX7_given_0 : decode cX7_given 0 = .ok (.iload_n 1, 1) := by decide +kernel
theorem dX7_given_1 : decode cX7_given 1 = .ok (.iconst (-1), 1) := by decide +kernel
theorem dX7_given_2 : decode cX7_given 2 = .ok (.if_icmp .ne 7, 3) := by decide +kernel
theorem dX7_given_5 : decode cX7_given 5 = .ok (.iconst 0, 1) := by decide +kernel
theorem dX7_given_6 : decode cX7_given 6 = .ok (.goto 8, 3) := by decide +kernel
theorem dX7_given_9 : decode cX7_given 9 = .ok (.aload_n 0, 1) := by decide +kernel
theorem dX7_given_10 : decode cX7_given 10 = .ok (.iload_n 1, 1) := by decide +kernel
theorem dX7_given_11 : decode cX7_given 11 = .ok (.invokevirtual 83, 3) := by decide +kernel
theorem dX7_given_14 : decode cX7_given 14 = .ok (.istore_n 2, 1) := by decide +kernel
theorem dX7_given_15 : decode cX7_given 15 = .ok (.iload_n 2, 1) := by decide +kernel
theorem dX7_given_16 : decode cX7_given 16 = .ok (.ifCond .eq 8, 3) := by decide +kernel
theorem dX7_given_19 : decode cX7_given 19 = .ok (.iload_n 2, 1) := by decide +kernel
theorem dX7_given_20 : decode cX7_given 20 = .ok (.bipush 10, 2) := by decide +kernel
theorem dX7_given_22 : decode cX7_given 22 = .ok (.isub, 1) := by decide +kernel
theorem dX7_given_23 : decode cX7_given 23 = .ok (.ireturn, 1) := by decide +kernel
theorem dX7_given_24 : decode cX7_given 24 = .ok (.aload_n 0, 1) := by decide +kernel
theorem dX7_given_25 : decode cX7_given 25 = .ok (.getfield 26, 3) := by decide +kernel
theorem dX7_given_28 : decode cX7_given 28 = .ok (.getfield 90, 3) := by decide +kernel
theorem dX7_given_31 : decode cX7_given 31 = .ok (.istore_n 3, 1) := by decide +kernel
theorem dX7_given_32 : decode cX7_given 32 = .ok (.aload_n 0, 1) := by decide +kernel
theorem dX7_given_33 : decode cX7_given 33 = .ok (.getfield 26, 3) := by decide +kernel
theorem dX7_given_36 : decode cX7_given 36 = .ok (.iload_n 1, 1) := by decide +kernel
theorem dX7_given_37 : decode cX7_given 37 = .ok (.putfield 90, 3) := by decide +kernel
theorem dX7_given_40 : decode cX7_given 40 = .ok (.iload_n 3, 1) := by decide +kernel
theorem dX7_given_41 : decode cX7_given 41 = .ok (.ireturn, 1) := by decide +kernel
theorem dX7_hash_0 : decode cX7_hash 0 = .ok (.aload_n 0, 1) := by decide +kernel
theorem dX7_hash_1 : decode cX7_hash 1 = .ok (.iload_n 1, 1) := by decide +kernel
theorem dX7_hash_2 : decode cX7_hash 2 = .ok (.invokevirtual 83, 3) := by decide +kernel
theorem dX7_hash_5 : decode cX7_hash 5 = .ok (.istore_n 3, 1) := by decide +kernel
theorem dX7_hash_6 : decode cX7_hash 6 = .ok (.iload_n 3, 1) := by decide +kernel
theorem dX7_hash_7 : decode cX7_hash 7 = .ok (.ifCond .eq 5, 3) := by decide +kernel
theorem dX7_hash_10 : decode cX7_hash 10 = .ok (.iload_n 3, 1) := by decide +kernel
theorem dX7_hash_11 : decode cX7_hash 11 = .ok (.ireturn, 1) := by decide +kernel
theorem dX7_hash_12 : decode cX7_hash 12 = .ok (.aload_n 0, 1) := by decide +kernel
theorem dX7_hash_13 : decode cX7_hash 13 = .ok (.getfield 33, 3) := by decide +kernel
theorem dX7_hash_16 : decode cX7_hash 16 = .ok (.aload_n 0, 1) := by decide +kernel
theorem dX7_hash_17 : decode cX7_hash 17 = .ok (.getfield 26, 3) := by decide +kernel
theorem dX7_hash_20 : decode cX7_hash 20 = .ok (.iload_n 1, 1) := by decide +kernel
theorem dX7_hash_21 : decode cX7_hash 21 = .ok (.invokevirtual 117, 3) := by decide +kernel
theorem dX7_hash_24 : decode cX7_hash 24 = .ok (.astore 4, 2) := by decide +kernel
theorem dX7_hash_26 : decode cX7_hash 26 = .ok (.iload_n 2, 1) := by decide +kernel
theorem dX7_hash_27 : decode cX7_hash 27 = .ok (.ifCond .lt 22, 3) := by decide +kernel
theorem dX7_hash_30 : decode cX7_hash 30 = .ok (.iload_n 2, 1) := by decide +kernel
theorem dX7_hash_31 : decode cX7_hash 31 = .ok (.aload 4, 2) := by decide +kernel
theorem dX7_hash_33 : decode cX7_hash 33 = .ok (.getfield 121, 3) := by decide +kernel
theorem dX7_hash_36 : decode cX7_hash 36 = .ok (.if_icmp .ge 13, 3) := by decide +kernel
theorem dX7_hash_39 : decode cX7_hash 39 = .ok (.aload 4, 2) := by decide +kernel
theorem dX7_hash_41 : decode cX7_hash 41 = .ok (.getfield 126, 3) := by decide +kernel
theorem dX7_hash_44 : decode cX7_hash 44 = .ok (.iload_n 2, 1) := by decide +kernel
theorem dX7_hash_45 : decode cX7_hash 45 = .ok (.iaload, 1) := by decide +kernel
theorem dX7_hash_46 : decode cX7_hash 46 = .ok (.goto 5, 3) := by decide +kernel
theorem dX7_hash_49 : decode cX7_hash 49 = .ok (.bipush (-4), 2) := by decide +kernel
theorem dX7_hash_51 : decode cX7_hash 51 = .ok (.ireturn, 1) := by decide +kernel
theorem dX7_markAt_0 : decode cX7_markAt 0 = .ok (.iload_n 2, 1) := by decide +kernel
theorem dX7_markAt_1 : decode cX7_markAt 1 = .ok (.iconst (-1), 1) := by decide +kernel
theorem dX7_markAt_2 : decode cX7_markAt 2 = .ok (.if_icmp .ge 7, 3) := by decide +kernel
theorem dX7_markAt_5 : decode cX7_markAt 5 = .ok (.iconst (-1), 1) := by decide +kernel
theorem dX7_markAt_6 : decode cX7_markAt 6 = .ok (.goto 8, 3) := by decide +kernel
theorem dX7_markAt_9 : decode cX7_markAt 9 = .ok (.aload_n 0, 1) := by decide +kernel
theorem dX7_markAt_10 : decode cX7_markAt 10 = .ok (.iload_n 1, 1) := by decide +kernel
theorem dX7_markAt_11 : decode cX7_markAt 11 = .ok (.invokevirtual 83, 3) := by decide +kernel
theorem dX7_markAt_14 : decode cX7_markAt 14 = .ok (.istore_n 3, 1) := by decide +kernel
theorem dX7_markAt_15 : decode cX7_markAt 15 = .ok (.iload_n 3, 1) := by decide +kernel
theorem dX7_markAt_16 : decode cX7_markAt 16 = .ok (.ifCond .eq 5, 3) := by decide +kernel
theorem dX7_markAt_19 : decode cX7_markAt 19 = .ok (.iload_n 3, 1) := by decide +kernel
theorem dX7_markAt_20 : decode cX7_markAt 20 = .ok (.ireturn, 1) := by decide +kernel
theorem dX7_markAt_21 : decode cX7_markAt 21 = .ok (.aload_n 0, 1) := by decide +kernel
theorem dX7_markAt_22 : decode cX7_markAt 22 = .ok (.getfield 33, 3) := by decide +kernel
theorem dX7_markAt_25 : decode cX7_markAt 25 = .ok (.aload_n 0, 1) := by decide +kernel
theorem dX7_markAt_26 : decode cX7_markAt 26 = .ok (.getfield 26, 3) := by decide +kernel
theorem dX7_markAt_29 : decode cX7_markAt 29 = .ok (.iload_n 1, 1) := by decide +kernel
theorem dX7_markAt_30 : decode cX7_markAt 30 = .ok (.invokevirtual 117, 3) := by decide +kernel
theorem dX7_markAt_33 : decode cX7_markAt 33 = .ok (.astore 4, 2) := by decide +kernel
theorem dX7_markAt_35 : decode cX7_markAt 35 = .ok (.iload_n 2, 1) := by decide +kernel
theorem dX7_markAt_36 : decode cX7_markAt 36 = .ok (.iconst (-1), 1) := by decide +kernel
theorem dX7_markAt_37 : decode cX7_markAt 37 = .ok (.if_icmp .ne 11, 3) := by decide +kernel
theorem dX7_markAt_40 : decode cX7_markAt 40 = .ok (.aload 4, 2) := by decide +kernel
theorem dX7_markAt_42 : decode cX7_markAt 42 = .ok (.invokevirtual 130, 3) := by decide +kernel
theorem dX7_markAt_45 : decode cX7_markAt 45 = .ok (.goto 9, 3) := by decide +kernel
theorem dX7_markAt_48 : decode cX7_markAt 48 = .ok (.aload 4, 2) := by decide +kernel
theorem dX7_markAt_50 : decode cX7_markAt 50 = .ok (.iload_n 2, 1) := by decide +kernel
theorem dX7_markAt_51 : decode cX7_markAt 51 = .ok (.invokevirtual 134, 3) := by decide +kernel
theorem dX7_markAt_54 : decode cX7_markAt 54 = .ok (.ireturn, 1) := by decide +kernel
theorem dX7_aside_0 : decode cX7_aside 0 = .ok (.iload_n 2, 1) := by decide +kernel
theorem dX7_aside_1 : decode cX7_aside 1 = .ok (.ifCond .ge 7, 3) := by decide +kernel
theorem dX7_aside_4 : decode cX7_aside 4 = .ok (.iconst (-1), 1) := by decide +kernel
theorem dX7_aside_5 : decode cX7_aside 5 = .ok (.goto 8, 3) := by decide +kernel
theorem dX7_aside_8 : decode cX7_aside 8 = .ok (.aload_n 0, 1) := by decide +kernel
theorem dX7_aside_9 : decode cX7_aside 9 = .ok (.iload_n 1, 1) := by decide +kernel
theorem dX7_aside_10 : decode cX7_aside 10 = .ok (.invokevirtual 83, 3) := by decide +kernel
theorem dX7_aside_13 : decode cX7_aside 13 = .ok (.istore_n 3, 1) := by decide +kernel
theorem dX7_aside_14 : decode cX7_aside 14 = .ok (.iload_n 3, 1) := by decide +kernel
theorem dX7_aside_15 : decode cX7_aside 15 = .ok (.ifCond .eq 5, 3) := by decide +kernel
theorem dX7_aside_18 : decode cX7_aside 18 = .ok (.iload_n 3, 1) := by decide +kernel
theorem dX7_aside_19 : decode cX7_aside 19 = .ok (.ireturn, 1) := by decide +kernel
theorem dX7_aside_20 : decode cX7_aside 20 = .ok (.aload_n 0, 1) := by decide +kernel
theorem dX7_aside_21 : decode cX7_aside 21 = .ok (.getfield 33, 3) := by decide +kernel
theorem dX7_aside_24 : decode cX7_aside 24 = .ok (.aload_n 0, 1) := by decide +kernel
theorem dX7_aside_25 : decode cX7_aside 25 = .ok (.getfield 26, 3) := by decide +kernel
theorem dX7_aside_28 : decode cX7_aside 28 = .ok (.iload_n 1, 1) := by decide +kernel
theorem dX7_aside_29 : decode cX7_aside 29 = .ok (.invokevirtual 117, 3) := by decide +kernel
theorem dX7_aside_32 : decode cX7_aside 32 = .ok (.astore 4, 2) := by decide +kernel
theorem dX7_aside_34 : decode cX7_aside 34 = .ok (.iload_n 2, 1) := by decide +kernel
theorem dX7_aside_35 : decode cX7_aside 35 = .ok (.aload 4, 2) := by decide +kernel
theorem dX7_aside_37 : decode cX7_aside 37 = .ok (.getfield 137, 3) := by decide +kernel
theorem dX7_aside_40 : decode cX7_aside 40 = .ok (.if_icmp .lt 5, 3) := by decide +kernel
theorem dX7_aside_43 : decode cX7_aside 43 = .ok (.iconst (-1), 1) := by decide +kernel
theorem dX7_aside_44 : decode cX7_aside 44 = .ok (.ireturn, 1) := by decide +kernel
theorem dX7_aside_45 : decode cX7_aside 45 = .ok (.aload 4, 2) := by decide +kernel
theorem dX7_aside_47 : decode cX7_aside 47 = .ok (.getfield 138, 3) := by decide +kernel
theorem dX7_aside_50 : decode cX7_aside 50 = .ok (.iload_n 2, 1) := by decide +kernel
theorem dX7_aside_51 : decode cX7_aside 51 = .ok (.baload, 1) := by decide +kernel
theorem dX7_aside_52 : decode cX7_aside 52 = .ok (.ifCond .eq 7, 3) := by decide +kernel
theorem dX7_aside_55 : decode cX7_aside 55 = .ok (.iconst 1, 1) := by decide +kernel
theorem dX7_aside_56 : decode cX7_aside 56 = .ok (.goto 4, 3) := by decide +kernel
theorem dX7_aside_59 : decode cX7_aside 59 = .ok (.iconst 0, 1) := by decide +kernel
theorem dX7_aside_60 : decode cX7_aside 60 = .ok (.ireturn, 1) := by decide +kernel
theorem dX7_runs_0 : decode cX7_runs 0 = .ok (.aload_n 0, 1) := by decide +kernel
theorem dX7_runs_1 : decode cX7_runs 1 = .ok (.iload_n 1, 1) := by decide +kernel
theorem dX7_runs_2 : decode cX7_runs 2 = .ok (.iload_n 2, 1) := by decide +kernel
theorem dX7_runs_3 : decode cX7_runs 3 = .ok (.invokevirtual 142, 3) := by decide +kernel
theorem dX7_runs_6 : decode cX7_runs 6 = .ok (.istore_n 3, 1) := by decide +kernel
theorem dX7_runs_7 : decode cX7_runs 7 = .ok (.iload_n 3, 1) := by decide +kernel
theorem dX7_runs_8 : decode cX7_runs 8 = .ok (.ifCond .eq 5, 3) := by decide +kernel
theorem dX7_runs_11 : decode cX7_runs 11 = .ok (.iload_n 3, 1) := by decide +kernel
theorem dX7_runs_12 : decode cX7_runs 12 = .ok (.ireturn, 1) := by decide +kernel
theorem dX7_runs_13 : decode cX7_runs 13 = .ok (.aload_n 0, 1) := by decide +kernel
theorem dX7_runs_14 : decode cX7_runs 14 = .ok (.getfield 33, 3) := by decide +kernel
theorem dX7_runs_17 : decode cX7_runs 17 = .ok (.aload_n 0, 1) := by decide +kernel
theorem dX7_runs_18 : decode cX7_runs 18 = .ok (.getfield 26, 3) := by decide +kernel
theorem dX7_runs_21 : decode cX7_runs 21 = .ok (.iload_n 1, 1) := by decide +kernel
theorem dX7_runs_22 : decode cX7_runs 22 = .ok (.iload_n 2, 1) := by decide +kernel
theorem dX7_runs_23 : decode cX7_runs 23 = .ok (.iconst 0, 1) := by decide +kernel
theorem dX7_runs_24 : decode cX7_runs 24 = .ok (.invokevirtual 146, 3) := by decide +kernel
theorem dX7_runs_27 : decode cX7_runs 27 = .ok (.aload_n 0, 1) := by decide +kernel
theorem dX7_runs_28 : decode cX7_runs 28 = .ok (.getfield 33, 3) := by decide +kernel
theorem dX7_runs_31 : decode cX7_runs 31 = .ok (.getfield 150, 3) := by decide +kernel
theorem dX7_runs_34 : decode cX7_runs 34 = .ok (.ireturn, 1) := by decide +kernel
theorem dX7_run_0 : decode cX7_run 0 = .ok (.iload_n 3, 1) := by decide +kernel
theorem dX7_run_1 : decode cX7_run 1 = .ok (.ifCond .lt 14, 3) := by decide +kernel
theorem dX7_run_4 : decode cX7_run 4 = .ok (.iload 4, 2) := by decide +kernel
theorem dX7_run_6 : decode cX7_run 6 = .ok (.ifCond .lt 9, 3) := by decide +kernel
theorem dX7_run_9 : decode cX7_run 9 = .ok (.iload 4, 2) := by decide +kernel
theorem dX7_run_11 : decode cX7_run 11 = .ok (.iconst 2, 1) := by decide +kernel
theorem dX7_run_12 : decode cX7_run 12 = .ok (.if_icmp .le 7, 3) := by decide +kernel
theorem dX7_run_15 : decode cX7_run 15 = .ok (.iconst (-1), 1) := by decide +kernel
theorem dX7_run_16 : decode cX7_run 16 = .ok (.goto 9, 3) := by decide +kernel
theorem dX7_run_19 : decode cX7_run 19 = .ok (.aload_n 0, 1) := by decide +kernel
theorem dX7_run_20 : decode cX7_run 20 = .ok (.iload_n 1, 1) := by decide +kernel
theorem dX7_run_21 : decode cX7_run 21 = .ok (.iload_n 2, 1) := by decide +kernel
theorem dX7_run_22 : decode cX7_run 22 = .ok (.invokevirtual 142, 3) := by decide +kernel
theorem dX7_run_25 : decode cX7_run 25 = .ok (.istore 5, 2) := by decide +kernel
theorem dX7_run_27 : decode cX7_run 27 = .ok (.iload 5, 2) := by decide +kernel
theorem dX7_run_29 : decode cX7_run 29 = .ok (.ifCond .eq 6, 3) := by decide +kernel
theorem dX7_run_32 : decode cX7_run 32 = .ok (.iload 5, 2) := by decide +kernel
theorem dX7_run_34 : decode cX7_run 34 = .ok (.ireturn, 1) := by decide +kernel
theorem dX7_run_35 : decode cX7_run 35 = .ok (.aload_n 0, 1) := by decide +kernel
theorem dX7_run_36 : decode cX7_run 36 = .ok (.getfield 33, 3) := by decide +kernel
theorem dX7_run_39 : decode cX7_run 39 = .ok (.aload_n 0, 1) := by decide +kernel
theorem dX7_run_40 : decode cX7_run 40 = .ok (.getfield 26, 3) := by decide +kernel
theorem dX7_run_43 : decode cX7_run 43 = .ok (.iload_n 1, 1) := by decide +kernel
theorem dX7_run_44 : decode cX7_run 44 = .ok (.iload_n 2, 1) := by decide +kernel
theorem dX7_run_45 : decode cX7_run 45 = .ok (.iconst 0, 1) := by decide +kernel
theorem dX7_run_46 : decode cX7_run 46 = .ok (.invokevirtual 146, 3) := by decide +kernel
theorem dX7_run_49 : decode cX7_run 49 = .ok (.aload_n 0, 1) := by decide +kernel
theorem dX7_run_50 : decode cX7_run 50 = .ok (.getfield 33, 3) := by decide +kernel
theorem dX7_run_53 : decode cX7_run 53 = .ok (.iload_n 3, 1) := by decide +kernel
theorem dX7_run_54 : decode cX7_run 54 = .ok (.iload 4, 2) := by decide +kernel
theorem dX7_run_56 : decode cX7_run 56 = .ok (.invokevirtual 153, 3) := by decide +kernel
theorem dX7_run_59 : decode cX7_run 59 = .ok (.ireturn, 1) := by decide +kernel
theorem dX7_score_0 : decode cX7_score 0 = .ok (.aload_n 0, 1) := by decide +kernel
theorem dX7_score_1 : decode cX7_score 1 = .ok (.iload_n 1, 1) := by decide +kernel
theorem dX7_score_2 : decode cX7_score 2 = .ok (.iload_n 2, 1) := by decide +kernel
theorem dX7_score_3 : decode cX7_score 3 = .ok (.invokevirtual 142, 3) := by decide +kernel
theorem dX7_score_6 : decode cX7_score 6 = .ok (.istore_n 3, 1) := by decide +kernel
theorem dX7_score_7 : decode cX7_score 7 = .ok (.iload_n 3, 1) := by decide +kernel
theorem dX7_score_8 : decode cX7_score 8 = .ok (.ifCond .eq 7, 3) := by decide +kernel
theorem dX7_score_11 : decode cX7_score 11 = .ok (.iload_n 3, 1) := by decide +kernel
theorem dX7_score_12 : decode cX7_score 12 = .ok (.goto 17, 3) := by decide +kernel
theorem dX7_score_15 : decode cX7_score 15 = .ok (.aload_n 0, 1) := by decide +kernel
theorem dX7_score_16 : decode cX7_score 16 = .ok (.getfield 33, 3) := by decide +kernel
theorem dX7_score_19 : decode cX7_score 19 = .ok (.aload_n 0, 1) := by decide +kernel
theorem dX7_score_20 : decode cX7_score 20 = .ok (.getfield 26, 3) := by decide +kernel
theorem dX7_score_23 : decode cX7_score 23 = .ok (.iload_n 1, 1) := by decide +kernel
theorem dX7_score_24 : decode cX7_score 24 = .ok (.iload_n 2, 1) := by decide +kernel
theorem dX7_score_25 : decode cX7_score 25 = .ok (.iconst 0, 1) := by decide +kernel
theorem dX7_score_26 : decode cX7_score 26 = .ok (.invokevirtual 156, 3) := by decide +kernel
theorem dX7_score_29 : decode cX7_score 29 = .ok (.ireturn, 1) := by decide +kernel
theorem dX7_chain_0 : decode cX7_chain 0 = .ok (.iload_n 3, 1) := by decide +kernel
theorem dX7_chain_1 : decode cX7_chain 1 = .ok (.iconst (-1), 1) := by decide +kernel
theorem dX7_chain_2 : decode cX7_chain 2 = .ok (.if_icmp .ge 7, 3) := by decide +kernel
theorem dX7_chain_5 : decode cX7_chain 5 = .ok (.iconst (-1), 1) := by decide +kernel
theorem dX7_chain_6 : decode cX7_chain 6 = .ok (.goto 9, 3) := by decide +kernel
theorem dX7_chain_9 : decode cX7_chain 9 = .ok (.aload_n 0, 1) := by decide +kernel
theorem dX7_chain_10 : decode cX7_chain 10 = .ok (.iload_n 1, 1) := by decide +kernel
theorem dX7_chain_11 : decode cX7_chain 11 = .ok (.iload_n 2, 1) := by decide +kernel
theorem dX7_chain_12 : decode cX7_chain 12 = .ok (.invokevirtual 142, 3) := by decide +kernel
theorem dX7_chain_15 : decode cX7_chain 15 = .ok (.istore 4, 2) := by decide +kernel
theorem dX7_chain_17 : decode cX7_chain 17 = .ok (.iload 4, 2) := by decide +kernel
theorem dX7_chain_19 : decode cX7_chain 19 = .ok (.ifCond .eq 6, 3) := by decide +kernel
theorem dX7_chain_22 : decode cX7_chain 22 = .ok (.iload 4, 2) := by decide +kernel
theorem dX7_chain_24 : decode cX7_chain 24 = .ok (.ireturn, 1) := by decide +kernel
theorem dX7_chain_25 : decode cX7_chain 25 = .ok (.aload_n 0, 1) := by decide +kernel
theorem dX7_chain_26 : decode cX7_chain 26 = .ok (.getfield 33, 3) := by decide +kernel
theorem dX7_chain_29 : decode cX7_chain 29 = .ok (.aload_n 0, 1) := by decide +kernel
theorem dX7_chain_30 : decode cX7_chain 30 = .ok (.getfield 26, 3) := by decide +kernel
theorem dX7_chain_33 : decode cX7_chain 33 = .ok (.iload_n 1, 1) := by decide +kernel
theorem dX7_chain_34 : decode cX7_chain 34 = .ok (.iload_n 2, 1) := by decide +kernel
theorem dX7_chain_35 : decode cX7_chain 35 = .ok (.invokevirtual 160, 3) := by decide +kernel
theorem dX7_chain_38 : decode cX7_chain 38 = .ok (.iload_n 3, 1) := by decide +kernel
theorem dX7_chain_39 : decode cX7_chain 39 = .ok (.iconst (-1), 1) := by decide +kernel
theorem dX7_chain_40 : decode cX7_chain 40 = .ok (.if_icmp .ne 11, 3) := by decide +kernel
theorem dX7_chain_43 : decode cX7_chain 43 = .ok (.aload_n 0, 1) := by decide +kernel
theorem dX7_chain_44 : decode cX7_chain 44 = .ok (.getfield 33, 3) := by decide +kernel
theorem dX7_chain_47 : decode cX7_chain 47 = .ok (.getfield 164, 3) := by decide +kernel
theorem dX7_chain_50 : decode cX7_chain 50 = .ok (.ireturn, 1) := by decide +kernel
theorem dX7_chain_51 : decode cX7_chain 51 = .ok (.iload_n 3, 1) := by decide +kernel
theorem dX7_chain_52 : decode cX7_chain 52 = .ok (.aload_n 0, 1) := by decide +kernel
theorem dX7_chain_53 : decode cX7_chain 53 = .ok (.getfield 33, 3) := by decide +kernel
theorem dX7_chain_56 : decode cX7_chain 56 = .ok (.getfield 164, 3) := by decide +kernel
theorem dX7_chain_59 : decode cX7_chain 59 = .ok (.if_icmp .ge 15, 3) := by decide +kernel
theorem dX7_chain_62 : decode cX7_chain 62 = .ok (.aload_n 0, 1) := by decide +kernel
theorem dX7_chain_63 : decode cX7_chain 63 = .ok (.getfield 33, 3) := by decide +kernel
theorem dX7_chain_66 : decode cX7_chain 66 = .ok (.getfield 167, 3) := by decide +kernel
theorem dX7_chain_69 : decode cX7_chain 69 = .ok (.iload_n 3, 1) := by decide +kernel
theorem dX7_chain_70 : decode cX7_chain 70 = .ok (.iaload, 1) := by decide +kernel
theorem dX7_chain_71 : decode cX7_chain 71 = .ok (.goto 4, 3) := by decide +kernel
theorem dX7_chain_74 : decode cX7_chain 74 = .ok (.iconst (-1), 1) := by decide +kernel
theorem dX7_chain_75 : decode cX7_chain 75 = .ok (.ireturn, 1) := by decide +kernel
theorem dX7_covered_0 : decode cX7_covered 0 = .ok (.aload_n 0, 1) := by decide +kernel
theorem dX7_covered_1 : decode cX7_covered 1 = .ok (.iload_n 1, 1) := by decide +kernel
theorem dX7_covered_2 : decode cX7_covered 2 = .ok (.iload_n 2, 1) := by decide +kernel
theorem dX7_covered_3 : decode cX7_covered 3 = .ok (.invokevirtual 142, 3) := by decide +kernel
theorem dX7_covered_6 : decode cX7_covered 6 = .ok (.istore_n 3, 1) := by decide +kernel
theorem dX7_covered_7 : decode cX7_covered 7 = .ok (.iload_n 3, 1) := by decide +kernel
theorem dX7_covered_8 : decode cX7_covered 8 = .ok (.ifCond .eq 5, 3) := by decide +kernel
theorem dX7_covered_11 : decode cX7_covered 11 = .ok (.iload_n 3, 1) := by decide +kernel
theorem dX7_covered_12 : decode cX7_covered 12 = .ok (.ireturn, 1) := by decide +kernel
theorem dX7_covered_13 : decode cX7_covered 13 = .ok (.aload_n 0, 1) := by decide +kernel
theorem dX7_covered_14 : decode cX7_covered 14 = .ok (.getfield 33, 3) := by decide +kernel
theorem dX7_covered_17 : decode cX7_covered 17 = .ok (.aload_n 0, 1) := by decide +kernel
theorem dX7_covered_18 : decode cX7_covered 18 = .ok (.getfield 26, 3) := by decide +kernel
theorem dX7_covered_21 : decode cX7_covered 21 = .ok (.iload_n 1, 1) := by decide +kernel
theorem dX7_covered_22 : decode cX7_covered 22 = .ok (.iload_n 2, 1) := by decide +kernel
theorem dX7_covered_23 : decode cX7_covered 23 = .ok (.invokevirtual 160, 3) := by decide +kernel
theorem dX7_covered_26 : decode cX7_covered 26 = .ok (.aload_n 0, 1) := by decide +kernel
theorem dX7_covered_27 : decode cX7_covered 27 = .ok (.getfield 33, 3) := by decide +kernel
theorem dX7_covered_30 : decode cX7_covered 30 = .ok (.getfield 170, 3) := by decide +kernel
theorem dX7_covered_33 : decode cX7_covered 33 = .ok (.ireturn, 1) := by decide +kernel
theorem dX7_group_0 : decode cX7_group 0 = .ok (.aload_n 0, 1) := by decide +kernel
theorem dX7_group_1 : decode cX7_group 1 = .ok (.iload_n 1, 1) := by decide +kernel
theorem dX7_group_2 : decode cX7_group 2 = .ok (.invokevirtual 83, 3) := by decide +kernel
theorem dX7_group_5 : decode cX7_group 5 = .ok (.istore_n 2, 1) := by decide +kernel
theorem dX7_group_6 : decode cX7_group 6 = .ok (.iload_n 2, 1) := by decide +kernel
theorem dX7_group_7 : decode cX7_group 7 = .ok (.ifCond .eq 5, 3) := by decide +kernel
theorem dX7_group_10 : decode cX7_group 10 = .ok (.iload_n 2, 1) := by decide +kernel
theorem dX7_group_11 : decode cX7_group 11 = .ok (.ireturn, 1) := by decide +kernel
theorem dX7_group_12 : decode cX7_group 12 = .ok (.aload_n 0, 1) := by decide +kernel
theorem dX7_group_13 : decode cX7_group 13 = .ok (.getfield 40, 3) := by decide +kernel
theorem dX7_group_16 : decode cX7_group 16 = .ok (.aload_n 0, 1) := by decide +kernel
theorem dX7_group_17 : decode cX7_group 17 = .ok (.getfield 26, 3) := by decide +kernel
theorem dX7_group_20 : decode cX7_group 20 = .ok (.aload_n 0, 1) := by decide +kernel
theorem dX7_group_21 : decode cX7_group 21 = .ok (.getfield 33, 3) := by decide +kernel
theorem dX7_group_24 : decode cX7_group 24 = .ok (.invokevirtual 173, 3) := by decide +kernel
theorem dX7_group_27 : decode cX7_group 27 = .ok (.aload_n 0, 1) := by decide +kernel
theorem dX7_group_28 : decode cX7_group 28 = .ok (.getfield 40, 3) := by decide +kernel
theorem dX7_group_31 : decode cX7_group 31 = .ok (.getfield 177, 3) := by decide +kernel
theorem dX7_group_34 : decode cX7_group 34 = .ok (.iload_n 1, 1) := by decide +kernel
theorem dX7_group_35 : decode cX7_group 35 = .ok (.iaload, 1) := by decide +kernel
theorem dX7_group_36 : decode cX7_group 36 = .ok (.ireturn, 1) := by decide +kernel
theorem dX7_first_0 : decode cX7_first 0 = .ok (.aload_n 0, 1) := by decide +kernel
theorem dX7_first_1 : decode cX7_first 1 = .ok (.iload_n 1, 1) := by decide +kernel
theorem dX7_first_2 : decode cX7_first 2 = .ok (.invokevirtual 83, 3) := by decide +kernel
theorem dX7_first_5 : decode cX7_first 5 = .ok (.istore_n 2, 1) := by decide +kernel
theorem dX7_first_6 : decode cX7_first 6 = .ok (.iload_n 2, 1) := by decide +kernel
theorem dX7_first_7 : decode cX7_first 7 = .ok (.ifCond .eq 5, 3) := by decide +kernel
theorem dX7_first_10 : decode cX7_first 10 = .ok (.iload_n 2, 1) := by decide +kernel
theorem dX7_first_11 : decode cX7_first 11 = .ok (.ireturn, 1) := by decide +kernel
theorem dX7_first_12 : decode cX7_first 12 = .ok (.aload_n 0, 1) := by decide +kernel
theorem dX7_first_13 : decode cX7_first 13 = .ok (.getfield 40, 3) := by decide +kernel
theorem dX7_first_16 : decode cX7_first 16 = .ok (.aload_n 0, 1) := by decide +kernel
theorem dX7_first_17 : decode cX7_first 17 = .ok (.getfield 26, 3) := by decide +kernel
theorem dX7_first_20 : decode cX7_first 20 = .ok (.aload_n 0, 1) := by decide +kernel
theorem dX7_first_21 : decode cX7_first 21 = .ok (.getfield 33, 3) := by decide +kernel
theorem dX7_first_24 : decode cX7_first 24 = .ok (.invokevirtual 173, 3) := by decide +kernel
theorem dX7_first_27 : decode cX7_first 27 = .ok (.aload_n 0, 1) := by decide +kernel
theorem dX7_first_28 : decode cX7_first 28 = .ok (.getfield 40, 3) := by decide +kernel
theorem dX7_first_31 : decode cX7_first 31 = .ok (.aload_n 0, 1) := by decide +kernel
theorem dX7_first_32 : decode cX7_first 32 = .ok (.getfield 26, 3) := by decide +kernel
theorem dX7_first_35 : decode cX7_first 35 = .ok (.aload_n 0, 1) := by decide +kernel
theorem dX7_first_36 : decode cX7_first 36 = .ok (.getfield 40, 3) := by decide +kernel
theorem dX7_first_39 : decode cX7_first 39 = .ok (.getfield 177, 3) := by decide +kernel
theorem dX7_first_42 : decode cX7_first 42 = .ok (.iload_n 1, 1) := by decide +kernel
theorem dX7_first_43 : decode cX7_first 43 = .ok (.iaload, 1) := by decide +kernel
theorem dX7_first_44 : decode cX7_first 44 = .ok (.invokevirtual 180, 3) := by decide +kernel
theorem dX7_first_47 : decode cX7_first 47 = .ok (.ireturn, 1) := by decide +kernel
theorem dX7_count_0 : decode cX7_count 0 = .ok (.iload_n 1, 1) := by decide +kernel
theorem dX7_count_1 : decode cX7_count 1 = .ok (.ifCond .lt 8, 3) := by decide +kernel
theorem dX7_count_4 : decode cX7_count 4 = .ok (.iload_n 1, 1) := by decide +kernel
theorem dX7_count_5 : decode cX7_count 5 = .ok (.iconst 3, 1) := by decide +kernel
theorem dX7_count_6 : decode cX7_count 6 = .ok (.if_icmp .le 5, 3) := by decide +kernel
theorem dX7_count_9 : decode cX7_count 9 = .ok (.iconst (-1), 1) := by decide +kernel
theorem dX7_count_10 : decode cX7_count 10 = .ok (.ireturn, 1) := by decide +kernel
theorem dX7_count_11 : decode cX7_count 11 = .ok (.iload_n 1, 1) := by decide +kernel
theorem dX7_count_12 : decode cX7_count 12 = .ok (.ifCond .ne 11, 3) := by decide +kernel
theorem dX7_count_15 : decode cX7_count 15 = .ok (.aload_n 0, 1) := by decide +kernel
theorem dX7_count_16 : decode cX7_count 16 = .ok (.getfield 26, 3) := by decide +kernel
theorem dX7_count_19 : decode cX7_count 19 = .ok (.invokevirtual 184, 3) := by decide +kernel
theorem dX7_count_22 : decode cX7_count 22 = .ok (.ireturn, 1) := by decide +kernel
theorem dX7_count_23 : decode cX7_count 23 = .ok (.aload_n 0, 1) := by decide +kernel
theorem dX7_count_24 : decode cX7_count 24 = .ok (.getfield 40, 3) := by decide +kernel
theorem dX7_count_27 : decode cX7_count 27 = .ok (.aload_n 0, 1) := by decide +kernel
theorem dX7_count_28 : decode cX7_count 28 = .ok (.getfield 26, 3) := by decide +kernel
theorem dX7_count_31 : decode cX7_count 31 = .ok (.aload_n 0, 1) := by decide +kernel
theorem dX7_count_32 : decode cX7_count 32 = .ok (.getfield 33, 3) := by decide +kernel
theorem dX7_count_35 : decode cX7_count 35 = .ok (.invokevirtual 173, 3) := by decide +kernel
theorem dX7_count_38 : decode cX7_count 38 = .ok (.iload_n 1, 1) := by decide +kernel
theorem dX7_count_39 : decode cX7_count 39 = .ok (.iconst 3, 1) := by decide +kernel
theorem dX7_count_40 : decode cX7_count 40 = .ok (.if_icmp .ne 11, 3) := by decide +kernel
theorem dX7_count_43 : decode cX7_count 43 = .ok (.aload_n 0, 1) := by decide +kernel
theorem dX7_count_44 : decode cX7_count 44 = .ok (.getfield 40, 3) := by decide +kernel
theorem dX7_count_47 : decode cX7_count 47 = .ok (.getfield 187, 3) := by decide +kernel
theorem dX7_count_50 : decode cX7_count 50 = .ok (.ireturn, 1) := by decide +kernel
theorem dX7_count_51 : decode cX7_count 51 = .ok (.iload_n 1, 1) := by decide +kernel
theorem dX7_count_52 : decode cX7_count 52 = .ok (.iconst 1, 1) := by decide +kernel
theorem dX7_count_53 : decode cX7_count 53 = .ok (.if_icmp .ne 16, 3) := by decide +kernel
theorem dX7_count_56 : decode cX7_count 56 = .ok (.aload_n 0, 1) := by decide +kernel
theorem dX7_count_57 : decode cX7_count 57 = .ok (.getfield 40, 3) := by decide +kernel
theorem dX7_count_60 : decode cX7_count 60 = .ok (.iconst 1, 1) := by decide +kernel
theorem dX7_count_61 : decode cX7_count 61 = .ok (.bipush 6, 2) := by decide +kernel
theorem dX7_count_63 : decode cX7_count 63 = .ok (.invokevirtual 190, 3) := by decide +kernel
theorem dX7_count_66 : decode cX7_count 66 = .ok (.goto 12, 3) := by decide +kernel
theorem dX7_count_69 : decode cX7_count 69 = .ok (.aload_n 0, 1) := by decide +kernel
theorem dX7_count_70 : decode cX7_count 70 = .ok (.getfield 40, 3) := by decide +kernel
theorem dX7_count_73 : decode cX7_count 73 = .ok (.iconst 1, 1) := by decide +kernel
theorem dX7_count_74 : decode cX7_count 74 = .ok (.iconst 1, 1) := by decide +kernel
theorem dX7_count_75 : decode cX7_count 75 = .ok (.invokevirtual 190, 3) := by decide +kernel
theorem dX7_count_78 : decode cX7_count 78 = .ok (.ireturn, 1) := by decide +kernel
theorem dX7_chance_0 : decode cX7_chance 0 = .ok (.aload_n 0, 1) := by decide +kernel
theorem dX7_chance_1 : decode cX7_chance 1 = .ok (.iload_n 1, 1) := by decide +kernel
theorem dX7_chance_2 : decode cX7_chance 2 = .ok (.iload_n 2, 1) := by decide +kernel
theorem dX7_chance_3 : decode cX7_chance 3 = .ok (.invokevirtual 142, 3) := by decide +kernel
theorem dX7_chance_6 : decode cX7_chance 6 = .ok (.istore_n 3, 1) := by decide +kernel
theorem dX7_chance_7 : decode cX7_chance 7 = .ok (.iload_n 3, 1) := by decide +kernel
theorem dX7_chance_8 : decode cX7_chance 8 = .ok (.ifCond .eq 5, 3) := by decide +kernel
theorem dX7_chance_11 : decode cX7_chance 11 = .ok (.iload_n 3, 1) := by decide +kernel
theorem dX7_chance_12 : decode cX7_chance 12 = .ok (.ireturn, 1) := by decide +kernel
theorem dX7_chance_13 : decode cX7_chance 13 = .ok (.aload_n 0, 1) := by decide +kernel
theorem dX7_chance_14 : decode cX7_chance 14 = .ok (.getfield 33, 3) := by decide +kernel
theorem dX7_chance_17 : decode cX7_chance 17 = .ok (.aload_n 0, 1) := by decide +kernel
theorem dX7_chance_18 : decode cX7_chance 18 = .ok (.getfield 26, 3) := by decide +kernel
theorem dX7_chance_21 : decode cX7_chance 21 = .ok (.iload_n 1, 1) := by decide +kernel
theorem dX7_chance_22 : decode cX7_chance 22 = .ok (.iload_n 2, 1) := by decide +kernel
theorem dX7_chance_23 : decode cX7_chance 23 = .ok (.iconst 0, 1) := by decide +kernel
theorem dX7_chance_24 : decode cX7_chance 24 = .ok (.invokevirtual 156, 3) := by decide +kernel
theorem dX7_chance_27 : decode cX7_chance 27 = .ok (.istore 4, 2) := by decide +kernel
theorem dX7_chance_29 : decode cX7_chance 29 = .ok (.iconst 0, 1) := by decide +kernel
theorem dX7_chance_30 : decode cX7_chance 30 = .ok (.istore 5, 2) := by decide +kernel
theorem dX7_chance_32 : decode cX7_chance 32 = .ok (.iconst 0, 1) := by decide +kernel
theorem dX7_chance_33 : decode cX7_chance 33 = .ok (.istore 6, 2) := by decide +kernel
theorem dX7_chance_35 : decode cX7_chance 35 = .ok (.iload 6, 2) := by decide +kernel
theorem dX7_chance_37 : decode cX7_chance 37 = .ok (.aload_n 0, 1) := by decide +kernel
theorem dX7_chance_38 : decode cX7_chance 38 = .ok (.getfield 26, 3) := by decide +kernel
theorem dX7_chance_41 : decode cX7_chance 41 = .ok (.getfield 63, 3) := by decide +kernel
theorem dX7_chance_44 : decode cX7_chance 44 = .ok (.iload_n 2, 1) := by decide +kernel
theorem dX7_chance_45 : decode cX7_chance 45 = .ok (.aaload, 1) := by decide +kernel
theorem dX7_chance_46 : decode cX7_chance 46 = .ok (.getfield 80, 3) := by decide +kernel
theorem dX7_chance_49 : decode cX7_chance 49 = .ok (.if_icmp .ge 32, 3) := by decide +kernel
theorem dX7_chance_52 : decode cX7_chance 52 = .ok (.aload_n 0, 1) := by decide +kernel
theorem dX7_chance_53 : decode cX7_chance 53 = .ok (.getfield 33, 3) := by decide +kernel
theorem dX7_chance_56 : decode cX7_chance 56 = .ok (.aload_n 0, 1) := by decide +kernel
theorem dX7_chance_57 : decode cX7_chance 57 = .ok (.getfield 26, 3) := by decide +kernel
theorem dX7_chance_60 : decode cX7_chance 60 = .ok (.iload_n 1, 1) := by decide +kernel
theorem dX7_chance_61 : decode cX7_chance 61 = .ok (.iload_n 2, 1) := by decide +kernel
theorem dX7_chance_62 : decode cX7_chance 62 = .ok (.iload 6, 2) := by decide +kernel
theorem dX7_chance_64 : decode cX7_chance 64 = .ok (.invokevirtual 156, 3) := by decide +kernel
theorem dX7_chance_67 : decode cX7_chance 67 = .ok (.iload 4, 2) := by decide +kernel
theorem dX7_chance_69 : decode cX7_chance 69 = .ok (.if_icmp .lt 6, 3) := by decide +kernel
theorem dX7_chance_72 : decode cX7_chance 72 = .ok (.iinc 5 1, 3) := by decide +kernel
theorem dX7_chance_75 : decode cX7_chance 75 = .ok (.iinc 6 1, 3) := by decide +kernel
theorem dX7_chance_78 : decode cX7_chance 78 = .ok (.goto (-43), 3) := by decide +kernel
theorem dX7_chance_81 : decode cX7_chance 81 = .ok (.iload 5, 2) := by decide +kernel
theorem dX7_chance_83 : decode cX7_chance 83 = .ok (.ireturn, 1) := by decide +kernel
theorem dX7_refusalOfBook_0 : decode cX7_refusalOfBook 0 = .ok (.aload_n 0, 1) := by decide +kernel
theorem dX7_refusalOfBook_1 : decode cX7_refusalOfBook 1 = .ok (.getfield 26, 3) := by decide +kernel
theorem dX7_refusalOfBook_4 : decode cX7_refusalOfBook 4 = .ok (.iload_n 1, 1) := by decide +kernel
theorem dX7_refusalOfBook_5 : decode cX7_refusalOfBook 5 = .ok (.invokevirtual 60, 3) := by decide +kernel
theorem dX7_refusalOfBook_8 : decode cX7_refusalOfBook 8 = .ok (.ifCond .ne 5, 3) := by decide +kernel
theorem dX7_refusalOfBook_11 : decode cX7_refusalOfBook 11 = .ok (.iconst (-1), 1) := by decide +kernel
theorem dX7_refusalOfBook_12 : decode cX7_refusalOfBook 12 = .ok (.ireturn, 1) := by decide +kernel
theorem dX7_refusalOfBook_13 : decode cX7_refusalOfBook 13 = .ok (.aload_n 0, 1) := by decide +kernel
theorem dX7_refusalOfBook_14 : decode cX7_refusalOfBook 14 = .ok (.getfield 26, 3) := by decide +kernel
theorem dX7_refusalOfBook_17 : decode cX7_refusalOfBook 17 = .ok (.iload_n 1, 1) := by decide +kernel
theorem dX7_refusalOfBook_18 : decode cX7_refusalOfBook 18 = .ok (.invokevirtual 193, 3) := by decide +kernel
theorem dX7_refusalOfBook_21 : decode cX7_refusalOfBook 21 = .ok (.ifCond .eq 7, 3) := by decide +kernel
theorem dX7_refusalOfBook_24 : decode cX7_refusalOfBook 24 = .ok (.iconst 0, 1) := by decide +kernel
theorem dX7_refusalOfBook_25 : decode cX7_refusalOfBook 25 = .ok (.goto 5, 3) := by decide +kernel
theorem dX7_refusalOfBook_28 : decode cX7_refusalOfBook 28 = .ok (.bipush (-2), 2) := by decide +kernel
theorem dX7_refusalOfBook_30 : decode cX7_refusalOfBook 30 = .ok (.ireturn, 1) := by decide +kernel
theorem dX7_refusalOfPair_0 : decode cX7_refusalOfPair 0 = .ok (.aload_n 0, 1) := by decide +kernel
theorem dX7_refusalOfPair_1 : decode cX7_refusalOfPair 1 = .ok (.getfield 26, 3) := by decide +kernel
theorem dX7_refusalOfPair_4 : decode cX7_refusalOfPair 4 = .ok (.iload_n 1, 1) := by decide +kernel
theorem dX7_refusalOfPair_5 : decode cX7_refusalOfPair 5 = .ok (.invokevirtual 60, 3) := by decide +kernel
theorem dX7_refusalOfPair_8 : decode cX7_refusalOfPair 8 = .ok (.ifCond .eq 19, 3) := by decide +kernel
theorem dX7_refusalOfPair_11 : decode cX7_refusalOfPair 11 = .ok (.aload_n 0, 1) := by decide +kernel
theorem dX7_refusalOfPair_12 : decode cX7_refusalOfPair 12 = .ok (.getfield 26, 3) := by decide +kernel
theorem dX7_refusalOfPair_15 : decode cX7_refusalOfPair 15 = .ok (.iload_n 2, 1) := by decide +kernel
theorem dX7_refusalOfPair_16 : decode cX7_refusalOfPair 16 = .ok (.invokevirtual 60, 3) := by decide +kernel
theorem dX7_refusalOfPair_19 : decode cX7_refusalOfPair 19 = .ok (.ifCond .eq 8, 3) := by decide +kernel
theorem dX7_refusalOfPair_22 : decode cX7_refusalOfPair 22 = .ok (.iload_n 1, 1) := by decide +kernel
theorem dX7_refusalOfPair_23 : decode cX7_refusalOfPair 23 = .ok (.iload_n 2, 1) := by decide +kernel
theorem dX7_refusalOfPair_24 : decode cX7_refusalOfPair 24 = .ok (.if_icmp .ne 5, 3) := by decide +kernel
theorem dX7_refusalOfPair_27 : decode cX7_refusalOfPair 27 = .ok (.iconst (-1), 1) := by decide +kernel
theorem dX7_refusalOfPair_28 : decode cX7_refusalOfPair 28 = .ok (.ireturn, 1) := by decide +kernel
theorem dX7_refusalOfPair_29 : decode cX7_refusalOfPair 29 = .ok (.aload_n 0, 1) := by decide +kernel
theorem dX7_refusalOfPair_30 : decode cX7_refusalOfPair 30 = .ok (.getfield 26, 3) := by decide +kernel
theorem dX7_refusalOfPair_33 : decode cX7_refusalOfPair 33 = .ok (.iload_n 1, 1) := by decide +kernel
theorem dX7_refusalOfPair_34 : decode cX7_refusalOfPair 34 = .ok (.invokevirtual 193, 3) := by decide +kernel
theorem dX7_refusalOfPair_37 : decode cX7_refusalOfPair 37 = .ok (.ifCond .eq 18, 3) := by decide +kernel
theorem dX7_refusalOfPair_40 : decode cX7_refusalOfPair 40 = .ok (.aload_n 0, 1) := by decide +kernel
theorem dX7_refusalOfPair_41 : decode cX7_refusalOfPair 41 = .ok (.getfield 26, 3) := by decide +kernel
theorem dX7_refusalOfPair_44 : decode cX7_refusalOfPair 44 = .ok (.iload_n 2, 1) := by decide +kernel
theorem dX7_refusalOfPair_45 : decode cX7_refusalOfPair 45 = .ok (.invokevirtual 193, 3) := by decide +kernel
theorem dX7_refusalOfPair_48 : decode cX7_refusalOfPair 48 = .ok (.ifCond .eq 7, 3) := by decide +kernel
theorem dX7_refusalOfPair_51 : decode cX7_refusalOfPair 51 = .ok (.iconst 0, 1) := by decide +kernel
theorem dX7_refusalOfPair_52 : decode cX7_refusalOfPair 52 = .ok (.goto 5, 3) := by decide +kernel
theorem dX7_refusalOfPair_55 : decode cX7_refusalOfPair 55 = .ok (.bipush (-2), 2) := by decide +kernel
theorem dX7_refusalOfPair_57 : decode cX7_refusalOfPair 57 = .ok (.ireturn, 1) := by decide +kernel
end
section
theorem dX8_init_0 : decode cX8_init 0 = .ok (.aload_n 0, 1) := by decide +kernel
theorem dX8_init_1 : decode cX8_init 1 = .ok (.invokespecial 1, 3) := by decide +kernel
theorem dX8_init_4 : decode cX8_init 4 = .ok (.aload_n 0, 1) := by decide +kernel
theorem dX8_init_5 : decode cX8_init 5 = .ok (.sipush 240, 3) := by decide +kernel
theorem dX8_init_8 : decode cX8_init 8 = .ok (.newarray .int, 2) := by decide +kernel
theorem dX8_init_10 : decode cX8_init 10 = .ok (.putfield 7, 3) := by decide +kernel
theorem dX8_init_13 : decode cX8_init 13 = .ok (.aload_n 0, 1) := by decide +kernel
theorem dX8_init_14 : decode cX8_init 14 = .ok (.bipush 6, 2) := by decide +kernel
theorem dX8_init_16 : decode cX8_init 16 = .ok (.newarray .boolean, 2) := by decide +kernel
theorem dX8_init_18 : decode cX8_init 18 = .ok (.putfield 13, 3) := by decide +kernel
theorem dX8_init_21 : decode cX8_init 21 = .ok (.aload_n 0, 1) := by decide +kernel
theorem dX8_init_22 : decode cX8_init 22 = .ok (.bipush 6, 2) := by decide +kernel
theorem dX8_init_24 : decode cX8_init 24 = .ok (.newarray .int, 2) := by decide +kernel
theorem dX8_init_26 : decode cX8_init 26 = .ok (.putfield 17, 3) := by decide +kernel
theorem dX8_init_29 : decode cX8_init 29 = .ok (.aload_n 0, 1) := by decide +kernel
theorem dX8_init_30 : decode cX8_init 30 = .ok (.bipush 6, 2) := by decide +kernel
theorem dX8_init_32 : decode cX8_init 32 = .ok (.newarray .int, 2) := by decide +kernel
theorem dX8_init_34 : decode cX8_init 34 = .ok (.putfield 20, 3) := by decide +kernel
theorem dX8_init_37 : decode cX8_init 37 = .ok (.aload_n 0, 1) := by decide +kernel
theorem dX8_init_38 : decode cX8_init 38 = .ok (.bipush 6, 2) := by decide +kernel
theorem dX8_init_40 : decode cX8_init 40 = .ok (.newarray .int, 2) := by decide +kernel
theorem dX8_init_42 : decode cX8_init 42 = .ok (.putfield 23, 3) := by decide +kernel
theorem dX8_init_45 : decode cX8_init 45 = .ok (.aload_n 0, 1) := by decide +kernel
theorem dX8_init_46 : decode cX8_init 46 = .ok (.sipush 240, 3) := by decide +kernel
theorem dX8_init_49 : decode cX8_init 49 = .ok (.newarray .long, 2) := by decide +kernel
theorem dX8_init_51 : decode cX8_init 51 = .ok (.putfield 26, 3) := by decide +kernel
theorem dX8_init_54 : decode cX8_init 54 = .ok (.aload_n 0, 1) := by decide +kernel
theorem dX8_init_55 : decode cX8_init 55 = .ok (.iconst 3, 1) := by decide +kernel
theorem dX8_init_56 : decode cX8_init 56 = .ok (.putfield 30, 3) := by decide +kernel
theorem dX8_init_59 : decode cX8_init 59 = .ok (.aload_n 0, 1) := by decide +kernel
theorem dX8_init_60 : decode cX8_init 60 = .ok (.iconst 4, 1) := by decide +kernel
theorem dX8_init_61 : decode cX8_init 61 = .ok (.putfield 34, 3) := by decide +kernel
theorem dX8_init_64 : decode cX8_init 64 = .ok (.aload_n 0, 1) := by decide +kernel
theorem dX8_init_65 : decode cX8_init 65 = .ok (.iconst 2, 1) := by decide +kernel
theorem dX8_init_66 : decode cX8_init 66 = .ok (.putfield 37, 3) := by decide +kernel
theorem dX8_init_69 : decode cX8_init 69 = .ok (.aload_n 0, 1) := by decide +kernel
theorem dX8_init_70 : decode cX8_init 70 = .ok (.bipush 8, 2) := by decide +kernel
theorem dX8_init_72 : decode cX8_init 72 = .ok (.putfield 40, 3) := by decide +kernel
theorem dX8_init_75 : decode cX8_init 75 = .ok (.aload_n 0, 1) := by decide +kernel
theorem dX8_init_76 : decode cX8_init 76 = .ok (.iconst (-1), 1) := by decide +kernel
theorem dX8_init_77 : decode cX8_init 77 = .ok (.putfield 43, 3) := by decide +kernel
theorem dX8_init_80 : decode cX8_init 80 = .ok (.aload_n 0, 1) := by decide +kernel
theorem dX8_init_81 : decode cX8_init 81 = .ok (.iconst 5, 1) := by decide +kernel
theorem dX8_init_82 : decode cX8_init 82 = .ok (.newarray .long, 2) := by decide +kernel
theorem dX8_init_84 : decode cX8_init 84 = .ok (.dup, 1) := by decide +kernel
theorem dX8_init_85 : decode cX8_init 85 = .ok (.iconst 0, 1) := by decide +kernel
theorem dX8_init_86 : decode cX8_init 86 = .ok (.ldc2_w 46, 3) := by decide +kernel
theorem dX8_init_89 : decode cX8_init 89 = .ok (.lastore, 1) := by decide +kernel
theorem dX8_init_90 : decode cX8_init 90 = .ok (.dup, 1) := by decide +kernel
theorem dX8_init_91 : decode cX8_init 91 = .ok (.iconst 1, 1) := by decide +kernel
theorem dX8_init_92 : decode cX8_init 92 = .ok (.ldc2_w 48, 3) := by decide +kernel
theorem dX8_init_95 : decode cX8_init 95 = .ok (.lastore, 1) := by decide +kernel
theorem dX8_init_96 : decode cX8_init 96 = .ok (.dup, 1) := by decide +kernel
theorem dX8_init_97 : decode cX8_init 97 = .ok (.iconst 2, 1) := by decide +kernel
theorem dX8_init_98 : decode cX8_init 98 = .ok (.ldc2_w 50, 3) := by decide +kernel
theorem dX8_init_101 : decode cX8_init 101 = .ok (.lastore, 1) := by decide +kernel
theorem dX8_init_102 : decode cX8_init 102 = .ok (.dup, 1) := by decide +kernel
theorem dX8_init_103 : decode cX8_init 103 = .ok (.iconst 3, 1) := by decide +kernel
theorem dX8_init_104 : decode cX8_init 104 = .ok (.ldc2_w 52, 3) := by decide +kernel
theorem dX8_init_107 : decode cX8_init 107 = .ok (.lastore, 1) := by decide +kernel
theorem dX8_init_108 : decode cX8_init 108 = .ok (.dup, 1) := by decide +kernel
theorem dX8_init_109 : decode cX8_init 109 = .ok (.iconst 4, 1) := by decide +kernel
theorem dX8_init_110 : decode cX8_init 110 = .ok (.ldc2_w 54, 3) := by decide +kernel
theorem dX8_init_113 : decode cX8_init 113 = .ok (.lastore, 1) := by decide +kernel
theorem dX8_init_114 : decode cX8_init 114 = .ok (.putfield 56, 3) := by decide +kernel
theorem dX8_init_117 : decode cX8_init 117 = .ok (.aload_n 0, 1) := by decide +kernel
theorem dX8_init_118 : decode cX8_init 118 = .ok (.sipush 240, 3) := by decide +kernel
theorem dX8_init_121 : decode cX8_init 121 = .ok (.newarray .boolean, 2) := by decide +kernel
theorem dX8_init_123 : decode cX8_init 123 = .ok (.putfield 59, 3) := by decide +kernel
theorem dX8_init_126 : decode cX8_init 126 = .ok (.aload_n 0, 1) := by decide +kernel
theorem dX8_init_127 : decode cX8_init 127 = .ok (.bipush 40, 2) := by decide +kernel
theorem dX8_init_129 : decode cX8_init 129 = .ok (.newarray .int, 2) := by decide +kernel
theorem dX8_init_131 : decode cX8_init 131 = .ok (.putfield 62, 3) := by decide +kernel
theorem dX8_init_134 : decode cX8_init 134 = .ok (.aload_n 0, 1) := by decide +kernel
theorem dX8_init_135 : decode cX8_init 135 = .ok (.sipush 240, 3) := by decide +kernel
theorem dX8_init_138 : decode cX8_init 138 = .ok (.newarray .boolean, 2) := by decide +kernel
theorem dX8_init_140 : decode cX8_init 140 = .ok (.putfield 65, 3) := by decide +kernel
theorem dX8_init_143 : decode cX8_init 143 = .ok (.aload_n 0, 1) := by decide +kernel
theorem dX8_init_144 : decode cX8_init 144 = .ok (.sipush 1600, 3) := by decide +kernel
theorem dX8_init_147 : decode cX8_init 147 = .ok (.newarray .int, 2) := by decide +kernel
theorem dX8_init_149 : decode cX8_init 149 = .ok (.putfield 68, 3) := by decide +kernel
theorem dX8_init_152 : decode cX8_init 152 = .ok (.aload_n 0, 1) := by decide +kernel
theorem dX8_init_153 : decode cX8_init 153 = .ok (.sipush 1600, 3) := by decide +kernel
theorem dX8_init_156 : decode cX8_init 156 = .ok (.newarray .int, 2) := by decide +kernel
theorem dX8_init_158 : decode cX8_init 158 = .ok (.putfield 71, 3) := by decide +kernel
theorem dX8_init_161 : decode cX8_init 161 = .ok (.aload_n 0, 1) := by decide +kernel
theorem dX8_init_162 : decode cX8_init 162 = .ok (.sipush 1600, 3) := by decide +kernel
theorem dX8_init_165 : decode cX8_init 165 = .ok (.newarray .int, 2) := by decide +kernel
theorem dX8_init_167 : decode cX8_init 167 = .ok (.putfield 74, 3) := by decide +kernel
theorem dX8_init_170 : decode cX8_init 170 = .ok (.aload_n 0, 1) := by decide +kernel
theorem dX8_init_171 : decode cX8_init 171 = .ok (.sipush 1600, 3) := by decide +kernel
theorem dX8_init_174 : decode cX8_init 174 = .ok (.newarray .int, 2) := by decide +kernel
theorem dX8_init_176 : decode cX8_init 176 = .ok (.putfield 77, 3) := by decide +kernel
theorem dX8_init_179 : decode cX8_init 179 = .ok (.aload_n 0, 1) := by decide +kernel
theorem dX8_init_180 : decode cX8_init 180 = .ok (.sipush 1600, 3) := by decide +kernel
theorem dX8_init_183 : decode cX8_init 183 = .ok (.newarray .int, 2) := by decide +kernel
theorem dX8_init_185 : decode cX8_init 185 = .ok (.putfield 80, 3) := by decide +kernel
theorem dX8_init_188 : decode cX8_init 188 = .ok (.aload_n 0, 1) := by decide +kernel
theorem dX8_init_189 : decode cX8_init 189 = .ok (.bipush 6, 2) := by decide +kernel
theorem dX8_init_191 : decode cX8_init 191 = .ok (.newarray .int, 2) := by decide +kernel
theorem dX8_init_193 : decode cX8_init 193 = .ok (.putfield 83, 3) := by decide +kernel
theorem dX8_init_196 : decode cX8_init 196 = .ok (.return_, 1) := by decide +kernel
theorem dX8_in_0 : decode cX8_in 0 = .ok (.iload_n 0, 1) := by decide +kernel
theorem dX8_in_1 : decode cX8_in 1 = .ok (.iload_n 1, 1) := by decide +kernel
theorem dX8_in_2 : decode cX8_in 2 = .ok (.if_icmp .lt 12, 3) := by decide +kernel
theorem dX8_in_5 : decode cX8_in 5 = .ok (.iload_n 0, 1) := by decide +kernel
theorem dX8_in_6 : decode cX8_in 6 = .ok (.iload_n 2, 1) := by decide +kernel
theorem dX8_in_7 : decode cX8_in 7 = .ok (.if_icmp .gt 7, 3) := by decide +kernel
theorem dX8_in_10 : decode cX8_in 10 = .ok (.iconst 1, 1) := by decide +kernel
theorem dX8_in_11 : decode cX8_in 11 = .ok (.goto 4, 3) := by decide +kernel
theorem dX8_in_14 : decode cX8_in 14 = .ok (.iconst 0, 1) := by decide +kernel
theorem dX8_in_15 : decode cX8_in 15 = .ok (.ireturn, 1) := by decide +kernel
theorem dX8_type_0 : decode cX8_type 0 = .ok (.iload_n 3, 1) := by decide +kernel
theorem dX8_type_1 : decode cX8_type 1 = .ok (.iconst 1, 1) := by decide +kernel
theorem dX8_type_2 : decode cX8_type 2 = .ok (.bipush 8, 2) := by decide +kernel
theorem dX8_type_4 : decode cX8_type 4 = .ok (.invokestatic 86, 3) := by decide +kernel
theorem dX8_type_7 : decode cX8_type 7 = .ok (.ifCond .ne 5, 3) := by decide +kernel
theorem dX8_type_10 : decode cX8_type 10 = .ok (.iconst (-1), 1) := by decide +kernel
theorem dX8_type_11 : decode cX8_type 11 = .ok (.ireturn, 1) := by decide +kernel
theorem dX8_type_12 : decode cX8_type 12 = .ok (.iload_n 3, 1) := by decide +kernel
theorem dX8_type_13 : decode cX8_type 13 = .ok (.iconst 1, 1) := by decide +kernel
theorem dX8_type_14 : decode cX8_type 14 = .ok (.isub, 1) := by decide +kernel
theorem dX8_type_15 : decode cX8_type 15 = .ok (.istore 4, 2) := by decide +kernel
theorem dX8_type_17 : decode cX8_type 17 = .ok (.iload 4, 2) := by decide +kernel
theorem dX8_type_19 : decode cX8_type 19 = .ok (.ifCond .lt 33, 3) := by decide +kernel
theorem dX8_type_22 : decode cX8_type 22 = .ok (.lload_n 1, 1) := by decide +kernel
theorem dX8_type_23 : decode cX8_type 23 = .ok (.bipush 8, 2) := by decide +kernel
theorem dX8_type_25 : decode cX8_type 25 = .ok (.iload 4, 2) := by decide +kernel
theorem dX8_type_27 : decode cX8_type 27 = .ok (.imul, 1) := by decide +kernel
theorem dX8_type_28 : decode cX8_type 28 = .ok (.lshr, 1) := by decide +kernel
theorem dX8_type_29 : decode cX8_type 29 = .ok (.ldc2_w 90, 3) := by decide +kernel
theorem dX8_type_32 : decode cX8_type 32 = .ok (.land, 1) := by decide +kernel
theorem dX8_type_33 : decode cX8_type 33 = .ok (.l2i, 1) := by decide +kernel
theorem dX8_type_34 : decode cX8_type 34 = .ok (.bipush 32, 2) := by decide +kernel
theorem dX8_type_36 : decode cX8_type 36 = .ok (.bipush 126, 2) := by decide +kernel
theorem dX8_type_38 : decode cX8_type 38 = .ok (.invokestatic 86, 3) := by decide +kernel
theorem dX8_type_41 : decode cX8_type 41 = .ok (.ifCond .ne 5, 3) := by decide +kernel
theorem dX8_type_44 : decode cX8_type 44 = .ok (.iconst (-1), 1) := by decide +kernel
theorem dX8_type_45 : decode cX8_type 45 = .ok (.ireturn, 1) := by decide +kernel
theorem dX8_type_46 : decode cX8_type 46 = .ok (.iinc 4 (-1), 3) := by decide +kernel
theorem dX8_type_49 : decode cX8_type 49 = .ok (.goto (-32), 3) := by decide +kernel
theorem dX8_type_52 : decode cX8_type 52 = .ok (.aload_n 0, 1) := by decide +kernel
theorem dX8_type_53 : decode cX8_type 53 = .ok (.getfield 92, 3) := by decide +kernel
theorem dX8_type_56 : decode cX8_type 56 = .ok (.iload_n 3, 1) := by decide +kernel
theorem dX8_type_57 : decode cX8_type 57 = .ok (.iadd, 1) := by decide +kernel
theorem dX8_type_58 : decode cX8_type 58 = .ok (.sipush 240, 3) := by decide +kernel
theorem dX8_type_61 : decode cX8_type 61 = .ok (.if_icmp .le 6, 3) := by decide +kernel
theorem dX8_type_64 : decode cX8_type 64 = .ok (.bipush (-3), 2) := by decide +kernel
theorem dX8_type_66 : decode cX8_type 66 = .ok (.ireturn, 1) := by decide +kernel
theorem dX8_type_67 : decode cX8_type 67 = .ok (.iload_n 3, 1) := by decide +kernel
theorem dX8_type_68 : decode cX8_type 68 = .ok (.iconst 1, 1) := by decide +kernel
theorem dX8_type_69 : decode cX8_type 69 = .ok (.isub, 1) := by decide +kernel
theorem dX8_type_70 : decode cX8_type 70 = .ok (.istore 4, 2) := by decide +kernel
theorem dX8_type_72 : decode cX8_type 72 = .ok (.iload 4, 2) := by decide +kernel
theorem dX8_type_74 : decode cX8_type 74 = .ok (.ifCond .lt 40, 3) := by decide +kernel
theorem dX8_type_77 : decode cX8_type 77 = .ok (.aload_n 0, 1) := by decide +kernel
theorem dX8_type_78 : decode cX8_type 78 = .ok (.getfield 7, 3) := by decide +kernel
theorem dX8_type_81 : decode cX8_type 81 = .ok (.aload_n 0, 1) := by decide +kernel
theorem dX8_type_82 : decode cX8_type 82 = .ok (.getfield 92, 3) := by decide +kernel
theorem dX8_type_85 : decode cX8_type 85 = .ok (.lload_n 1, 1) := by decide +kernel
theorem dX8_type_86 : decode cX8_type 86 = .ok (.bipush 8, 2) := by decide +kernel
theorem dX8_type_88 : decode cX8_type 88 = .ok (.iload 4, 2) := by decide +kernel
theorem dX8_type_90 : decode cX8_type 90 = .ok (.imul, 1) := by decide +kernel
theorem dX8_type_91 : decode cX8_type 91 = .ok (.lshr, 1) := by decide +kernel
theorem dX8_type_92 : decode cX8_type 92 = .ok (.ldc2_w 90, 3) := by decide +kernel
theorem dX8_type_95 : decode cX8_type 95 = .ok (.land, 1) := by decide +kernel
theorem dX8_type_96 : decode cX8_type 96 = .ok (.l2i, 1) := by decide +kernel
theorem dX8_type_97 : decode cX8_type 97 = .ok (.iastore, 1) := by decide +kernel
theorem dX8_type_98 : decode cX8_type 98 = .ok (.aload_n 0, 1) := by decide +kernel
theorem dX8_type_99 : decode cX8_type 99 = .ok (.dup, 1) := by decide +kernel
theorem dX8_type_100 : decode cX8_type 100 = .ok (.getfield 92, 3) := by decide +kernel
theorem dX8_type_103 : decode cX8_type 103 = .ok (.iconst 1, 1) := by decide +kernel
theorem dX8_type_104 : decode cX8_type 104 = .ok (.iadd, 1) := by decide +kernel
theorem dX8_type_105 : decode cX8_type 105 = .ok (.putfield 92, 3) := by decide +kernel
theorem dX8_type_108 : decode cX8_type 108 = .ok (.iinc 4 (-1), 3) := by decide +kernel
theorem dX8_type_111 : decode cX8_type 111 = .ok (.goto (-39), 3) := by decide +kernel
theorem dX8_type_114 : decode cX8_type 114 = .ok (.aload_n 0, 1) := by decide +kernel
theorem dX8_type_115 : decode cX8_type 115 = .ok (.getfield 92, 3) := by decide +kernel
theorem dX8_type_118 : decode cX8_type 118 = .ok (.ireturn, 1) := by decide +kernel
theorem dX8_letter_0 : decode cX8_letter 0 = .ok (.iload_n 0, 1) := by decide +kernel
theorem dX8_letter_1 : decode cX8_letter 1 = .ok (.bipush 97, 2) := by decide +kernel
theorem dX8_letter_3 : decode cX8_letter 3 = .ok (.bipush 122, 2) := by decide +kernel
theorem dX8_letter_5 : decode cX8_letter 5 = .ok (.invokestatic 86, 3) := by decide +kernel
theorem dX8_letter_8 : decode cX8_letter 8 = .ok (.ifCond .eq 12, 3) := by decide +kernel
theorem dX8_letter_11 : decode cX8_letter 11 = .ok (.iload_n 0, 1) := by decide +kernel
theorem dX8_letter_12 : decode cX8_letter 12 = .ok (.bipush 97, 2) := by decide +kernel
theorem dX8_letter_14 : decode cX8_letter 14 = .ok (.isub, 1) := by decide +kernel
theorem dX8_letter_15 : decode cX8_letter 15 = .ok (.iconst 1, 1) := by decide +kernel
theorem dX8_letter_16 : decode cX8_letter 16 = .ok (.iadd, 1) := by decide +kernel
theorem dX8_letter_17 : decode cX8_letter 17 = .ok (.goto 45, 3) := by decide +kernel
theorem dX8_letter_20 : decode cX8_letter 20 = .ok (.iload_n 0, 1) := by decide +kernel
theorem dX8_letter_21 : decode cX8_letter 21 = .ok (.bipush 65, 2) := by decide +kernel
theorem dX8_letter_23 : decode cX8_letter 23 = .ok (.bipush 90, 2) := by decide +kernel
theorem dX8_letter_25 : decode cX8_letter 25 = .ok (.invokestatic 86, 3) := by decide +kernel
theorem dX8_letter_28 : decode cX8_letter 28 = .ok (.ifCond .eq 12, 3) := by decide +kernel
theorem dX8_letter_31 : decode cX8_letter 31 = .ok (.iload_n 0, 1) := by decide +kernel
theorem dX8_letter_32 : decode cX8_letter 32 = .ok (.bipush 65, 2) := by decide +kernel
theorem dX8_letter_34 : decode cX8_letter 34 = .ok (.isub, 1) := by decide +kernel
theorem dX8_letter_35 : decode cX8_letter 35 = .ok (.iconst 1, 1) := by decide +kernel
theorem dX8_letter_36 : decode cX8_letter 36 = .ok (.iadd, 1) := by decide +kernel
theorem dX8_letter_37 : decode cX8_letter 37 = .ok (.goto 25, 3) := by decide +kernel
theorem dX8_letter_40 : decode cX8_letter 40 = .ok (.iload_n 0, 1) := by decide +kernel
theorem dX8_letter_41 : decode cX8_letter 41 = .ok (.bipush 48, 2) := by decide +kernel
theorem dX8_letter_43 : decode cX8_letter 43 = .ok (.bipush 57, 2) := by decide +kernel
theorem dX8_letter_45 : decode cX8_letter 45 = .ok (.invokestatic 86, 3) := by decide +kernel
theorem dX8_letter_48 : decode cX8_letter 48 = .ok (.ifCond .eq 13, 3) := by decide +kernel
theorem dX8_letter_51 : decode cX8_letter 51 = .ok (.iload_n 0, 1) := by decide +kernel
theorem dX8_letter_52 : decode cX8_letter 52 = .ok (.bipush 48, 2) := by decide +kernel
theorem dX8_letter_54 : decode cX8_letter 54 = .ok (.isub, 1) := by decide +kernel
theorem dX8_letter_55 : decode cX8_letter 55 = .ok (.bipush 27, 2) := by decide +kernel
theorem dX8_letter_57 : decode cX8_letter 57 = .ok (.iadd, 1) := by decide +kernel
theorem dX8_letter_58 : decode cX8_letter 58 = .ok (.goto 4, 3) := by decide +kernel
theorem dX8_letter_61 : decode cX8_letter 61 = .ok (.iconst 0, 1) := by decide +kernel
theorem dX8_letter_62 : decode cX8_letter 62 = .ok (.ireturn, 1) := by decide +kernel
theorem dX8_readWord_0 : decode cX8_readWord 0 = .ok (.lconst 0, 1) := by decide +kernel
theorem dX8_readWord_1 : decode cX8_readWord 1 = .ok (.lstore_n 1, 1) := by decide +kernel
theorem dX8_readWord_2 : decode cX8_readWord 2 = .ok (.iconst 0, 1) := by decide +kernel
theorem dX8_readWord_3 : decode cX8_readWord 3 = .ok (.istore_n 3, 1) := by decide +kernel
theorem dX8_readWord_4 : decode cX8_readWord 4 = .ok (.aload_n 0, 1) := by decide +kernel
theorem dX8_readWord_5 : decode cX8_readWord 5 = .ok (.getfield 95, 3) := by decide +kernel
theorem dX8_readWord_8 : decode cX8_readWord 8 = .ok (.aload_n 0, 1) := by decide +kernel
theorem dX8_readWord_9 : decode cX8_readWord 9 = .ok (.getfield 92, 3) := by decide +kernel
theorem dX8_readWord_12 : decode cX8_readWord 12 = .ok (.if_icmp .ge 64, 3) := by decide +kernel
theorem dX8_readWord_15 : decode cX8_readWord 15 = .ok (.aload_n 0, 1) := by decide +kernel
theorem dX8_readWord_16 : decode cX8_readWord 16 = .ok (.getfield 7, 3) := by decide +kernel
theorem dX8_readWord_19 : decode cX8_readWord 19 = .ok (.aload_n 0, 1) := by decide +kernel
theorem dX8_readWord_20 : decode cX8_readWord 20 = .ok (.getfield 95, 3) := by decide +kernel
theorem dX8_readWord_23 : decode cX8_readWord 23 = .ok (.iaload, 1) := by decide +kernel
theorem dX8_readWord_24 : decode cX8_readWord 24 = .ok (.invokestatic 98, 3) := by decide +kernel
theorem dX8_readWord_27 : decode cX8_readWord 27 = .ok (.ifCond .le 49, 3) := by decide +kernel
theorem dX8_readWord_30 : decode cX8_readWord 30 = .ok (.iload_n 3, 1) := by decide +kernel
theorem dX8_readWord_31 : decode cX8_readWord 31 = .ok (.bipush 6, 2) := by decide +kernel
theorem dX8_readWord_33 : decode cX8_readWord 33 = .ok (.if_icmp .ge 25, 3) := by decide +kernel
theorem dX8_readWord_36 : decode cX8_readWord 36 = .ok (.ldc2_w 102, 3) := by decide +kernel
theorem dX8_readWord_39 : decode cX8_readWord 39 = .ok (.lload_n 1, 1) := by decide +kernel
theorem dX8_readWord_40 : decode cX8_readWord 40 = .ok (.lmul, 1) := by decide +kernel
theorem dX8_readWord_41 : decode cX8_readWord 41 = .ok (.aload_n 0, 1) := by decide +kernel
theorem dX8_readWord_42 : decode cX8_readWord 42 = .ok (.getfield 7, 3) := by decide +kernel
theorem dX8_readWord_45 : decode cX8_readWord 45 = .ok (.aload_n 0, 1) := by decide +kernel
theorem dX8_readWord_46 : decode cX8_readWord 46 = .ok (.getfield 95, 3) := by decide +kernel
theorem dX8_readWord_49 : decode cX8_readWord 49 = .ok (.iaload, 1) := by decide +kernel
theorem dX8_readWord_50 : decode cX8_readWord 50 = .ok (.invokestatic 98, 3) := by decide +kernel
theorem dX8_readWord_53 : decode cX8_readWord 53 = .ok (.i2l, 1) := by decide +kernel
theorem dX8_readWord_54 : decode cX8_readWord 54 = .ok (.ladd, 1) := by decide +kernel
theorem dX8_readWord_55 : decode cX8_readWord 55 = .ok (.goto 4, 3) := by decide +kernel
theorem dX8_readWord_58 : decode cX8_readWord 58 = .ok (.lload_n 1, 1) := by decide +kernel
theorem dX8_readWord_59 : decode cX8_readWord 59 = .ok (.lstore_n 1, 1) := by decide +kernel
theorem dX8_readWord_60 : decode cX8_readWord 60 = .ok (.iinc 3 1, 3) := by decide +kernel
theorem dX8_readWord_63 : decode cX8_readWord 63 = .ok (.aload_n 0, 1) := by decide +kernel
theorem dX8_readWord_64 : decode cX8_readWord 64 = .ok (.dup, 1) := by decide +kernel
theorem dX8_readWord_65 : decode cX8_readWord 65 = .ok (.getfield 95, 3) := by decide +kernel
theorem dX8_readWord_68 : decode cX8_readWord 68 = .ok (.iconst 1, 1) := by decide +kernel
theorem dX8_readWord_69 : decode cX8_readWord 69 = .ok (.iadd, 1) := by decide +kernel
theorem dX8_readWord_70 : decode cX8_readWord 70 = .ok (.putfield 95, 3) := by decide +kernel
theorem dX8_readWord_73 : decode cX8_readWord 73 = .ok (.goto (-69), 3) := by decide +kernel
theorem dX8_readWord_76 : decode cX8_readWord 76 = .ok (.aload_n 0, 1) := by decide +kernel
theorem dX8_readWord_77 : decode cX8_readWord 77 = .ok (.iload_n 3, 1) := by decide +kernel
theorem dX8_readWord_78 : decode cX8_readWord 78 = .ok (.putfield 104, 3) := by decide +kernel
theorem dX8_readWord_81 : decode cX8_readWord 81 = .ok (.lload_n 1, 1) := by decide +kernel
theorem dX8_readWord_82 : decode cX8_readWord 82 = .ok (.lreturn, 1) := by decide +kernel
theorem dX8_codeOf_0 : decode cX8_codeOf 0 = .ok (.aload_n 0, 1) := by decide +kernel
theorem dX8_codeOf_1 : decode cX8_codeOf 1 = .ok (.getfield 56, 3) := by decide +kernel
theorem dX8_codeOf_4 : decode cX8_codeOf 4 = .ok (.astore_n 3, 1) := by decide +kernel
theorem dX8_codeOf_5 : decode cX8_codeOf 5 = .ok (.iconst 0, 1) := by decide +kernel
theorem dX8_codeOf_6 : decode cX8_codeOf 6 = .ok (.istore 4, 2) := by decide +kernel
theorem dX8_codeOf_8 : decode cX8_codeOf 8 = .ok (.iload 4, 2) := by decide +kernel
theorem dX8_codeOf_10 : decode cX8_codeOf 10 = .ok (.iconst 5, 1) := by decide +kernel
theorem dX8_codeOf_11 : decode cX8_codeOf 11 = .ok (.if_icmp .ge 31, 3) := by decide +kernel
theorem dX8_codeOf_14 : decode cX8_codeOf 14 = .ok (.aload_n 3, 1) := by decide +kernel
theorem dX8_codeOf_15 : decode cX8_codeOf 15 = .ok (.iload 4, 2) := by decide +kernel
theorem dX8_codeOf_17 : decode cX8_codeOf 17 = .ok (.laload, 1) := by decide +kernel
theorem dX8_codeOf_18 : decode cX8_codeOf 18 = .ok (.lload_n 1, 1) := by decide +kernel
theorem dX8_codeOf_19 : decode cX8_codeOf 19 = .ok (.lcmp, 1) := by decide +kernel
theorem dX8_codeOf_20 : decode cX8_codeOf 20 = .ok (.ifCond .ne 16, 3) := by decide +kernel
theorem dX8_codeOf_23 : decode cX8_codeOf 23 = .ok (.aload_n 0, 1) := by decide +kernel
theorem dX8_codeOf_24 : decode cX8_codeOf 24 = .ok (.getfield 104, 3) := by decide +kernel
theorem dX8_codeOf_27 : decode cX8_codeOf 27 = .ok (.iconst 4, 1) := by decide +kernel
theorem dX8_codeOf_28 : decode cX8_codeOf 28 = .ok (.if_icmp .ge 8, 3) := by decide +kernel
theorem dX8_codeOf_31 : decode cX8_codeOf 31 = .ok (.iload 4, 2) := by decide +kernel
theorem dX8_codeOf_33 : decode cX8_codeOf 33 = .ok (.iconst 1, 1) := by decide +kernel
theorem dX8_codeOf_34 : decode cX8_codeOf 34 = .ok (.iadd, 1) := by decide +kernel
theorem dX8_codeOf_35 : decode cX8_codeOf 35 = .ok (.ireturn, 1) := by decide +kernel
theorem dX8_codeOf_36 : decode cX8_codeOf 36 = .ok (.iinc 4 1, 3) := by decide +kernel
theorem dX8_codeOf_39 : decode cX8_codeOf 39 = .ok (.goto (-31), 3) := by decide +kernel
theorem dX8_codeOf_42 : decode cX8_codeOf 42 = .ok (.bipush 6, 2) := by decide +kernel
theorem dX8_codeOf_44 : decode cX8_codeOf 44 = .ok (.ireturn, 1) := by decide +kernel
theorem dX8_add_0 : decode cX8_add 0 = .ok (.aload_n 0, 1) := by decide +kernel
theorem dX8_add_1 : decode cX8_add 1 = .ok (.getfield 17, 3) := by decide +kernel
theorem dX8_add_4 : decode cX8_add 4 = .ok (.iload_n 1, 1) := by decide +kernel
theorem dX8_add_5 : decode cX8_add 5 = .ok (.iaload, 1) := by decide +kernel
theorem dX8_add_6 : decode cX8_add 6 = .ok (.bipush 40, 2) := by decide +kernel
theorem dX8_add_8 : decode cX8_add 8 = .ok (.if_icmp .ge 30, 3) := by decide +kernel
theorem dX8_add_11 : decode cX8_add 11 = .ok (.aload_n 0, 1) := by decide +kernel
theorem dX8_add_12 : decode cX8_add 12 = .ok (.getfield 26, 3) := by decide +kernel
theorem dX8_add_15 : decode cX8_add 15 = .ok (.bipush 40, 2) := by decide +kernel
theorem dX8_add_17 : decode cX8_add 17 = .ok (.iload_n 1, 1) := by decide +kernel
theorem dX8_add_18 : decode cX8_add 18 = .ok (.imul, 1) := by decide +kernel
theorem dX8_add_19 : decode cX8_add 19 = .ok (.aload_n 0, 1) := by decide +kernel
theorem dX8_add_20 : decode cX8_add 20 = .ok (.getfield 17, 3) := by decide +kernel
theorem dX8_add_23 : decode cX8_add 23 = .ok (.iload_n 1, 1) := by decide +kernel
theorem dX8_add_24 : decode cX8_add 24 = .ok (.iaload, 1) := by decide +kernel
theorem dX8_add_25 : decode cX8_add 25 = .ok (.iadd, 1) := by decide +kernel
theorem dX8_add_26 : decode cX8_add 26 = .ok (.lload_n 2, 1) := by decide +kernel
theorem dX8_add_27 : decode cX8_add 27 = .ok (.lastore, 1) := by decide +kernel
theorem dX8_add_28 : decode cX8_add 28 = .ok (.aload_n 0, 1) := by decide +kernel
theorem dX8_add_29 : decode cX8_add 29 = .ok (.getfield 17, 3) := by decide +kernel
theorem dX8_add_32 : decode cX8_add 32 = .ok (.iload_n 1, 1) := by decide +kernel
theorem dX8_add_33 : decode cX8_add 33 = .ok (.dup2, 1) := by decide +kernel
theorem dX8_add_34 : decode cX8_add 34 = .ok (.iaload, 1) := by decide +kernel
theorem dX8_add_35 : decode cX8_add 35 = .ok (.iconst 1, 1) := by decide +kernel
theorem dX8_add_36 : decode cX8_add 36 = .ok (.iadd, 1) := by decide +kernel
theorem dX8_add_37 : decode cX8_add 37 = .ok (.iastore, 1) := by decide +kernel
theorem dX8_add_38 : decode cX8_add 38 = .ok (.return_, 1) := by decide +kernel
theorem dX8_read_0 : decode cX8_read 0 = .ok (.aload_n 0, 1) := by decide +kernel
theorem dX8_read_1 : decode cX8_read 1 = .ok (.iconst 0, 1) := by decide +kernel
theorem dX8_read_2 : decode cX8_read 2 = .ok (.putfield 95, 3) := by decide +kernel
theorem dX8_read_5 : decode cX8_read 5 = .ok (.aload_n 0, 1) := by decide +kernel
theorem dX8_read_6 : decode cX8_read 6 = .ok (.getfield 95, 3) := by decide +kernel
theorem dX8_read_9 : decode cX8_read 9 = .ok (.aload_n 0, 1) := by decide +kernel
theorem dX8_read_10 : decode cX8_read 10 = .ok (.getfield 92, 3) := by decide +kernel
theorem dX8_read_13 : decode cX8_read 13 = .ok (.if_icmp .ge 159, 3) := by decide +kernel
theorem dX8_read_16 : decode cX8_read 16 = .ok (.aload_n 0, 1) := by decide +kernel
theorem dX8_read_17 : decode cX8_read 17 = .ok (.getfield 7, 3) := by decide +kernel
theorem dX8_read_20 : decode cX8_read 20 = .ok (.aload_n 0, 1) := by decide +kernel
theorem dX8_read_21 : decode cX8_read 21 = .ok (.getfield 95, 3) := by decide +kernel
theorem dX8_read_24 : decode cX8_read 24 = .ok (.iaload, 1) := by decide +kernel
theorem dX8_read_25 : decode cX8_read 25 = .ok (.istore_n 3, 1) := by decide +kernel
theorem dX8_read_26 : decode cX8_read 26 = .ok (.iload_n 3, 1) := by decide +kernel
theorem dX8_read_27 : decode cX8_read 27 = .ok (.invokestatic 98, 3) := by decide +kernel
theorem dX8_read_30 : decode cX8_read 30 = .ok (.istore 4, 2) := by decide +kernel
theorem dX8_read_32 : decode cX8_read 32 = .ok (.iload 4, 2) := by decide +kernel
theorem dX8_read_34 : decode cX8_read 34 = .ok (.iconst 1, 1) := by decide +kernel
theorem dX8_read_35 : decode cX8_read 35 = .ok (.bipush 26, 2) := by decide +kernel
theorem dX8_read_37 : decode cX8_read 37 = .ok (.invokestatic 86, 3) := by decide +kernel
theorem dX8_read_40 : decode cX8_read 40 = .ok (.ifCond .eq 33, 3) := by decide +kernel
theorem dX8_read_43 : decode cX8_read 43 = .ok (.aload_n 0, 1) := by decide +kernel
theorem dX8_read_44 : decode cX8_read 44 = .ok (.invokevirtual 107, 3) := by decide +kernel
theorem dX8_read_47 : decode cX8_read 47 = .ok (.lstore 5, 2) := by decide +kernel
theorem dX8_read_49 : decode cX8_read 49 = .ok (.aload_n 0, 1) := by decide +kernel
theorem dX8_read_50 : decode cX8_read 50 = .ok (.iload_n 1, 1) := by decide +kernel
theorem dX8_read_51 : decode cX8_read 51 = .ok (.iload_n 2, 1) := by decide +kernel
theorem dX8_read_52 : decode cX8_read 52 = .ok (.ifCond .ne 8, 3) := by decide +kernel
theorem dX8_read_55 : decode cX8_read 55 = .ok (.lload 5, 2) := by decide +kernel
theorem dX8_read_57 : decode cX8_read 57 = .ok (.goto 10, 3) := by decide +kernel
theorem dX8_read_60 : decode cX8_read 60 = .ok (.aload_n 0, 1) := by decide +kernel
theorem dX8_read_61 : decode cX8_read 61 = .ok (.lload 5, 2) := by decide +kernel
theorem dX8_read_63 : decode cX8_read 63 = .ok (.invokevirtual 111, 3) := by decide +kernel
theorem dX8_read_66 : decode cX8_read 66 = .ok (.i2l, 1) := by decide +kernel
theorem dX8_read_67 : decode cX8_read 67 = .ok (.invokevirtual 115, 3) := by decide +kernel
theorem dX8_read_70 : decode cX8_read 70 = .ok (.goto 99, 3) := by decide +kernel
theorem dX8_read_73 : decode cX8_read 73 = .ok (.iload 4, 2) := by decide +kernel
theorem dX8_read_75 : decode cX8_read 75 = .ok (.bipush 26, 2) := by decide +kernel
theorem dX8_read_77 : decode cX8_read 77 = .ok (.if_icmp .le 60, 3) := by decide +kernel
theorem dX8_read_80 : decode cX8_read 80 = .ok (.aload_n 0, 1) := by decide +kernel
theorem dX8_read_81 : decode cX8_read 81 = .ok (.getfield 95, 3) := by decide +kernel
theorem dX8_read_84 : decode cX8_read 84 = .ok (.aload_n 0, 1) := by decide +kernel
theorem dX8_read_85 : decode cX8_read 85 = .ok (.getfield 92, 3) := by decide +kernel
theorem dX8_read_88 : decode cX8_read 88 = .ok (.if_icmp .ge 33, 3) := by decide +kernel
theorem dX8_read_91 : decode cX8_read 91 = .ok (.aload_n 0, 1) := by decide +kernel
theorem dX8_read_92 : decode cX8_read 92 = .ok (.getfield 7, 3) := by decide +kernel
theorem dX8_read_95 : decode cX8_read 95 = .ok (.aload_n 0, 1) := by decide +kernel
theorem dX8_read_96 : decode cX8_read 96 = .ok (.getfield 95, 3) := by decide +kernel
theorem dX8_read_99 : decode cX8_read 99 = .ok (.iaload, 1) := by decide +kernel
theorem dX8_read_100 : decode cX8_read 100 = .ok (.invokestatic 98, 3) := by decide +kernel
theorem dX8_read_103 : decode cX8_read 103 = .ok (.bipush 26, 2) := by decide +kernel
theorem dX8_read_105 : decode cX8_read 105 = .ok (.if_icmp .le 16, 3) := by decide +kernel
theorem dX8_read_108 : decode cX8_read 108 = .ok (.aload_n 0, 1) := by decide +kernel
theorem dX8_read_109 : decode cX8_read 109 = .ok (.dup, 1) := by decide +kernel
theorem dX8_read_110 : decode cX8_read 110 = .ok (.getfield 95, 3) := by decide +kernel
theorem dX8_read_113 : decode cX8_read 113 = .ok (.iconst 1, 1) := by decide +kernel
theorem dX8_read_114 : decode cX8_read 114 = .ok (.iadd, 1) := by decide +kernel
theorem dX8_read_115 : decode cX8_read 115 = .ok (.putfield 95, 3) := by decide +kernel
theorem dX8_read_118 : decode cX8_read 118 = .ok (.goto (-38), 3) := by decide +kernel
theorem dX8_read_121 : decode cX8_read 121 = .ok (.iload_n 2, 1) := by decide +kernel
theorem dX8_read_122 : decode cX8_read 122 = .ok (.iconst 1, 1) := by decide +kernel
theorem dX8_read_123 : decode cX8_read 123 = .ok (.if_icmp .ne 46, 3) := by decide +kernel
theorem dX8_read_126 : decode cX8_read 126 = .ok (.aload_n 0, 1) := by decide +kernel
theorem dX8_read_127 : decode cX8_read 127 = .ok (.iload_n 1, 1) := by decide +kernel
theorem dX8_read_128 : decode cX8_read 128 = .ok (.ldc2_w 119, 3) := by decide +kernel
theorem dX8_read_131 : decode cX8_read 131 = .ok (.invokevirtual 115, 3) := by decide +kernel
theorem dX8_read_134 : decode cX8_read 134 = .ok (.goto 35, 3) := by decide +kernel
theorem dX8_read_137 : decode cX8_read 137 = .ok (.aload_n 0, 1) := by decide +kernel
theorem dX8_read_138 : decode cX8_read 138 = .ok (.dup, 1) := by decide +kernel
theorem dX8_read_139 : decode cX8_read 139 = .ok (.getfield 95, 3) := by decide +kernel
theorem dX8_read_142 : decode cX8_read 142 = .ok (.iconst 1, 1) := by decide +kernel
theorem dX8_read_143 : decode cX8_read 143 = .ok (.iadd, 1) := by decide +kernel
theorem dX8_read_144 : decode cX8_read 144 = .ok (.putfield 95, 3) := by decide +kernel
theorem dX8_read_147 : decode cX8_read 147 = .ok (.iload_n 2, 1) := by decide +kernel
theorem dX8_read_148 : decode cX8_read 148 = .ok (.iconst 1, 1) := by decide +kernel
theorem dX8_read_149 : decode cX8_read 149 = .ok (.if_icmp .ne 20, 3) := by decide +kernel
theorem dX8_read_152 : decode cX8_read 152 = .ok (.iload_n 3, 1) := by decide +kernel
theorem dX8_read_153 : decode cX8_read 153 = .ok (.bipush 32, 2) := by decide +kernel
theorem dX8_read_155 : decode cX8_read 155 = .ok (.if_icmp .eq 14, 3) := by decide +kernel
theorem dX8_read_158 : decode cX8_read 158 = .ok (.aload_n 0, 1) := by decide +kernel
theorem dX8_read_159 : decode cX8_read 159 = .ok (.iload_n 1, 1) := by decide +kernel
theorem dX8_read_160 : decode cX8_read 160 = .ok (.ldc2_w 121, 3) := by decide +kernel
theorem dX8_read_163 : decode cX8_read 163 = .ok (.iload_n 3, 1) := by decide +kernel
theorem dX8_read_164 : decode cX8_read 164 = .ok (.i2l, 1) := by decide +kernel
theorem dX8_read_165 : decode cX8_read 165 = .ok (.ladd, 1) := by decide +kernel
theorem dX8_read_166 : decode cX8_read 166 = .ok (.invokevirtual 115, 3) := by decide +kernel
theorem dX8_read_169 : decode cX8_read 169 = .ok (.goto (-164), 3) := by decide +kernel
theorem dX8_read_172 : decode cX8_read 172 = .ok (.return_, 1) := by decide +kernel
theorem dX8_isNumber_0 : decode cX8_isNumber 0 = .ok (.iload_n 0, 1) := by decide +kernel
theorem dX8_isNumber_1 : decode cX8_isNumber 1 = .ok (.iconst 0, 1) := by decide +kernel
theorem dX8_isNumber_2 : decode cX8_isNumber 2 = .ok (.iconst 5, 1) := by decide +kernel
theorem dX8_isNumber_3 : decode cX8_isNumber 3 = .ok (.invokestatic 86, 3) := by decide +kernel
theorem dX8_isNumber_6 : decode cX8_isNumber 6 = .ok (.ireturn, 1) := by decide +kernel
theorem dX8_book_0 : decode cX8_book 0 = .ok (.iload_n 1, 1) := by decide +kernel
theorem dX8_book_1 : decode cX8_book 1 = .ok (.invokestatic 123, 3) := by decide +kernel
theorem dX8_book_4 : decode cX8_book 4 = .ok (.ifCond .eq 23, 3) := by decide +kernel
theorem dX8_book_7 : decode cX8_book 7 = .ok (.iload_n 2, 1) := by decide +kernel
theorem dX8_book_8 : decode cX8_book 8 = .ok (.iconst 0, 1) := by decide +kernel
theorem dX8_book_9 : decode cX8_book 9 = .ok (.iconst 1, 1) := by decide +kernel
theorem dX8_book_10 : decode cX8_book 10 = .ok (.invokestatic 86, 3) := by decide +kernel
theorem dX8_book_13 : decode cX8_book 13 = .ok (.ifCond .eq 14, 3) := by decide +kernel
theorem dX8_book_16 : decode cX8_book 16 = .ok (.iload_n 3, 1) := by decide +kernel
theorem dX8_book_17 : decode cX8_book 17 = .ok (.iconst 0, 1) := by decide +kernel
theorem dX8_book_18 : decode cX8_book 18 = .ok (.sipush 9999, 3) := by decide +kernel
theorem dX8_book_21 : decode cX8_book 21 = .ok (.invokestatic 86, 3) := by decide +kernel
theorem dX8_book_24 : decode cX8_book 24 = .ok (.ifCond .ne 5, 3) := by decide +kernel
theorem dX8_book_27 : decode cX8_book 27 = .ok (.iconst (-1), 1) := by decide +kernel
theorem dX8_book_28 : decode cX8_book 28 = .ok (.ireturn, 1) := by decide +kernel
theorem dX8_book_29 : decode cX8_book 29 = .ok (.aload_n 0, 1) := by decide +kernel
theorem dX8_book_30 : decode cX8_book 30 = .ok (.getfield 13, 3) := by decide +kernel
theorem dX8_book_33 : decode cX8_book 33 = .ok (.iload_n 1, 1) := by decide +kernel
theorem dX8_book_34 : decode cX8_book 34 = .ok (.iconst 1, 1) := by decide +kernel
theorem dX8_book_35 : decode cX8_book 35 = .ok (.bastore, 1) := by decide +kernel
theorem dX8_book_36 : decode cX8_book 36 = .ok (.aload_n 0, 1) := by decide +kernel
theorem dX8_book_37 : decode cX8_book 37 = .ok (.getfield 17, 3) := by decide +kernel
theorem dX8_book_40 : decode cX8_book 40 = .ok (.iload_n 1, 1) := by decide +kernel
theorem dX8_book_41 : decode cX8_book 41 = .ok (.iconst 0, 1) := by decide +kernel
theorem dX8_book_42 : decode cX8_book 42 = .ok (.iastore, 1) := by decide +kernel
theorem dX8_book_43 : decode cX8_book 43 = .ok (.aload_n 0, 1) := by decide +kernel
theorem dX8_book_44 : decode cX8_book 44 = .ok (.getfield 20, 3) := by decide +kernel
theorem dX8_book_47 : decode cX8_book 47 = .ok (.iload_n 1, 1) := by decide +kernel
theorem dX8_book_48 : decode cX8_book 48 = .ok (.iload_n 2, 1) := by decide +kernel
theorem dX8_book_49 : decode cX8_book 49 = .ok (.iastore, 1) := by decide +kernel
theorem dX8_book_50 : decode cX8_book 50 = .ok (.aload_n 0, 1) := by decide +kernel
theorem dX8_book_51 : decode cX8_book 51 = .ok (.getfield 23, 3) := by decide +kernel
theorem dX8_book_54 : decode cX8_book 54 = .ok (.iload_n 1, 1) := by decide +kernel
theorem dX8_book_55 : decode cX8_book 55 = .ok (.iload_n 3, 1) := by decide +kernel
theorem dX8_book_56 : decode cX8_book 56 = .ok (.iastore, 1) := by decide +kernel
theorem dX8_book_57 : decode cX8_book 57 = .ok (.aload_n 0, 1) := by decide +kernel
theorem dX8_book_58 : decode cX8_book 58 = .ok (.iload_n 1, 1) := by decide +kernel
theorem dX8_book_59 : decode cX8_book 59 = .ok (.iload_n 2, 1) := by decide +kernel
theorem dX8_book_60 : decode cX8_book 60 = .ok (.invokevirtual 127, 3) := by decide +kernel
theorem dX8_book_63 : decode cX8_book 63 = .ok (.aload_n 0, 1) := by decide +kernel
theorem dX8_book_64 : decode cX8_book 64 = .ok (.iconst 0, 1) := by decide +kernel
theorem dX8_book_65 : decode cX8_book 65 = .ok (.putfield 92, 3) := by decide +kernel
theorem dX8_book_68 : decode cX8_book 68 = .ok (.aload_n 0, 1) := by decide +kernel
theorem dX8_book_69 : decode cX8_book 69 = .ok (.getfield 17, 3) := by decide +kernel
theorem dX8_book_72 : decode cX8_book 72 = .ok (.iload_n 1, 1) := by decide +kernel
theorem dX8_book_73 : decode cX8_book 73 = .ok (.iaload, 1) := by decide +kernel
theorem dX8_book_74 : decode cX8_book 74 = .ok (.ireturn, 1) := by decide +kernel
theorem dX8_withdraw_0 : decode cX8_withdraw 0 = .ok (.iload_n 1, 1) := by decide +kernel
theorem dX8_withdraw_1 : decode cX8_withdraw 1 = .ok (.invokestatic 123, 3) := by decide +kernel
theorem dX8_withdraw_4 : decode cX8_withdraw 4 = .ok (.ifCond .ne 5, 3) := by decide +kernel
theorem dX8_withdraw_7 : decode cX8_withdraw 7 = .ok (.iconst (-1), 1) := by decide +kernel
theorem dX8_withdraw_8 : decode cX8_withdraw 8 = .ok (.ireturn, 1) := by decide +kernel
theorem dX8_withdraw_9 : decode cX8_withdraw 9 = .ok (.aload_n 0, 1) := by decide +kernel
theorem dX8_withdraw_10 : decode cX8_withdraw 10 = .ok (.getfield 13, 3) := by decide +kernel
theorem dX8_withdraw_13 : decode cX8_withdraw 13 = .ok (.iload_n 1, 1) := by decide +kernel
theorem dX8_withdraw_14 : decode cX8_withdraw 14 = .ok (.baload, 1) := by decide +kernel
theorem dX8_withdraw_15 : decode cX8_withdraw 15 = .ok (.ifCond .ne 6, 3) := by decide +kernel
theorem dX8_withdraw_18 : decode cX8_withdraw 18 = .ok (.bipush (-2), 2) := by decide +kernel
theorem dX8_withdraw_20 : decode cX8_withdraw 20 = .ok (.ireturn, 1) := by decide +kernel
theorem dX8_withdraw_21 : decode cX8_withdraw 21 = .ok (.aload_n 0, 1) := by decide +kernel
theorem dX8_withdraw_22 : decode cX8_withdraw 22 = .ok (.getfield 13, 3) := by decide +kernel
theorem dX8_withdraw_25 : decode cX8_withdraw 25 = .ok (.iload_n 1, 1) := by decide +kernel
theorem dX8_withdraw_26 : decode cX8_withdraw 26 = .ok (.iconst 0, 1) := by decide +kernel
theorem dX8_withdraw_27 : decode cX8_withdraw 27 = .ok (.bastore, 1) := by decide +kernel
theorem dX8_withdraw_28 : decode cX8_withdraw 28 = .ok (.aload_n 0, 1) := by decide +kernel
theorem dX8_withdraw_29 : decode cX8_withdraw 29 = .ok (.aload_n 0, 1) := by decide +kernel
theorem dX8_withdraw_30 : decode cX8_withdraw 30 = .ok (.getfield 43, 3) := by decide +kernel
theorem dX8_withdraw_33 : decode cX8_withdraw 33 = .ok (.iload_n 1, 1) := by decide +kernel
theorem dX8_withdraw_34 : decode cX8_withdraw 34 = .ok (.if_icmp .ne 7, 3) := by decide +kernel
theorem dX8_withdraw_37 : decode cX8_withdraw 37 = .ok (.iconst (-1), 1) := by decide +kernel
theorem dX8_withdraw_38 : decode cX8_withdraw 38 = .ok (.goto 7, 3) := by decide +kernel
theorem dX8_withdraw_41 : decode cX8_withdraw 41 = .ok (.aload_n 0, 1) := by decide +kernel
theorem dX8_withdraw_42 : decode cX8_withdraw 42 = .ok (.getfield 43, 3) := by decide +kernel
theorem dX8_withdraw_45 : decode cX8_withdraw 45 = .ok (.putfield 43, 3) := by decide +kernel
theorem dX8_withdraw_48 : decode cX8_withdraw 48 = .ok (.aload_n 0, 1) := by decide +kernel
theorem dX8_withdraw_49 : decode cX8_withdraw 49 = .ok (.getfield 17, 3) := by decide +kernel
theorem dX8_withdraw_52 : decode cX8_withdraw 52 = .ok (.iload_n 1, 1) := by decide +kernel
theorem dX8_withdraw_53 : decode cX8_withdraw 53 = .ok (.iaload, 1) := by decide +kernel
theorem dX8_withdraw_54 : decode cX8_withdraw 54 = .ok (.ireturn, 1) := by decide +kernel
theorem dX8_token_0 : decode cX8_token 0 = .ok (.iload_n 1, 1) := by decide +kernel
theorem dX8_token_1 : decode cX8_token 1 = .ok (.invokestatic 123, 3) := by decide +kernel
theorem dX8_token_4 : decode cX8_token 4 = .ok (.ifCond .eq 9, 3) := by decide +kernel
theorem dX8_token_7 : decode cX8_token 7 = .ok (.iload_n 2, 1) := by decide +kernel
theorem dX8_token_8 : decode cX8_token 8 = .ok (.bipush (-3), 2) := by decide +kernel
theorem dX8_token_10 : decode cX8_token 10 = .ok (.if_icmp .ge 7, 3) := by decide +kernel
theorem dX8_token_13 : decode cX8_token 13 = .ok (.ldc2_w 131, 3) := by decide +kernel
theorem dX8_token_16 : decode cX8_token 16 = .ok (.lreturn, 1) := by decide +kernel
theorem dX8_token_17 : decode cX8_token 17 = .ok (.aload_n 0, 1) := by decide +kernel
theorem dX8_token_18 : decode cX8_token 18 = .ok (.getfield 13, 3) := by decide +kernel
theorem dX8_token_21 : decode cX8_token 21 = .ok (.iload_n 1, 1) := by decide +kernel
theorem dX8_token_22 : decode cX8_token 22 = .ok (.baload, 1) := by decide +kernel
theorem dX8_token_23 : decode cX8_token 23 = .ok (.ifCond .ne 7, 3) := by decide +kernel
theorem dX8_token_26 : decode cX8_token 26 = .ok (.ldc2_w 133, 3) := by decide +kernel
theorem dX8_token_29 : decode cX8_token 29 = .ok (.lreturn, 1) := by decide +kernel
theorem dX8_token_30 : decode cX8_token 30 = .ok (.iload_n 2, 1) := by decide +kernel
theorem dX8_token_31 : decode cX8_token 31 = .ok (.aload_n 0, 1) := by decide +kernel
theorem dX8_token_32 : decode cX8_token 32 = .ok (.getfield 17, 3) := by decide +kernel
theorem dX8_token_35 : decode cX8_token 35 = .ok (.iload_n 1, 1) := by decide +kernel
theorem dX8_token_36 : decode cX8_token 36 = .ok (.iaload, 1) := by decide +kernel
theorem dX8_token_37 : decode cX8_token 37 = .ok (.if_icmp .lt 7, 3) := by decide +kernel
theorem dX8_token_40 : decode cX8_token 40 = .ok (.ldc2_w 131, 3) := by decide +kernel
theorem dX8_token_43 : decode cX8_token 43 = .ok (.lreturn, 1) := by decide +kernel
theorem dX8_token_44 : decode cX8_token 44 = .ok (.iload_n 2, 1) := by decide +kernel
theorem dX8_token_45 : decode cX8_token 45 = .ok (.iconst (-1), 1) := by decide +kernel
theorem dX8_token_46 : decode cX8_token 46 = .ok (.if_icmp .ne 13, 3) := by decide +kernel
theorem dX8_token_49 : decode cX8_token 49 = .ok (.aload_n 0, 1) := by decide +kernel
theorem dX8_token_50 : decode cX8_token 50 = .ok (.getfield 17, 3) := by decide +kernel
theorem dX8_token_53 : decode cX8_token 53 = .ok (.iload_n 1, 1) := by decide +kernel
theorem dX8_token_54 : decode cX8_token 54 = .ok (.iaload, 1) := by decide +kernel
theorem dX8_token_55 : decode cX8_token 55 = .ok (.i2l, 1) := by decide +kernel
theorem dX8_token_56 : decode cX8_token 56 = .ok (.goto 46, 3) := by decide +kernel
theorem dX8_token_59 : decode cX8_token 59 = .ok (.iload_n 2, 1) := by decide +kernel
theorem dX8_token_60 : decode cX8_token 60 = .ok (.bipush (-2), 2) := by decide +kernel
theorem dX8_token_62 : decode cX8_token 62 = .ok (.if_icmp .ne 13, 3) := by decide +kernel
theorem dX8_token_65 : decode cX8_token 65 = .ok (.aload_n 0, 1) := by decide +kernel
theorem dX8_token_66 : decode cX8_token 66 = .ok (.getfield 20, 3) := by decide +kernel
theorem dX8_token_69 : decode cX8_token 69 = .ok (.iload_n 1, 1) := by decide +kernel
theorem dX8_token_70 : decode cX8_token 70 = .ok (.iaload, 1) := by decide +kernel
theorem dX8_token_71 : decode cX8_token 71 = .ok (.i2l, 1) := by decide +kernel
theorem dX8_token_72 : decode cX8_token 72 = .ok (.goto 30, 3) := by decide +kernel
theorem dX8_token_75 : decode cX8_token 75 = .ok (.iload_n 2, 1) := by decide +kernel
theorem dX8_token_76 : decode cX8_token 76 = .ok (.bipush (-3), 2) := by decide +kernel
theorem dX8_token_78 : decode cX8_token 78 = .ok (.if_icmp .ne 13, 3) := by decide +kernel
theorem dX8_token_81 : decode cX8_token 81 = .ok (.aload_n 0, 1) := by decide +kernel
theorem dX8_token_82 : decode cX8_token 82 = .ok (.getfield 23, 3) := by decide +kernel
theorem dX8_token_85 : decode cX8_token 85 = .ok (.iload_n 1, 1) := by decide +kernel
theorem dX8_token_86 : decode cX8_token 86 = .ok (.iaload, 1) := by decide +kernel
theorem dX8_token_87 : decode cX8_token 87 = .ok (.i2l, 1) := by decide +kernel
theorem dX8_token_88 : decode cX8_token 88 = .ok (.goto 14, 3) := by decide +kernel
theorem dX8_token_91 : decode cX8_token 91 = .ok (.aload_n 0, 1) := by decide +kernel
theorem dX8_token_92 : decode cX8_token 92 = .ok (.getfield 26, 3) := by decide +kernel
theorem dX8_token_95 : decode cX8_token 95 = .ok (.bipush 40, 2) := by decide +kernel
theorem dX8_token_97 : decode cX8_token 97 = .ok (.iload_n 1, 1) := by decide +kernel
theorem dX8_token_98 : decode cX8_token 98 = .ok (.imul, 1) := by decide +kernel
theorem dX8_token_99 : decode cX8_token 99 = .ok (.iload_n 2, 1) := by decide +kernel
theorem dX8_token_100 : decode cX8_token 100 = .ok (.iadd, 1) := by decide +kernel
theorem dX8_token_101 : decode cX8_token 101 = .ok (.laload, 1) := by decide +kernel
theorem dX8_token_102 : decode cX8_token 102 = .ok (.lreturn, 1) := by decide +kernel
theorem dX8_windows_0 : decode cX8_windows 0 = .ok (.iload_n 1, 1) := by decide +kernel
theorem dX8_windows_1 : decode cX8_windows 1 = .ok (.iconst 2, 1) := by decide +kernel
theorem dX8_windows_2 : decode cX8_windows 2 = .ok (.iconst 5, 1) := by decide +kernel
theorem dX8_windows_3 : decode cX8_windows 3 = .ok (.invokestatic 86, 3) := by decide +kernel
theorem dX8_windows_6 : decode cX8_windows 6 = .ok (.ifCond .eq 13, 3) := by decide +kernel
theorem dX8_windows_9 : decode cX8_windows 9 = .ok (.iload_n 2, 1) := by decide +kernel
theorem dX8_windows_10 : decode cX8_windows 10 = .ok (.iconst 1, 1) := by decide +kernel
theorem dX8_windows_11 : decode cX8_windows 11 = .ok (.bipush 8, 2) := by decide +kernel
theorem dX8_windows_13 : decode cX8_windows 13 = .ok (.invokestatic 86, 3) := by decide +kernel
theorem dX8_windows_16 : decode cX8_windows 16 = .ok (.ifCond .ne 5, 3) := by decide +kernel
theorem dX8_windows_19 : decode cX8_windows 19 = .ok (.iconst (-1), 1) := by decide +kernel
theorem dX8_windows_20 : decode cX8_windows 20 = .ok (.ireturn, 1) := by decide +kernel
theorem dX8_windows_21 : decode cX8_windows 21 = .ok (.aload_n 0, 1) := by decide +kernel
theorem dX8_windows_22 : decode cX8_windows 22 = .ok (.iload_n 1, 1) := by decide +kernel
theorem dX8_windows_23 : decode cX8_windows 23 = .ok (.putfield 30, 3) := by decide +kernel
theorem dX8_windows_26 : decode cX8_windows 26 = .ok (.aload_n 0, 1) := by decide +kernel
theorem dX8_windows_27 : decode cX8_windows 27 = .ok (.iload_n 2, 1) := by decide +kernel
theorem dX8_windows_28 : decode cX8_windows 28 = .ok (.putfield 34, 3) := by decide +kernel
theorem dX8_windows_31 : decode cX8_windows 31 = .ok (.iconst 1, 1) := by decide +kernel
theorem dX8_windows_32 : decode cX8_windows 32 = .ok (.ireturn, 1) := by decide +kernel
theorem dX8_gap_0 : decode cX8_gap 0 = .ok (.iload_n 1, 1) := by decide +kernel
theorem dX8_gap_1 : decode cX8_gap 1 = .ok (.iconst 0, 1) := by decide +kernel
theorem dX8_gap_2 : decode cX8_gap 2 = .ok (.bipush 20, 2) := by decide +kernel
theorem dX8_gap_4 : decode cX8_gap 4 = .ok (.invokestatic 86, 3) := by decide +kernel
theorem dX8_gap_7 : decode cX8_gap 7 = .ok (.ifCond .ne 5, 3) := by decide +kernel
theorem dX8_gap_10 : decode cX8_gap 10 = .ok (.iconst (-1), 1) := by decide +kernel
theorem dX8_gap_11 : decode cX8_gap 11 = .ok (.ireturn, 1) := by decide +kernel
theorem dX8_gap_12 : decode cX8_gap 12 = .ok (.aload_n 0, 1) := by decide +kernel
theorem dX8_gap_13 : decode cX8_gap 13 = .ok (.getfield 37, 3) := by decide +kernel
theorem dX8_gap_16 : decode cX8_gap 16 = .ok (.istore_n 2, 1) := by decide +kernel
theorem dX8_gap_17 : decode cX8_gap 17 = .ok (.aload_n 0, 1) := by decide +kernel
theorem dX8_gap_18 : decode cX8_gap 18 = .ok (.iload_n 1, 1) := by decide +kernel
theorem dX8_gap_19 : decode cX8_gap 19 = .ok (.putfield 37, 3) := by decide +kernel
theorem dX8_gap_22 : decode cX8_gap 22 = .ok (.iload_n 2, 1) := by decide +kernel
theorem dX8_gap_23 : decode cX8_gap 23 = .ok (.ireturn, 1) := by decide +kernel
theorem dX8_link_0 : decode cX8_link 0 = .ok (.iload_n 1, 1) := by decide +kernel
theorem dX8_link_1 : decode cX8_link 1 = .ok (.iconst 1, 1) := by decide +kernel
theorem dX8_link_2 : decode cX8_link 2 = .ok (.sipush 200, 3) := by decide +kernel
theorem dX8_link_5 : decode cX8_link 5 = .ok (.invokestatic 86, 3) := by decide +kernel
theorem dX8_link_8 : decode cX8_link 8 = .ok (.ifCond .ne 5, 3) := by decide +kernel
theorem dX8_link_11 : decode cX8_link 11 = .ok (.iconst (-1), 1) := by decide +kernel
theorem dX8_link_12 : decode cX8_link 12 = .ok (.ireturn, 1) := by decide +kernel
theorem dX8_link_13 : decode cX8_link 13 = .ok (.aload_n 0, 1) := by decide +kernel
theorem dX8_link_14 : decode cX8_link 14 = .ok (.getfield 40, 3) := by decide +kernel
theorem dX8_link_17 : decode cX8_link 17 = .ok (.istore_n 2, 1) := by decide +kernel
theorem dX8_link_18 : decode cX8_link 18 = .ok (.aload_n 0, 1) := by decide +kernel
theorem dX8_link_19 : decode cX8_link 19 = .ok (.iload_n 1, 1) := by decide +kernel
theorem dX8_link_20 : decode cX8_link 20 = .ok (.putfield 40, 3) := by decide +kernel
theorem dX8_link_23 : decode cX8_link 23 = .ok (.iload_n 2, 1) := by decide +kernel
theorem dX8_link_24 : decode cX8_link 24 = .ok (.ireturn, 1) := by decide +kernel
theorem dX8_given_0 : decode cX8_given 0 = .ok (.iload_n 1, 1) := by decide +kernel
theorem dX8_given_1 : decode cX8_given 1 = .ok (.iconst (-1), 1) := by decide +kernel
theorem dX8_given_2 : decode cX8_given 2 = .ok (.iconst 5, 1) := by decide +kernel
theorem dX8_given_3 : decode cX8_given 3 = .ok (.invokestatic 86, 3) := by decide +kernel
theorem dX8_given_6 : decode cX8_given 6 = .ok (.ifCond .ne 6, 3) := by decide +kernel
theorem dX8_given_9 : decode cX8_given 9 = .ok (.bipush (-11), 2) := by decide +kernel
theorem dX8_given_11 : decode cX8_given 11 = .ok (.ireturn, 1) := by decide +kernel
theorem dX8_given_12 : decode cX8_given 12 = .ok (.iload_n 1, 1) := by decide +kernel
theorem dX8_given_13 : decode cX8_given 13 = .ok (.ifCond .lt 15, 3) := by decide +kernel
theorem dX8_given_16 : decode cX8_given 16 = .ok (.aload_n 0, 1) := by decide +kernel
theorem dX8_given_17 : decode cX8_given 17 = .ok (.getfield 13, 3) := by decide +kernel
theorem dX8_given_20 : decode cX8_given 20 = .ok (.iload_n 1, 1) := by decide +kernel
theorem dX8_given_21 : decode cX8_given 21 = .ok (.baload, 1) := by decide +kernel
theorem dX8_given_22 : decode cX8_given 22 = .ok (.ifCond .ne 6, 3) := by decide +kernel
theorem dX8_given_25 : decode cX8_given 25 = .ok (.bipush (-12), 2) := by decide +kernel
theorem dX8_given_27 : decode cX8_given 27 = .ok (.ireturn, 1) := by decide +kernel
theorem dX8_given_28 : decode cX8_given 28 = .ok (.aload_n 0, 1) := by decide +kernel
theorem dX8_given_29 : decode cX8_given 29 = .ok (.getfield 43, 3) := by decide +kernel
theorem dX8_given_32 : decode cX8_given 32 = .ok (.istore_n 2, 1) := by decide +kernel
theorem dX8_given_33 : decode cX8_given 33 = .ok (.aload_n 0, 1) := by decide +kernel
theorem dX8_given_34 : decode cX8_given 34 = .ok (.iload_n 1, 1) := by decide +kernel
theorem dX8_given_35 : decode cX8_given 35 = .ok (.putfield 43, 3) := by decide +kernel
theorem dX8_given_38 : decode cX8_given 38 = .ok (.iload_n 2, 1) := by decide +kernel
theorem dX8_given_39 : decode cX8_given 39 = .ok (.ireturn, 1) := by decide +kernel
theorem dX8_grams_0 : decode cX8_grams 0 = .ok (.aload_n 0, 1) := by decide +kernel
theorem dX8_grams_1 : decode cX8_grams 1 = .ok (.getfield 17, 3) := by decide +kernel
theorem dX8_grams_4 : decode cX8_grams 4 = .ok (.iload_n 1, 1) := by decide +kernel
theorem dX8_grams_5 : decode cX8_grams 5 = .ok (.iaload, 1) := by decide +kernel
theorem dX8_grams_6 : decode cX8_grams 6 = .ok (.aload_n 0, 1) := by decide +kernel
theorem dX8_grams_7 : decode cX8_grams 7 = .ok (.getfield 30, 3) := by decide +kernel
theorem dX8_grams_10 : decode cX8_grams 10 = .ok (.if_icmp .ge 7, 3) := by decide +kernel
theorem dX8_grams_13 : decode cX8_grams 13 = .ok (.iconst 0, 1) := by decide +kernel
theorem dX8_grams_14 : decode cX8_grams 14 = .ok (.goto 16, 3) := by decide +kernel
theorem dX8_grams_17 : decode cX8_grams 17 = .ok (.aload_n 0, 1) := by decide +kernel
theorem dX8_grams_18 : decode cX8_grams 18 = .ok (.getfield 17, 3) := by decide +kernel
theorem dX8_grams_21 : decode cX8_grams 21 = .ok (.iload_n 1, 1) := by decide +kernel
theorem dX8_grams_22 : decode cX8_grams 22 = .ok (.iaload, 1) := by decide +kernel
theorem dX8_grams_23 : decode cX8_grams 23 = .ok (.aload_n 0, 1) := by decide +kernel
theorem dX8_grams_24 : decode cX8_grams 24 = .ok (.getfield 30, 3) := by decide +kernel
theorem dX8_grams_27 : decode cX8_grams 27 = .ok (.isub, 1) := by decide +kernel
theorem dX8_grams_28 : decode cX8_grams 28 = .ok (.iconst 1, 1) := by decide +kernel
theorem dX8_grams_29 : decode cX8_grams 29 = .ok (.iadd, 1) := by decide +kernel
theorem dX8_grams_30 : decode cX8_grams 30 = .ok (.ireturn, 1) := by decide +kernel
theorem dX8_hashOf_0 : decode cX8_hashOf 0 = .ok (.ldc2_w 119, 3) := by decide +kernel
theorem dX8_hashOf_3 : decode cX8_hashOf 3 = .ok (.lstore_n 3, 1) := by decide +kernel
theorem dX8_hashOf_4 : decode cX8_hashOf 4 = .ok (.iload_n 2, 1) := by decide +kernel
theorem dX8_hashOf_5 : decode cX8_hashOf 5 = .ok (.istore 5, 2) := by decide +kernel
theorem dX8_hashOf_7 : decode cX8_hashOf 7 = .ok (.iload 5, 2) := by decide +kernel
theorem dX8_hashOf_9 : decode cX8_hashOf 9 = .ok (.iload_n 2, 1) := by decide +kernel
theorem dX8_hashOf_10 : decode cX8_hashOf 10 = .ok (.aload_n 0, 1) := by decide +kernel
theorem dX8_hashOf_11 : decode cX8_hashOf 11 = .ok (.getfield 30, 3) := by decide +kernel
theorem dX8_hashOf_14 : decode cX8_hashOf 14 = .ok (.iadd, 1) := by decide +kernel
theorem dX8_hashOf_15 : decode cX8_hashOf 15 = .ok (.if_icmp .ge 32, 3) := by decide +kernel
theorem dX8_hashOf_18 : decode cX8_hashOf 18 = .ok (.lload_n 3, 1) := by decide +kernel
theorem dX8_hashOf_19 : decode cX8_hashOf 19 = .ok (.ldc2_w 135, 3) := by decide +kernel
theorem dX8_hashOf_22 : decode cX8_hashOf 22 = .ok (.lmul, 1) := by decide +kernel
theorem dX8_hashOf_23 : decode cX8_hashOf 23 = .ok (.aload_n 0, 1) := by decide +kernel
theorem dX8_hashOf_24 : decode cX8_hashOf 24 = .ok (.getfield 26, 3) := by decide +kernel
theorem dX8_hashOf_27 : decode cX8_hashOf 27 = .ok (.bipush 40, 2) := by decide +kernel
theorem dX8_hashOf_29 : decode cX8_hashOf 29 = .ok (.iload_n 1, 1) := by decide +kernel
theorem dX8_hashOf_30 : decode cX8_hashOf 30 = .ok (.imul, 1) := by decide +kernel
theorem dX8_hashOf_31 : decode cX8_hashOf 31 = .ok (.iload 5, 2) := by decide +kernel
theorem dX8_hashOf_33 : decode cX8_hashOf 33 = .ok (.iadd, 1) := by decide +kernel
theorem dX8_hashOf_34 : decode cX8_hashOf 34 = .ok (.laload, 1) := by decide +kernel
theorem dX8_hashOf_35 : decode cX8_hashOf 35 = .ok (.ladd, 1) := by decide +kernel
theorem dX8_hashOf_36 : decode cX8_hashOf 36 = .ok (.ldc2_w 137, 3) := by decide +kernel
theorem dX8_hashOf_39 : decode cX8_hashOf 39 = .ok (.lrem, 1) := by decide +kernel
theorem dX8_hashOf_40 : decode cX8_hashOf 40 = .ok (.lstore_n 3, 1) := by decide +kernel
theorem dX8_hashOf_41 : decode cX8_hashOf 41 = .ok (.iinc 5 1, 3) := by decide +kernel
theorem dX8_hashOf_44 : decode cX8_hashOf 44 = .ok (.goto (-37), 3) := by decide +kernel
theorem dX8_hashOf_47 : decode cX8_hashOf 47 = .ok (.lload_n 3, 1) := by decide +kernel
theorem dX8_hashOf_48 : decode cX8_hashOf 48 = .ok (.l2i, 1) := by decide +kernel
theorem dX8_hashOf_49 : decode cX8_hashOf 49 = .ok (.ireturn, 1) := by decide +kernel
theorem dX8_hash_0 : decode cX8_hash 0 = .ok (.iload_n 1, 1) := by decide +kernel
theorem dX8_hash_1 : decode cX8_hash 1 = .ok (.invokestatic 123, 3) := by decide +kernel
theorem dX8_hash_4 : decode cX8_hash 4 = .ok (.ifCond .ne 7, 3) := by decide +kernel
theorem dX8_hash_7 : decode cX8_hash 7 = .ok (.iconst (-1), 1) := by decide +kernel
theorem dX8_hash_8 : decode cX8_hash 8 = .ok (.goto 43, 3) := by decide +kernel
theorem dX8_hash_11 : decode cX8_hash 11 = .ok (.aload_n 0, 1) := by decide +kernel
theorem dX8_hash_12 : decode cX8_hash 12 = .ok (.getfield 13, 3) := by decide +kernel
theorem dX8_hash_15 : decode cX8_hash 15 = .ok (.iload_n 1, 1) := by decide +kernel
theorem dX8_hash_16 : decode cX8_hash 16 = .ok (.baload, 1) := by decide +kernel
theorem dX8_hash_17 : decode cX8_hash 17 = .ok (.ifCond .ne 8, 3) := by decide +kernel
theorem dX8_hash_20 : decode cX8_hash 20 = .ok (.bipush (-2), 2) := by decide +kernel
theorem dX8_hash_22 : decode cX8_hash 22 = .ok (.goto 29, 3) := by decide +kernel
theorem dX8_hash_25 : decode cX8_hash 25 = .ok (.iload_n 2, 1) := by decide +kernel
theorem dX8_hash_26 : decode cX8_hash 26 = .ok (.iconst 0, 1) := by decide +kernel
theorem dX8_hash_27 : decode cX8_hash 27 = .ok (.aload_n 0, 1) := by decide +kernel
theorem dX8_hash_28 : decode cX8_hash 28 = .ok (.iload_n 1, 1) := by decide +kernel
theorem dX8_hash_29 : decode cX8_hash 29 = .ok (.invokevirtual 139, 3) := by decide +kernel
theorem dX8_hash_32 : decode cX8_hash 32 = .ok (.iconst 1, 1) := by decide +kernel
theorem dX8_hash_33 : decode cX8_hash 33 = .ok (.isub, 1) := by decide +kernel
theorem dX8_hash_34 : decode cX8_hash 34 = .ok (.invokestatic 86, 3) := by decide +kernel
theorem dX8_hash_37 : decode cX8_hash 37 = .ok (.ifCond .eq 12, 3) := by decide +kernel
theorem dX8_hash_40 : decode cX8_hash 40 = .ok (.aload_n 0, 1) := by decide +kernel
theorem dX8_hash_41 : decode cX8_hash 41 = .ok (.iload_n 1, 1) := by decide +kernel
theorem dX8_hash_42 : decode cX8_hash 42 = .ok (.iload_n 2, 1) := by decide +kernel
theorem dX8_hash_43 : decode cX8_hash 43 = .ok (.invokevirtual 142, 3) := by decide +kernel
theorem dX8_hash_46 : decode cX8_hash 46 = .ok (.goto 5, 3) := by decide +kernel
theorem dX8_hash_49 : decode cX8_hash 49 = .ok (.bipush (-4), 2) := by decide +kernel
theorem dX8_hash_51 : decode cX8_hash 51 = .ok (.ireturn, 1) := by decide +kernel
theorem dX8_findMarks_0 : decode cX8_findMarks 0 = .ok (.aload_n 0, 1) := by decide +kernel
theorem dX8_findMarks_1 : decode cX8_findMarks 1 = .ok (.iload_n 1, 1) := by decide +kernel
theorem dX8_findMarks_2 : decode cX8_findMarks 2 = .ok (.invokevirtual 139, 3) := by decide +kernel
theorem dX8_findMarks_5 : decode cX8_findMarks 5 = .ok (.istore_n 2, 1) := by decide +kernel
theorem dX8_findMarks_6 : decode cX8_findMarks 6 = .ok (.iconst 0, 1) := by decide +kernel
theorem dX8_findMarks_7 : decode cX8_findMarks 7 = .ok (.istore_n 3, 1) := by decide +kernel
theorem dX8_findMarks_8 : decode cX8_findMarks 8 = .ok (.iload_n 3, 1) := by decide +kernel
theorem dX8_findMarks_9 : decode cX8_findMarks 9 = .ok (.bipush 40, 2) := by decide +kernel
theorem dX8_findMarks_11 : decode cX8_findMarks 11 = .ok (.if_icmp .ge 21, 3) := by decide +kernel
theorem dX8_findMarks_14 : decode cX8_findMarks 14 = .ok (.aload_n 0, 1) := by decide +kernel
theorem dX8_findMarks_15 : decode cX8_findMarks 15 = .ok (.getfield 59, 3) := by decide +kernel
theorem dX8_findMarks_18 : decode cX8_findMarks 18 = .ok (.bipush 40, 2) := by decide +kernel
theorem dX8_findMarks_20 : decode cX8_findMarks 20 = .ok (.iload_n 1, 1) := by decide +kernel
theorem dX8_findMarks_21 : decode cX8_findMarks 21 = .ok (.imul, 1) := by decide +kernel
theorem dX8_findMarks_22 : decode cX8_findMarks 22 = .ok (.iload_n 3, 1) := by decide +kernel
theorem dX8_findMarks_23 : decode cX8_findMarks 23 = .ok (.iadd, 1) := by decide +kernel
theorem dX8_findMarks_24 : decode cX8_findMarks 24 = .ok (.iconst 0, 1) := by decide +kernel
theorem dX8_findMarks_25 : decode cX8_findMarks 25 = .ok (.bastore, 1) := by decide +kernel
theorem dX8_findMarks_26 : decode cX8_findMarks 26 = .ok (.iinc 3 1, 3) := by decide +kernel
theorem dX8_findMarks_29 : decode cX8_findMarks 29 = .ok (.goto (-21), 3) := by decide +kernel
theorem dX8_findMarks_32 : decode cX8_findMarks 32 = .ok (.iconst 0, 1) := by decide +kernel
theorem dX8_findMarks_33 : decode cX8_findMarks 33 = .ok (.istore_n 3, 1) := by decide +kernel
theorem dX8_findMarks_34 : decode cX8_findMarks 34 = .ok (.iload_n 3, 1) := by decide +kernel
theorem dX8_findMarks_35 : decode cX8_findMarks 35 = .ok (.iload_n 2, 1) := by decide +kernel
theorem dX8_findMarks_36 : decode cX8_findMarks 36 = .ok (.if_icmp .ge 21, 3) := by decide +kernel
theorem dX8_findMarks_39 : decode cX8_findMarks 39 = .ok (.aload_n 0, 1) := by decide +kernel
theorem dX8_findMarks_40 : decode cX8_findMarks 40 = .ok (.getfield 62, 3) := by decide +kernel
theorem dX8_findMarks_43 : decode cX8_findMarks 43 = .ok (.iload_n 3, 1) := by decide +kernel
theorem dX8_findMarks_44 : decode cX8_findMarks 44 = .ok (.aload_n 0, 1) := by decide +kernel
theorem dX8_findMarks_45 : decode cX8_findMarks 45 = .ok (.iload_n 1, 1) := by decide +kernel
theorem dX8_findMarks_46 : decode cX8_findMarks 46 = .ok (.iload_n 3, 1) := by decide +kernel
theorem dX8_findMarks_47 : decode cX8_findMarks 47 = .ok (.invokevirtual 142, 3) := by decide +kernel
theorem dX8_findMarks_50 : decode cX8_findMarks 50 = .ok (.iastore, 1) := by decide +kernel
theorem dX8_findMarks_51 : decode cX8_findMarks 51 = .ok (.iinc 3 1, 3) := by decide +kernel
theorem dX8_findMarks_54 : decode cX8_findMarks 54 = .ok (.goto (-20), 3) := by decide +kernel
theorem dX8_findMarks_57 : decode cX8_findMarks 57 = .ok (.iconst 0, 1) := by decide +kernel
theorem dX8_findMarks_58 : decode cX8_findMarks 58 = .ok (.istore_n 3, 1) := by decide +kernel
theorem dX8_findMarks_59 : decode cX8_findMarks 59 = .ok (.iload_n 3, 1) := by decide +kernel
theorem dX8_findMarks_60 : decode cX8_findMarks 60 = .ok (.ifCond .ne 7, 3) := by decide +kernel
theorem dX8_findMarks_63 : decode cX8_findMarks 63 = .ok (.iload_n 2, 1) := by decide +kernel
theorem dX8_findMarks_64 : decode cX8_findMarks 64 = .ok (.ifCond .gt 13, 3) := by decide +kernel
theorem dX8_findMarks_67 : decode cX8_findMarks 67 = .ok (.iload_n 3, 1) := by decide +kernel
theorem dX8_findMarks_68 : decode cX8_findMarks 68 = .ok (.aload_n 0, 1) := by decide +kernel
theorem dX8_findMarks_69 : decode cX8_findMarks 69 = .ok (.getfield 34, 3) := by decide +kernel
theorem dX8_findMarks_72 : decode cX8_findMarks 72 = .ok (.iadd, 1) := by decide +kernel
theorem dX8_findMarks_73 : decode cX8_findMarks 73 = .ok (.iload_n 2, 1) := by decide +kernel
theorem dX8_findMarks_74 : decode cX8_findMarks 74 = .ok (.if_icmp .gt 79, 3) := by decide +kernel
theorem dX8_findMarks_77 : decode cX8_findMarks 77 = .ok (.iload_n 3, 1) := by decide +kernel
theorem dX8_findMarks_78 : decode cX8_findMarks 78 = .ok (.istore 4, 2) := by decide +kernel
theorem dX8_findMarks_80 : decode cX8_findMarks 80 = .ok (.iload_n 3, 1) := by decide +kernel
theorem dX8_findMarks_81 : decode cX8_findMarks 81 = .ok (.iconst 1, 1) := by decide +kernel
theorem dX8_findMarks_82 : decode cX8_findMarks 82 = .ok (.iadd, 1) := by decide +kernel
theorem dX8_findMarks_83 : decode cX8_findMarks 83 = .ok (.istore 5, 2) := by decide +kernel
theorem dX8_findMarks_85 : decode cX8_findMarks 85 = .ok (.iload 5, 2) := by decide +kernel
theorem dX8_findMarks_87 : decode cX8_findMarks 87 = .ok (.iload_n 3, 1) := by decide +kernel
theorem dX8_findMarks_88 : decode cX8_findMarks 88 = .ok (.aload_n 0, 1) := by decide +kernel
theorem dX8_findMarks_89 : decode cX8_findMarks 89 = .ok (.getfield 34, 3) := by decide +kernel
theorem dX8_findMarks_92 : decode cX8_findMarks 92 = .ok (.iadd, 1) := by decide +kernel
theorem dX8_findMarks_93 : decode cX8_findMarks 93 = .ok (.if_icmp .ge 41, 3) := by decide +kernel
theorem dX8_findMarks_96 : decode cX8_findMarks 96 = .ok (.iload 5, 2) := by decide +kernel
theorem dX8_findMarks_98 : decode cX8_findMarks 98 = .ok (.iload_n 2, 1) := by decide +kernel
theorem dX8_findMarks_99 : decode cX8_findMarks 99 = .ok (.if_icmp .ge 35, 3) := by decide +kernel
theorem dX8_findMarks_102 : decode cX8_findMarks 102 = .ok (.aload_n 0, 1) := by decide +kernel
theorem dX8_findMarks_103 : decode cX8_findMarks 103 = .ok (.getfield 62, 3) := by decide +kernel
theorem dX8_findMarks_106 : decode cX8_findMarks 106 = .ok (.iload 5, 2) := by decide +kernel
theorem dX8_findMarks_108 : decode cX8_findMarks 108 = .ok (.iaload, 1) := by decide +kernel
theorem dX8_findMarks_109 : decode cX8_findMarks 109 = .ok (.aload_n 0, 1) := by decide +kernel
theorem dX8_findMarks_110 : decode cX8_findMarks 110 = .ok (.getfield 62, 3) := by decide +kernel
theorem dX8_findMarks_113 : decode cX8_findMarks 113 = .ok (.iload 4, 2) := by decide +kernel
theorem dX8_findMarks_115 : decode cX8_findMarks 115 = .ok (.iaload, 1) := by decide +kernel
theorem dX8_findMarks_116 : decode cX8_findMarks 116 = .ok (.if_icmp .gt 8, 3) := by decide +kernel
theorem dX8_findMarks_119 : decode cX8_findMarks 119 = .ok (.iload 5, 2) := by decide +kernel
theorem dX8_findMarks_121 : decode cX8_findMarks 121 = .ok (.goto 5, 3) := by decide +kernel
theorem dX8_findMarks_124 : decode cX8_findMarks 124 = .ok (.iload 4, 2) := by decide +kernel
theorem dX8_findMarks_126 : decode cX8_findMarks 126 = .ok (.istore 4, 2) := by decide +kernel
theorem dX8_findMarks_128 : decode cX8_findMarks 128 = .ok (.iinc 5 1, 3) := by decide +kernel
theorem dX8_findMarks_131 : decode cX8_findMarks 131 = .ok (.goto (-46), 3) := by decide +kernel
theorem dX8_findMarks_134 : decode cX8_findMarks 134 = .ok (.aload_n 0, 1) := by decide +kernel
theorem dX8_findMarks_135 : decode cX8_findMarks 135 = .ok (.getfield 59, 3) := by decide +kernel
theorem dX8_findMarks_138 : decode cX8_findMarks 138 = .ok (.bipush 40, 2) := by decide +kernel
theorem dX8_findMarks_140 : decode cX8_findMarks 140 = .ok (.iload_n 1, 1) := by decide +kernel
theorem dX8_findMarks_141 : decode cX8_findMarks 141 = .ok (.imul, 1) := by decide +kernel
theorem dX8_findMarks_142 : decode cX8_findMarks 142 = .ok (.iload 4, 2) := by decide +kernel
theorem dX8_findMarks_144 : decode cX8_findMarks 144 = .ok (.iadd, 1) := by decide +kernel
theorem dX8_findMarks_145 : decode cX8_findMarks 145 = .ok (.iconst 1, 1) := by decide +kernel
theorem dX8_findMarks_146 : decode cX8_findMarks 146 = .ok (.bastore, 1) := by decide +kernel
theorem dX8_findMarks_147 : decode cX8_findMarks 147 = .ok (.iinc 3 1, 3) := by decide +kernel
theorem dX8_findMarks_150 : decode cX8_findMarks 150 = .ok (.goto (-91), 3) := by decide +kernel
theorem dX8_findMarks_153 : decode cX8_findMarks 153 = .ok (.return_, 1) := by decide +kernel
theorem dX8_markAt_0 : decode cX8_markAt 0 = .ok (.iload_n 1, 1) := by decide +kernel
theorem dX8_markAt_1 : decode cX8_markAt 1 = .ok (.invokestatic 123, 3) := by decide +kernel
theorem dX8_markAt_4 : decode cX8_markAt 4 = .ok (.ifCond .eq 8, 3) := by decide +kernel
theorem dX8_markAt_7 : decode cX8_markAt 7 = .ok (.iload_n 2, 1) := by decide +kernel
theorem dX8_markAt_8 : decode cX8_markAt 8 = .ok (.iconst (-1), 1) := by decide +kernel
theorem dX8_markAt_9 : decode cX8_markAt 9 = .ok (.if_icmp .ge 5, 3) := by decide +kernel
theorem dX8_markAt_12 : decode cX8_markAt 12 = .ok (.iconst (-1), 1) := by decide +kernel
theorem dX8_markAt_13 : decode cX8_markAt 13 = .ok (.ireturn, 1) := by decide +kernel
theorem dX8_markAt_14 : decode cX8_markAt 14 = .ok (.aload_n 0, 1) := by decide +kernel
theorem dX8_markAt_15 : decode cX8_markAt 15 = .ok (.getfield 13, 3) := by decide +kernel
theorem dX8_markAt_18 : decode cX8_markAt 18 = .ok (.iload_n 1, 1) := by decide +kernel
theorem dX8_markAt_19 : decode cX8_markAt 19 = .ok (.baload, 1) := by decide +kernel
theorem dX8_markAt_20 : decode cX8_markAt 20 = .ok (.ifCond .ne 6, 3) := by decide +kernel
theorem dX8_markAt_23 : decode cX8_markAt 23 = .ok (.bipush (-2), 2) := by decide +kernel
theorem dX8_markAt_25 : decode cX8_markAt 25 = .ok (.ireturn, 1) := by decide +kernel
theorem dX8_markAt_26 : decode cX8_markAt 26 = .ok (.aload_n 0, 1) := by decide +kernel
theorem dX8_markAt_27 : decode cX8_markAt 27 = .ok (.iload_n 1, 1) := by decide +kernel
theorem dX8_markAt_28 : decode cX8_markAt 28 = .ok (.invokevirtual 146, 3) := by decide +kernel
theorem dX8_markAt_31 : decode cX8_markAt 31 = .ok (.iconst 0, 1) := by decide +kernel
theorem dX8_markAt_32 : decode cX8_markAt 32 = .ok (.istore_n 3, 1) := by decide +kernel
theorem dX8_markAt_33 : decode cX8_markAt 33 = .ok (.iconst 0, 1) := by decide +kernel
theorem dX8_markAt_34 : decode cX8_markAt 34 = .ok (.istore 4, 2) := by decide +kernel
theorem dX8_markAt_36 : decode cX8_markAt 36 = .ok (.iload 4, 2) := by decide +kernel
theorem dX8_markAt_38 : decode cX8_markAt 38 = .ok (.bipush 40, 2) := by decide +kernel
theorem dX8_markAt_40 : decode cX8_markAt 40 = .ok (.if_icmp .ge 35, 3) := by decide +kernel
theorem dX8_markAt_43 : decode cX8_markAt 43 = .ok (.aload_n 0, 1) := by decide +kernel
theorem dX8_markAt_44 : decode cX8_markAt 44 = .ok (.getfield 59, 3) := by decide +kernel
theorem dX8_markAt_47 : decode cX8_markAt 47 = .ok (.bipush 40, 2) := by decide +kernel
theorem dX8_markAt_49 : decode cX8_markAt 49 = .ok (.iload_n 1, 1) := by decide +kernel
theorem dX8_markAt_50 : decode cX8_markAt 50 = .ok (.imul, 1) := by decide +kernel
theorem dX8_markAt_51 : decode cX8_markAt 51 = .ok (.iload 4, 2) := by decide +kernel
theorem dX8_markAt_53 : decode cX8_markAt 53 = .ok (.iadd, 1) := by decide +kernel
theorem dX8_markAt_54 : decode cX8_markAt 54 = .ok (.baload, 1) := by decide +kernel
theorem dX8_markAt_55 : decode cX8_markAt 55 = .ok (.ifCond .eq 14, 3) := by decide +kernel
theorem dX8_markAt_58 : decode cX8_markAt 58 = .ok (.iload_n 3, 1) := by decide +kernel
theorem dX8_markAt_59 : decode cX8_markAt 59 = .ok (.iload_n 2, 1) := by decide +kernel
theorem dX8_markAt_60 : decode cX8_markAt 60 = .ok (.if_icmp .ne 6, 3) := by decide +kernel
theorem dX8_markAt_63 : decode cX8_markAt 63 = .ok (.iload 4, 2) := by decide +kernel
theorem dX8_markAt_65 : decode cX8_markAt 65 = .ok (.ireturn, 1) := by decide +kernel
theorem dX8_markAt_66 : decode cX8_markAt 66 = .ok (.iinc 3 1, 3) := by decide +kernel
theorem dX8_markAt_69 : decode cX8_markAt 69 = .ok (.iinc 4 1, 3) := by decide +kernel
theorem dX8_markAt_72 : decode cX8_markAt 72 = .ok (.goto (-36), 3) := by decide +kernel
theorem dX8_markAt_75 : decode cX8_markAt 75 = .ok (.iload_n 2, 1) := by decide +kernel
theorem dX8_markAt_76 : decode cX8_markAt 76 = .ok (.ifCond .ge 7, 3) := by decide +kernel
theorem dX8_markAt_79 : decode cX8_markAt 79 = .ok (.iload_n 3, 1) := by decide +kernel
theorem dX8_markAt_80 : decode cX8_markAt 80 = .ok (.goto 4, 3) := by decide +kernel
theorem dX8_markAt_83 : decode cX8_markAt 83 = .ok (.iconst (-1), 1) := by decide +kernel
theorem dX8_markAt_84 : decode cX8_markAt 84 = .ok (.ireturn, 1) := by decide +kernel
theorem dX8_findAside_0 : decode cX8_findAside 0 = .ok (.iconst 0, 1) := by decide +kernel
theorem dX8_findAside_1 : decode cX8_findAside 1 = .ok (.istore_n 2, 1) := by decide +kernel
theorem dX8_findAside_2 : decode cX8_findAside 2 = .ok (.iload_n 2, 1) := by decide +kernel
theorem dX8_findAside_3 : decode cX8_findAside 3 = .ok (.bipush 40, 2) := by decide +kernel
theorem dX8_findAside_5 : decode cX8_findAside 5 = .ok (.if_icmp .ge 21, 3) := by decide +kernel
theorem dX8_findAside_8 : decode cX8_findAside 8 = .ok (.aload_n 0, 1) := by decide +kernel
theorem dX8_findAside_9 : decode cX8_findAside 9 = .ok (.getfield 65, 3) := by decide +kernel
theorem dX8_findAside_12 : decode cX8_findAside 12 = .ok (.bipush 40, 2) := by decide +kernel
theorem dX8_findAside_14 : decode cX8_findAside 14 = .ok (.iload_n 1, 1) := by decide +kernel
theorem dX8_findAside_15 : decode cX8_findAside 15 = .ok (.imul, 1) := by decide +kernel
theorem dX8_findAside_16 : decode cX8_findAside 16 = .ok (.iload_n 2, 1) := by decide +kernel
theorem dX8_findAside_17 : decode cX8_findAside 17 = .ok (.iadd, 1) := by decide +kernel
theorem dX8_findAside_18 : decode cX8_findAside 18 = .ok (.iconst 0, 1) := by decide +kernel
theorem dX8_findAside_19 : decode cX8_findAside 19 = .ok (.bastore, 1) := by decide +kernel
theorem dX8_findAside_20 : decode cX8_findAside 20 = .ok (.iinc 2 1, 3) := by decide +kernel
theorem dX8_findAside_23 : decode cX8_findAside 23 = .ok (.goto (-21), 3) := by decide +kernel
theorem dX8_findAside_26 : decode cX8_findAside 26 = .ok (.aload_n 0, 1) := by decide +kernel
theorem dX8_findAside_27 : decode cX8_findAside 27 = .ok (.getfield 43, 3) := by decide +kernel
theorem dX8_findAside_30 : decode cX8_findAside 30 = .ok (.ifCond .lt 29, 3) := by decide +kernel
theorem dX8_findAside_33 : decode cX8_findAside 33 = .ok (.aload_n 0, 1) := by decide +kernel
theorem dX8_findAside_34 : decode cX8_findAside 34 = .ok (.getfield 43, 3) := by decide +kernel
theorem dX8_findAside_37 : decode cX8_findAside 37 = .ok (.iload_n 1, 1) := by decide +kernel
theorem dX8_findAside_38 : decode cX8_findAside 38 = .ok (.if_icmp .eq 21, 3) := by decide +kernel
theorem dX8_findAside_41 : decode cX8_findAside 41 = .ok (.aload_n 0, 1) := by decide +kernel
theorem dX8_findAside_42 : decode cX8_findAside 42 = .ok (.getfield 20, 3) := by decide +kernel
theorem dX8_findAside_45 : decode cX8_findAside 45 = .ok (.aload_n 0, 1) := by decide +kernel
theorem dX8_findAside_46 : decode cX8_findAside 46 = .ok (.getfield 43, 3) := by decide +kernel
theorem dX8_findAside_49 : decode cX8_findAside 49 = .ok (.iaload, 1) := by decide +kernel
theorem dX8_findAside_50 : decode cX8_findAside 50 = .ok (.aload_n 0, 1) := by decide +kernel
theorem dX8_findAside_51 : decode cX8_findAside 51 = .ok (.getfield 20, 3) := by decide +kernel
theorem dX8_findAside_54 : decode cX8_findAside 54 = .ok (.iload_n 1, 1) := by decide +kernel
theorem dX8_findAside_55 : decode cX8_findAside 55 = .ok (.iaload, 1) := by decide +kernel
theorem dX8_findAside_56 : decode cX8_findAside 56 = .ok (.if_icmp .eq 4, 3) := by decide +kernel
theorem dX8_findAside_59 : decode cX8_findAside 59 = .ok (.return_, 1) := by decide +kernel
theorem dX8_findAside_60 : decode cX8_findAside 60 = .ok (.aload_n 0, 1) := by decide +kernel
theorem dX8_findAside_61 : decode cX8_findAside 61 = .ok (.getfield 34, 3) := by decide +kernel
theorem dX8_findAside_64 : decode cX8_findAside 64 = .ok (.aload_n 0, 1) := by decide +kernel
theorem dX8_findAside_65 : decode cX8_findAside 65 = .ok (.getfield 30, 3) := by decide +kernel
theorem dX8_findAside_68 : decode cX8_findAside 68 = .ok (.iadd, 1) := by decide +kernel
theorem dX8_findAside_69 : decode cX8_findAside 69 = .ok (.iconst 1, 1) := by decide +kernel
theorem dX8_findAside_70 : decode cX8_findAside 70 = .ok (.isub, 1) := by decide +kernel
theorem dX8_findAside_71 : decode cX8_findAside 71 = .ok (.istore_n 2, 1) := by decide +kernel
theorem dX8_findAside_72 : decode cX8_findAside 72 = .ok (.iconst 0, 1) := by decide +kernel
theorem dX8_findAside_73 : decode cX8_findAside 73 = .ok (.istore_n 3, 1) := by decide +kernel
theorem dX8_findAside_74 : decode cX8_findAside 74 = .ok (.iload_n 3, 1) := by decide +kernel
theorem dX8_findAside_75 : decode cX8_findAside 75 = .ok (.iload_n 2, 1) := by decide +kernel
theorem dX8_findAside_76 : decode cX8_findAside 76 = .ok (.iadd, 1) := by decide +kernel
theorem dX8_findAside_77 : decode cX8_findAside 77 = .ok (.aload_n 0, 1) := by decide +kernel
theorem dX8_findAside_78 : decode cX8_findAside 78 = .ok (.getfield 17, 3) := by decide +kernel
theorem dX8_findAside_81 : decode cX8_findAside 81 = .ok (.iload_n 1, 1) := by decide +kernel
theorem dX8_findAside_82 : decode cX8_findAside 82 = .ok (.iaload, 1) := by decide +kernel
theorem dX8_findAside_83 : decode cX8_findAside 83 = .ok (.if_icmp .gt 122, 3) := by decide +kernel
theorem dX8_findAside_86 : decode cX8_findAside 86 = .ok (.iconst 0, 1) := by decide +kernel
theorem dX8_findAside_87 : decode cX8_findAside 87 = .ok (.istore 4, 2) := by decide +kernel
theorem dX8_findAside_89 : decode cX8_findAside 89 = .ok (.iload 4, 2) := by decide +kernel
theorem dX8_findAside_91 : decode cX8_findAside 91 = .ok (.iload_n 2, 1) := by decide +kernel
theorem dX8_findAside_92 : decode cX8_findAside 92 = .ok (.iadd, 1) := by decide +kernel
theorem dX8_findAside_93 : decode cX8_findAside 93 = .ok (.aload_n 0, 1) := by decide +kernel
theorem dX8_findAside_94 : decode cX8_findAside 94 = .ok (.getfield 17, 3) := by decide +kernel
theorem dX8_findAside_97 : decode cX8_findAside 97 = .ok (.aload_n 0, 1) := by decide +kernel
theorem dX8_findAside_98 : decode cX8_findAside 98 = .ok (.getfield 43, 3) := by decide +kernel
theorem dX8_findAside_101 : decode cX8_findAside 101 = .ok (.iaload, 1) := by decide +kernel
theorem dX8_findAside_102 : decode cX8_findAside 102 = .ok (.if_icmp .gt 97, 3) := by decide +kernel
theorem dX8_findAside_105 : decode cX8_findAside 105 = .ok (.iconst 0, 1) := by decide +kernel
theorem dX8_findAside_106 : decode cX8_findAside 106 = .ok (.istore 5, 2) := by decide +kernel
theorem dX8_findAside_108 : decode cX8_findAside 108 = .ok (.iload 5, 2) := by decide +kernel
theorem dX8_findAside_110 : decode cX8_findAside 110 = .ok (.iload_n 2, 1) := by decide +kernel
theorem dX8_findAside_111 : decode cX8_findAside 111 = .ok (.if_icmp .ge 45, 3) := by decide +kernel
theorem dX8_findAside_114 : decode cX8_findAside 114 = .ok (.aload_n 0, 1) := by decide +kernel
theorem dX8_findAside_115 : decode cX8_findAside 115 = .ok (.getfield 26, 3) := by decide +kernel
theorem dX8_findAside_118 : decode cX8_findAside 118 = .ok (.bipush 40, 2) := by decide +kernel
theorem dX8_findAside_120 : decode cX8_findAside 120 = .ok (.iload_n 1, 1) := by decide +kernel
theorem dX8_findAside_121 : decode cX8_findAside 121 = .ok (.imul, 1) := by decide +kernel
theorem dX8_findAside_122 : decode cX8_findAside 122 = .ok (.iload_n 3, 1) := by decide +kernel
theorem dX8_findAside_123 : decode cX8_findAside 123 = .ok (.iadd, 1) := by decide +kernel
theorem dX8_findAside_124 : decode cX8_findAside 124 = .ok (.iload 5, 2) := by decide +kernel
theorem dX8_findAside_126 : decode cX8_findAside 126 = .ok (.iadd, 1) := by decide +kernel
theorem dX8_findAside_127 : decode cX8_findAside 127 = .ok (.laload, 1) := by decide +kernel
theorem dX8_findAside_128 : decode cX8_findAside 128 = .ok (.aload_n 0, 1) := by decide +kernel
theorem dX8_findAside_129 : decode cX8_findAside 129 = .ok (.getfield 26, 3) := by decide +kernel
theorem dX8_findAside_132 : decode cX8_findAside 132 = .ok (.bipush 40, 2) := by decide +kernel
theorem dX8_findAside_134 : decode cX8_findAside 134 = .ok (.aload_n 0, 1) := by decide +kernel
theorem dX8_findAside_135 : decode cX8_findAside 135 = .ok (.getfield 43, 3) := by decide +kernel
theorem dX8_findAside_138 : decode cX8_findAside 138 = .ok (.imul, 1) := by decide +kernel
theorem dX8_findAside_139 : decode cX8_findAside 139 = .ok (.iload 4, 2) := by decide +kernel
theorem dX8_findAside_141 : decode cX8_findAside 141 = .ok (.iadd, 1) := by decide +kernel
theorem dX8_findAside_142 : decode cX8_findAside 142 = .ok (.iload 5, 2) := by decide +kernel
theorem dX8_findAside_144 : decode cX8_findAside 144 = .ok (.iadd, 1) := by decide +kernel
theorem dX8_findAside_145 : decode cX8_findAside 145 = .ok (.laload, 1) := by decide +kernel
theorem dX8_findAside_146 : decode cX8_findAside 146 = .ok (.lcmp, 1) := by decide +kernel
theorem dX8_findAside_147 : decode cX8_findAside 147 = .ok (.ifCond .ne 9, 3) := by decide +kernel
theorem dX8_findAside_150 : decode cX8_findAside 150 = .ok (.iinc 5 1, 3) := by decide +kernel
theorem dX8_findAside_153 : decode cX8_findAside 153 = .ok (.goto (-45), 3) := by decide +kernel
theorem dX8_findAside_156 : decode cX8_findAside 156 = .ok (.iload_n 3, 1) := by decide +kernel
theorem dX8_findAside_157 : decode cX8_findAside 157 = .ok (.istore 6, 2) := by decide +kernel
theorem dX8_findAside_159 : decode cX8_findAside 159 = .ok (.iload 6, 2) := by decide +kernel
theorem dX8_findAside_161 : decode cX8_findAside 161 = .ok (.iload_n 3, 1) := by decide +kernel
theorem dX8_findAside_162 : decode cX8_findAside 162 = .ok (.iload 5, 2) := by decide +kernel
theorem dX8_findAside_164 : decode cX8_findAside 164 = .ok (.iadd, 1) := by decide +kernel
theorem dX8_findAside_165 : decode cX8_findAside 165 = .ok (.if_icmp .ge 28, 3) := by decide +kernel
theorem dX8_findAside_168 : decode cX8_findAside 168 = .ok (.iload 5, 2) := by decide +kernel
theorem dX8_findAside_170 : decode cX8_findAside 170 = .ok (.iload_n 2, 1) := by decide +kernel
theorem dX8_findAside_171 : decode cX8_findAside 171 = .ok (.if_icmp .ne 22, 3) := by decide +kernel
theorem dX8_findAside_174 : decode cX8_findAside 174 = .ok (.aload_n 0, 1) := by decide +kernel
theorem dX8_findAside_175 : decode cX8_findAside 175 = .ok (.getfield 65, 3) := by decide +kernel
theorem dX8_findAside_178 : decode cX8_findAside 178 = .ok (.bipush 40, 2) := by decide +kernel
theorem dX8_findAside_180 : decode cX8_findAside 180 = .ok (.iload_n 1, 1) := by decide +kernel
theorem dX8_findAside_181 : decode cX8_findAside 181 = .ok (.imul, 1) := by decide +kernel
theorem dX8_findAside_182 : decode cX8_findAside 182 = .ok (.iload 6, 2) := by decide +kernel
theorem dX8_findAside_184 : decode cX8_findAside 184 = .ok (.iadd, 1) := by decide +kernel
theorem dX8_findAside_185 : decode cX8_findAside 185 = .ok (.iconst 1, 1) := by decide +kernel
theorem dX8_findAside_186 : decode cX8_findAside 186 = .ok (.bastore, 1) := by decide +kernel
theorem dX8_findAside_187 : decode cX8_findAside 187 = .ok (.iinc 6 1, 3) := by decide +kernel
theorem dX8_findAside_190 : decode cX8_findAside 190 = .ok (.goto (-31), 3) := by decide +kernel
theorem dX8_findAside_193 : decode cX8_findAside 193 = .ok (.iinc 4 1, 3) := by decide +kernel
theorem dX8_findAside_196 : decode cX8_findAside 196 = .ok (.goto (-107), 3) := by decide +kernel
theorem dX8_findAside_199 : decode cX8_findAside 199 = .ok (.iinc 3 1, 3) := by decide +kernel
theorem dX8_findAside_202 : decode cX8_findAside 202 = .ok (.goto (-128), 3) := by decide +kernel
theorem dX8_findAside_205 : decode cX8_findAside 205 = .ok (.return_, 1) := by decide +kernel
theorem dX8_aside_0 : decode cX8_aside 0 = .ok (.iload_n 1, 1) := by decide +kernel
theorem dX8_aside_1 : decode cX8_aside 1 = .ok (.invokestatic 123, 3) := by decide +kernel
theorem dX8_aside_4 : decode cX8_aside 4 = .ok (.ifCond .eq 7, 3) := by decide +kernel
theorem dX8_aside_7 : decode cX8_aside 7 = .ok (.iload_n 2, 1) := by decide +kernel
theorem dX8_aside_8 : decode cX8_aside 8 = .ok (.ifCond .ge 5, 3) := by decide +kernel
theorem dX8_aside_11 : decode cX8_aside 11 = .ok (.iconst (-1), 1) := by decide +kernel
theorem dX8_aside_12 : decode cX8_aside 12 = .ok (.ireturn, 1) := by decide +kernel
theorem dX8_aside_13 : decode cX8_aside 13 = .ok (.aload_n 0, 1) := by decide +kernel
theorem dX8_aside_14 : decode cX8_aside 14 = .ok (.getfield 13, 3) := by decide +kernel
theorem dX8_aside_17 : decode cX8_aside 17 = .ok (.iload_n 1, 1) := by decide +kernel
theorem dX8_aside_18 : decode cX8_aside 18 = .ok (.baload, 1) := by decide +kernel
theorem dX8_aside_19 : decode cX8_aside 19 = .ok (.ifCond .ne 6, 3) := by decide +kernel
theorem dX8_aside_22 : decode cX8_aside 22 = .ok (.bipush (-2), 2) := by decide +kernel
theorem dX8_aside_24 : decode cX8_aside 24 = .ok (.ireturn, 1) := by decide +kernel
theorem dX8_aside_25 : decode cX8_aside 25 = .ok (.iload_n 2, 1) := by decide +kernel
theorem dX8_aside_26 : decode cX8_aside 26 = .ok (.aload_n 0, 1) := by decide +kernel
theorem dX8_aside_27 : decode cX8_aside 27 = .ok (.getfield 17, 3) := by decide +kernel
theorem dX8_aside_30 : decode cX8_aside 30 = .ok (.iload_n 1, 1) := by decide +kernel
theorem dX8_aside_31 : decode cX8_aside 31 = .ok (.iaload, 1) := by decide +kernel
theorem dX8_aside_32 : decode cX8_aside 32 = .ok (.if_icmp .lt 5, 3) := by decide +kernel
theorem dX8_aside_35 : decode cX8_aside 35 = .ok (.iconst (-1), 1) := by decide +kernel
theorem dX8_aside_36 : decode cX8_aside 36 = .ok (.ireturn, 1) := by decide +kernel
theorem dX8_aside_37 : decode cX8_aside 37 = .ok (.aload_n 0, 1) := by decide +kernel
theorem dX8_aside_38 : decode cX8_aside 38 = .ok (.iload_n 1, 1) := by decide +kernel
theorem dX8_aside_39 : decode cX8_aside 39 = .ok (.invokevirtual 150, 3) := by decide +kernel
theorem dX8_aside_42 : decode cX8_aside 42 = .ok (.aload_n 0, 1) := by decide +kernel
theorem dX8_aside_43 : decode cX8_aside 43 = .ok (.getfield 65, 3) := by decide +kernel
theorem dX8_aside_46 : decode cX8_aside 46 = .ok (.bipush 40, 2) := by decide +kernel
theorem dX8_aside_48 : decode cX8_aside 48 = .ok (.iload_n 1, 1) := by decide +kernel
theorem dX8_aside_49 : decode cX8_aside 49 = .ok (.imul, 1) := by decide +kernel
theorem dX8_aside_50 : decode cX8_aside 50 = .ok (.iload_n 2, 1) := by decide +kernel
theorem dX8_aside_51 : decode cX8_aside 51 = .ok (.iadd, 1) := by decide +kernel
theorem dX8_aside_52 : decode cX8_aside 52 = .ok (.baload, 1) := by decide +kernel
theorem dX8_aside_53 : decode cX8_aside 53 = .ok (.ifCond .eq 7, 3) := by decide +kernel
theorem dX8_aside_56 : decode cX8_aside 56 = .ok (.iconst 1, 1) := by decide +kernel
theorem dX8_aside_57 : decode cX8_aside 57 = .ok (.goto 4, 3) := by decide +kernel
theorem dX8_aside_60 : decode cX8_aside 60 = .ok (.iconst 0, 1) := by decide +kernel
theorem dX8_aside_61 : decode cX8_aside 61 = .ok (.ireturn, 1) := by decide +kernel
theorem dX8_isAlike_0 : decode cX8_isAlike 0 = .ok (.iload_n 3, 1) := by decide +kernel
theorem dX8_isAlike_1 : decode cX8_isAlike 1 = .ok (.iconst 0, 1) := by decide +kernel
theorem dX8_isAlike_2 : decode cX8_isAlike 2 = .ok (.aload_n 0, 1) := by decide +kernel
theorem dX8_isAlike_3 : decode cX8_isAlike 3 = .ok (.getfield 17, 3) := by decide +kernel
theorem dX8_isAlike_6 : decode cX8_isAlike 6 = .ok (.iload_n 1, 1) := by decide +kernel
theorem dX8_isAlike_7 : decode cX8_isAlike 7 = .ok (.iaload, 1) := by decide +kernel
theorem dX8_isAlike_8 : decode cX8_isAlike 8 = .ok (.iconst 1, 1) := by decide +kernel
theorem dX8_isAlike_9 : decode cX8_isAlike 9 = .ok (.isub, 1) := by decide +kernel
theorem dX8_isAlike_10 : decode cX8_isAlike 10 = .ok (.invokestatic 86, 3) := by decide +kernel
theorem dX8_isAlike_13 : decode cX8_isAlike 13 = .ok (.ifCond .eq 20, 3) := by decide +kernel
theorem dX8_isAlike_16 : decode cX8_isAlike 16 = .ok (.iload 4, 2) := by decide +kernel
theorem dX8_isAlike_18 : decode cX8_isAlike 18 = .ok (.iconst 0, 1) := by decide +kernel
theorem dX8_isAlike_19 : decode cX8_isAlike 19 = .ok (.aload_n 0, 1) := by decide +kernel
theorem dX8_isAlike_20 : decode cX8_isAlike 20 = .ok (.getfield 17, 3) := by decide +kernel
theorem dX8_isAlike_23 : decode cX8_isAlike 23 = .ok (.iload_n 2, 1) := by decide +kernel
theorem dX8_isAlike_24 : decode cX8_isAlike 24 = .ok (.iaload, 1) := by decide +kernel
theorem dX8_isAlike_25 : decode cX8_isAlike 25 = .ok (.iconst 1, 1) := by decide +kernel
theorem dX8_isAlike_26 : decode cX8_isAlike 26 = .ok (.isub, 1) := by decide +kernel
theorem dX8_isAlike_27 : decode cX8_isAlike 27 = .ok (.invokestatic 86, 3) := by decide +kernel
theorem dX8_isAlike_30 : decode cX8_isAlike 30 = .ok (.ifCond .ne 5, 3) := by decide +kernel
theorem dX8_isAlike_33 : decode cX8_isAlike 33 = .ok (.iconst 0, 1) := by decide +kernel
theorem dX8_isAlike_34 : decode cX8_isAlike 34 = .ok (.ireturn, 1) := by decide +kernel
theorem dX8_isAlike_35 : decode cX8_isAlike 35 = .ok (.bipush 40, 2) := by decide +kernel
theorem dX8_isAlike_37 : decode cX8_isAlike 37 = .ok (.iload_n 1, 1) := by decide +kernel
theorem dX8_isAlike_38 : decode cX8_isAlike 38 = .ok (.imul, 1) := by decide +kernel
theorem dX8_isAlike_39 : decode cX8_isAlike 39 = .ok (.iload_n 3, 1) := by decide +kernel
theorem dX8_isAlike_40 : decode cX8_isAlike 40 = .ok (.iadd, 1) := by decide +kernel
theorem dX8_isAlike_41 : decode cX8_isAlike 41 = .ok (.istore 5, 2) := by decide +kernel
theorem dX8_isAlike_43 : decode cX8_isAlike 43 = .ok (.bipush 40, 2) := by decide +kernel
theorem dX8_isAlike_45 : decode cX8_isAlike 45 = .ok (.iload_n 2, 1) := by decide +kernel
theorem dX8_isAlike_46 : decode cX8_isAlike 46 = .ok (.imul, 1) := by decide +kernel
theorem dX8_isAlike_47 : decode cX8_isAlike 47 = .ok (.iload 4, 2) := by decide +kernel
theorem dX8_isAlike_49 : decode cX8_isAlike 49 = .ok (.iadd, 1) := by decide +kernel
theorem dX8_isAlike_50 : decode cX8_isAlike 50 = .ok (.istore 6, 2) := by decide +kernel
theorem dX8_isAlike_52 : decode cX8_isAlike 52 = .ok (.aload_n 0, 1) := by decide +kernel
theorem dX8_isAlike_53 : decode cX8_isAlike 53 = .ok (.getfield 26, 3) := by decide +kernel
theorem dX8_isAlike_56 : decode cX8_isAlike 56 = .ok (.iload 5, 2) := by decide +kernel
theorem dX8_isAlike_58 : decode cX8_isAlike 58 = .ok (.laload, 1) := by decide +kernel
theorem dX8_isAlike_59 : decode cX8_isAlike 59 = .ok (.aload_n 0, 1) := by decide +kernel
theorem dX8_isAlike_60 : decode cX8_isAlike 60 = .ok (.getfield 26, 3) := by decide +kernel
theorem dX8_isAlike_63 : decode cX8_isAlike 63 = .ok (.iload 6, 2) := by decide +kernel
theorem dX8_isAlike_65 : decode cX8_isAlike 65 = .ok (.laload, 1) := by decide +kernel
theorem dX8_isAlike_66 : decode cX8_isAlike 66 = .ok (.lcmp, 1) := by decide +kernel
theorem dX8_isAlike_67 : decode cX8_isAlike 67 = .ok (.ifCond .ne 27, 3) := by decide +kernel
theorem dX8_isAlike_70 : decode cX8_isAlike 70 = .ok (.aload_n 0, 1) := by decide +kernel
theorem dX8_isAlike_71 : decode cX8_isAlike 71 = .ok (.getfield 65, 3) := by decide +kernel
theorem dX8_isAlike_74 : decode cX8_isAlike 74 = .ok (.iload 5, 2) := by decide +kernel
theorem dX8_isAlike_76 : decode cX8_isAlike 76 = .ok (.baload, 1) := by decide +kernel
theorem dX8_isAlike_77 : decode cX8_isAlike 77 = .ok (.ifCond .ne 17, 3) := by decide +kernel
theorem dX8_isAlike_80 : decode cX8_isAlike 80 = .ok (.aload_n 0, 1) := by decide +kernel
theorem dX8_isAlike_81 : decode cX8_isAlike 81 = .ok (.getfield 65, 3) := by decide +kernel
theorem dX8_isAlike_84 : decode cX8_isAlike 84 = .ok (.iload 6, 2) := by decide +kernel
theorem dX8_isAlike_86 : decode cX8_isAlike 86 = .ok (.baload, 1) := by decide +kernel
theorem dX8_isAlike_87 : decode cX8_isAlike 87 = .ok (.ifCond .ne 7, 3) := by decide +kernel
theorem dX8_isAlike_90 : decode cX8_isAlike 90 = .ok (.iconst 1, 1) := by decide +kernel
theorem dX8_isAlike_91 : decode cX8_isAlike 91 = .ok (.goto 4, 3) := by decide +kernel
theorem dX8_isAlike_94 : decode cX8_isAlike 94 = .ok (.iconst 0, 1) := by decide +kernel
theorem dX8_isAlike_95 : decode cX8_isAlike 95 = .ok (.ireturn, 1) := by decide +kernel
theorem dX8_findRuns_0 : decode cX8_findRuns 0 = .ok (.aload_n 0, 1) := by decide +kernel
theorem dX8_findRuns_1 : decode cX8_findRuns 1 = .ok (.iconst 0, 1) := by decide +kernel
theorem dX8_findRuns_2 : decode cX8_findRuns 2 = .ok (.putfield 153, 3) := by decide +kernel
theorem dX8_findRuns_5 : decode cX8_findRuns 5 = .ok (.aload_n 0, 1) := by decide +kernel
theorem dX8_findRuns_6 : decode cX8_findRuns 6 = .ok (.getfield 20, 3) := by decide +kernel
theorem dX8_findRuns_9 : decode cX8_findRuns 9 = .ok (.iload_n 1, 1) := by decide +kernel
theorem dX8_findRuns_10 : decode cX8_findRuns 10 = .ok (.iaload, 1) := by decide +kernel
theorem dX8_findRuns_11 : decode cX8_findRuns 11 = .ok (.aload_n 0, 1) := by decide +kernel
theorem dX8_findRuns_12 : decode cX8_findRuns 12 = .ok (.getfield 20, 3) := by decide +kernel
theorem dX8_findRuns_15 : decode cX8_findRuns 15 = .ok (.iload_n 2, 1) := by decide +kernel
theorem dX8_findRuns_16 : decode cX8_findRuns 16 = .ok (.iaload, 1) := by decide +kernel
theorem dX8_findRuns_17 : decode cX8_findRuns 17 = .ok (.if_icmp .eq 4, 3) := by decide +kernel
theorem dX8_findRuns_20 : decode cX8_findRuns 20 = .ok (.return_, 1) := by decide +kernel
theorem dX8_findRuns_21 : decode cX8_findRuns 21 = .ok (.aload_n 0, 1) := by decide +kernel
theorem dX8_findRuns_22 : decode cX8_findRuns 22 = .ok (.iload_n 1, 1) := by decide +kernel
theorem dX8_findRuns_23 : decode cX8_findRuns 23 = .ok (.invokevirtual 150, 3) := by decide +kernel
theorem dX8_findRuns_26 : decode cX8_findRuns 26 = .ok (.aload_n 0, 1) := by decide +kernel
theorem dX8_findRuns_27 : decode cX8_findRuns 27 = .ok (.iload_n 2, 1) := by decide +kernel
theorem dX8_findRuns_28 : decode cX8_findRuns 28 = .ok (.invokevirtual 150, 3) := by decide +kernel
theorem dX8_findRuns_31 : decode cX8_findRuns 31 = .ok (.aload_n 0, 1) := by decide +kernel
theorem dX8_findRuns_32 : decode cX8_findRuns 32 = .ok (.iload_n 1, 1) := by decide +kernel
theorem dX8_findRuns_33 : decode cX8_findRuns 33 = .ok (.invokevirtual 146, 3) := by decide +kernel
theorem dX8_findRuns_36 : decode cX8_findRuns 36 = .ok (.aload_n 0, 1) := by decide +kernel
theorem dX8_findRuns_37 : decode cX8_findRuns 37 = .ok (.iload_n 2, 1) := by decide +kernel
theorem dX8_findRuns_38 : decode cX8_findRuns 38 = .ok (.invokevirtual 146, 3) := by decide +kernel
theorem dX8_findRuns_41 : decode cX8_findRuns 41 = .ok (.iconst 0, 1) := by decide +kernel
theorem dX8_findRuns_42 : decode cX8_findRuns 42 = .ok (.istore_n 3, 1) := by decide +kernel
theorem dX8_findRuns_43 : decode cX8_findRuns 43 = .ok (.iload_n 3, 1) := by decide +kernel
theorem dX8_findRuns_44 : decode cX8_findRuns 44 = .ok (.aload_n 0, 1) := by decide +kernel
theorem dX8_findRuns_45 : decode cX8_findRuns 45 = .ok (.getfield 17, 3) := by decide +kernel
theorem dX8_findRuns_48 : decode cX8_findRuns 48 = .ok (.iload_n 1, 1) := by decide +kernel
theorem dX8_findRuns_49 : decode cX8_findRuns 49 = .ok (.iaload, 1) := by decide +kernel
theorem dX8_findRuns_50 : decode cX8_findRuns 50 = .ok (.if_icmp .ge 202, 3) := by decide +kernel
theorem dX8_findRuns_53 : decode cX8_findRuns 53 = .ok (.iconst 0, 1) := by decide +kernel
theorem dX8_findRuns_54 : decode cX8_findRuns 54 = .ok (.istore 4, 2) := by decide +kernel
theorem dX8_findRuns_56 : decode cX8_findRuns 56 = .ok (.iload 4, 2) := by decide +kernel
theorem dX8_findRuns_58 : decode cX8_findRuns 58 = .ok (.aload_n 0, 1) := by decide +kernel
theorem dX8_findRuns_59 : decode cX8_findRuns 59 = .ok (.getfield 17, 3) := by decide +kernel
theorem dX8_findRuns_62 : decode cX8_findRuns 62 = .ok (.iload_n 2, 1) := by decide +kernel
theorem dX8_findRuns_63 : decode cX8_findRuns 63 = .ok (.iaload, 1) := by decide +kernel
theorem dX8_findRuns_64 : decode cX8_findRuns 64 = .ok (.if_icmp .ge 182, 3) := by decide +kernel
theorem dX8_findRuns_67 : decode cX8_findRuns 67 = .ok (.aload_n 0, 1) := by decide +kernel
theorem dX8_findRuns_68 : decode cX8_findRuns 68 = .ok (.iload_n 1, 1) := by decide +kernel
theorem dX8_findRuns_69 : decode cX8_findRuns 69 = .ok (.iload_n 2, 1) := by decide +kernel
theorem dX8_findRuns_70 : decode cX8_findRuns 70 = .ok (.iload_n 3, 1) := by decide +kernel
theorem dX8_findRuns_71 : decode cX8_findRuns 71 = .ok (.iload 4, 2) := by decide +kernel
theorem dX8_findRuns_73 : decode cX8_findRuns 73 = .ok (.invokevirtual 156, 3) := by decide +kernel
theorem dX8_findRuns_76 : decode cX8_findRuns 76 = .ok (.ifCond .eq 164, 3) := by decide +kernel
theorem dX8_findRuns_79 : decode cX8_findRuns 79 = .ok (.aload_n 0, 1) := by decide +kernel
theorem dX8_findRuns_80 : decode cX8_findRuns 80 = .ok (.iload_n 1, 1) := by decide +kernel
theorem dX8_findRuns_81 : decode cX8_findRuns 81 = .ok (.iload_n 2, 1) := by decide +kernel
theorem dX8_findRuns_82 : decode cX8_findRuns 82 = .ok (.iload_n 3, 1) := by decide +kernel
theorem dX8_findRuns_83 : decode cX8_findRuns 83 = .ok (.iconst 1, 1) := by decide +kernel
theorem dX8_findRuns_84 : decode cX8_findRuns 84 = .ok (.isub, 1) := by decide +kernel
theorem dX8_findRuns_85 : decode cX8_findRuns 85 = .ok (.iload 4, 2) := by decide +kernel
theorem dX8_findRuns_87 : decode cX8_findRuns 87 = .ok (.iconst 1, 1) := by decide +kernel
theorem dX8_findRuns_88 : decode cX8_findRuns 88 = .ok (.isub, 1) := by decide +kernel
theorem dX8_findRuns_89 : decode cX8_findRuns 89 = .ok (.invokevirtual 156, 3) := by decide +kernel
theorem dX8_findRuns_92 : decode cX8_findRuns 92 = .ok (.ifCond .ne 148, 3) := by decide +kernel
theorem dX8_findRuns_95 : decode cX8_findRuns 95 = .ok (.iconst 1, 1) := by decide +kernel
theorem dX8_findRuns_96 : decode cX8_findRuns 96 = .ok (.istore 5, 2) := by decide +kernel
theorem dX8_findRuns_98 : decode cX8_findRuns 98 = .ok (.aload_n 0, 1) := by decide +kernel
theorem dX8_findRuns_99 : decode cX8_findRuns 99 = .ok (.iload_n 1, 1) := by decide +kernel
theorem dX8_findRuns_100 : decode cX8_findRuns 100 = .ok (.iload_n 2, 1) := by decide +kernel
theorem dX8_findRuns_101 : decode cX8_findRuns 101 = .ok (.iload_n 3, 1) := by decide +kernel
theorem dX8_findRuns_102 : decode cX8_findRuns 102 = .ok (.iload 5, 2) := by decide +kernel
theorem dX8_findRuns_104 : decode cX8_findRuns 104 = .ok (.iadd, 1) := by decide +kernel
theorem dX8_findRuns_105 : decode cX8_findRuns 105 = .ok (.iload 4, 2) := by decide +kernel
theorem dX8_findRuns_107 : decode cX8_findRuns 107 = .ok (.iload 5, 2) := by decide +kernel
theorem dX8_findRuns_109 : decode cX8_findRuns 109 = .ok (.iadd, 1) := by decide +kernel
theorem dX8_findRuns_110 : decode cX8_findRuns 110 = .ok (.invokevirtual 156, 3) := by decide +kernel
theorem dX8_findRuns_113 : decode cX8_findRuns 113 = .ok (.ifCond .eq 9, 3) := by decide +kernel
theorem dX8_findRuns_116 : decode cX8_findRuns 116 = .ok (.iinc 5 1, 3) := by decide +kernel
theorem dX8_findRuns_119 : decode cX8_findRuns 119 = .ok (.goto (-21), 3) := by decide +kernel
theorem dX8_findRuns_122 : decode cX8_findRuns 122 = .ok (.iconst 0, 1) := by decide +kernel
theorem dX8_findRuns_123 : decode cX8_findRuns 123 = .ok (.istore 6, 2) := by decide +kernel
theorem dX8_findRuns_125 : decode cX8_findRuns 125 = .ok (.iconst 0, 1) := by decide +kernel
theorem dX8_findRuns_126 : decode cX8_findRuns 126 = .ok (.istore 7, 2) := by decide +kernel
theorem dX8_findRuns_128 : decode cX8_findRuns 128 = .ok (.iload 7, 2) := by decide +kernel
theorem dX8_findRuns_130 : decode cX8_findRuns 130 = .ok (.aload_n 0, 1) := by decide +kernel
theorem dX8_findRuns_131 : decode cX8_findRuns 131 = .ok (.getfield 30, 3) := by decide +kernel
theorem dX8_findRuns_134 : decode cX8_findRuns 134 = .ok (.iadd, 1) := by decide +kernel
theorem dX8_findRuns_135 : decode cX8_findRuns 135 = .ok (.iload 5, 2) := by decide +kernel
theorem dX8_findRuns_137 : decode cX8_findRuns 137 = .ok (.if_icmp .gt 56, 3) := by decide +kernel
theorem dX8_findRuns_140 : decode cX8_findRuns 140 = .ok (.iload 6, 2) := by decide +kernel
theorem dX8_findRuns_142 : decode cX8_findRuns 142 = .ok (.ifCond .ne 38, 3) := by decide +kernel
theorem dX8_findRuns_145 : decode cX8_findRuns 145 = .ok (.aload_n 0, 1) := by decide +kernel
theorem dX8_findRuns_146 : decode cX8_findRuns 146 = .ok (.getfield 59, 3) := by decide +kernel
theorem dX8_findRuns_149 : decode cX8_findRuns 149 = .ok (.bipush 40, 2) := by decide +kernel
theorem dX8_findRuns_151 : decode cX8_findRuns 151 = .ok (.iload_n 1, 1) := by decide +kernel
theorem dX8_findRuns_152 : decode cX8_findRuns 152 = .ok (.imul, 1) := by decide +kernel
theorem dX8_findRuns_153 : decode cX8_findRuns 153 = .ok (.iload_n 3, 1) := by decide +kernel
theorem dX8_findRuns_154 : decode cX8_findRuns 154 = .ok (.iadd, 1) := by decide +kernel
theorem dX8_findRuns_155 : decode cX8_findRuns 155 = .ok (.iload 7, 2) := by decide +kernel
theorem dX8_findRuns_157 : decode cX8_findRuns 157 = .ok (.iadd, 1) := by decide +kernel
theorem dX8_findRuns_158 : decode cX8_findRuns 158 = .ok (.baload, 1) := by decide +kernel
theorem dX8_findRuns_159 : decode cX8_findRuns 159 = .ok (.ifCond .eq 25, 3) := by decide +kernel
theorem dX8_findRuns_162 : decode cX8_findRuns 162 = .ok (.aload_n 0, 1) := by decide +kernel
theorem dX8_findRuns_163 : decode cX8_findRuns 163 = .ok (.getfield 59, 3) := by decide +kernel
theorem dX8_findRuns_166 : decode cX8_findRuns 166 = .ok (.bipush 40, 2) := by decide +kernel
theorem dX8_findRuns_168 : decode cX8_findRuns 168 = .ok (.iload_n 2, 1) := by decide +kernel
theorem dX8_findRuns_169 : decode cX8_findRuns 169 = .ok (.imul, 1) := by decide +kernel
theorem dX8_findRuns_170 : decode cX8_findRuns 170 = .ok (.iload 4, 2) := by decide +kernel
theorem dX8_findRuns_172 : decode cX8_findRuns 172 = .ok (.iadd, 1) := by decide +kernel
theorem dX8_findRuns_173 : decode cX8_findRuns 173 = .ok (.iload 7, 2) := by decide +kernel
theorem dX8_findRuns_175 : decode cX8_findRuns 175 = .ok (.iadd, 1) := by decide +kernel
theorem dX8_findRuns_176 : decode cX8_findRuns 176 = .ok (.baload, 1) := by decide +kernel
theorem dX8_findRuns_177 : decode cX8_findRuns 177 = .ok (.ifCond .eq 7, 3) := by decide +kernel
theorem dX8_findRuns_180 : decode cX8_findRuns 180 = .ok (.iconst 1, 1) := by decide +kernel
theorem dX8_findRuns_181 : decode cX8_findRuns 181 = .ok (.goto 4, 3) := by decide +kernel
theorem dX8_findRuns_184 : decode cX8_findRuns 184 = .ok (.iconst 0, 1) := by decide +kernel
theorem dX8_findRuns_185 : decode cX8_findRuns 185 = .ok (.istore 6, 2) := by decide +kernel
theorem dX8_findRuns_187 : decode cX8_findRuns 187 = .ok (.iinc 7 1, 3) := by decide +kernel
theorem dX8_findRuns_190 : decode cX8_findRuns 190 = .ok (.goto (-62), 3) := by decide +kernel
theorem dX8_findRuns_193 : decode cX8_findRuns 193 = .ok (.iload 6, 2) := by decide +kernel
theorem dX8_findRuns_195 : decode cX8_findRuns 195 = .ok (.ifCond .eq 45, 3) := by decide +kernel
theorem dX8_findRuns_198 : decode cX8_findRuns 198 = .ok (.aload_n 0, 1) := by decide +kernel
theorem dX8_findRuns_199 : decode cX8_findRuns 199 = .ok (.getfield 68, 3) := by decide +kernel
theorem dX8_findRuns_202 : decode cX8_findRuns 202 = .ok (.aload_n 0, 1) := by decide +kernel
theorem dX8_findRuns_203 : decode cX8_findRuns 203 = .ok (.getfield 153, 3) := by decide +kernel
theorem dX8_findRuns_206 : decode cX8_findRuns 206 = .ok (.iload_n 3, 1) := by decide +kernel
theorem dX8_findRuns_207 : decode cX8_findRuns 207 = .ok (.iastore, 1) := by decide +kernel
theorem dX8_findRuns_208 : decode cX8_findRuns 208 = .ok (.aload_n 0, 1) := by decide +kernel
theorem dX8_findRuns_209 : decode cX8_findRuns 209 = .ok (.getfield 71, 3) := by decide +kernel
theorem dX8_findRuns_212 : decode cX8_findRuns 212 = .ok (.aload_n 0, 1) := by decide +kernel
theorem dX8_findRuns_213 : decode cX8_findRuns 213 = .ok (.getfield 153, 3) := by decide +kernel
theorem dX8_findRuns_216 : decode cX8_findRuns 216 = .ok (.iload 4, 2) := by decide +kernel
theorem dX8_findRuns_218 : decode cX8_findRuns 218 = .ok (.iastore, 1) := by decide +kernel
theorem dX8_findRuns_219 : decode cX8_findRuns 219 = .ok (.aload_n 0, 1) := by decide +kernel
theorem dX8_findRuns_220 : decode cX8_findRuns 220 = .ok (.getfield 74, 3) := by decide +kernel
theorem dX8_findRuns_223 : decode cX8_findRuns 223 = .ok (.aload_n 0, 1) := by decide +kernel
theorem dX8_findRuns_224 : decode cX8_findRuns 224 = .ok (.getfield 153, 3) := by decide +kernel
theorem dX8_findRuns_227 : decode cX8_findRuns 227 = .ok (.iload 5, 2) := by decide +kernel
theorem dX8_findRuns_229 : decode cX8_findRuns 229 = .ok (.iastore, 1) := by decide +kernel
theorem dX8_findRuns_230 : decode cX8_findRuns 230 = .ok (.aload_n 0, 1) := by decide +kernel
theorem dX8_findRuns_231 : decode cX8_findRuns 231 = .ok (.dup, 1) := by decide +kernel
theorem dX8_findRuns_232 : decode cX8_findRuns 232 = .ok (.getfield 153, 3) := by decide +kernel
theorem dX8_findRuns_235 : decode cX8_findRuns 235 = .ok (.iconst 1, 1) := by decide +kernel
theorem dX8_findRuns_236 : decode cX8_findRuns 236 = .ok (.iadd, 1) := by decide +kernel
theorem dX8_findRuns_237 : decode cX8_findRuns 237 = .ok (.putfield 153, 3) := by decide +kernel
theorem dX8_findRuns_240 : decode cX8_findRuns 240 = .ok (.iinc 4 1, 3) := by decide +kernel
theorem dX8_findRuns_243 : decode cX8_findRuns 243 = .ok (.goto (-187), 3) := by decide +kernel
theorem dX8_findRuns_246 : decode cX8_findRuns 246 = .ok (.iinc 3 1, 3) := by decide +kernel
theorem dX8_findRuns_249 : decode cX8_findRuns 249 = .ok (.goto (-206), 3) := by decide +kernel
theorem dX8_findRuns_252 : decode cX8_findRuns 252 = .ok (.return_, 1) := by decide +kernel
theorem dX8_against_0 : decode cX8_against 0 = .ok (.iload_n 1, 1) := by decide +kernel
theorem dX8_against_1 : decode cX8_against 1 = .ok (.invokestatic 123, 3) := by decide +kernel
theorem dX8_against_4 : decode cX8_against 4 = .ok (.ifCond .eq 15, 3) := by decide +kernel
theorem dX8_against_7 : decode cX8_against 7 = .ok (.iload_n 2, 1) := by decide +kernel
theorem dX8_against_8 : decode cX8_against 8 = .ok (.invokestatic 123, 3) := by decide +kernel
theorem dX8_against_11 : decode cX8_against 11 = .ok (.ifCond .eq 8, 3) := by decide +kernel
theorem dX8_against_14 : decode cX8_against 14 = .ok (.iload_n 1, 1) := by decide +kernel
theorem dX8_against_15 : decode cX8_against 15 = .ok (.iload_n 2, 1) := by decide +kernel
theorem dX8_against_16 : decode cX8_against 16 = .ok (.if_icmp .ne 7, 3) := by decide +kernel
theorem dX8_against_19 : decode cX8_against 19 = .ok (.iconst (-1), 1) := by decide +kernel
theorem dX8_against_20 : decode cX8_against 20 = .ok (.goto 27, 3) := by decide +kernel
theorem dX8_against_23 : decode cX8_against 23 = .ok (.aload_n 0, 1) := by decide +kernel
theorem dX8_against_24 : decode cX8_against 24 = .ok (.getfield 13, 3) := by decide +kernel
theorem dX8_against_27 : decode cX8_against 27 = .ok (.iload_n 1, 1) := by decide +kernel
theorem dX8_against_28 : decode cX8_against 28 = .ok (.baload, 1) := by decide +kernel
theorem dX8_against_29 : decode cX8_against 29 = .ok (.ifCond .eq 12, 3) := by decide +kernel
theorem dX8_against_32 : decode cX8_against 32 = .ok (.aload_n 0, 1) := by decide +kernel
theorem dX8_against_33 : decode cX8_against 33 = .ok (.getfield 13, 3) := by decide +kernel
theorem dX8_against_36 : decode cX8_against 36 = .ok (.iload_n 2, 1) := by decide +kernel
theorem dX8_against_37 : decode cX8_against 37 = .ok (.baload, 1) := by decide +kernel
theorem dX8_against_38 : decode cX8_against 38 = .ok (.ifCond .ne 8, 3) := by decide +kernel
theorem dX8_against_41 : decode cX8_against 41 = .ok (.bipush (-2), 2) := by decide +kernel
theorem dX8_against_43 : decode cX8_against 43 = .ok (.goto 4, 3) := by decide +kernel
theorem dX8_against_46 : decode cX8_against 46 = .ok (.iconst 0, 1) := by decide +kernel
theorem dX8_against_47 : decode cX8_against 47 = .ok (.ireturn, 1) := by decide +kernel
theorem dX8_runs_0 : decode cX8_runs 0 = .ok (.aload_n 0, 1) := by decide +kernel
theorem dX8_runs_1 : decode cX8_runs 1 = .ok (.iload_n 1, 1) := by decide +kernel
theorem dX8_runs_2 : decode cX8_runs 2 = .ok (.iload_n 2, 1) := by decide +kernel
theorem dX8_runs_3 : decode cX8_runs 3 = .ok (.invokevirtual 160, 3) := by decide +kernel
theorem dX8_runs_6 : decode cX8_runs 6 = .ok (.istore_n 3, 1) := by decide +kernel
theorem dX8_runs_7 : decode cX8_runs 7 = .ok (.iload_n 3, 1) := by decide +kernel
theorem dX8_runs_8 : decode cX8_runs 8 = .ok (.ifCond .ge 5, 3) := by decide +kernel
theorem dX8_runs_11 : decode cX8_runs 11 = .ok (.iload_n 3, 1) := by decide +kernel
theorem dX8_runs_12 : decode cX8_runs 12 = .ok (.ireturn, 1) := by decide +kernel
theorem dX8_runs_13 : decode cX8_runs 13 = .ok (.aload_n 0, 1) := by decide +kernel
theorem dX8_runs_14 : decode cX8_runs 14 = .ok (.iload_n 1, 1) := by decide +kernel
theorem dX8_runs_15 : decode cX8_runs 15 = .ok (.iload_n 2, 1) := by decide +kernel
theorem dX8_runs_16 : decode cX8_runs 16 = .ok (.invokevirtual 163, 3) := by decide +kernel
theorem dX8_runs_19 : decode cX8_runs 19 = .ok (.aload_n 0, 1) := by decide +kernel
theorem dX8_runs_20 : decode cX8_runs 20 = .ok (.getfield 153, 3) := by decide +kernel
theorem dX8_runs_23 : decode cX8_runs 23 = .ok (.ireturn, 1) := by decide +kernel
theorem dX8_run_0 : decode cX8_run 0 = .ok (.iload_n 3, 1) := by decide +kernel
theorem dX8_run_1 : decode cX8_run 1 = .ok (.ifCond .lt 13, 3) := by decide +kernel
theorem dX8_run_4 : decode cX8_run 4 = .ok (.iload 4, 2) := by decide +kernel
theorem dX8_run_6 : decode cX8_run 6 = .ok (.iconst 0, 1) := by decide +kernel
theorem dX8_run_7 : decode cX8_run 7 = .ok (.iconst 2, 1) := by decide +kernel
theorem dX8_run_8 : decode cX8_run 8 = .ok (.invokestatic 86, 3) := by decide +kernel
theorem dX8_run_11 : decode cX8_run 11 = .ok (.ifCond .ne 7, 3) := by decide +kernel
theorem dX8_run_14 : decode cX8_run 14 = .ok (.iconst (-1), 1) := by decide +kernel
theorem dX8_run_15 : decode cX8_run 15 = .ok (.goto 9, 3) := by decide +kernel
theorem dX8_run_18 : decode cX8_run 18 = .ok (.aload_n 0, 1) := by decide +kernel
theorem dX8_run_19 : decode cX8_run 19 = .ok (.iload_n 1, 1) := by decide +kernel
theorem dX8_run_20 : decode cX8_run 20 = .ok (.iload_n 2, 1) := by decide +kernel
theorem dX8_run_21 : decode cX8_run 21 = .ok (.invokevirtual 160, 3) := by decide +kernel
theorem dX8_run_24 : decode cX8_run 24 = .ok (.istore 5, 2) := by decide +kernel
theorem dX8_run_26 : decode cX8_run 26 = .ok (.iload 5, 2) := by decide +kernel
theorem dX8_run_28 : decode cX8_run 28 = .ok (.ifCond .ge 6, 3) := by decide +kernel
theorem dX8_run_31 : decode cX8_run 31 = .ok (.iload 5, 2) := by decide +kernel
theorem dX8_run_33 : decode cX8_run 33 = .ok (.ireturn, 1) := by decide +kernel
theorem dX8_run_34 : decode cX8_run 34 = .ok (.aload_n 0, 1) := by decide +kernel
theorem dX8_run_35 : decode cX8_run 35 = .ok (.iload_n 1, 1) := by decide +kernel
theorem dX8_run_36 : decode cX8_run 36 = .ok (.iload_n 2, 1) := by decide +kernel
theorem dX8_run_37 : decode cX8_run 37 = .ok (.invokevirtual 163, 3) := by decide +kernel
theorem dX8_run_40 : decode cX8_run 40 = .ok (.iload_n 3, 1) := by decide +kernel
theorem dX8_run_41 : decode cX8_run 41 = .ok (.aload_n 0, 1) := by decide +kernel
theorem dX8_run_42 : decode cX8_run 42 = .ok (.getfield 153, 3) := by decide +kernel
theorem dX8_run_45 : decode cX8_run 45 = .ok (.if_icmp .lt 7, 3) := by decide +kernel
theorem dX8_run_48 : decode cX8_run 48 = .ok (.iconst (-1), 1) := by decide +kernel
theorem dX8_run_49 : decode cX8_run 49 = .ok (.goto 38, 3) := by decide +kernel
theorem dX8_run_52 : decode cX8_run 52 = .ok (.iload 4, 2) := by decide +kernel
theorem dX8_run_54 : decode cX8_run 54 = .ok (.ifCond .ne 12, 3) := by decide +kernel
theorem dX8_run_57 : decode cX8_run 57 = .ok (.aload_n 0, 1) := by decide +kernel
theorem dX8_run_58 : decode cX8_run 58 = .ok (.getfield 68, 3) := by decide +kernel
theorem dX8_run_61 : decode cX8_run 61 = .ok (.iload_n 3, 1) := by decide +kernel
theorem dX8_run_62 : decode cX8_run 62 = .ok (.iaload, 1) := by decide +kernel
theorem dX8_run_63 : decode cX8_run 63 = .ok (.goto 24, 3) := by decide +kernel
theorem dX8_run_66 : decode cX8_run 66 = .ok (.iload 4, 2) := by decide +kernel
theorem dX8_run_68 : decode cX8_run 68 = .ok (.iconst 1, 1) := by decide +kernel
theorem dX8_run_69 : decode cX8_run 69 = .ok (.if_icmp .ne 12, 3) := by decide +kernel
theorem dX8_run_72 : decode cX8_run 72 = .ok (.aload_n 0, 1) := by decide +kernel
theorem dX8_run_73 : decode cX8_run 73 = .ok (.getfield 71, 3) := by decide +kernel
theorem dX8_run_76 : decode cX8_run 76 = .ok (.iload_n 3, 1) := by decide +kernel
theorem dX8_run_77 : decode cX8_run 77 = .ok (.iaload, 1) := by decide +kernel
theorem dX8_run_78 : decode cX8_run 78 = .ok (.goto 9, 3) := by decide +kernel
theorem dX8_run_81 : decode cX8_run 81 = .ok (.aload_n 0, 1) := by decide +kernel
theorem dX8_run_82 : decode cX8_run 82 = .ok (.getfield 74, 3) := by decide +kernel
theorem dX8_run_85 : decode cX8_run 85 = .ok (.iload_n 3, 1) := by decide +kernel
theorem dX8_run_86 : decode cX8_run 86 = .ok (.iaload, 1) := by decide +kernel
theorem dX8_run_87 : decode cX8_run 87 = .ok (.ireturn, 1) := by decide +kernel
theorem dX8_findScore_0 : decode cX8_findScore 0 = .ok (.aload_n 0, 1) := by decide +kernel
theorem dX8_findScore_1 : decode cX8_findScore 1 = .ok (.iload_n 1, 1) := by decide +kernel
theorem dX8_findScore_2 : decode cX8_findScore 2 = .ok (.iload_n 2, 1) := by decide +kernel
theorem dX8_findScore_3 : decode cX8_findScore 3 = .ok (.invokevirtual 163, 3) := by decide +kernel
theorem dX8_findScore_6 : decode cX8_findScore 6 = .ok (.iconst 0, 1) := by decide +kernel
theorem dX8_findScore_7 : decode cX8_findScore 7 = .ok (.istore_n 3, 1) := by decide +kernel
theorem dX8_findScore_8 : decode cX8_findScore 8 = .ok (.aload_n 0, 1) := by decide +kernel
theorem dX8_findScore_9 : decode cX8_findScore 9 = .ok (.iconst (-1), 1) := by decide +kernel
theorem dX8_findScore_10 : decode cX8_findScore 10 = .ok (.putfield 166, 3) := by decide +kernel
theorem dX8_findScore_13 : decode cX8_findScore 13 = .ok (.aload_n 0, 1) := by decide +kernel
theorem dX8_findScore_14 : decode cX8_findScore 14 = .ok (.getfield 153, 3) := by decide +kernel
theorem dX8_findScore_17 : decode cX8_findScore 17 = .ok (.iconst 1, 1) := by decide +kernel
theorem dX8_findScore_18 : decode cX8_findScore 18 = .ok (.isub, 1) := by decide +kernel
theorem dX8_findScore_19 : decode cX8_findScore 19 = .ok (.istore 4, 2) := by decide +kernel
theorem dX8_findScore_21 : decode cX8_findScore 21 = .ok (.iload 4, 2) := by decide +kernel
theorem dX8_findScore_23 : decode cX8_findScore 23 = .ok (.ifCond .lt 205, 3) := by decide +kernel
theorem dX8_findScore_26 : decode cX8_findScore 26 = .ok (.aload_n 0, 1) := by decide +kernel
theorem dX8_findScore_27 : decode cX8_findScore 27 = .ok (.getfield 77, 3) := by decide +kernel
theorem dX8_findScore_30 : decode cX8_findScore 30 = .ok (.iload 4, 2) := by decide +kernel
theorem dX8_findScore_32 : decode cX8_findScore 32 = .ok (.aload_n 0, 1) := by decide +kernel
theorem dX8_findScore_33 : decode cX8_findScore 33 = .ok (.getfield 74, 3) := by decide +kernel
theorem dX8_findScore_36 : decode cX8_findScore 36 = .ok (.iload 4, 2) := by decide +kernel
theorem dX8_findScore_38 : decode cX8_findScore 38 = .ok (.iaload, 1) := by decide +kernel
theorem dX8_findScore_39 : decode cX8_findScore 39 = .ok (.iastore, 1) := by decide +kernel
theorem dX8_findScore_40 : decode cX8_findScore 40 = .ok (.aload_n 0, 1) := by decide +kernel
theorem dX8_findScore_41 : decode cX8_findScore 41 = .ok (.getfield 80, 3) := by decide +kernel
theorem dX8_findScore_44 : decode cX8_findScore 44 = .ok (.iload 4, 2) := by decide +kernel
theorem dX8_findScore_46 : decode cX8_findScore 46 = .ok (.iconst (-1), 1) := by decide +kernel
theorem dX8_findScore_47 : decode cX8_findScore 47 = .ok (.iastore, 1) := by decide +kernel
theorem dX8_findScore_48 : decode cX8_findScore 48 = .ok (.aload_n 0, 1) := by decide +kernel
theorem dX8_findScore_49 : decode cX8_findScore 49 = .ok (.getfield 153, 3) := by decide +kernel
theorem dX8_findScore_52 : decode cX8_findScore 52 = .ok (.iconst 1, 1) := by decide +kernel
theorem dX8_findScore_53 : decode cX8_findScore 53 = .ok (.isub, 1) := by decide +kernel
theorem dX8_findScore_54 : decode cX8_findScore 54 = .ok (.istore 5, 2) := by decide +kernel
theorem dX8_findScore_56 : decode cX8_findScore 56 = .ok (.iload 5, 2) := by decide +kernel
theorem dX8_findScore_58 : decode cX8_findScore 58 = .ok (.iload 4, 2) := by decide +kernel
theorem dX8_findScore_60 : decode cX8_findScore 60 = .ok (.if_icmp .le 137, 3) := by decide +kernel
theorem dX8_findScore_63 : decode cX8_findScore 63 = .ok (.aload_n 0, 1) := by decide +kernel
theorem dX8_findScore_64 : decode cX8_findScore 64 = .ok (.getfield 68, 3) := by decide +kernel
theorem dX8_findScore_67 : decode cX8_findScore 67 = .ok (.iload 5, 2) := by decide +kernel
theorem dX8_findScore_69 : decode cX8_findScore 69 = .ok (.iaload, 1) := by decide +kernel
theorem dX8_findScore_70 : decode cX8_findScore 70 = .ok (.aload_n 0, 1) := by decide +kernel
theorem dX8_findScore_71 : decode cX8_findScore 71 = .ok (.getfield 68, 3) := by decide +kernel
theorem dX8_findScore_74 : decode cX8_findScore 74 = .ok (.iload 4, 2) := by decide +kernel
theorem dX8_findScore_76 : decode cX8_findScore 76 = .ok (.iaload, 1) := by decide +kernel
theorem dX8_findScore_77 : decode cX8_findScore 77 = .ok (.aload_n 0, 1) := by decide +kernel
theorem dX8_findScore_78 : decode cX8_findScore 78 = .ok (.getfield 74, 3) := by decide +kernel
theorem dX8_findScore_81 : decode cX8_findScore 81 = .ok (.iload 4, 2) := by decide +kernel
theorem dX8_findScore_83 : decode cX8_findScore 83 = .ok (.iaload, 1) := by decide +kernel
theorem dX8_findScore_84 : decode cX8_findScore 84 = .ok (.iadd, 1) := by decide +kernel
theorem dX8_findScore_85 : decode cX8_findScore 85 = .ok (.if_icmp .lt 32, 3) := by decide +kernel
theorem dX8_findScore_88 : decode cX8_findScore 88 = .ok (.aload_n 0, 1) := by decide +kernel
theorem dX8_findScore_89 : decode cX8_findScore 89 = .ok (.getfield 71, 3) := by decide +kernel
theorem dX8_findScore_92 : decode cX8_findScore 92 = .ok (.iload 5, 2) := by decide +kernel
theorem dX8_findScore_94 : decode cX8_findScore 94 = .ok (.iaload, 1) := by decide +kernel
theorem dX8_findScore_95 : decode cX8_findScore 95 = .ok (.aload_n 0, 1) := by decide +kernel
theorem dX8_findScore_96 : decode cX8_findScore 96 = .ok (.getfield 71, 3) := by decide +kernel
theorem dX8_findScore_99 : decode cX8_findScore 99 = .ok (.iload 4, 2) := by decide +kernel
theorem dX8_findScore_101 : decode cX8_findScore 101 = .ok (.iaload, 1) := by decide +kernel
theorem dX8_findScore_102 : decode cX8_findScore 102 = .ok (.aload_n 0, 1) := by decide +kernel
theorem dX8_findScore_103 : decode cX8_findScore 103 = .ok (.getfield 74, 3) := by decide +kernel
theorem dX8_findScore_106 : decode cX8_findScore 106 = .ok (.iload 4, 2) := by decide +kernel
theorem dX8_findScore_108 : decode cX8_findScore 108 = .ok (.iaload, 1) := by decide +kernel
theorem dX8_findScore_109 : decode cX8_findScore 109 = .ok (.iadd, 1) := by decide +kernel
theorem dX8_findScore_110 : decode cX8_findScore 110 = .ok (.if_icmp .lt 7, 3) := by decide +kernel
theorem dX8_findScore_113 : decode cX8_findScore 113 = .ok (.iconst 1, 1) := by decide +kernel
theorem dX8_findScore_114 : decode cX8_findScore 114 = .ok (.goto 4, 3) := by decide +kernel
theorem dX8_findScore_117 : decode cX8_findScore 117 = .ok (.iconst 0, 1) := by decide +kernel
theorem dX8_findScore_118 : decode cX8_findScore 118 = .ok (.istore 6, 2) := by decide +kernel
theorem dX8_findScore_120 : decode cX8_findScore 120 = .ok (.iload 6, 2) := by decide +kernel
theorem dX8_findScore_122 : decode cX8_findScore 122 = .ok (.ifCond .eq 69, 3) := by decide +kernel
theorem dX8_findScore_125 : decode cX8_findScore 125 = .ok (.aload_n 0, 1) := by decide +kernel
theorem dX8_findScore_126 : decode cX8_findScore 126 = .ok (.getfield 74, 3) := by decide +kernel
theorem dX8_findScore_129 : decode cX8_findScore 129 = .ok (.iload 4, 2) := by decide +kernel
theorem dX8_findScore_131 : decode cX8_findScore 131 = .ok (.iaload, 1) := by decide +kernel
theorem dX8_findScore_132 : decode cX8_findScore 132 = .ok (.aload_n 0, 1) := by decide +kernel
theorem dX8_findScore_133 : decode cX8_findScore 133 = .ok (.getfield 77, 3) := by decide +kernel
theorem dX8_findScore_136 : decode cX8_findScore 136 = .ok (.iload 5, 2) := by decide +kernel
theorem dX8_findScore_138 : decode cX8_findScore 138 = .ok (.iaload, 1) := by decide +kernel
theorem dX8_findScore_139 : decode cX8_findScore 139 = .ok (.iadd, 1) := by decide +kernel
theorem dX8_findScore_140 : decode cX8_findScore 140 = .ok (.aload_n 0, 1) := by decide +kernel
theorem dX8_findScore_141 : decode cX8_findScore 141 = .ok (.getfield 37, 3) := by decide +kernel
theorem dX8_findScore_144 : decode cX8_findScore 144 = .ok (.isub, 1) := by decide +kernel
theorem dX8_findScore_145 : decode cX8_findScore 145 = .ok (.aload_n 0, 1) := by decide +kernel
theorem dX8_findScore_146 : decode cX8_findScore 146 = .ok (.getfield 77, 3) := by decide +kernel
theorem dX8_findScore_149 : decode cX8_findScore 149 = .ok (.iload 4, 2) := by decide +kernel
theorem dX8_findScore_151 : decode cX8_findScore 151 = .ok (.iaload, 1) := by decide +kernel
theorem dX8_findScore_152 : decode cX8_findScore 152 = .ok (.if_icmp .lt 39, 3) := by decide +kernel
theorem dX8_findScore_155 : decode cX8_findScore 155 = .ok (.aload_n 0, 1) := by decide +kernel
theorem dX8_findScore_156 : decode cX8_findScore 156 = .ok (.getfield 77, 3) := by decide +kernel
theorem dX8_findScore_159 : decode cX8_findScore 159 = .ok (.iload 4, 2) := by decide +kernel
theorem dX8_findScore_161 : decode cX8_findScore 161 = .ok (.aload_n 0, 1) := by decide +kernel
theorem dX8_findScore_162 : decode cX8_findScore 162 = .ok (.getfield 74, 3) := by decide +kernel
theorem dX8_findScore_165 : decode cX8_findScore 165 = .ok (.iload 4, 2) := by decide +kernel
theorem dX8_findScore_167 : decode cX8_findScore 167 = .ok (.iaload, 1) := by decide +kernel
theorem dX8_findScore_168 : decode cX8_findScore 168 = .ok (.aload_n 0, 1) := by decide +kernel
theorem dX8_findScore_169 : decode cX8_findScore 169 = .ok (.getfield 77, 3) := by decide +kernel
theorem dX8_findScore_172 : decode cX8_findScore 172 = .ok (.iload 5, 2) := by decide +kernel
theorem dX8_findScore_174 : decode cX8_findScore 174 = .ok (.iaload, 1) := by decide +kernel
theorem dX8_findScore_175 : decode cX8_findScore 175 = .ok (.iadd, 1) := by decide +kernel
theorem dX8_findScore_176 : decode cX8_findScore 176 = .ok (.aload_n 0, 1) := by decide +kernel
theorem dX8_findScore_177 : decode cX8_findScore 177 = .ok (.getfield 37, 3) := by decide +kernel
theorem dX8_findScore_180 : decode cX8_findScore 180 = .ok (.isub, 1) := by decide +kernel
theorem dX8_findScore_181 : decode cX8_findScore 181 = .ok (.iastore, 1) := by decide +kernel
theorem dX8_findScore_182 : decode cX8_findScore 182 = .ok (.aload_n 0, 1) := by decide +kernel
theorem dX8_findScore_183 : decode cX8_findScore 183 = .ok (.getfield 80, 3) := by decide +kernel
theorem dX8_findScore_186 : decode cX8_findScore 186 = .ok (.iload 4, 2) := by decide +kernel
theorem dX8_findScore_188 : decode cX8_findScore 188 = .ok (.iload 5, 2) := by decide +kernel
theorem dX8_findScore_190 : decode cX8_findScore 190 = .ok (.iastore, 1) := by decide +kernel
theorem dX8_findScore_191 : decode cX8_findScore 191 = .ok (.iinc 5 (-1), 3) := by decide +kernel
theorem dX8_findScore_194 : decode cX8_findScore 194 = .ok (.goto (-138), 3) := by decide +kernel
theorem dX8_findScore_197 : decode cX8_findScore 197 = .ok (.aload_n 0, 1) := by decide +kernel
theorem dX8_findScore_198 : decode cX8_findScore 198 = .ok (.getfield 77, 3) := by decide +kernel
theorem dX8_findScore_201 : decode cX8_findScore 201 = .ok (.iload 4, 2) := by decide +kernel
theorem dX8_findScore_203 : decode cX8_findScore 203 = .ok (.iaload, 1) := by decide +kernel
theorem dX8_findScore_204 : decode cX8_findScore 204 = .ok (.iload_n 3, 1) := by decide +kernel
theorem dX8_findScore_205 : decode cX8_findScore 205 = .ok (.if_icmp .lt 17, 3) := by decide +kernel
theorem dX8_findScore_208 : decode cX8_findScore 208 = .ok (.aload_n 0, 1) := by decide +kernel
theorem dX8_findScore_209 : decode cX8_findScore 209 = .ok (.getfield 77, 3) := by decide +kernel
theorem dX8_findScore_212 : decode cX8_findScore 212 = .ok (.iload 4, 2) := by decide +kernel
theorem dX8_findScore_214 : decode cX8_findScore 214 = .ok (.iaload, 1) := by decide +kernel
theorem dX8_findScore_215 : decode cX8_findScore 215 = .ok (.istore_n 3, 1) := by decide +kernel
theorem dX8_findScore_216 : decode cX8_findScore 216 = .ok (.aload_n 0, 1) := by decide +kernel
theorem dX8_findScore_217 : decode cX8_findScore 217 = .ok (.iload 4, 2) := by decide +kernel
theorem dX8_findScore_219 : decode cX8_findScore 219 = .ok (.putfield 166, 3) := by decide +kernel
theorem dX8_findScore_222 : decode cX8_findScore 222 = .ok (.iinc 4 (-1), 3) := by decide +kernel
theorem dX8_findScore_225 : decode cX8_findScore 225 = .ok (.goto (-204), 3) := by decide +kernel
theorem dX8_findScore_228 : decode cX8_findScore 228 = .ok (.iload_n 3, 1) := by decide +kernel
theorem dX8_findScore_229 : decode cX8_findScore 229 = .ok (.ireturn, 1) := by decide +kernel
theorem dX8_score_0 : decode cX8_score 0 = .ok (.aload_n 0, 1) := by decide +kernel
theorem dX8_score_1 : decode cX8_score 1 = .ok (.iload_n 1, 1) := by decide +kernel
theorem dX8_score_2 : decode cX8_score 2 = .ok (.iload_n 2, 1) := by decide +kernel
theorem dX8_score_3 : decode cX8_score 3 = .ok (.invokevirtual 160, 3) := by decide +kernel
theorem dX8_score_6 : decode cX8_score 6 = .ok (.istore_n 3, 1) := by decide +kernel
theorem dX8_score_7 : decode cX8_score 7 = .ok (.iload_n 3, 1) := by decide +kernel
theorem dX8_score_8 : decode cX8_score 8 = .ok (.ifCond .ge 7, 3) := by decide +kernel
theorem dX8_score_11 : decode cX8_score 11 = .ok (.iload_n 3, 1) := by decide +kernel
theorem dX8_score_12 : decode cX8_score 12 = .ok (.goto 9, 3) := by decide +kernel
theorem dX8_score_15 : decode cX8_score 15 = .ok (.aload_n 0, 1) := by decide +kernel
theorem dX8_score_16 : decode cX8_score 16 = .ok (.iload_n 1, 1) := by decide +kernel
theorem dX8_score_17 : decode cX8_score 17 = .ok (.iload_n 2, 1) := by decide +kernel
theorem dX8_score_18 : decode cX8_score 18 = .ok (.invokevirtual 169, 3) := by decide +kernel
theorem dX8_score_21 : decode cX8_score 21 = .ok (.ireturn, 1) := by decide +kernel
theorem dX8_chain_0 : decode cX8_chain 0 = .ok (.iload_n 3, 1) := by decide +kernel
theorem dX8_chain_1 : decode cX8_chain 1 = .ok (.iconst (-1), 1) := by decide +kernel
theorem dX8_chain_2 : decode cX8_chain 2 = .ok (.if_icmp .ge 7, 3) := by decide +kernel
theorem dX8_chain_5 : decode cX8_chain 5 = .ok (.iconst (-1), 1) := by decide +kernel
theorem dX8_chain_6 : decode cX8_chain 6 = .ok (.goto 9, 3) := by decide +kernel
theorem dX8_chain_9 : decode cX8_chain 9 = .ok (.aload_n 0, 1) := by decide +kernel
theorem dX8_chain_10 : decode cX8_chain 10 = .ok (.iload_n 1, 1) := by decide +kernel
theorem dX8_chain_11 : decode cX8_chain 11 = .ok (.iload_n 2, 1) := by decide +kernel
theorem dX8_chain_12 : decode cX8_chain 12 = .ok (.invokevirtual 160, 3) := by decide +kernel
theorem dX8_chain_15 : decode cX8_chain 15 = .ok (.istore 4, 2) := by decide +kernel
theorem dX8_chain_17 : decode cX8_chain 17 = .ok (.iload 4, 2) := by decide +kernel
theorem dX8_chain_19 : decode cX8_chain 19 = .ok (.ifCond .ge 6, 3) := by decide +kernel
theorem dX8_chain_22 : decode cX8_chain 22 = .ok (.iload 4, 2) := by decide +kernel
theorem dX8_chain_24 : decode cX8_chain 24 = .ok (.ireturn, 1) := by decide +kernel
theorem dX8_chain_25 : decode cX8_chain 25 = .ok (.aload_n 0, 1) := by decide +kernel
theorem dX8_chain_26 : decode cX8_chain 26 = .ok (.iload_n 1, 1) := by decide +kernel
theorem dX8_chain_27 : decode cX8_chain 27 = .ok (.iload_n 2, 1) := by decide +kernel
theorem dX8_chain_28 : decode cX8_chain 28 = .ok (.invokevirtual 169, 3) := by decide +kernel
theorem dX8_chain_31 : decode cX8_chain 31 = .ok (.istore 5, 2) := by decide +kernel
theorem dX8_chain_33 : decode cX8_chain 33 = .ok (.iconst 0, 1) := by decide +kernel
theorem dX8_chain_34 : decode cX8_chain 34 = .ok (.istore 6, 2) := by decide +kernel
theorem dX8_chain_36 : decode cX8_chain 36 = .ok (.aload_n 0, 1) := by decide +kernel
theorem dX8_chain_37 : decode cX8_chain 37 = .ok (.getfield 166, 3) := by decide +kernel
theorem dX8_chain_40 : decode cX8_chain 40 = .ok (.istore 7, 2) := by decide +kernel
theorem dX8_chain_42 : decode cX8_chain 42 = .ok (.iload 7, 2) := by decide +kernel
theorem dX8_chain_44 : decode cX8_chain 44 = .ok (.ifCond .lt 27, 3) := by decide +kernel
theorem dX8_chain_47 : decode cX8_chain 47 = .ok (.iload 6, 2) := by decide +kernel
theorem dX8_chain_49 : decode cX8_chain 49 = .ok (.iload_n 3, 1) := by decide +kernel
theorem dX8_chain_50 : decode cX8_chain 50 = .ok (.if_icmp .ne 6, 3) := by decide +kernel
theorem dX8_chain_53 : decode cX8_chain 53 = .ok (.iload 7, 2) := by decide +kernel
theorem dX8_chain_55 : decode cX8_chain 55 = .ok (.ireturn, 1) := by decide +kernel
theorem dX8_chain_56 : decode cX8_chain 56 = .ok (.iinc 6 1, 3) := by decide +kernel
theorem dX8_chain_59 : decode cX8_chain 59 = .ok (.aload_n 0, 1) := by decide +kernel
theorem dX8_chain_60 : decode cX8_chain 60 = .ok (.getfield 80, 3) := by decide +kernel
theorem dX8_chain_63 : decode cX8_chain 63 = .ok (.iload 7, 2) := by decide +kernel
theorem dX8_chain_65 : decode cX8_chain 65 = .ok (.iaload, 1) := by decide +kernel
theorem dX8_chain_66 : decode cX8_chain 66 = .ok (.istore 7, 2) := by decide +kernel
theorem dX8_chain_68 : decode cX8_chain 68 = .ok (.goto (-26), 3) := by decide +kernel
theorem dX8_chain_71 : decode cX8_chain 71 = .ok (.iload_n 3, 1) := by decide +kernel
theorem dX8_chain_72 : decode cX8_chain 72 = .ok (.ifCond .ge 8, 3) := by decide +kernel
theorem dX8_chain_75 : decode cX8_chain 75 = .ok (.iload 6, 2) := by decide +kernel
theorem dX8_chain_77 : decode cX8_chain 77 = .ok (.goto 4, 3) := by decide +kernel
theorem dX8_chain_80 : decode cX8_chain 80 = .ok (.iconst (-1), 1) := by decide +kernel
theorem dX8_chain_81 : decode cX8_chain 81 = .ok (.ireturn, 1) := by decide +kernel
theorem dX8_covered_0 : decode cX8_covered 0 = .ok (.aload_n 0, 1) := by decide +kernel
theorem dX8_covered_1 : decode cX8_covered 1 = .ok (.iload_n 1, 1) := by decide +kernel
theorem dX8_covered_2 : decode cX8_covered 2 = .ok (.iload_n 2, 1) := by decide +kernel
theorem dX8_covered_3 : decode cX8_covered 3 = .ok (.invokevirtual 160, 3) := by decide +kernel
theorem dX8_covered_6 : decode cX8_covered 6 = .ok (.istore_n 3, 1) := by decide +kernel
theorem dX8_covered_7 : decode cX8_covered 7 = .ok (.iload_n 3, 1) := by decide +kernel
theorem dX8_covered_8 : decode cX8_covered 8 = .ok (.ifCond .ge 5, 3) := by decide +kernel
theorem dX8_covered_11 : decode cX8_covered 11 = .ok (.iload_n 3, 1) := by decide +kernel
theorem dX8_covered_12 : decode cX8_covered 12 = .ok (.ireturn, 1) := by decide +kernel
theorem dX8_covered_13 : decode cX8_covered 13 = .ok (.aload_n 0, 1) := by decide +kernel
theorem dX8_covered_14 : decode cX8_covered 14 = .ok (.iload_n 1, 1) := by decide +kernel
theorem dX8_covered_15 : decode cX8_covered 15 = .ok (.iload_n 2, 1) := by decide +kernel
theorem dX8_covered_16 : decode cX8_covered 16 = .ok (.invokevirtual 169, 3) := by decide +kernel
theorem dX8_covered_19 : decode cX8_covered 19 = .ok (.istore 4, 2) := by decide +kernel
theorem dX8_covered_21 : decode cX8_covered 21 = .ok (.iconst 0, 1) := by decide +kernel
theorem dX8_covered_22 : decode cX8_covered 22 = .ok (.istore 5, 2) := by decide +kernel
theorem dX8_covered_24 : decode cX8_covered 24 = .ok (.aload_n 0, 1) := by decide +kernel
theorem dX8_covered_25 : decode cX8_covered 25 = .ok (.getfield 166, 3) := by decide +kernel
theorem dX8_covered_28 : decode cX8_covered 28 = .ok (.istore 6, 2) := by decide +kernel
theorem dX8_covered_30 : decode cX8_covered 30 = .ok (.iload 6, 2) := by decide +kernel
theorem dX8_covered_32 : decode cX8_covered 32 = .ok (.ifCond .lt 27, 3) := by decide +kernel
theorem dX8_covered_35 : decode cX8_covered 35 = .ok (.iload 5, 2) := by decide +kernel
theorem dX8_covered_37 : decode cX8_covered 37 = .ok (.aload_n 0, 1) := by decide +kernel
theorem dX8_covered_38 : decode cX8_covered 38 = .ok (.getfield 74, 3) := by decide +kernel
theorem dX8_covered_41 : decode cX8_covered 41 = .ok (.iload 6, 2) := by decide +kernel
theorem dX8_covered_43 : decode cX8_covered 43 = .ok (.iaload, 1) := by decide +kernel
theorem dX8_covered_44 : decode cX8_covered 44 = .ok (.iadd, 1) := by decide +kernel
theorem dX8_covered_45 : decode cX8_covered 45 = .ok (.istore 5, 2) := by decide +kernel
theorem dX8_covered_47 : decode cX8_covered 47 = .ok (.aload_n 0, 1) := by decide +kernel
theorem dX8_covered_48 : decode cX8_covered 48 = .ok (.getfield 80, 3) := by decide +kernel
theorem dX8_covered_51 : decode cX8_covered 51 = .ok (.iload 6, 2) := by decide +kernel
theorem dX8_covered_53 : decode cX8_covered 53 = .ok (.iaload, 1) := by decide +kernel
theorem dX8_covered_54 : decode cX8_covered 54 = .ok (.istore 6, 2) := by decide +kernel
theorem dX8_covered_56 : decode cX8_covered 56 = .ok (.goto (-26), 3) := by decide +kernel
theorem dX8_covered_59 : decode cX8_covered 59 = .ok (.iload 5, 2) := by decide +kernel
theorem dX8_covered_61 : decode cX8_covered 61 = .ok (.ireturn, 1) := by decide +kernel
theorem dX8_findGroups_0 : decode cX8_findGroups 0 = .ok (.aload_n 0, 1) := by decide +kernel
theorem dX8_findGroups_1 : decode cX8_findGroups 1 = .ok (.iconst 0, 1) := by decide +kernel
theorem dX8_findGroups_2 : decode cX8_findGroups 2 = .ok (.putfield 172, 3) := by decide +kernel
theorem dX8_findGroups_5 : decode cX8_findGroups 5 = .ok (.iconst 0, 1) := by decide +kernel
theorem dX8_findGroups_6 : decode cX8_findGroups 6 = .ok (.istore_n 1, 1) := by decide +kernel
theorem dX8_findGroups_7 : decode cX8_findGroups 7 = .ok (.iload_n 1, 1) := by decide +kernel
theorem dX8_findGroups_8 : decode cX8_findGroups 8 = .ok (.bipush 6, 2) := by decide +kernel
theorem dX8_findGroups_10 : decode cX8_findGroups 10 = .ok (.if_icmp .ge 16, 3) := by decide +kernel
theorem dX8_findGroups_13 : decode cX8_findGroups 13 = .ok (.aload_n 0, 1) := by decide +kernel
theorem dX8_findGroups_14 : decode cX8_findGroups 14 = .ok (.getfield 83, 3) := by decide +kernel
theorem dX8_findGroups_17 : decode cX8_findGroups 17 = .ok (.iload_n 1, 1) := by decide +kernel
theorem dX8_findGroups_18 : decode cX8_findGroups 18 = .ok (.iload_n 1, 1) := by decide +kernel
theorem dX8_findGroups_19 : decode cX8_findGroups 19 = .ok (.iastore, 1) := by decide +kernel
theorem dX8_findGroups_20 : decode cX8_findGroups 20 = .ok (.iinc 1 1, 3) := by decide +kernel
theorem dX8_findGroups_23 : decode cX8_findGroups 23 = .ok (.goto (-16), 3) := by decide +kernel
theorem dX8_findGroups_26 : decode cX8_findGroups 26 = .ok (.iconst 0, 1) := by decide +kernel
theorem dX8_findGroups_27 : decode cX8_findGroups 27 = .ok (.istore_n 1, 1) := by decide +kernel
theorem dX8_findGroups_28 : decode cX8_findGroups 28 = .ok (.iload_n 1, 1) := by decide +kernel
theorem dX8_findGroups_29 : decode cX8_findGroups 29 = .ok (.bipush 6, 2) := by decide +kernel
theorem dX8_findGroups_31 : decode cX8_findGroups 31 = .ok (.if_icmp .ge 82, 3) := by decide +kernel
theorem dX8_findGroups_34 : decode cX8_findGroups 34 = .ok (.iload_n 1, 1) := by decide +kernel
theorem dX8_findGroups_35 : decode cX8_findGroups 35 = .ok (.iconst 1, 1) := by decide +kernel
theorem dX8_findGroups_36 : decode cX8_findGroups 36 = .ok (.iadd, 1) := by decide +kernel
theorem dX8_findGroups_37 : decode cX8_findGroups 37 = .ok (.istore_n 2, 1) := by decide +kernel
theorem dX8_findGroups_38 : decode cX8_findGroups 38 = .ok (.iload_n 2, 1) := by decide +kernel
theorem dX8_findGroups_39 : decode cX8_findGroups 39 = .ok (.bipush 6, 2) := by decide +kernel
theorem dX8_findGroups_41 : decode cX8_findGroups 41 = .ok (.if_icmp .ge 66, 3) := by decide +kernel
theorem dX8_findGroups_44 : decode cX8_findGroups 44 = .ok (.aload_n 0, 1) := by decide +kernel
theorem dX8_findGroups_45 : decode cX8_findGroups 45 = .ok (.getfield 13, 3) := by decide +kernel
theorem dX8_findGroups_48 : decode cX8_findGroups 48 = .ok (.iload_n 1, 1) := by decide +kernel
theorem dX8_findGroups_49 : decode cX8_findGroups 49 = .ok (.baload, 1) := by decide +kernel
theorem dX8_findGroups_50 : decode cX8_findGroups 50 = .ok (.ifCond .eq 51, 3) := by decide +kernel
theorem dX8_findGroups_53 : decode cX8_findGroups 53 = .ok (.aload_n 0, 1) := by decide +kernel
theorem dX8_findGroups_54 : decode cX8_findGroups 54 = .ok (.getfield 13, 3) := by decide +kernel
theorem dX8_findGroups_57 : decode cX8_findGroups 57 = .ok (.iload_n 2, 1) := by decide +kernel
theorem dX8_findGroups_58 : decode cX8_findGroups 58 = .ok (.baload, 1) := by decide +kernel
theorem dX8_findGroups_59 : decode cX8_findGroups 59 = .ok (.ifCond .eq 42, 3) := by decide +kernel
theorem dX8_findGroups_62 : decode cX8_findGroups 62 = .ok (.aload_n 0, 1) := by decide +kernel
theorem dX8_findGroups_63 : decode cX8_findGroups 63 = .ok (.iload_n 1, 1) := by decide +kernel
theorem dX8_findGroups_64 : decode cX8_findGroups 64 = .ok (.iload_n 2, 1) := by decide +kernel
theorem dX8_findGroups_65 : decode cX8_findGroups 65 = .ok (.invokevirtual 169, 3) := by decide +kernel
theorem dX8_findGroups_68 : decode cX8_findGroups 68 = .ok (.aload_n 0, 1) := by decide +kernel
theorem dX8_findGroups_69 : decode cX8_findGroups 69 = .ok (.getfield 40, 3) := by decide +kernel
theorem dX8_findGroups_72 : decode cX8_findGroups 72 = .ok (.if_icmp .lt 29, 3) := by decide +kernel
theorem dX8_findGroups_75 : decode cX8_findGroups 75 = .ok (.aload_n 0, 1) := by decide +kernel
theorem dX8_findGroups_76 : decode cX8_findGroups 76 = .ok (.dup, 1) := by decide +kernel
theorem dX8_findGroups_77 : decode cX8_findGroups 77 = .ok (.getfield 172, 3) := by decide +kernel
theorem dX8_findGroups_80 : decode cX8_findGroups 80 = .ok (.iconst 1, 1) := by decide +kernel
theorem dX8_findGroups_81 : decode cX8_findGroups 81 = .ok (.iadd, 1) := by decide +kernel
theorem dX8_findGroups_82 : decode cX8_findGroups 82 = .ok (.putfield 172, 3) := by decide +kernel
theorem dX8_findGroups_85 : decode cX8_findGroups 85 = .ok (.aload_n 0, 1) := by decide +kernel
theorem dX8_findGroups_86 : decode cX8_findGroups 86 = .ok (.aload_n 0, 1) := by decide +kernel
theorem dX8_findGroups_87 : decode cX8_findGroups 87 = .ok (.getfield 83, 3) := by decide +kernel
theorem dX8_findGroups_90 : decode cX8_findGroups 90 = .ok (.iload_n 1, 1) := by decide +kernel
theorem dX8_findGroups_91 : decode cX8_findGroups 91 = .ok (.iaload, 1) := by decide +kernel
theorem dX8_findGroups_92 : decode cX8_findGroups 92 = .ok (.aload_n 0, 1) := by decide +kernel
theorem dX8_findGroups_93 : decode cX8_findGroups 93 = .ok (.getfield 83, 3) := by decide +kernel
theorem dX8_findGroups_96 : decode cX8_findGroups 96 = .ok (.iload_n 2, 1) := by decide +kernel
theorem dX8_findGroups_97 : decode cX8_findGroups 97 = .ok (.iaload, 1) := by decide +kernel
theorem dX8_findGroups_98 : decode cX8_findGroups 98 = .ok (.invokevirtual 175, 3) := by decide +kernel
theorem dX8_findGroups_101 : decode cX8_findGroups 101 = .ok (.iinc 2 1, 3) := by decide +kernel
theorem dX8_findGroups_104 : decode cX8_findGroups 104 = .ok (.goto (-66), 3) := by decide +kernel
theorem dX8_findGroups_107 : decode cX8_findGroups 107 = .ok (.iinc 1 1, 3) := by decide +kernel
theorem dX8_findGroups_110 : decode cX8_findGroups 110 = .ok (.goto (-82), 3) := by decide +kernel
theorem dX8_findGroups_113 : decode cX8_findGroups 113 = .ok (.return_, 1) := by decide +kernel
theorem dX8_join_0 : decode cX8_join 0 = .ok (.iload_n 1, 1) := by decide +kernel
theorem dX8_join_1 : decode cX8_join 1 = .ok (.iload_n 2, 1) := by decide +kernel
theorem dX8_join_2 : decode cX8_join 2 = .ok (.if_icmp .ge 7, 3) := by decide +kernel
theorem dX8_join_5 : decode cX8_join 5 = .ok (.iload_n 1, 1) := by decide +kernel
theorem dX8_join_6 : decode cX8_join 6 = .ok (.goto 4, 3) := by decide +kernel
theorem dX8_join_9 : decode cX8_join 9 = .ok (.iload_n 2, 1) := by decide +kernel
theorem dX8_join_10 : decode cX8_join 10 = .ok (.istore_n 3, 1) := by decide +kernel
theorem dX8_join_11 : decode cX8_join 11 = .ok (.iconst 0, 1) := by decide +kernel
theorem dX8_join_12 : decode cX8_join 12 = .ok (.istore 4, 2) := by decide +kernel
theorem dX8_join_14 : decode cX8_join 14 = .ok (.iload 4, 2) := by decide +kernel
theorem dX8_join_16 : decode cX8_join 16 = .ok (.bipush 6, 2) := by decide +kernel
theorem dX8_join_18 : decode cX8_join 18 = .ok (.if_icmp .ge 49, 3) := by decide +kernel
theorem dX8_join_21 : decode cX8_join 21 = .ok (.aload_n 0, 1) := by decide +kernel
theorem dX8_join_22 : decode cX8_join 22 = .ok (.getfield 83, 3) := by decide +kernel
theorem dX8_join_25 : decode cX8_join 25 = .ok (.iload 4, 2) := by decide +kernel
theorem dX8_join_27 : decode cX8_join 27 = .ok (.aload_n 0, 1) := by decide +kernel
theorem dX8_join_28 : decode cX8_join 28 = .ok (.getfield 83, 3) := by decide +kernel
theorem dX8_join_31 : decode cX8_join 31 = .ok (.iload 4, 2) := by decide +kernel
theorem dX8_join_33 : decode cX8_join 33 = .ok (.iaload, 1) := by decide +kernel
theorem dX8_join_34 : decode cX8_join 34 = .ok (.iload_n 1, 1) := by decide +kernel
theorem dX8_join_35 : decode cX8_join 35 = .ok (.if_icmp .eq 14, 3) := by decide +kernel
theorem dX8_join_38 : decode cX8_join 38 = .ok (.aload_n 0, 1) := by decide +kernel
theorem dX8_join_39 : decode cX8_join 39 = .ok (.getfield 83, 3) := by decide +kernel
theorem dX8_join_42 : decode cX8_join 42 = .ok (.iload 4, 2) := by decide +kernel
theorem dX8_join_44 : decode cX8_join 44 = .ok (.iaload, 1) := by decide +kernel
theorem dX8_join_45 : decode cX8_join 45 = .ok (.iload_n 2, 1) := by decide +kernel
theorem dX8_join_46 : decode cX8_join 46 = .ok (.if_icmp .ne 7, 3) := by decide +kernel
theorem dX8_join_49 : decode cX8_join 49 = .ok (.iload_n 3, 1) := by decide +kernel
theorem dX8_join_50 : decode cX8_join 50 = .ok (.goto 10, 3) := by decide +kernel
theorem dX8_join_53 : decode cX8_join 53 = .ok (.aload_n 0, 1) := by decide +kernel
theorem dX8_join_54 : decode cX8_join 54 = .ok (.getfield 83, 3) := by decide +kernel
theorem dX8_join_57 : decode cX8_join 57 = .ok (.iload 4, 2) := by decide +kernel
theorem dX8_join_59 : decode cX8_join 59 = .ok (.iaload, 1) := by decide +kernel
theorem dX8_join_60 : decode cX8_join 60 = .ok (.iastore, 1) := by decide +kernel
theorem dX8_join_61 : decode cX8_join 61 = .ok (.iinc 4 1, 3) := by decide +kernel
theorem dX8_join_64 : decode cX8_join 64 = .ok (.goto (-50), 3) := by decide +kernel
theorem dX8_join_67 : decode cX8_join 67 = .ok (.return_, 1) := by decide +kernel
theorem dX8_group_0 : decode cX8_group 0 = .ok (.iload_n 1, 1) := by decide +kernel
theorem dX8_group_1 : decode cX8_group 1 = .ok (.invokestatic 123, 3) := by decide +kernel
theorem dX8_group_4 : decode cX8_group 4 = .ok (.ifCond .ne 5, 3) := by decide +kernel
theorem dX8_group_7 : decode cX8_group 7 = .ok (.iconst (-1), 1) := by decide +kernel
theorem dX8_group_8 : decode cX8_group 8 = .ok (.ireturn, 1) := by decide +kernel
theorem dX8_group_9 : decode cX8_group 9 = .ok (.aload_n 0, 1) := by decide +kernel
theorem dX8_group_10 : decode cX8_group 10 = .ok (.getfield 13, 3) := by decide +kernel
theorem dX8_group_13 : decode cX8_group 13 = .ok (.iload_n 1, 1) := by decide +kernel
theorem dX8_group_14 : decode cX8_group 14 = .ok (.baload, 1) := by decide +kernel
theorem dX8_group_15 : decode cX8_group 15 = .ok (.ifCond .ne 6, 3) := by decide +kernel
theorem dX8_group_18 : decode cX8_group 18 = .ok (.bipush (-2), 2) := by decide +kernel
theorem dX8_group_20 : decode cX8_group 20 = .ok (.ireturn, 1) := by decide +kernel
theorem dX8_group_21 : decode cX8_group 21 = .ok (.aload_n 0, 1) := by decide +kernel
theorem dX8_group_22 : decode cX8_group 22 = .ok (.invokevirtual 178, 3) := by decide +kernel
theorem dX8_group_25 : decode cX8_group 25 = .ok (.aload_n 0, 1) := by decide +kernel
theorem dX8_group_26 : decode cX8_group 26 = .ok (.getfield 83, 3) := by decide +kernel
theorem dX8_group_29 : decode cX8_group 29 = .ok (.iload_n 1, 1) := by decide +kernel
theorem dX8_group_30 : decode cX8_group 30 = .ok (.iaload, 1) := by decide +kernel
theorem dX8_group_31 : decode cX8_group 31 = .ok (.ireturn, 1) := by decide +kernel
theorem dX8_first_0 : decode cX8_first 0 = .ok (.iload_n 1, 1) := by decide +kernel
theorem dX8_first_1 : decode cX8_first 1 = .ok (.invokestatic 123, 3) := by decide +kernel
theorem dX8_first_4 : decode cX8_first 4 = .ok (.ifCond .ne 5, 3) := by decide +kernel
theorem dX8_first_7 : decode cX8_first 7 = .ok (.iconst (-1), 1) := by decide +kernel
theorem dX8_first_8 : decode cX8_first 8 = .ok (.ireturn, 1) := by decide +kernel
theorem dX8_first_9 : decode cX8_first 9 = .ok (.aload_n 0, 1) := by decide +kernel
theorem dX8_first_10 : decode cX8_first 10 = .ok (.getfield 13, 3) := by decide +kernel
theorem dX8_first_13 : decode cX8_first 13 = .ok (.iload_n 1, 1) := by decide +kernel
theorem dX8_first_14 : decode cX8_first 14 = .ok (.baload, 1) := by decide +kernel
theorem dX8_first_15 : decode cX8_first 15 = .ok (.ifCond .ne 6, 3) := by decide +kernel
theorem dX8_first_18 : decode cX8_first 18 = .ok (.bipush (-2), 2) := by decide +kernel
theorem dX8_first_20 : decode cX8_first 20 = .ok (.ireturn, 1) := by decide +kernel
theorem dX8_first_21 : decode cX8_first 21 = .ok (.aload_n 0, 1) := by decide +kernel
theorem dX8_first_22 : decode cX8_first 22 = .ok (.invokevirtual 178, 3) := by decide +kernel
theorem dX8_first_25 : decode cX8_first 25 = .ok (.iconst (-1), 1) := by decide +kernel
theorem dX8_first_26 : decode cX8_first 26 = .ok (.istore_n 2, 1) := by decide +kernel
theorem dX8_first_27 : decode cX8_first 27 = .ok (.iconst 0, 1) := by decide +kernel
theorem dX8_first_28 : decode cX8_first 28 = .ok (.istore_n 3, 1) := by decide +kernel
theorem dX8_first_29 : decode cX8_first 29 = .ok (.iload_n 3, 1) := by decide +kernel
theorem dX8_first_30 : decode cX8_first 30 = .ok (.bipush 6, 2) := by decide +kernel
theorem dX8_first_32 : decode cX8_first 32 = .ok (.if_icmp .ge 62, 3) := by decide +kernel
theorem dX8_first_35 : decode cX8_first 35 = .ok (.aload_n 0, 1) := by decide +kernel
theorem dX8_first_36 : decode cX8_first 36 = .ok (.getfield 13, 3) := by decide +kernel
theorem dX8_first_39 : decode cX8_first 39 = .ok (.iload_n 3, 1) := by decide +kernel
theorem dX8_first_40 : decode cX8_first 40 = .ok (.baload, 1) := by decide +kernel
theorem dX8_first_41 : decode cX8_first 41 = .ok (.ifCond .eq 47, 3) := by decide +kernel
theorem dX8_first_44 : decode cX8_first 44 = .ok (.aload_n 0, 1) := by decide +kernel
theorem dX8_first_45 : decode cX8_first 45 = .ok (.getfield 83, 3) := by decide +kernel
theorem dX8_first_48 : decode cX8_first 48 = .ok (.iload_n 3, 1) := by decide +kernel
theorem dX8_first_49 : decode cX8_first 49 = .ok (.iaload, 1) := by decide +kernel
theorem dX8_first_50 : decode cX8_first 50 = .ok (.aload_n 0, 1) := by decide +kernel
theorem dX8_first_51 : decode cX8_first 51 = .ok (.getfield 83, 3) := by decide +kernel
theorem dX8_first_54 : decode cX8_first 54 = .ok (.iload_n 1, 1) := by decide +kernel
theorem dX8_first_55 : decode cX8_first 55 = .ok (.iaload, 1) := by decide +kernel
theorem dX8_first_56 : decode cX8_first 56 = .ok (.if_icmp .ne 32, 3) := by decide +kernel
theorem dX8_first_59 : decode cX8_first 59 = .ok (.iload_n 3, 1) := by decide +kernel
theorem dX8_first_60 : decode cX8_first 60 = .ok (.aload_n 0, 1) := by decide +kernel
theorem dX8_first_61 : decode cX8_first 61 = .ok (.getfield 43, 3) := by decide +kernel
theorem dX8_first_64 : decode cX8_first 64 = .ok (.if_icmp .eq 24, 3) := by decide +kernel
theorem dX8_first_67 : decode cX8_first 67 = .ok (.iload_n 2, 1) := by decide +kernel
theorem dX8_first_68 : decode cX8_first 68 = .ok (.ifCond .lt 18, 3) := by decide +kernel
theorem dX8_first_71 : decode cX8_first 71 = .ok (.aload_n 0, 1) := by decide +kernel
theorem dX8_first_72 : decode cX8_first 72 = .ok (.getfield 23, 3) := by decide +kernel
theorem dX8_first_75 : decode cX8_first 75 = .ok (.iload_n 3, 1) := by decide +kernel
theorem dX8_first_76 : decode cX8_first 76 = .ok (.iaload, 1) := by decide +kernel
theorem dX8_first_77 : decode cX8_first 77 = .ok (.aload_n 0, 1) := by decide +kernel
theorem dX8_first_78 : decode cX8_first 78 = .ok (.getfield 23, 3) := by decide +kernel
theorem dX8_first_81 : decode cX8_first 81 = .ok (.iload_n 2, 1) := by decide +kernel
theorem dX8_first_82 : decode cX8_first 82 = .ok (.iaload, 1) := by decide +kernel
theorem dX8_first_83 : decode cX8_first 83 = .ok (.if_icmp .ge 5, 3) := by decide +kernel
theorem dX8_first_86 : decode cX8_first 86 = .ok (.iload_n 3, 1) := by decide +kernel
theorem dX8_first_87 : decode cX8_first 87 = .ok (.istore_n 2, 1) := by decide +kernel
theorem dX8_first_88 : decode cX8_first 88 = .ok (.iinc 3 1, 3) := by decide +kernel
theorem dX8_first_91 : decode cX8_first 91 = .ok (.goto (-62), 3) := by decide +kernel
theorem dX8_first_94 : decode cX8_first 94 = .ok (.iload_n 2, 1) := by decide +kernel
theorem dX8_first_95 : decode cX8_first 95 = .ok (.ifCond .ge 10, 3) := by decide +kernel
theorem dX8_first_98 : decode cX8_first 98 = .ok (.aload_n 0, 1) := by decide +kernel
theorem dX8_first_99 : decode cX8_first 99 = .ok (.getfield 43, 3) := by decide +kernel
theorem dX8_first_102 : decode cX8_first 102 = .ok (.goto 4, 3) := by decide +kernel
theorem dX8_first_105 : decode cX8_first 105 = .ok (.iload_n 2, 1) := by decide +kernel
theorem dX8_first_106 : decode cX8_first 106 = .ok (.ireturn, 1) := by decide +kernel
theorem dX8_count_0 : decode cX8_count 0 = .ok (.iload_n 1, 1) := by decide +kernel
theorem dX8_count_1 : decode cX8_count 1 = .ok (.iconst 0, 1) := by decide +kernel
theorem dX8_count_2 : decode cX8_count 2 = .ok (.iconst 3, 1) := by decide +kernel
theorem dX8_count_3 : decode cX8_count 3 = .ok (.invokestatic 86, 3) := by decide +kernel
theorem dX8_count_6 : decode cX8_count 6 = .ok (.ifCond .ne 5, 3) := by decide +kernel
theorem dX8_count_9 : decode cX8_count 9 = .ok (.iconst (-1), 1) := by decide +kernel
theorem dX8_count_10 : decode cX8_count 10 = .ok (.ireturn, 1) := by decide +kernel
theorem dX8_count_11 : decode cX8_count 11 = .ok (.aload_n 0, 1) := by decide +kernel
theorem dX8_count_12 : decode cX8_count 12 = .ok (.invokevirtual 178, 3) := by decide +kernel
theorem dX8_count_15 : decode cX8_count 15 = .ok (.iconst 0, 1) := by decide +kernel
theorem dX8_count_16 : decode cX8_count 16 = .ok (.istore_n 2, 1) := by decide +kernel
theorem dX8_count_17 : decode cX8_count 17 = .ok (.iconst 0, 1) := by decide +kernel
theorem dX8_count_18 : decode cX8_count 18 = .ok (.istore_n 3, 1) := by decide +kernel
theorem dX8_count_19 : decode cX8_count 19 = .ok (.iconst 0, 1) := by decide +kernel
theorem dX8_count_20 : decode cX8_count 20 = .ok (.istore 4, 2) := by decide +kernel
theorem dX8_count_22 : decode cX8_count 22 = .ok (.iconst 0, 1) := by decide +kernel
theorem dX8_count_23 : decode cX8_count 23 = .ok (.istore 5, 2) := by decide +kernel
theorem dX8_count_25 : decode cX8_count 25 = .ok (.iload 5, 2) := by decide +kernel
theorem dX8_count_27 : decode cX8_count 27 = .ok (.bipush 6, 2) := by decide +kernel
theorem dX8_count_29 : decode cX8_count 29 = .ok (.if_icmp .ge 117, 3) := by decide +kernel
theorem dX8_count_32 : decode cX8_count 32 = .ok (.iconst 0, 1) := by decide +kernel
theorem dX8_count_33 : decode cX8_count 33 = .ok (.istore 6, 2) := by decide +kernel
theorem dX8_count_35 : decode cX8_count 35 = .ok (.iconst 0, 1) := by decide +kernel
theorem dX8_count_36 : decode cX8_count 36 = .ok (.istore 7, 2) := by decide +kernel
theorem dX8_count_38 : decode cX8_count 38 = .ok (.iload 7, 2) := by decide +kernel
theorem dX8_count_40 : decode cX8_count 40 = .ok (.bipush 6, 2) := by decide +kernel
theorem dX8_count_42 : decode cX8_count 42 = .ok (.if_icmp .ge 51, 3) := by decide +kernel
theorem dX8_count_45 : decode cX8_count 45 = .ok (.iload 6, 2) := by decide +kernel
theorem dX8_count_47 : decode cX8_count 47 = .ok (.aload_n 0, 1) := by decide +kernel
theorem dX8_count_48 : decode cX8_count 48 = .ok (.getfield 13, 3) := by decide +kernel
theorem dX8_count_51 : decode cX8_count 51 = .ok (.iload 5, 2) := by decide +kernel
theorem dX8_count_53 : decode cX8_count 53 = .ok (.baload, 1) := by decide +kernel
theorem dX8_count_54 : decode cX8_count 54 = .ok (.ifCond .eq 29, 3) := by decide +kernel
theorem dX8_count_57 : decode cX8_count 57 = .ok (.aload_n 0, 1) := by decide +kernel
theorem dX8_count_58 : decode cX8_count 58 = .ok (.getfield 13, 3) := by decide +kernel
theorem dX8_count_61 : decode cX8_count 61 = .ok (.iload 7, 2) := by decide +kernel
theorem dX8_count_63 : decode cX8_count 63 = .ok (.baload, 1) := by decide +kernel
theorem dX8_count_64 : decode cX8_count 64 = .ok (.ifCond .eq 19, 3) := by decide +kernel
theorem dX8_count_67 : decode cX8_count 67 = .ok (.aload_n 0, 1) := by decide +kernel
theorem dX8_count_68 : decode cX8_count 68 = .ok (.getfield 83, 3) := by decide +kernel
theorem dX8_count_71 : decode cX8_count 71 = .ok (.iload 7, 2) := by decide +kernel
theorem dX8_count_73 : decode cX8_count 73 = .ok (.iaload, 1) := by decide +kernel
theorem dX8_count_74 : decode cX8_count 74 = .ok (.iload 5, 2) := by decide +kernel
theorem dX8_count_76 : decode cX8_count 76 = .ok (.if_icmp .ne 7, 3) := by decide +kernel
theorem dX8_count_79 : decode cX8_count 79 = .ok (.iconst 1, 1) := by decide +kernel
theorem dX8_count_80 : decode cX8_count 80 = .ok (.goto 4, 3) := by decide +kernel
theorem dX8_count_83 : decode cX8_count 83 = .ok (.iconst 0, 1) := by decide +kernel
theorem dX8_count_84 : decode cX8_count 84 = .ok (.iadd, 1) := by decide +kernel
theorem dX8_count_85 : decode cX8_count 85 = .ok (.istore 6, 2) := by decide +kernel
theorem dX8_count_87 : decode cX8_count 87 = .ok (.iinc 7 1, 3) := by decide +kernel
theorem dX8_count_90 : decode cX8_count 90 = .ok (.goto (-52), 3) := by decide +kernel
theorem dX8_count_93 : decode cX8_count 93 = .ok (.iload_n 2, 1) := by decide +kernel
theorem dX8_count_94 : decode cX8_count 94 = .ok (.aload_n 0, 1) := by decide +kernel
theorem dX8_count_95 : decode cX8_count 95 = .ok (.getfield 13, 3) := by decide +kernel
theorem dX8_count_98 : decode cX8_count 98 = .ok (.iload 5, 2) := by decide +kernel
theorem dX8_count_100 : decode cX8_count 100 = .ok (.baload, 1) := by decide +kernel
theorem dX8_count_101 : decode cX8_count 101 = .ok (.ifCond .eq 7, 3) := by decide +kernel
theorem dX8_count_104 : decode cX8_count 104 = .ok (.iconst 1, 1) := by decide +kernel
theorem dX8_count_105 : decode cX8_count 105 = .ok (.goto 4, 3) := by decide +kernel
theorem dX8_count_108 : decode cX8_count 108 = .ok (.iconst 0, 1) := by decide +kernel
theorem dX8_count_109 : decode cX8_count 109 = .ok (.iadd, 1) := by decide +kernel
theorem dX8_count_110 : decode cX8_count 110 = .ok (.istore_n 2, 1) := by decide +kernel
theorem dX8_count_111 : decode cX8_count 111 = .ok (.iload_n 3, 1) := by decide +kernel
theorem dX8_count_112 : decode cX8_count 112 = .ok (.iload 6, 2) := by decide +kernel
theorem dX8_count_114 : decode cX8_count 114 = .ok (.ifCond .le 7, 3) := by decide +kernel
theorem dX8_count_117 : decode cX8_count 117 = .ok (.iconst 1, 1) := by decide +kernel
theorem dX8_count_118 : decode cX8_count 118 = .ok (.goto 4, 3) := by decide +kernel
theorem dX8_count_121 : decode cX8_count 121 = .ok (.iconst 0, 1) := by decide +kernel
theorem dX8_count_122 : decode cX8_count 122 = .ok (.iadd, 1) := by decide +kernel
theorem dX8_count_123 : decode cX8_count 123 = .ok (.istore_n 3, 1) := by decide +kernel
theorem dX8_count_124 : decode cX8_count 124 = .ok (.iload 4, 2) := by decide +kernel
theorem dX8_count_126 : decode cX8_count 126 = .ok (.iload 6, 2) := by decide +kernel
theorem dX8_count_128 : decode cX8_count 128 = .ok (.iconst 1, 1) := by decide +kernel
theorem dX8_count_129 : decode cX8_count 129 = .ok (.if_icmp .ne 7, 3) := by decide +kernel
theorem dX8_count_132 : decode cX8_count 132 = .ok (.iconst 1, 1) := by decide +kernel
theorem dX8_count_133 : decode cX8_count 133 = .ok (.goto 4, 3) := by decide +kernel
theorem dX8_count_136 : decode cX8_count 136 = .ok (.iconst 0, 1) := by decide +kernel
theorem dX8_count_137 : decode cX8_count 137 = .ok (.iadd, 1) := by decide +kernel
theorem dX8_count_138 : decode cX8_count 138 = .ok (.istore 4, 2) := by decide +kernel
theorem dX8_count_140 : decode cX8_count 140 = .ok (.iinc 5 1, 3) := by decide +kernel
theorem dX8_count_143 : decode cX8_count 143 = .ok (.goto (-118), 3) := by decide +kernel
theorem dX8_count_146 : decode cX8_count 146 = .ok (.iload_n 1, 1) := by decide +kernel
theorem dX8_count_147 : decode cX8_count 147 = .ok (.ifCond .ne 7, 3) := by decide +kernel
theorem dX8_count_150 : decode cX8_count 150 = .ok (.iload_n 2, 1) := by decide +kernel
theorem dX8_count_151 : decode cX8_count 151 = .ok (.goto 26, 3) := by decide +kernel
theorem dX8_count_154 : decode cX8_count 154 = .ok (.iload_n 1, 1) := by decide +kernel
theorem dX8_count_155 : decode cX8_count 155 = .ok (.iconst 1, 1) := by decide +kernel
theorem dX8_count_156 : decode cX8_count 156 = .ok (.if_icmp .ne 7, 3) := by decide +kernel
theorem dX8_count_159 : decode cX8_count 159 = .ok (.iload_n 3, 1) := by decide +kernel
theorem dX8_count_160 : decode cX8_count 160 = .ok (.goto 17, 3) := by decide +kernel
theorem dX8_count_163 : decode cX8_count 163 = .ok (.iload_n 1, 1) := by decide +kernel
theorem dX8_count_164 : decode cX8_count 164 = .ok (.iconst 2, 1) := by decide +kernel
theorem dX8_count_165 : decode cX8_count 165 = .ok (.if_icmp .ne 8, 3) := by decide +kernel
theorem dX8_count_168 : decode cX8_count 168 = .ok (.iload 4, 2) := by decide +kernel
theorem dX8_count_170 : decode cX8_count 170 = .ok (.goto 7, 3) := by decide +kernel
theorem dX8_count_173 : decode cX8_count 173 = .ok (.aload_n 0, 1) := by decide +kernel
theorem dX8_count_174 : decode cX8_count 174 = .ok (.getfield 172, 3) := by decide +kernel
theorem dX8_count_177 : decode cX8_count 177 = .ok (.ireturn, 1) := by decide +kernel
theorem dX8_turnOne_0 : decode cX8_turnOne 0 = .ok (.aload_n 0, 1) := by decide +kernel
theorem dX8_turnOne_1 : decode cX8_turnOne 1 = .ok (.getfield 17, 3) := by decide +kernel
theorem dX8_turnOne_4 : decode cX8_turnOne 4 = .ok (.iload_n 1, 1) := by decide +kernel
theorem dX8_turnOne_5 : decode cX8_turnOne 5 = .ok (.iaload, 1) := by decide +kernel
theorem dX8_turnOne_6 : decode cX8_turnOne 6 = .ok (.ifCond .le 78, 3) := by decide +kernel
theorem dX8_turnOne_9 : decode cX8_turnOne 9 = .ok (.aload_n 0, 1) := by decide +kernel
theorem dX8_turnOne_10 : decode cX8_turnOne 10 = .ok (.getfield 26, 3) := by decide +kernel
theorem dX8_turnOne_13 : decode cX8_turnOne 13 = .ok (.bipush 40, 2) := by decide +kernel
theorem dX8_turnOne_15 : decode cX8_turnOne 15 = .ok (.iload_n 1, 1) := by decide +kernel
theorem dX8_turnOne_16 : decode cX8_turnOne 16 = .ok (.imul, 1) := by decide +kernel
theorem dX8_turnOne_17 : decode cX8_turnOne 17 = .ok (.laload, 1) := by decide +kernel
theorem dX8_turnOne_18 : decode cX8_turnOne 18 = .ok (.lstore_n 2, 1) := by decide +kernel
theorem dX8_turnOne_19 : decode cX8_turnOne 19 = .ok (.iconst 1, 1) := by decide +kernel
theorem dX8_turnOne_20 : decode cX8_turnOne 20 = .ok (.istore 4, 2) := by decide +kernel
theorem dX8_turnOne_22 : decode cX8_turnOne 22 = .ok (.iload 4, 2) := by decide +kernel
theorem dX8_turnOne_24 : decode cX8_turnOne 24 = .ok (.aload_n 0, 1) := by decide +kernel
theorem dX8_turnOne_25 : decode cX8_turnOne 25 = .ok (.getfield 17, 3) := by decide +kernel
theorem dX8_turnOne_28 : decode cX8_turnOne 28 = .ok (.iload_n 1, 1) := by decide +kernel
theorem dX8_turnOne_29 : decode cX8_turnOne 29 = .ok (.iaload, 1) := by decide +kernel
theorem dX8_turnOne_30 : decode cX8_turnOne 30 = .ok (.if_icmp .ge 35, 3) := by decide +kernel
theorem dX8_turnOne_33 : decode cX8_turnOne 33 = .ok (.aload_n 0, 1) := by decide +kernel
theorem dX8_turnOne_34 : decode cX8_turnOne 34 = .ok (.getfield 26, 3) := by decide +kernel
theorem dX8_turnOne_37 : decode cX8_turnOne 37 = .ok (.bipush 40, 2) := by decide +kernel
theorem dX8_turnOne_39 : decode cX8_turnOne 39 = .ok (.iload_n 1, 1) := by decide +kernel
theorem dX8_turnOne_40 : decode cX8_turnOne 40 = .ok (.imul, 1) := by decide +kernel
theorem dX8_turnOne_41 : decode cX8_turnOne 41 = .ok (.iload 4, 2) := by decide +kernel
theorem dX8_turnOne_43 : decode cX8_turnOne 43 = .ok (.iadd, 1) := by decide +kernel
theorem dX8_turnOne_44 : decode cX8_turnOne 44 = .ok (.iconst 1, 1) := by decide +kernel
theorem dX8_turnOne_45 : decode cX8_turnOne 45 = .ok (.isub, 1) := by decide +kernel
theorem dX8_turnOne_46 : decode cX8_turnOne 46 = .ok (.aload_n 0, 1) := by decide +kernel
theorem dX8_turnOne_47 : decode cX8_turnOne 47 = .ok (.getfield 26, 3) := by decide +kernel
theorem dX8_turnOne_50 : decode cX8_turnOne 50 = .ok (.bipush 40, 2) := by decide +kernel
theorem dX8_turnOne_52 : decode cX8_turnOne 52 = .ok (.iload_n 1, 1) := by decide +kernel
theorem dX8_turnOne_53 : decode cX8_turnOne 53 = .ok (.imul, 1) := by decide +kernel
theorem dX8_turnOne_54 : decode cX8_turnOne 54 = .ok (.iload 4, 2) := by decide +kernel
theorem dX8_turnOne_56 : decode cX8_turnOne 56 = .ok (.iadd, 1) := by decide +kernel
theorem dX8_turnOne_57 : decode cX8_turnOne 57 = .ok (.laload, 1) := by decide +kernel
theorem dX8_turnOne_58 : decode cX8_turnOne 58 = .ok (.lastore, 1) := by decide +kernel
theorem dX8_turnOne_59 : decode cX8_turnOne 59 = .ok (.iinc 4 1, 3) := by decide +kernel
theorem dX8_turnOne_62 : decode cX8_turnOne 62 = .ok (.goto (-40), 3) := by decide +kernel
theorem dX8_turnOne_65 : decode cX8_turnOne 65 = .ok (.aload_n 0, 1) := by decide +kernel
theorem dX8_turnOne_66 : decode cX8_turnOne 66 = .ok (.getfield 26, 3) := by decide +kernel
theorem dX8_turnOne_69 : decode cX8_turnOne 69 = .ok (.bipush 40, 2) := by decide +kernel
theorem dX8_turnOne_71 : decode cX8_turnOne 71 = .ok (.iload_n 1, 1) := by decide +kernel
theorem dX8_turnOne_72 : decode cX8_turnOne 72 = .ok (.imul, 1) := by decide +kernel
theorem dX8_turnOne_73 : decode cX8_turnOne 73 = .ok (.aload_n 0, 1) := by decide +kernel
theorem dX8_turnOne_74 : decode cX8_turnOne 74 = .ok (.getfield 17, 3) := by decide +kernel
theorem dX8_turnOne_77 : decode cX8_turnOne 77 = .ok (.iload_n 1, 1) := by decide +kernel
theorem dX8_turnOne_78 : decode cX8_turnOne 78 = .ok (.iaload, 1) := by decide +kernel
theorem dX8_turnOne_79 : decode cX8_turnOne 79 = .ok (.iadd, 1) := by decide +kernel
theorem dX8_turnOne_80 : decode cX8_turnOne 80 = .ok (.iconst 1, 1) := by decide +kernel
theorem dX8_turnOne_81 : decode cX8_turnOne 81 = .ok (.isub, 1) := by decide +kernel
theorem dX8_turnOne_82 : decode cX8_turnOne 82 = .ok (.lload_n 2, 1) := by decide +kernel
theorem dX8_turnOne_83 : decode cX8_turnOne 83 = .ok (.lastore, 1) := by decide +kernel
theorem dX8_turnOne_84 : decode cX8_turnOne 84 = .ok (.return_, 1) := by decide +kernel
theorem dX8_chance_0 : decode cX8_chance 0 = .ok (.aload_n 0, 1) := by decide +kernel
theorem dX8_chance_1 : decode cX8_chance 1 = .ok (.iload_n 1, 1) := by decide +kernel
theorem dX8_chance_2 : decode cX8_chance 2 = .ok (.iload_n 2, 1) := by decide +kernel
theorem dX8_chance_3 : decode cX8_chance 3 = .ok (.invokevirtual 160, 3) := by decide +kernel
theorem dX8_chance_6 : decode cX8_chance 6 = .ok (.istore_n 3, 1) := by decide +kernel
theorem dX8_chance_7 : decode cX8_chance 7 = .ok (.iload_n 3, 1) := by decide +kernel
theorem dX8_chance_8 : decode cX8_chance 8 = .ok (.ifCond .ge 5, 3) := by decide +kernel
theorem dX8_chance_11 : decode cX8_chance 11 = .ok (.iload_n 3, 1) := by decide +kernel
theorem dX8_chance_12 : decode cX8_chance 12 = .ok (.ireturn, 1) := by decide +kernel
theorem dX8_chance_13 : decode cX8_chance 13 = .ok (.aload_n 0, 1) := by decide +kernel
theorem dX8_chance_14 : decode cX8_chance 14 = .ok (.iload_n 1, 1) := by decide +kernel
theorem dX8_chance_15 : decode cX8_chance 15 = .ok (.iload_n 2, 1) := by decide +kernel
theorem dX8_chance_16 : decode cX8_chance 16 = .ok (.invokevirtual 169, 3) := by decide +kernel
theorem dX8_chance_19 : decode cX8_chance 19 = .ok (.istore 4, 2) := by decide +kernel
theorem dX8_chance_21 : decode cX8_chance 21 = .ok (.iconst 0, 1) := by decide +kernel
theorem dX8_chance_22 : decode cX8_chance 22 = .ok (.istore 5, 2) := by decide +kernel
theorem dX8_chance_24 : decode cX8_chance 24 = .ok (.iconst 0, 1) := by decide +kernel
theorem dX8_chance_25 : decode cX8_chance 25 = .ok (.istore 6, 2) := by decide +kernel
theorem dX8_chance_27 : decode cX8_chance 27 = .ok (.iload 6, 2) := by decide +kernel
theorem dX8_chance_29 : decode cX8_chance 29 = .ok (.aload_n 0, 1) := by decide +kernel
theorem dX8_chance_30 : decode cX8_chance 30 = .ok (.getfield 17, 3) := by decide +kernel
theorem dX8_chance_33 : decode cX8_chance 33 = .ok (.iload_n 2, 1) := by decide +kernel
theorem dX8_chance_34 : decode cX8_chance 34 = .ok (.iaload, 1) := by decide +kernel
theorem dX8_chance_35 : decode cX8_chance 35 = .ok (.if_icmp .ge 35, 3) := by decide +kernel
theorem dX8_chance_38 : decode cX8_chance 38 = .ok (.iload 5, 2) := by decide +kernel
theorem dX8_chance_40 : decode cX8_chance 40 = .ok (.aload_n 0, 1) := by decide +kernel
theorem dX8_chance_41 : decode cX8_chance 41 = .ok (.iload_n 1, 1) := by decide +kernel
theorem dX8_chance_42 : decode cX8_chance 42 = .ok (.iload_n 2, 1) := by decide +kernel
theorem dX8_chance_43 : decode cX8_chance 43 = .ok (.invokevirtual 169, 3) := by decide +kernel
theorem dX8_chance_46 : decode cX8_chance 46 = .ok (.iload 4, 2) := by decide +kernel
theorem dX8_chance_48 : decode cX8_chance 48 = .ok (.if_icmp .lt 7, 3) := by decide +kernel
theorem dX8_chance_51 : decode cX8_chance 51 = .ok (.iconst 1, 1) := by decide +kernel
theorem dX8_chance_52 : decode cX8_chance 52 = .ok (.goto 4, 3) := by decide +kernel
theorem dX8_chance_55 : decode cX8_chance 55 = .ok (.iconst 0, 1) := by decide +kernel
theorem dX8_chance_56 : decode cX8_chance 56 = .ok (.iadd, 1) := by decide +kernel
theorem dX8_chance_57 : decode cX8_chance 57 = .ok (.istore 5, 2) := by decide +kernel
theorem dX8_chance_59 : decode cX8_chance 59 = .ok (.aload_n 0, 1) := by decide +kernel
theorem dX8_chance_60 : decode cX8_chance 60 = .ok (.iload_n 2, 1) := by decide +kernel
theorem dX8_chance_61 : decode cX8_chance 61 = .ok (.invokevirtual 181, 3) := by decide +kernel
theorem dX8_chance_64 : decode cX8_chance 64 = .ok (.iinc 6 1, 3) := by decide +kernel
theorem dX8_chance_67 : decode cX8_chance 67 = .ok (.goto (-40), 3) := by decide +kernel
theorem dX8_chance_70 : decode cX8_chance 70 = .ok (.iload 5, 2) := by decide +kernel
theorem dX8_chance_72 : decode cX8_chance 72 = .ok (.ireturn, 1) := by decide +kernel
end
section
theorem dL_law_0 : decode cL_law 0 = .ok (.new 7, 3) := by decide +kernel
theorem dL_law_3 : decode cL_law 3 = .ok (.dup, 1) := by decide +kernel
theorem dL_law_4 : decode cL_law 4 = .ok (.invokespecial 9, 3) := by decide +kernel
theorem dL_law_7 : decode cL_law 7 = .ok (.astore_n 1, 1) := by decide +kernel
theorem dL_law_8 : decode cL_law 8 = .ok (.new 10, 3) := by decide +kernel
theorem dL_law_11 : decode cL_law 11 = .ok (.dup, 1) := by decide +kernel
theorem dL_law_12 : decode cL_law 12 = .ok (.invokespecial 12, 3) := by decide +kernel
theorem dL_law_15 : decode cL_law 15 = .ok (.astore_n 2, 1) := by decide +kernel
theorem dL_law_16 : decode cL_law 16 = .ok (.iconst 0, 1) := by decide +kernel
theorem dL_law_17 : decode cL_law 17 = .ok (.istore_n 3, 1) := by decide +kernel
theorem dL_law_18 : decode cL_law 18 = .ok (.iload_n 3, 1) := by decide +kernel
theorem dL_law_19 : decode cL_law 19 = .ok (.aload_n 0, 1) := by decide +kernel
theorem dL_law_20 : decode cL_law 20 = .ok (.arraylength, 1) := by decide +kernel
theorem dL_law_21 : decode cL_law 21 = .ok (.iconst 5, 1) := by decide +kernel
theorem dL_law_22 : decode cL_law 22 = .ok (.isub, 1) := by decide +kernel
theorem dL_law_23 : decode cL_law 23 = .ok (.if_icmp .gt 772, 3) := by decide +kernel
theorem dL_law_26 : decode cL_law 26 = .ok (.aload_n 0, 1) := by decide +kernel
theorem dL_law_27 : decode cL_law 27 = .ok (.iload_n 3, 1) := by decide +kernel
theorem dL_law_28 : decode cL_law 28 = .ok (.iaload, 1) := by decide +kernel
theorem dL_law_29 : decode cL_law 29 = .ok (.bipush 31, 2) := by decide +kernel
theorem dL_law_31 : decode cL_law 31 = .ok (.iand, 1) := by decide +kernel
theorem dL_law_32 : decode cL_law 32 = .ok (.tableswitch 757 0 19 #[96, 159, 202, 225, 259, 292, 315, 338, 361, 394, 427, 460, 493, 546, 579, 622, 655, 678, 701, 724], 96) := by decide +kernel
theorem dL_law_128 : decode cL_law 128 = .ok (.aload_n 1, 1) := by decide +kernel
theorem dL_law_129 : decode cL_law 129 = .ok (.aload_n 0, 1) := by decide +kernel
theorem dL_law_130 : decode cL_law 130 = .ok (.iload_n 3, 1) := by decide +kernel
theorem dL_law_131 : decode cL_law 131 = .ok (.iconst 1, 1) := by decide +kernel
theorem dL_law_132 : decode cL_law 132 = .ok (.iadd, 1) := by decide +kernel
theorem dL_law_133 : decode cL_law 133 = .ok (.iaload, 1) := by decide +kernel
theorem dL_law_134 : decode cL_law 134 = .ok (.i2l, 1) := by decide +kernel
theorem dL_law_135 : decode cL_law 135 = .ok (.bipush 32, 2) := by decide +kernel
theorem dL_law_137 : decode cL_law 137 = .ok (.lshl, 1) := by decide +kernel
theorem dL_law_138 : decode cL_law 138 = .ok (.aload_n 0, 1) := by decide +kernel
theorem dL_law_139 : decode cL_law 139 = .ok (.iload_n 3, 1) := by decide +kernel
theorem dL_law_140 : decode cL_law 140 = .ok (.iconst 2, 1) := by decide +kernel
theorem dL_law_141 : decode cL_law 141 = .ok (.iadd, 1) := by decide +kernel
theorem dL_law_142 : decode cL_law 142 = .ok (.iaload, 1) := by decide +kernel
theorem dL_law_143 : decode cL_law 143 = .ok (.i2l, 1) := by decide +kernel
theorem dL_law_144 : decode cL_law 144 = .ok (.ldc2_w 13, 3) := by decide +kernel
theorem dL_law_147 : decode cL_law 147 = .ok (.land, 1) := by decide +kernel
theorem dL_law_148 : decode cL_law 148 = .ok (.lor, 1) := by decide +kernel
theorem dL_law_149 : decode cL_law 149 = .ok (.aload_n 0, 1) := by decide +kernel
theorem dL_law_150 : decode cL_law 150 = .ok (.iload_n 3, 1) := by decide +kernel
theorem dL_law_151 : decode cL_law 151 = .ok (.iconst 3, 1) := by decide +kernel
theorem dL_law_152 : decode cL_law 152 = .ok (.iadd, 1) := by decide +kernel
theorem dL_law_153 : decode cL_law 153 = .ok (.iaload, 1) := by decide +kernel
theorem dL_law_154 : decode cL_law 154 = .ok (.invokevirtual 15, 3) := by decide +kernel
theorem dL_law_157 : decode cL_law 157 = .ok (.aload_n 2, 1) := by decide +kernel
theorem dL_law_158 : decode cL_law 158 = .ok (.aload_n 0, 1) := by decide +kernel
theorem dL_law_159 : decode cL_law 159 = .ok (.iload_n 3, 1) := by decide +kernel
theorem dL_law_160 : decode cL_law 160 = .ok (.iconst 1, 1) := by decide +kernel
theorem dL_law_161 : decode cL_law 161 = .ok (.iadd, 1) := by decide +kernel
theorem dL_law_162 : decode cL_law 162 = .ok (.iaload, 1) := by decide +kernel
theorem dL_law_163 : decode cL_law 163 = .ok (.i2l, 1) := by decide +kernel
theorem dL_law_164 : decode cL_law 164 = .ok (.bipush 32, 2) := by decide +kernel
theorem dL_law_166 : decode cL_law 166 = .ok (.lshl, 1) := by decide +kernel
theorem dL_law_167 : decode cL_law 167 = .ok (.aload_n 0, 1) := by decide +kernel
theorem dL_law_168 : decode cL_law 168 = .ok (.iload_n 3, 1) := by decide +kernel
theorem dL_law_169 : decode cL_law 169 = .ok (.iconst 2, 1) := by decide +kernel
theorem dL_law_170 : decode cL_law 170 = .ok (.iadd, 1) := by decide +kernel
theorem dL_law_171 : decode cL_law 171 = .ok (.iaload, 1) := by decide +kernel
theorem dL_law_172 : decode cL_law 172 = .ok (.i2l, 1) := by decide +kernel
theorem dL_law_173 : decode cL_law 173 = .ok (.ldc2_w 13, 3) := by decide +kernel
theorem dL_law_176 : decode cL_law 176 = .ok (.land, 1) := by decide +kernel
theorem dL_law_177 : decode cL_law 177 = .ok (.lor, 1) := by decide +kernel
theorem dL_law_178 : decode cL_law 178 = .ok (.aload_n 0, 1) := by decide +kernel
theorem dL_law_179 : decode cL_law 179 = .ok (.iload_n 3, 1) := by decide +kernel
theorem dL_law_180 : decode cL_law 180 = .ok (.iconst 3, 1) := by decide +kernel
theorem dL_law_181 : decode cL_law 181 = .ok (.iadd, 1) := by decide +kernel
theorem dL_law_182 : decode cL_law 182 = .ok (.iaload, 1) := by decide +kernel
theorem dL_law_183 : decode cL_law 183 = .ok (.invokevirtual 19, 3) := by decide +kernel
theorem dL_law_186 : decode cL_law 186 = .ok (.if_icmp .eq 603, 3) := by decide +kernel
theorem dL_law_189 : decode cL_law 189 = .ok (.iconst 0, 1) := by decide +kernel
theorem dL_law_190 : decode cL_law 190 = .ok (.ireturn, 1) := by decide +kernel
theorem dL_law_191 : decode cL_law 191 = .ok (.aload_n 1, 1) := by decide +kernel
theorem dL_law_192 : decode cL_law 192 = .ok (.aload_n 0, 1) := by decide +kernel
theorem dL_law_193 : decode cL_law 193 = .ok (.iload_n 3, 1) := by decide +kernel
theorem dL_law_194 : decode cL_law 194 = .ok (.iconst 1, 1) := by decide +kernel
theorem dL_law_195 : decode cL_law 195 = .ok (.iadd, 1) := by decide +kernel
theorem dL_law_196 : decode cL_law 196 = .ok (.iaload, 1) := by decide +kernel
theorem dL_law_197 : decode cL_law 197 = .ok (.aload_n 0, 1) := by decide +kernel
theorem dL_law_198 : decode cL_law 198 = .ok (.iload_n 3, 1) := by decide +kernel
theorem dL_law_199 : decode cL_law 199 = .ok (.iconst 2, 1) := by decide +kernel
theorem dL_law_200 : decode cL_law 200 = .ok (.iadd, 1) := by decide +kernel
theorem dL_law_201 : decode cL_law 201 = .ok (.iaload, 1) := by decide +kernel
theorem dL_law_202 : decode cL_law 202 = .ok (.aload_n 0, 1) := by decide +kernel
theorem dL_law_203 : decode cL_law 203 = .ok (.iload_n 3, 1) := by decide +kernel
theorem dL_law_204 : decode cL_law 204 = .ok (.iconst 3, 1) := by decide +kernel
theorem dL_law_205 : decode cL_law 205 = .ok (.iadd, 1) := by decide +kernel
theorem dL_law_206 : decode cL_law 206 = .ok (.iaload, 1) := by decide +kernel
theorem dL_law_207 : decode cL_law 207 = .ok (.invokevirtual 20, 3) := by decide +kernel
theorem dL_law_210 : decode cL_law 210 = .ok (.aload_n 2, 1) := by decide +kernel
theorem dL_law_211 : decode cL_law 211 = .ok (.aload_n 0, 1) := by decide +kernel
theorem dL_law_212 : decode cL_law 212 = .ok (.iload_n 3, 1) := by decide +kernel
theorem dL_law_213 : decode cL_law 213 = .ok (.iconst 1, 1) := by decide +kernel
theorem dL_law_214 : decode cL_law 214 = .ok (.iadd, 1) := by decide +kernel
theorem dL_law_215 : decode cL_law 215 = .ok (.iaload, 1) := by decide +kernel
theorem dL_law_216 : decode cL_law 216 = .ok (.aload_n 0, 1) := by decide +kernel
theorem dL_law_217 : decode cL_law 217 = .ok (.iload_n 3, 1) := by decide +kernel
theorem dL_law_218 : decode cL_law 218 = .ok (.iconst 2, 1) := by decide +kernel
theorem dL_law_219 : decode cL_law 219 = .ok (.iadd, 1) := by decide +kernel
theorem dL_law_220 : decode cL_law 220 = .ok (.iaload, 1) := by decide +kernel
theorem dL_law_221 : decode cL_law 221 = .ok (.aload_n 0, 1) := by decide +kernel
theorem dL_law_222 : decode cL_law 222 = .ok (.iload_n 3, 1) := by decide +kernel
theorem dL_law_223 : decode cL_law 223 = .ok (.iconst 3, 1) := by decide +kernel
theorem dL_law_224 : decode cL_law 224 = .ok (.iadd, 1) := by decide +kernel
theorem dL_law_225 : decode cL_law 225 = .ok (.iaload, 1) := by decide +kernel
theorem dL_law_226 : decode cL_law 226 = .ok (.invokevirtual 24, 3) := by decide +kernel
theorem dL_law_229 : decode cL_law 229 = .ok (.if_icmp .eq 560, 3) := by decide +kernel
theorem dL_law_232 : decode cL_law 232 = .ok (.iconst 0, 1) := by decide +kernel
theorem dL_law_233 : decode cL_law 233 = .ok (.ireturn, 1) := by decide +kernel
theorem dL_law_234 : decode cL_law 234 = .ok (.aload_n 1, 1) := by decide +kernel
theorem dL_law_235 : decode cL_law 235 = .ok (.aload_n 0, 1) := by decide +kernel
theorem dL_law_236 : decode cL_law 236 = .ok (.iload_n 3, 1) := by decide +kernel
theorem dL_law_237 : decode cL_law 237 = .ok (.iconst 1, 1) := by decide +kernel
theorem dL_law_238 : decode cL_law 238 = .ok (.iadd, 1) := by decide +kernel
theorem dL_law_239 : decode cL_law 239 = .ok (.iaload, 1) := by decide +kernel
theorem dL_law_240 : decode cL_law 240 = .ok (.invokevirtual 25, 3) := by decide +kernel
theorem dL_law_243 : decode cL_law 243 = .ok (.aload_n 2, 1) := by decide +kernel
theorem dL_law_244 : decode cL_law 244 = .ok (.aload_n 0, 1) := by decide +kernel
theorem dL_law_245 : decode cL_law 245 = .ok (.iload_n 3, 1) := by decide +kernel
theorem dL_law_246 : decode cL_law 246 = .ok (.iconst 1, 1) := by decide +kernel
theorem dL_law_247 : decode cL_law 247 = .ok (.iadd, 1) := by decide +kernel
theorem dL_law_248 : decode cL_law 248 = .ok (.iaload, 1) := by decide +kernel
theorem dL_law_249 : decode cL_law 249 = .ok (.invokevirtual 29, 3) := by decide +kernel
theorem dL_law_252 : decode cL_law 252 = .ok (.if_icmp .eq 537, 3) := by decide +kernel
theorem dL_law_255 : decode cL_law 255 = .ok (.iconst 0, 1) := by decide +kernel
theorem dL_law_256 : decode cL_law 256 = .ok (.ireturn, 1) := by decide +kernel
theorem dL_law_257 : decode cL_law 257 = .ok (.aload_n 1, 1) := by decide +kernel
theorem dL_law_258 : decode cL_law 258 = .ok (.aload_n 0, 1) := by decide +kernel
theorem dL_law_259 : decode cL_law 259 = .ok (.iload_n 3, 1) := by decide +kernel
theorem dL_law_260 : decode cL_law 260 = .ok (.iconst 1, 1) := by decide +kernel
theorem dL_law_261 : decode cL_law 261 = .ok (.iadd, 1) := by decide +kernel
theorem dL_law_262 : decode cL_law 262 = .ok (.iaload, 1) := by decide +kernel
theorem dL_law_263 : decode cL_law 263 = .ok (.aload_n 0, 1) := by decide +kernel
theorem dL_law_264 : decode cL_law 264 = .ok (.iload_n 3, 1) := by decide +kernel
theorem dL_law_265 : decode cL_law 265 = .ok (.iconst 2, 1) := by decide +kernel
theorem dL_law_266 : decode cL_law 266 = .ok (.iadd, 1) := by decide +kernel
theorem dL_law_267 : decode cL_law 267 = .ok (.iaload, 1) := by decide +kernel
theorem dL_law_268 : decode cL_law 268 = .ok (.invokevirtual 30, 3) := by decide +kernel
theorem dL_law_271 : decode cL_law 271 = .ok (.aload_n 2, 1) := by decide +kernel
theorem dL_law_272 : decode cL_law 272 = .ok (.aload_n 0, 1) := by decide +kernel
theorem dL_law_273 : decode cL_law 273 = .ok (.iload_n 3, 1) := by decide +kernel
theorem dL_law_274 : decode cL_law 274 = .ok (.iconst 1, 1) := by decide +kernel
theorem dL_law_275 : decode cL_law 275 = .ok (.iadd, 1) := by decide +kernel
theorem dL_law_276 : decode cL_law 276 = .ok (.iaload, 1) := by decide +kernel
theorem dL_law_277 : decode cL_law 277 = .ok (.aload_n 0, 1) := by decide +kernel
theorem dL_law_278 : decode cL_law 278 = .ok (.iload_n 3, 1) := by decide +kernel
theorem dL_law_279 : decode cL_law 279 = .ok (.iconst 2, 1) := by decide +kernel
theorem dL_law_280 : decode cL_law 280 = .ok (.iadd, 1) := by decide +kernel
theorem dL_law_281 : decode cL_law 281 = .ok (.iaload, 1) := by decide +kernel
theorem dL_law_282 : decode cL_law 282 = .ok (.invokevirtual 34, 3) := by decide +kernel
theorem dL_law_285 : decode cL_law 285 = .ok (.lcmp, 1) := by decide +kernel
theorem dL_law_286 : decode cL_law 286 = .ok (.ifCond .eq 503, 3) := by decide +kernel
theorem dL_law_289 : decode cL_law 289 = .ok (.iconst 0, 1) := by decide +kernel
theorem dL_law_290 : decode cL_law 290 = .ok (.ireturn, 1) := by decide +kernel
theorem dL_law_291 : decode cL_law 291 = .ok (.aload_n 1, 1) := by decide +kernel
theorem dL_law_292 : decode cL_law 292 = .ok (.aload_n 0, 1) := by decide +kernel
theorem dL_law_293 : decode cL_law 293 = .ok (.iload_n 3, 1) := by decide +kernel
theorem dL_law_294 : decode cL_law 294 = .ok (.iconst 1, 1) := by decide +kernel
theorem dL_law_295 : decode cL_law 295 = .ok (.iadd, 1) := by decide +kernel
theorem dL_law_296 : decode cL_law 296 = .ok (.iaload, 1) := by decide +kernel
theorem dL_law_297 : decode cL_law 297 = .ok (.aload_n 0, 1) := by decide +kernel
theorem dL_law_298 : decode cL_law 298 = .ok (.iload_n 3, 1) := by decide +kernel
theorem dL_law_299 : decode cL_law 299 = .ok (.iconst 2, 1) := by decide +kernel
theorem dL_law_300 : decode cL_law 300 = .ok (.iadd, 1) := by decide +kernel
theorem dL_law_301 : decode cL_law 301 = .ok (.iaload, 1) := by decide +kernel
theorem dL_law_302 : decode cL_law 302 = .ok (.invokevirtual 35, 3) := by decide +kernel
theorem dL_law_305 : decode cL_law 305 = .ok (.aload_n 2, 1) := by decide +kernel
theorem dL_law_306 : decode cL_law 306 = .ok (.aload_n 0, 1) := by decide +kernel
theorem dL_law_307 : decode cL_law 307 = .ok (.iload_n 3, 1) := by decide +kernel
theorem dL_law_308 : decode cL_law 308 = .ok (.iconst 1, 1) := by decide +kernel
theorem dL_law_309 : decode cL_law 309 = .ok (.iadd, 1) := by decide +kernel
theorem dL_law_310 : decode cL_law 310 = .ok (.iaload, 1) := by decide +kernel
theorem dL_law_311 : decode cL_law 311 = .ok (.aload_n 0, 1) := by decide +kernel
theorem dL_law_312 : decode cL_law 312 = .ok (.iload_n 3, 1) := by decide +kernel
theorem dL_law_313 : decode cL_law 313 = .ok (.iconst 2, 1) := by decide +kernel
theorem dL_law_314 : decode cL_law 314 = .ok (.iadd, 1) := by decide +kernel
theorem dL_law_315 : decode cL_law 315 = .ok (.iaload, 1) := by decide +kernel
theorem dL_law_316 : decode cL_law 316 = .ok (.invokevirtual 39, 3) := by decide +kernel
theorem dL_law_319 : decode cL_law 319 = .ok (.if_icmp .eq 470, 3) := by decide +kernel
theorem dL_law_322 : decode cL_law 322 = .ok (.iconst 0, 1) := by decide +kernel
theorem dL_law_323 : decode cL_law 323 = .ok (.ireturn, 1) := by decide +kernel
theorem dL_law_324 : decode cL_law 324 = .ok (.aload_n 1, 1) := by decide +kernel
theorem dL_law_325 : decode cL_law 325 = .ok (.aload_n 0, 1) := by decide +kernel
theorem dL_law_326 : decode cL_law 326 = .ok (.iload_n 3, 1) := by decide +kernel
theorem dL_law_327 : decode cL_law 327 = .ok (.iconst 1, 1) := by decide +kernel
theorem dL_law_328 : decode cL_law 328 = .ok (.iadd, 1) := by decide +kernel
theorem dL_law_329 : decode cL_law 329 = .ok (.iaload, 1) := by decide +kernel
theorem dL_law_330 : decode cL_law 330 = .ok (.invokevirtual 40, 3) := by decide +kernel
theorem dL_law_333 : decode cL_law 333 = .ok (.aload_n 2, 1) := by decide +kernel
theorem dL_law_334 : decode cL_law 334 = .ok (.aload_n 0, 1) := by decide +kernel
theorem dL_law_335 : decode cL_law 335 = .ok (.iload_n 3, 1) := by decide +kernel
theorem dL_law_336 : decode cL_law 336 = .ok (.iconst 1, 1) := by decide +kernel
theorem dL_law_337 : decode cL_law 337 = .ok (.iadd, 1) := by decide +kernel
theorem dL_law_338 : decode cL_law 338 = .ok (.iaload, 1) := by decide +kernel
theorem dL_law_339 : decode cL_law 339 = .ok (.invokevirtual 43, 3) := by decide +kernel
theorem dL_law_342 : decode cL_law 342 = .ok (.if_icmp .eq 447, 3) := by decide +kernel
theorem dL_law_345 : decode cL_law 345 = .ok (.iconst 0, 1) := by decide +kernel
theorem dL_law_346 : decode cL_law 346 = .ok (.ireturn, 1) := by decide +kernel
theorem dL_law_347 : decode cL_law 347 = .ok (.aload_n 1, 1) := by decide +kernel
theorem dL_law_348 : decode cL_law 348 = .ok (.aload_n 0, 1) := by decide +kernel
theorem dL_law_349 : decode cL_law 349 = .ok (.iload_n 3, 1) := by decide +kernel
theorem dL_law_350 : decode cL_law 350 = .ok (.iconst 1, 1) := by decide +kernel
theorem dL_law_351 : decode cL_law 351 = .ok (.iadd, 1) := by decide +kernel
theorem dL_law_352 : decode cL_law 352 = .ok (.iaload, 1) := by decide +kernel
theorem dL_law_353 : decode cL_law 353 = .ok (.invokevirtual 44, 3) := by decide +kernel
theorem dL_law_356 : decode cL_law 356 = .ok (.aload_n 2, 1) := by decide +kernel
theorem dL_law_357 : decode cL_law 357 = .ok (.aload_n 0, 1) := by decide +kernel
theorem dL_law_358 : decode cL_law 358 = .ok (.iload_n 3, 1) := by decide +kernel
theorem dL_law_359 : decode cL_law 359 = .ok (.iconst 1, 1) := by decide +kernel
theorem dL_law_360 : decode cL_law 360 = .ok (.iadd, 1) := by decide +kernel
theorem dL_law_361 : decode cL_law 361 = .ok (.iaload, 1) := by decide +kernel
theorem dL_law_362 : decode cL_law 362 = .ok (.invokevirtual 47, 3) := by decide +kernel
theorem dL_law_365 : decode cL_law 365 = .ok (.if_icmp .eq 424, 3) := by decide +kernel
theorem dL_law_368 : decode cL_law 368 = .ok (.iconst 0, 1) := by decide +kernel
theorem dL_law_369 : decode cL_law 369 = .ok (.ireturn, 1) := by decide +kernel
theorem dL_law_370 : decode cL_law 370 = .ok (.aload_n 1, 1) := by decide +kernel
theorem dL_law_371 : decode cL_law 371 = .ok (.aload_n 0, 1) := by decide +kernel
theorem dL_law_372 : decode cL_law 372 = .ok (.iload_n 3, 1) := by decide +kernel
theorem dL_law_373 : decode cL_law 373 = .ok (.iconst 1, 1) := by decide +kernel
theorem dL_law_374 : decode cL_law 374 = .ok (.iadd, 1) := by decide +kernel
theorem dL_law_375 : decode cL_law 375 = .ok (.iaload, 1) := by decide +kernel
theorem dL_law_376 : decode cL_law 376 = .ok (.invokevirtual 48, 3) := by decide +kernel
theorem dL_law_379 : decode cL_law 379 = .ok (.aload_n 2, 1) := by decide +kernel
theorem dL_law_380 : decode cL_law 380 = .ok (.aload_n 0, 1) := by decide +kernel
theorem dL_law_381 : decode cL_law 381 = .ok (.iload_n 3, 1) := by decide +kernel
theorem dL_law_382 : decode cL_law 382 = .ok (.iconst 1, 1) := by decide +kernel
theorem dL_law_383 : decode cL_law 383 = .ok (.iadd, 1) := by decide +kernel
theorem dL_law_384 : decode cL_law 384 = .ok (.iaload, 1) := by decide +kernel
theorem dL_law_385 : decode cL_law 385 = .ok (.invokevirtual 51, 3) := by decide +kernel
theorem dL_law_388 : decode cL_law 388 = .ok (.if_icmp .eq 401, 3) := by decide +kernel
theorem dL_law_391 : decode cL_law 391 = .ok (.iconst 0, 1) := by decide +kernel
theorem dL_law_392 : decode cL_law 392 = .ok (.ireturn, 1) := by decide +kernel
theorem dL_law_393 : decode cL_law 393 = .ok (.aload_n 1, 1) := by decide +kernel
theorem dL_law_394 : decode cL_law 394 = .ok (.aload_n 0, 1) := by decide +kernel
theorem dL_law_395 : decode cL_law 395 = .ok (.iload_n 3, 1) := by decide +kernel
theorem dL_law_396 : decode cL_law 396 = .ok (.iconst 1, 1) := by decide +kernel
theorem dL_law_397 : decode cL_law 397 = .ok (.iadd, 1) := by decide +kernel
theorem dL_law_398 : decode cL_law 398 = .ok (.iaload, 1) := by decide +kernel
theorem dL_law_399 : decode cL_law 399 = .ok (.aload_n 0, 1) := by decide +kernel
theorem dL_law_400 : decode cL_law 400 = .ok (.iload_n 3, 1) := by decide +kernel
theorem dL_law_401 : decode cL_law 401 = .ok (.iconst 2, 1) := by decide +kernel
theorem dL_law_402 : decode cL_law 402 = .ok (.iadd, 1) := by decide +kernel
theorem dL_law_403 : decode cL_law 403 = .ok (.iaload, 1) := by decide +kernel
theorem dL_law_404 : decode cL_law 404 = .ok (.invokevirtual 52, 3) := by decide +kernel
theorem dL_law_407 : decode cL_law 407 = .ok (.aload_n 2, 1) := by decide +kernel
theorem dL_law_408 : decode cL_law 408 = .ok (.aload_n 0, 1) := by decide +kernel
theorem dL_law_409 : decode cL_law 409 = .ok (.iload_n 3, 1) := by decide +kernel
theorem dL_law_410 : decode cL_law 410 = .ok (.iconst 1, 1) := by decide +kernel
theorem dL_law_411 : decode cL_law 411 = .ok (.iadd, 1) := by decide +kernel
theorem dL_law_412 : decode cL_law 412 = .ok (.iaload, 1) := by decide +kernel
theorem dL_law_413 : decode cL_law 413 = .ok (.aload_n 0, 1) := by decide +kernel
theorem dL_law_414 : decode cL_law 414 = .ok (.iload_n 3, 1) := by decide +kernel
theorem dL_law_415 : decode cL_law 415 = .ok (.iconst 2, 1) := by decide +kernel
theorem dL_law_416 : decode cL_law 416 = .ok (.iadd, 1) := by decide +kernel
theorem dL_law_417 : decode cL_law 417 = .ok (.iaload, 1) := by decide +kernel
theorem dL_law_418 : decode cL_law 418 = .ok (.invokevirtual 55, 3) := by decide +kernel
theorem dL_law_421 : decode cL_law 421 = .ok (.if_icmp .eq 368, 3) := by decide +kernel
theorem dL_law_424 : decode cL_law 424 = .ok (.iconst 0, 1) := by decide +kernel
theorem dL_law_425 : decode cL_law 425 = .ok (.ireturn, 1) := by decide +kernel
theorem dL_law_426 : decode cL_law 426 = .ok (.aload_n 1, 1) := by decide +kernel
theorem dL_law_427 : decode cL_law 427 = .ok (.aload_n 0, 1) := by decide +kernel
theorem dL_law_428 : decode cL_law 428 = .ok (.iload_n 3, 1) := by decide +kernel
theorem dL_law_429 : decode cL_law 429 = .ok (.iconst 1, 1) := by decide +kernel
theorem dL_law_430 : decode cL_law 430 = .ok (.iadd, 1) := by decide +kernel
theorem dL_law_431 : decode cL_law 431 = .ok (.iaload, 1) := by decide +kernel
theorem dL_law_432 : decode cL_law 432 = .ok (.aload_n 0, 1) := by decide +kernel
theorem dL_law_433 : decode cL_law 433 = .ok (.iload_n 3, 1) := by decide +kernel
theorem dL_law_434 : decode cL_law 434 = .ok (.iconst 2, 1) := by decide +kernel
theorem dL_law_435 : decode cL_law 435 = .ok (.iadd, 1) := by decide +kernel
theorem dL_law_436 : decode cL_law 436 = .ok (.iaload, 1) := by decide +kernel
theorem dL_law_437 : decode cL_law 437 = .ok (.invokevirtual 56, 3) := by decide +kernel
theorem dL_law_440 : decode cL_law 440 = .ok (.aload_n 2, 1) := by decide +kernel
theorem dL_law_441 : decode cL_law 441 = .ok (.aload_n 0, 1) := by decide +kernel
theorem dL_law_442 : decode cL_law 442 = .ok (.iload_n 3, 1) := by decide +kernel
theorem dL_law_443 : decode cL_law 443 = .ok (.iconst 1, 1) := by decide +kernel
theorem dL_law_444 : decode cL_law 444 = .ok (.iadd, 1) := by decide +kernel
theorem dL_law_445 : decode cL_law 445 = .ok (.iaload, 1) := by decide +kernel
theorem dL_law_446 : decode cL_law 446 = .ok (.aload_n 0, 1) := by decide +kernel
theorem dL_law_447 : decode cL_law 447 = .ok (.iload_n 3, 1) := by decide +kernel
theorem dL_law_448 : decode cL_law 448 = .ok (.iconst 2, 1) := by decide +kernel
theorem dL_law_449 : decode cL_law 449 = .ok (.iadd, 1) := by decide +kernel
theorem dL_law_450 : decode cL_law 450 = .ok (.iaload, 1) := by decide +kernel
theorem dL_law_451 : decode cL_law 451 = .ok (.invokevirtual 59, 3) := by decide +kernel
theorem dL_law_454 : decode cL_law 454 = .ok (.if_icmp .eq 335, 3) := by decide +kernel
theorem dL_law_457 : decode cL_law 457 = .ok (.iconst 0, 1) := by decide +kernel
theorem dL_law_458 : decode cL_law 458 = .ok (.ireturn, 1) := by decide +kernel
theorem dL_law_459 : decode cL_law 459 = .ok (.aload_n 1, 1) := by decide +kernel
theorem dL_law_460 : decode cL_law 460 = .ok (.aload_n 0, 1) := by decide +kernel
theorem dL_law_461 : decode cL_law 461 = .ok (.iload_n 3, 1) := by decide +kernel
theorem dL_law_462 : decode cL_law 462 = .ok (.iconst 1, 1) := by decide +kernel
theorem dL_law_463 : decode cL_law 463 = .ok (.iadd, 1) := by decide +kernel
theorem dL_law_464 : decode cL_law 464 = .ok (.iaload, 1) := by decide +kernel
theorem dL_law_465 : decode cL_law 465 = .ok (.aload_n 0, 1) := by decide +kernel
theorem dL_law_466 : decode cL_law 466 = .ok (.iload_n 3, 1) := by decide +kernel
theorem dL_law_467 : decode cL_law 467 = .ok (.iconst 2, 1) := by decide +kernel
theorem dL_law_468 : decode cL_law 468 = .ok (.iadd, 1) := by decide +kernel
theorem dL_law_469 : decode cL_law 469 = .ok (.iaload, 1) := by decide +kernel
theorem dL_law_470 : decode cL_law 470 = .ok (.invokevirtual 60, 3) := by decide +kernel
theorem dL_law_473 : decode cL_law 473 = .ok (.aload_n 2, 1) := by decide +kernel
theorem dL_law_474 : decode cL_law 474 = .ok (.aload_n 0, 1) := by decide +kernel
theorem dL_law_475 : decode cL_law 475 = .ok (.iload_n 3, 1) := by decide +kernel
theorem dL_law_476 : decode cL_law 476 = .ok (.iconst 1, 1) := by decide +kernel
theorem dL_law_477 : decode cL_law 477 = .ok (.iadd, 1) := by decide +kernel
theorem dL_law_478 : decode cL_law 478 = .ok (.iaload, 1) := by decide +kernel
theorem dL_law_479 : decode cL_law 479 = .ok (.aload_n 0, 1) := by decide +kernel
theorem dL_law_480 : decode cL_law 480 = .ok (.iload_n 3, 1) := by decide +kernel
theorem dL_law_481 : decode cL_law 481 = .ok (.iconst 2, 1) := by decide +kernel
theorem dL_law_482 : decode cL_law 482 = .ok (.iadd, 1) := by decide +kernel
theorem dL_law_483 : decode cL_law 483 = .ok (.iaload, 1) := by decide +kernel
theorem dL_law_484 : decode cL_law 484 = .ok (.invokevirtual 63, 3) := by decide +kernel
theorem dL_law_487 : decode cL_law 487 = .ok (.if_icmp .eq 302, 3) := by decide +kernel
theorem dL_law_490 : decode cL_law 490 = .ok (.iconst 0, 1) := by decide +kernel
theorem dL_law_491 : decode cL_law 491 = .ok (.ireturn, 1) := by decide +kernel
theorem dL_law_492 : decode cL_law 492 = .ok (.aload_n 1, 1) := by decide +kernel
theorem dL_law_493 : decode cL_law 493 = .ok (.aload_n 0, 1) := by decide +kernel
theorem dL_law_494 : decode cL_law 494 = .ok (.iload_n 3, 1) := by decide +kernel
theorem dL_law_495 : decode cL_law 495 = .ok (.iconst 1, 1) := by decide +kernel
theorem dL_law_496 : decode cL_law 496 = .ok (.iadd, 1) := by decide +kernel
theorem dL_law_497 : decode cL_law 497 = .ok (.iaload, 1) := by decide +kernel
theorem dL_law_498 : decode cL_law 498 = .ok (.aload_n 0, 1) := by decide +kernel
theorem dL_law_499 : decode cL_law 499 = .ok (.iload_n 3, 1) := by decide +kernel
theorem dL_law_500 : decode cL_law 500 = .ok (.iconst 2, 1) := by decide +kernel
theorem dL_law_501 : decode cL_law 501 = .ok (.iadd, 1) := by decide +kernel
theorem dL_law_502 : decode cL_law 502 = .ok (.iaload, 1) := by decide +kernel
theorem dL_law_503 : decode cL_law 503 = .ok (.invokevirtual 64, 3) := by decide +kernel
theorem dL_law_506 : decode cL_law 506 = .ok (.aload_n 2, 1) := by decide +kernel
theorem dL_law_507 : decode cL_law 507 = .ok (.aload_n 0, 1) := by decide +kernel
theorem dL_law_508 : decode cL_law 508 = .ok (.iload_n 3, 1) := by decide +kernel
theorem dL_law_509 : decode cL_law 509 = .ok (.iconst 1, 1) := by decide +kernel
theorem dL_law_510 : decode cL_law 510 = .ok (.iadd, 1) := by decide +kernel
theorem dL_law_511 : decode cL_law 511 = .ok (.iaload, 1) := by decide +kernel
theorem dL_law_512 : decode cL_law 512 = .ok (.aload_n 0, 1) := by decide +kernel
theorem dL_law_513 : decode cL_law 513 = .ok (.iload_n 3, 1) := by decide +kernel
theorem dL_law_514 : decode cL_law 514 = .ok (.iconst 2, 1) := by decide +kernel
theorem dL_law_515 : decode cL_law 515 = .ok (.iadd, 1) := by decide +kernel
theorem dL_law_516 : decode cL_law 516 = .ok (.iaload, 1) := by decide +kernel
theorem dL_law_517 : decode cL_law 517 = .ok (.invokevirtual 67, 3) := by decide +kernel
theorem dL_law_520 : decode cL_law 520 = .ok (.if_icmp .eq 269, 3) := by decide +kernel
theorem dL_law_523 : decode cL_law 523 = .ok (.iconst 0, 1) := by decide +kernel
theorem dL_law_524 : decode cL_law 524 = .ok (.ireturn, 1) := by decide +kernel
theorem dL_law_525 : decode cL_law 525 = .ok (.aload_n 1, 1) := by decide +kernel
theorem dL_law_526 : decode cL_law 526 = .ok (.aload_n 0, 1) := by decide +kernel
theorem dL_law_527 : decode cL_law 527 = .ok (.iload_n 3, 1) := by decide +kernel
theorem dL_law_528 : decode cL_law 528 = .ok (.iconst 1, 1) := by decide +kernel
theorem dL_law_529 : decode cL_law 529 = .ok (.iadd, 1) := by decide +kernel
theorem dL_law_530 : decode cL_law 530 = .ok (.iaload, 1) := by decide +kernel
theorem dL_law_531 : decode cL_law 531 = .ok (.aload_n 0, 1) := by decide +kernel
theorem dL_law_532 : decode cL_law 532 = .ok (.iload_n 3, 1) := by decide +kernel
theorem dL_law_533 : decode cL_law 533 = .ok (.iconst 2, 1) := by decide +kernel
theorem dL_law_534 : decode cL_law 534 = .ok (.iadd, 1) := by decide +kernel
theorem dL_law_535 : decode cL_law 535 = .ok (.iaload, 1) := by decide +kernel
theorem dL_law_536 : decode cL_law 536 = .ok (.aload_n 0, 1) := by decide +kernel
theorem dL_law_537 : decode cL_law 537 = .ok (.iload_n 3, 1) := by decide +kernel
theorem dL_law_538 : decode cL_law 538 = .ok (.iconst 3, 1) := by decide +kernel
theorem dL_law_539 : decode cL_law 539 = .ok (.iadd, 1) := by decide +kernel
theorem dL_law_540 : decode cL_law 540 = .ok (.iaload, 1) := by decide +kernel
theorem dL_law_541 : decode cL_law 541 = .ok (.aload_n 0, 1) := by decide +kernel
theorem dL_law_542 : decode cL_law 542 = .ok (.iload_n 3, 1) := by decide +kernel
theorem dL_law_543 : decode cL_law 543 = .ok (.iconst 4, 1) := by decide +kernel
theorem dL_law_544 : decode cL_law 544 = .ok (.iadd, 1) := by decide +kernel
theorem dL_law_545 : decode cL_law 545 = .ok (.iaload, 1) := by decide +kernel
theorem dL_law_546 : decode cL_law 546 = .ok (.invokevirtual 68, 3) := by decide +kernel
theorem dL_law_549 : decode cL_law 549 = .ok (.aload_n 2, 1) := by decide +kernel
theorem dL_law_550 : decode cL_law 550 = .ok (.aload_n 0, 1) := by decide +kernel
theorem dL_law_551 : decode cL_law 551 = .ok (.iload_n 3, 1) := by decide +kernel
theorem dL_law_552 : decode cL_law 552 = .ok (.iconst 1, 1) := by decide +kernel
theorem dL_law_553 : decode cL_law 553 = .ok (.iadd, 1) := by decide +kernel
theorem dL_law_554 : decode cL_law 554 = .ok (.iaload, 1) := by decide +kernel
theorem dL_law_555 : decode cL_law 555 = .ok (.aload_n 0, 1) := by decide +kernel
theorem dL_law_556 : decode cL_law 556 = .ok (.iload_n 3, 1) := by decide +kernel
theorem dL_law_557 : decode cL_law 557 = .ok (.iconst 2, 1) := by decide +kernel
theorem dL_law_558 : decode cL_law 558 = .ok (.iadd, 1) := by decide +kernel
theorem dL_law_559 : decode cL_law 559 = .ok (.iaload, 1) := by decide +kernel
theorem dL_law_560 : decode cL_law 560 = .ok (.aload_n 0, 1) := by decide +kernel
theorem dL_law_561 : decode cL_law 561 = .ok (.iload_n 3, 1) := by decide +kernel
theorem dL_law_562 : decode cL_law 562 = .ok (.iconst 3, 1) := by decide +kernel
theorem dL_law_563 : decode cL_law 563 = .ok (.iadd, 1) := by decide +kernel
theorem dL_law_564 : decode cL_law 564 = .ok (.iaload, 1) := by decide +kernel
theorem dL_law_565 : decode cL_law 565 = .ok (.aload_n 0, 1) := by decide +kernel
theorem dL_law_566 : decode cL_law 566 = .ok (.iload_n 3, 1) := by decide +kernel
theorem dL_law_567 : decode cL_law 567 = .ok (.iconst 4, 1) := by decide +kernel
theorem dL_law_568 : decode cL_law 568 = .ok (.iadd, 1) := by decide +kernel
theorem dL_law_569 : decode cL_law 569 = .ok (.iaload, 1) := by decide +kernel
theorem dL_law_570 : decode cL_law 570 = .ok (.invokevirtual 72, 3) := by decide +kernel
theorem dL_law_573 : decode cL_law 573 = .ok (.if_icmp .eq 216, 3) := by decide +kernel
theorem dL_law_576 : decode cL_law 576 = .ok (.iconst 0, 1) := by decide +kernel
theorem dL_law_577 : decode cL_law 577 = .ok (.ireturn, 1) := by decide +kernel
theorem dL_law_578 : decode cL_law 578 = .ok (.aload_n 1, 1) := by decide +kernel
theorem dL_law_579 : decode cL_law 579 = .ok (.aload_n 0, 1) := by decide +kernel
theorem dL_law_580 : decode cL_law 580 = .ok (.iload_n 3, 1) := by decide +kernel
theorem dL_law_581 : decode cL_law 581 = .ok (.iconst 1, 1) := by decide +kernel
theorem dL_law_582 : decode cL_law 582 = .ok (.iadd, 1) := by decide +kernel
theorem dL_law_583 : decode cL_law 583 = .ok (.iaload, 1) := by decide +kernel
theorem dL_law_584 : decode cL_law 584 = .ok (.aload_n 0, 1) := by decide +kernel
theorem dL_law_585 : decode cL_law 585 = .ok (.iload_n 3, 1) := by decide +kernel
theorem dL_law_586 : decode cL_law 586 = .ok (.iconst 2, 1) := by decide +kernel
theorem dL_law_587 : decode cL_law 587 = .ok (.iadd, 1) := by decide +kernel
theorem dL_law_588 : decode cL_law 588 = .ok (.iaload, 1) := by decide +kernel
theorem dL_law_589 : decode cL_law 589 = .ok (.invokevirtual 73, 3) := by decide +kernel
theorem dL_law_592 : decode cL_law 592 = .ok (.aload_n 2, 1) := by decide +kernel
theorem dL_law_593 : decode cL_law 593 = .ok (.aload_n 0, 1) := by decide +kernel
theorem dL_law_594 : decode cL_law 594 = .ok (.iload_n 3, 1) := by decide +kernel
theorem dL_law_595 : decode cL_law 595 = .ok (.iconst 1, 1) := by decide +kernel
theorem dL_law_596 : decode cL_law 596 = .ok (.iadd, 1) := by decide +kernel
theorem dL_law_597 : decode cL_law 597 = .ok (.iaload, 1) := by decide +kernel
theorem dL_law_598 : decode cL_law 598 = .ok (.aload_n 0, 1) := by decide +kernel
theorem dL_law_599 : decode cL_law 599 = .ok (.iload_n 3, 1) := by decide +kernel
theorem dL_law_600 : decode cL_law 600 = .ok (.iconst 2, 1) := by decide +kernel
theorem dL_law_601 : decode cL_law 601 = .ok (.iadd, 1) := by decide +kernel
theorem dL_law_602 : decode cL_law 602 = .ok (.iaload, 1) := by decide +kernel
theorem dL_law_603 : decode cL_law 603 = .ok (.invokevirtual 76, 3) := by decide +kernel
theorem dL_law_606 : decode cL_law 606 = .ok (.if_icmp .eq 183, 3) := by decide +kernel
theorem dL_law_609 : decode cL_law 609 = .ok (.iconst 0, 1) := by decide +kernel
theorem dL_law_610 : decode cL_law 610 = .ok (.ireturn, 1) := by decide +kernel
theorem dL_law_611 : decode cL_law 611 = .ok (.aload_n 1, 1) := by decide +kernel
theorem dL_law_612 : decode cL_law 612 = .ok (.aload_n 0, 1) := by decide +kernel
theorem dL_law_613 : decode cL_law 613 = .ok (.iload_n 3, 1) := by decide +kernel
theorem dL_law_614 : decode cL_law 614 = .ok (.iconst 1, 1) := by decide +kernel
theorem dL_law_615 : decode cL_law 615 = .ok (.iadd, 1) := by decide +kernel
theorem dL_law_616 : decode cL_law 616 = .ok (.iaload, 1) := by decide +kernel
theorem dL_law_617 : decode cL_law 617 = .ok (.aload_n 0, 1) := by decide +kernel
theorem dL_law_618 : decode cL_law 618 = .ok (.iload_n 3, 1) := by decide +kernel
theorem dL_law_619 : decode cL_law 619 = .ok (.iconst 2, 1) := by decide +kernel
theorem dL_law_620 : decode cL_law 620 = .ok (.iadd, 1) := by decide +kernel
theorem dL_law_621 : decode cL_law 621 = .ok (.iaload, 1) := by decide +kernel
theorem dL_law_622 : decode cL_law 622 = .ok (.aload_n 0, 1) := by decide +kernel
theorem dL_law_623 : decode cL_law 623 = .ok (.iload_n 3, 1) := by decide +kernel
theorem dL_law_624 : decode cL_law 624 = .ok (.iconst 3, 1) := by decide +kernel
theorem dL_law_625 : decode cL_law 625 = .ok (.iadd, 1) := by decide +kernel
theorem dL_law_626 : decode cL_law 626 = .ok (.iaload, 1) := by decide +kernel
theorem dL_law_627 : decode cL_law 627 = .ok (.invokevirtual 77, 3) := by decide +kernel
theorem dL_law_630 : decode cL_law 630 = .ok (.aload_n 2, 1) := by decide +kernel
theorem dL_law_631 : decode cL_law 631 = .ok (.aload_n 0, 1) := by decide +kernel
theorem dL_law_632 : decode cL_law 632 = .ok (.iload_n 3, 1) := by decide +kernel
theorem dL_law_633 : decode cL_law 633 = .ok (.iconst 1, 1) := by decide +kernel
theorem dL_law_634 : decode cL_law 634 = .ok (.iadd, 1) := by decide +kernel
theorem dL_law_635 : decode cL_law 635 = .ok (.iaload, 1) := by decide +kernel
theorem dL_law_636 : decode cL_law 636 = .ok (.aload_n 0, 1) := by decide +kernel
theorem dL_law_637 : decode cL_law 637 = .ok (.iload_n 3, 1) := by decide +kernel
theorem dL_law_638 : decode cL_law 638 = .ok (.iconst 2, 1) := by decide +kernel
theorem dL_law_639 : decode cL_law 639 = .ok (.iadd, 1) := by decide +kernel
theorem dL_law_640 : decode cL_law 640 = .ok (.iaload, 1) := by decide +kernel
theorem dL_law_641 : decode cL_law 641 = .ok (.aload_n 0, 1) := by decide +kernel
theorem dL_law_642 : decode cL_law 642 = .ok (.iload_n 3, 1) := by decide +kernel
theorem dL_law_643 : decode cL_law 643 = .ok (.iconst 3, 1) := by decide +kernel
theorem dL_law_644 : decode cL_law 644 = .ok (.iadd, 1) := by decide +kernel
theorem dL_law_645 : decode cL_law 645 = .ok (.iaload, 1) := by decide +kernel
theorem dL_law_646 : decode cL_law 646 = .ok (.invokevirtual 80, 3) := by decide +kernel
theorem dL_law_649 : decode cL_law 649 = .ok (.if_icmp .eq 140, 3) := by decide +kernel
theorem dL_law_652 : decode cL_law 652 = .ok (.iconst 0, 1) := by decide +kernel
theorem dL_law_653 : decode cL_law 653 = .ok (.ireturn, 1) := by decide +kernel
theorem dL_law_654 : decode cL_law 654 = .ok (.aload_n 1, 1) := by decide +kernel
theorem dL_law_655 : decode cL_law 655 = .ok (.aload_n 0, 1) := by decide +kernel
theorem dL_law_656 : decode cL_law 656 = .ok (.iload_n 3, 1) := by decide +kernel
theorem dL_law_657 : decode cL_law 657 = .ok (.iconst 1, 1) := by decide +kernel
theorem dL_law_658 : decode cL_law 658 = .ok (.iadd, 1) := by decide +kernel
theorem dL_law_659 : decode cL_law 659 = .ok (.iaload, 1) := by decide +kernel
theorem dL_law_660 : decode cL_law 660 = .ok (.aload_n 0, 1) := by decide +kernel
theorem dL_law_661 : decode cL_law 661 = .ok (.iload_n 3, 1) := by decide +kernel
theorem dL_law_662 : decode cL_law 662 = .ok (.iconst 2, 1) := by decide +kernel
theorem dL_law_663 : decode cL_law 663 = .ok (.iadd, 1) := by decide +kernel
theorem dL_law_664 : decode cL_law 664 = .ok (.iaload, 1) := by decide +kernel
theorem dL_law_665 : decode cL_law 665 = .ok (.invokevirtual 81, 3) := by decide +kernel
theorem dL_law_668 : decode cL_law 668 = .ok (.aload_n 2, 1) := by decide +kernel
theorem dL_law_669 : decode cL_law 669 = .ok (.aload_n 0, 1) := by decide +kernel
theorem dL_law_670 : decode cL_law 670 = .ok (.iload_n 3, 1) := by decide +kernel
theorem dL_law_671 : decode cL_law 671 = .ok (.iconst 1, 1) := by decide +kernel
theorem dL_law_672 : decode cL_law 672 = .ok (.iadd, 1) := by decide +kernel
theorem dL_law_673 : decode cL_law 673 = .ok (.iaload, 1) := by decide +kernel
theorem dL_law_674 : decode cL_law 674 = .ok (.aload_n 0, 1) := by decide +kernel
theorem dL_law_675 : decode cL_law 675 = .ok (.iload_n 3, 1) := by decide +kernel
theorem dL_law_676 : decode cL_law 676 = .ok (.iconst 2, 1) := by decide +kernel
theorem dL_law_677 : decode cL_law 677 = .ok (.iadd, 1) := by decide +kernel
theorem dL_law_678 : decode cL_law 678 = .ok (.iaload, 1) := by decide +kernel
theorem dL_law_679 : decode cL_law 679 = .ok (.invokevirtual 84, 3) := by decide +kernel
theorem dL_law_682 : decode cL_law 682 = .ok (.if_icmp .eq 107, 3) := by decide +kernel
theorem dL_law_685 : decode cL_law 685 = .ok (.iconst 0, 1) := by decide +kernel
theorem dL_law_686 : decode cL_law 686 = .ok (.ireturn, 1) := by decide +kernel
theorem dL_law_687 : decode cL_law 687 = .ok (.aload_n 1, 1) := by decide +kernel
theorem dL_law_688 : decode cL_law 688 = .ok (.aload_n 0, 1) := by decide +kernel
theorem dL_law_689 : decode cL_law 689 = .ok (.iload_n 3, 1) := by decide +kernel
theorem dL_law_690 : decode cL_law 690 = .ok (.iconst 1, 1) := by decide +kernel
theorem dL_law_691 : decode cL_law 691 = .ok (.iadd, 1) := by decide +kernel
theorem dL_law_692 : decode cL_law 692 = .ok (.iaload, 1) := by decide +kernel
theorem dL_law_693 : decode cL_law 693 = .ok (.invokevirtual 85, 3) := by decide +kernel
theorem dL_law_696 : decode cL_law 696 = .ok (.aload_n 2, 1) := by decide +kernel
theorem dL_law_697 : decode cL_law 697 = .ok (.aload_n 0, 1) := by decide +kernel
theorem dL_law_698 : decode cL_law 698 = .ok (.iload_n 3, 1) := by decide +kernel
theorem dL_law_699 : decode cL_law 699 = .ok (.iconst 1, 1) := by decide +kernel
theorem dL_law_700 : decode cL_law 700 = .ok (.iadd, 1) := by decide +kernel
theorem dL_law_701 : decode cL_law 701 = .ok (.iaload, 1) := by decide +kernel
theorem dL_law_702 : decode cL_law 702 = .ok (.invokevirtual 88, 3) := by decide +kernel
theorem dL_law_705 : decode cL_law 705 = .ok (.if_icmp .eq 84, 3) := by decide +kernel
theorem dL_law_708 : decode cL_law 708 = .ok (.iconst 0, 1) := by decide +kernel
theorem dL_law_709 : decode cL_law 709 = .ok (.ireturn, 1) := by decide +kernel
theorem dL_law_710 : decode cL_law 710 = .ok (.aload_n 1, 1) := by decide +kernel
theorem dL_law_711 : decode cL_law 711 = .ok (.aload_n 0, 1) := by decide +kernel
theorem dL_law_712 : decode cL_law 712 = .ok (.iload_n 3, 1) := by decide +kernel
theorem dL_law_713 : decode cL_law 713 = .ok (.iconst 1, 1) := by decide +kernel
theorem dL_law_714 : decode cL_law 714 = .ok (.iadd, 1) := by decide +kernel
theorem dL_law_715 : decode cL_law 715 = .ok (.iaload, 1) := by decide +kernel
theorem dL_law_716 : decode cL_law 716 = .ok (.invokevirtual 89, 3) := by decide +kernel
theorem dL_law_719 : decode cL_law 719 = .ok (.aload_n 2, 1) := by decide +kernel
theorem dL_law_720 : decode cL_law 720 = .ok (.aload_n 0, 1) := by decide +kernel
theorem dL_law_721 : decode cL_law 721 = .ok (.iload_n 3, 1) := by decide +kernel
theorem dL_law_722 : decode cL_law 722 = .ok (.iconst 1, 1) := by decide +kernel
theorem dL_law_723 : decode cL_law 723 = .ok (.iadd, 1) := by decide +kernel
theorem dL_law_724 : decode cL_law 724 = .ok (.iaload, 1) := by decide +kernel
theorem dL_law_725 : decode cL_law 725 = .ok (.invokevirtual 92, 3) := by decide +kernel
theorem dL_law_728 : decode cL_law 728 = .ok (.if_icmp .eq 61, 3) := by decide +kernel
theorem dL_law_731 : decode cL_law 731 = .ok (.iconst 0, 1) := by decide +kernel
theorem dL_law_732 : decode cL_law 732 = .ok (.ireturn, 1) := by decide +kernel
theorem dL_law_733 : decode cL_law 733 = .ok (.aload_n 1, 1) := by decide +kernel
theorem dL_law_734 : decode cL_law 734 = .ok (.aload_n 0, 1) := by decide +kernel
theorem dL_law_735 : decode cL_law 735 = .ok (.iload_n 3, 1) := by decide +kernel
theorem dL_law_736 : decode cL_law 736 = .ok (.iconst 1, 1) := by decide +kernel
theorem dL_law_737 : decode cL_law 737 = .ok (.iadd, 1) := by decide +kernel
theorem dL_law_738 : decode cL_law 738 = .ok (.iaload, 1) := by decide +kernel
theorem dL_law_739 : decode cL_law 739 = .ok (.invokevirtual 93, 3) := by decide +kernel
theorem dL_law_742 : decode cL_law 742 = .ok (.aload_n 2, 1) := by decide +kernel
theorem dL_law_743 : decode cL_law 743 = .ok (.aload_n 0, 1) := by decide +kernel
theorem dL_law_744 : decode cL_law 744 = .ok (.iload_n 3, 1) := by decide +kernel
theorem dL_law_745 : decode cL_law 745 = .ok (.iconst 1, 1) := by decide +kernel
theorem dL_law_746 : decode cL_law 746 = .ok (.iadd, 1) := by decide +kernel
theorem dL_law_747 : decode cL_law 747 = .ok (.iaload, 1) := by decide +kernel
theorem dL_law_748 : decode cL_law 748 = .ok (.invokevirtual 96, 3) := by decide +kernel
theorem dL_law_751 : decode cL_law 751 = .ok (.if_icmp .eq 38, 3) := by decide +kernel
theorem dL_law_754 : decode cL_law 754 = .ok (.iconst 0, 1) := by decide +kernel
theorem dL_law_755 : decode cL_law 755 = .ok (.ireturn, 1) := by decide +kernel
theorem dL_law_756 : decode cL_law 756 = .ok (.aload_n 1, 1) := by decide +kernel
theorem dL_law_757 : decode cL_law 757 = .ok (.aload_n 0, 1) := by decide +kernel
theorem dL_law_758 : decode cL_law 758 = .ok (.iload_n 3, 1) := by decide +kernel
theorem dL_law_759 : decode cL_law 759 = .ok (.iconst 1, 1) := by decide +kernel
theorem dL_law_760 : decode cL_law 760 = .ok (.iadd, 1) := by decide +kernel
theorem dL_law_761 : decode cL_law 761 = .ok (.iaload, 1) := by decide +kernel
theorem dL_law_762 : decode cL_law 762 = .ok (.aload_n 0, 1) := by decide +kernel
theorem dL_law_763 : decode cL_law 763 = .ok (.iload_n 3, 1) := by decide +kernel
theorem dL_law_764 : decode cL_law 764 = .ok (.iconst 2, 1) := by decide +kernel
theorem dL_law_765 : decode cL_law 765 = .ok (.iadd, 1) := by decide +kernel
theorem dL_law_766 : decode cL_law 766 = .ok (.iaload, 1) := by decide +kernel
theorem dL_law_767 : decode cL_law 767 = .ok (.invokevirtual 97, 3) := by decide +kernel
theorem dL_law_770 : decode cL_law 770 = .ok (.aload_n 2, 1) := by decide +kernel
theorem dL_law_771 : decode cL_law 771 = .ok (.aload_n 0, 1) := by decide +kernel
theorem dL_law_772 : decode cL_law 772 = .ok (.iload_n 3, 1) := by decide +kernel
theorem dL_law_773 : decode cL_law 773 = .ok (.iconst 1, 1) := by decide +kernel
theorem dL_law_774 : decode cL_law 774 = .ok (.iadd, 1) := by decide +kernel
theorem dL_law_775 : decode cL_law 775 = .ok (.iaload, 1) := by decide +kernel
theorem dL_law_776 : decode cL_law 776 = .ok (.aload_n 0, 1) := by decide +kernel
theorem dL_law_777 : decode cL_law 777 = .ok (.iload_n 3, 1) := by decide +kernel
theorem dL_law_778 : decode cL_law 778 = .ok (.iconst 2, 1) := by decide +kernel
theorem dL_law_779 : decode cL_law 779 = .ok (.iadd, 1) := by decide +kernel
theorem dL_law_780 : decode cL_law 780 = .ok (.iaload, 1) := by decide +kernel
theorem dL_law_781 : decode cL_law 781 = .ok (.invokevirtual 100, 3) := by decide +kernel
theorem dL_law_784 : decode cL_law 784 = .ok (.if_icmp .eq 5, 3) := by decide +kernel
theorem dL_law_787 : decode cL_law 787 = .ok (.iconst 0, 1) := by decide +kernel
theorem dL_law_788 : decode cL_law 788 = .ok (.ireturn, 1) := by decide +kernel
theorem dL_law_789 : decode cL_law 789 = .ok (.iinc 3 5, 3) := by decide +kernel
theorem dL_law_792 : decode cL_law 792 = .ok (.goto (-774), 3) := by decide +kernel
theorem dL_law_795 : decode cL_law 795 = .ok (.iconst 1, 1) := by decide +kernel
theorem dL_law_796 : decode cL_law 796 = .ok (.ireturn, 1) := by decide +kernel
end
section
/-! THE RUN JUDGEMENT: a method of the class (or of the model) over a memory of typed rows. A layout (ly) names the cells: kind and length; I k j, L k j: the int, the long at place j of cell k (a field or an element); references are fixed by the layout. -/
abbrev gT : Type := va_G × (Nat → Nat) × (Nat → ClassId)
abbrev IM : Type := Nat → Int → Int
abbrev zI (z : Int) : Int32 := Int32.ofInt z
abbrev LM : Type := Nat → Int → Int64
abbrev lyT : Type := List (Nat × Nat)
def kd (ly : lyT) (k : Nat) : Nat := (ly.getD k (99, 0)).1
def ln (ly : lyT) (k : Nat) : Nat := (ly.getD k (99, 0)).2
def up2 {α : Type} (f : Nat → Int → α) (k : Nat) (j : Int) (v : α) : Nat → Int → α := fun k' j' => if k' = k then (if j' = j then v else f k' j') else f k' j'
theorem up2_same {α : Type} (f : Nat → Int → α) (k : Nat) (j : Int) (v : α) : up2 f k j v k j = v := by simp [up2]
theorem up2_cell {α : Type} (f : Nat → Int → α) {k k' : Nat} (j : Int) (v : α) (h : k' ≠ k) : up2 f k j v k' = f k' := by funext j'; simp [up2, h]
theorem up2_ne {α : Type} (f : Nat → Int → α) (k : Nat) {j j' : Int} (v : α) (h : j' ≠ j) : up2 f k j v k j' = f k j' := by simp [up2, h]
def mkE (g : gT) (q : Nat × Nat) (k : Nat) (f : Int → Int) (h : Int → Int64) : va_E := match q.1 with
  | 0 => .inr (0, [.ref (g.2.1 (k + 1)), .int (zI (f 1)), .int (zI (f 2)), .int (zI (f 3)), .int (zI (f 4))])
  | 1 => .inr (1, [.ref (g.2.1 (k + 1)), .int (zI (f 1)), .int (zI (f 2)), .int (zI (f 3)), .ref (g.2.1 (k + 4)), .ref (g.2.1 (k + 10)), .ref (g.2.1 (k + 16)), .ref (g.2.1 (k + 2)), .ref (g.2.1 (k + 3))])
  | 2 => .inr (2, [.ref (g.2.1 (k + 1)), .int (zI (f 1))])
  | 3 => .inr (3, [.ref (g.2.1 (k + 1)), .ref (g.2.1 (k + 2)), .ref (g.2.1 (k + 3)), .ref (g.2.1 (k + 4)), .ref (g.2.1 (k + 5)), .int (zI (f 5)), .int (zI (f 6)), .int (zI (f 7))])
  | 4 => .inr (4, [.int (zI (f 0)), .int (zI (f 1)), .long (h 2)])
  | 5 => .inr (5, [.ref (g.2.1 (k + 1)), .int (zI (f 1)), .int (zI (f 2)), .int (zI (f 3)), .int (zI (f 4)), .int (zI (f 5))])
  | 6 => .inr (6, [.ref (g.2.1 (k + 1)), .int (zI (f 1))])
  | 7 => .inr (7, [.ref (g.2.1 (k + 1)), .ref (g.2.1 (k + 3)), .ref (g.2.1 (k + 4)), .ref (g.2.1 (k + 18)), .ref (g.2.1 (k + 40))])
  | 8 => .inr (8, [.ref (g.2.1 (k + 1)), .int (zI (f 1)), .ref (g.2.1 (k + 2)), .ref (g.2.1 (k + 3)), .ref (g.2.1 (k + 4)), .ref (g.2.1 (k + 5)), .ref (g.2.1 (k + 6)), .int (zI (f 7)), .int (zI (f 8)), .int (zI (f 9)), .int (zI (f 10)), .int (zI (f 11)), .int (zI (f 12)), .int (zI (f 13)), .ref (g.2.1 (k + 7)), .ref (g.2.1 (k + 8)), .ref (g.2.1 (k + 9)), .ref (g.2.1 (k + 10)), .int (zI (f 18)), .ref (g.2.1 (k + 11)), .ref (g.2.1 (k + 12)), .ref (g.2.1 (k + 13)), .ref (g.2.1 (k + 14)), .ref (g.2.1 (k + 15)), .int (zI (f 24)), .ref (g.2.1 (k + 16)), .int (zI (f 26))])
  | 9 => .inl (g.2.2 9, q.2, .inl (fun j : Nat => zI (f (j : Int))))
  | 10 => .inl (g.2.2 10, q.2, .inl (fun j : Nat => zI (f (j : Int))))
  | 11 => .inl (g.2.2 11, q.2, .inr (.inl (fun j : Nat => h (j : Int))))
  | 12 => .inl (g.2.2 12, q.2, .inl (fun j : Nat => zI (f (j : Int))))
  | _ => .inl (g.2.2 13, q.2, .inr (.inr (.inr (.inr (fun j => some (g.2.1 (k + 1 + 2 * j)))))))
abbrev wl (ly : lyT) (g : gT) (I : IM) (L : LM) : va_W := (List.range ly.length).map (fun k => (g.2.1 k, mkE g (ly.getD k (99, 0)) k (I k) (L k)))
theorem kd_lt {ly : lyT} {k n : Nat} (h : kd ly k = n) (hn : n < 99) : k < ly.length := by
  rcases Nat.lt_or_ge k ly.length with q | q
  · exact q
  · have e : ly.getD k (99, 0) = (99, 0) := by simp [List.getD, List.getElem?_eq_none q]
    rw [kd, e] at h
    omega
theorem wl_get {ly : lyT} (g : gT) (I : IM) (L : LM) {k : Nat} (hk : k < ly.length) : (wl ly g I L)[k]? = some (g.2.1 k, mkE g (ly.getD k (99, 0)) k (I k) (L k)) := by
  simp [wl, List.getElem?_map, hk]
theorem wl_set {ly : lyT} (g : gT) {I I' : IM} {L L' : LM} {k : Nat} (hI : ∀ j, j ≠ k → I' j = I j) (hL : ∀ j, j ≠ k → L' j = L j) : (wl ly g I L).set k (g.2.1 k, mkE g (ly.getD k (99, 0)) k (I' k) (L' k)) = wl ly g I' L' := by
  apply List.ext_getElem?
  intro i
  rw [List.getElem?_set]
  by_cases hi : k = i
  · subst hi
    by_cases hk : k < (wl ly g I L).length
    · rw [if_pos rfl, if_pos hk, wl_get g I' L' (by simpa using hk)]
    · rw [if_pos rfl, if_neg hk]
      rw [List.getElem?_eq_none]
      simpa using hk
  · rw [if_neg hi]
    by_cases hk : i < ly.length
    · rw [wl_get g I L hk, wl_get g I' L' hk, hI i (fun q => hi q.symm), hL i (fun q => hi q.symm)]
    · rw [List.getElem?_eq_none (by simpa using hk), List.getElem?_eq_none (by simpa using hk)]
def AA (ly : lyT) (g : gT) : Nat → Prop := fun q => ∃ k, k < ly.length ∧ q = g.2.1 k
def inj (ly : lyT) (g : gT) : Prop := ∀ i j, i < ly.length → j < ly.length → g.2.1 i = g.2.1 j → i = j
theorem wl_D {ly : lyT} {g : gT} (h : inj ly g) (I : IM) (L : LM) : va_D (AA ly g) (wl ly g I L) := by
  have key : ∀ (i : Nat) (p : Nat × va_E), (wl ly g I L)[i]? = some p → i < ly.length ∧ p.1 = g.2.1 i := by
    intro i p hp
    have hi : i < ly.length := by
      have := (List.getElem?_eq_some_iff.mp hp).1
      simpa using this
    rw [wl_get g I L hi] at hp
    cases hp
    exact ⟨hi, rfl⟩
  refine ⟨fun i j p q hp hq hpq => ?_, fun k q hq => ?_⟩
  · obtain ⟨h1, h2⟩ := key i p hp
    obtain ⟨h3, h4⟩ := key j q hq
    exact h i j h1 h3 (by rw [← h2, ← h4]; exact hpq)
  · obtain ⟨h1, h2⟩ := key k q hq
    exact ⟨k, h1, h2⟩
abbrev tyG (g : gT) : List (ClassId × FieldType) := [(g.2.2 9, .byte), (g.2.2 10, .int), (g.2.2 11, .long), (g.2.2 12, .boolean), (g.2.2 13, .object "BorrowedPages$Book")]
/-- the five keywords' numbers -/
def kwv : Nat → Value := fun j => .int (match j with | 0 => 339 | 1 => 8787 | 2 => 236 | 3 => 16633 | _ => 7367)
def KW (A : Nat → Prop) (U : State) (H : Heap) : Prop := ∃ t : Nat, va_Z "BorrowedPages$Reader" "KEYWORDS" "[I" (.ref t) A U H ∧ va_T .int t 5 kwv A U H
/-- what holds of the tables at a method's start -/
def Kx (ly : lyT) (g : gT) (U : State) : Prop := va_K g.1 vwCl (tyG g) U ∧ inj ly g ∧ KW (AA ly g) U U.heap ∧ ∀ k, ln ly k < 2 ^ 31
def Bw (ly : lyT) (g : gT) (I : IM) (L : LM) (U : State) : Prop := va_P g.1 vwCl (wl ly g I L) U.heap ∧ Kx ly g U
abbrev poT : Type := Option Value → IM → LM → Prop
def Qq (ly : lyT) (g : gT) (post : poT) : Array Value → State → Outcome → State → Prop := fun _ st oc t => (∃ (v : Option Value) (I : IM) (L : LM), oc = .returned v ∧ post v I L ∧ va_P g.1 vwCl (wl ly g I L) t.heap) ∧ va_F (AA ly g) st t
abbrev rmT (f lo : Nat) : Room := { frames := f, cells := 0, slots := 0, locals := lo }
/-- a method's contract -/
def Ct (l : Launch) (y : MethodName) (cc : ByteArray) (nL : Nat) (ret : Option FieldType) (f lo : Nat) (ly : lyT) (g : gT) (av : List Value) (I : IM) (L : LM) (post : poT) : Prop :=
  Met l y (.code y cc nL ret :: UW) (rmT f lo) (va_Pc av (Bw ly g I L)) (Qq ly g post) 0 0 (AA ly g)
abbrev cT := Program × Launch × Env × Room × State × MethodId × Array Value × List Frame × Method × Code × Nat
/-- the locals: what is listed stands there -/
abbrev lvT : Type := List (Option Value)
def lvh (ls : Array Slot) (nL : Nat) (lv : lvT) : Prop := (ls.size = nL ∧ lv.length ≤ nL) ∧ lv_wf ls ∧ ∀ (i : Nat) (v : Value), lv[i]? = some (some v) → ls[i]? = some (.val v)
/-- the machine at pc, with these locals, this stack, this memory, comes to the method's end with post -/
def Rn (x : cT) (ly : lyT) (g : gT) (post : poT) (pc : Nat) (lv : lvT) (st : List Value) (I : IM) (L : LM) : Prop :=
  ∀ (H : Heap) (locs : List Loc) (ls : Array Slot), va_P g.1 vwCl (wl ly g I L) H → va_S (AA ly g) x.2.2.2.2.1.heap H locs → lvh ls x.2.2.2.2.2.2.2.2.2.2 lv →
    W x.1 x.2.1 x.2.2.1 x.2.2.2.1 x.2.2.2.2.1 x.2.2.2.2.2.1 x.2.2.2.2.2.2.1 x.2.2.2.2.2.2.2.1 x.2.2.2.2.2.2.2.2.1 x.2.2.2.2.2.2.2.2.2.1 H locs 0 0 (MQ x.2.2.2.2.2.2.2.1 (Qq ly g post) x.2.2.2.2.2.2.1 x.2.2.2.2.1 0 0 (AA ly g)) (F0 x.2.2.2.2.2.1 pc ls st)
/-- what is fixed in a method's body -/
def Fx (x : cT) (ly : lyT) (g : gT) (cc : ByteArray) (own : String) (ret : Option FieldType) (f lo : Nat) : Prop :=
  x.1.tables.exec = Jvm.exec ∧ x.2.2.2.2.2.2.2.2.2.1.code = cc ∧ x.2.2.2.2.2.2.2.2.2.1.maxLocals = x.2.2.2.2.2.2.2.2.2.2 ∧ x.2.2.2.2.1.vm.findClass own = some x.2.2.2.2.2.1.cls ∧ (∀ w ∈ UW, w.before x.2.2.2.2.2.2.1 x.2.2.2.2.1 = true) ∧ Kx ly g x.2.2.2.2.1 ∧ x.2.2.2.2.2.2.2.2.1.locks = false ∧ x.2.2.2.2.2.2.2.2.1.sig.returnType = ret ∧ x.2.2.2.1 = rmT f lo
/-- the locals at the start -/
def lvE : List Value → List (Option Value)
  | [] => []
  | v :: vs => if v.category = 2 then some v :: none :: lvE vs else some v :: lvE vs
theorem lvE_in (vs : List Value) : ∀ (b i : Nat) (v : Value), (lvE vs)[i]? = some (some v) → (b + i, v) ∈ lv_args b vs := by
  induction vs with
  | nil => intro b i v h; simp [lvE] at h
  | cons w ws ih =>
    intro b i v h
    rw [lvE] at h
    rw [lv_args]
    by_cases hc : w.category = 2
    · rw [if_pos hc] at h
      match i, h with
      | 0, h => cases h; exact List.mem_cons_self
      | 1, h => cases h
      | i + 2, h =>
        have := ih (b + 2) i v h
        rw [if_pos hc]
        refine List.mem_cons_of_mem _ ?_
        rwa [show b + (i + 2) = b + 2 + i by omega]
    · rw [if_neg hc] at h
      match i, h with
      | 0, h => cases h; exact List.mem_cons_self
      | i + 1, h =>
        have := ih (b + 1) i v h
        rw [if_neg hc]
        refine List.mem_cons_of_mem _ ?_
        rwa [show b + (i + 1) = b + 1 + i by omega]
theorem lvh_pad {ls : Array Slot} {nL : Nat} {lv : lvT} (h : lvh ls nL lv) (n : Nat) (hn : lv.length + n ≤ nL) : lvh ls nL (lv ++ List.replicate n none) := by
  refine ⟨⟨h.1.1, by simpa using hn⟩, h.2.1, fun i v hv => ?_⟩
  rcases Nat.lt_or_ge i lv.length with q | q
  · rw [List.getElem?_append_left q] at hv
    exact h.2.2 i v hv
  · rw [List.getElem?_append_right q] at hv
    have := (List.mem_replicate.mp (List.mem_of_getElem? hv)).2
    cases this
theorem lvE_len (vs : List Value) : (lvE vs).length = (lg_sl vs).length := by
  induction vs with
  | nil => rfl
  | cons w ws ih =>
    rw [lvE, lg_sl, List.flatMap_cons, List.length_append]
    by_cases hc : w.category = 2
    · rw [if_pos hc, if_pos hc, List.length_cons, List.length_cons, ih, lg_sl]
      simp
      omega
    · rw [if_neg hc, if_neg hc, List.length_cons, ih, lg_sl]
      simp
      omega
theorem Ct.of {l : Launch} {y : MethodName} {cc : ByteArray} {nL : Nat} {ret : Option FieldType} {f lo : Nat} {ly : lyT} {g : gT} {av : List Value} {I : IM} {L : LM} {post : poT} (own : String) (hy : plainName y.cls = true) (ho : y.cls = own) (hn : (lg_sl av).length ≤ nL)
    (k : ∀ x : cT, x.2.1 = l → Fx x ly g cc own ret f lo → Rn x ly g post 0 (lvE av ++ List.replicate (nL - (lvE av).length) none) [] I L) : Ct l y cc nL ret f lo ly g av I L post := by
  refine Met.ofW (cc := cc) (maxL := nL) (ret := ret) hy rfl ?_
  intro p e s m args below meth c s₁ B hml hv
  obtain ⟨rfl, hP, hK⟩ := hv
  have hts := atoms_spec (ws := .code y cc nL ret :: UW) B.pre
  have hown : s.vm.findClass y.cls = some m.cls := findClass_of_methodNamed B.named
  rw [ho] at hown
  have hl := lv_entry av (n := nL) hn
  rw [lg_entry_eq]
  refine k (p, l, e, rmT f lo, s, m, av.toArray, below, meth, c, nL) rfl ⟨B.exec, B.bytes, hml, hown, fun w hw => hts w (List.mem_cons_of_mem _ hw), hK, B.notSynchronized, B.returns, rfl⟩ s.heap [] _ hP va_S.rf (lvh_pad ⟨⟨hl.1, by rw [lvE_len]; exact hn⟩, hl.2.1, fun i v hv => ?_⟩ _ (by rw [lvE_len]; omega))
  have := lvE_in av 0 i v hv
  rw [Nat.zero_add] at this
  exact hl.2.2 (i, v) this
def lvP (lv : lvT) : List (Nat × Value) := lv.zipIdx.filterMap (fun q => q.1.map (fun v => (q.2, v)))
theorem lvP_mem {lv : lvT} {i : Nat} {v : Value} : (i, v) ∈ lvP lv ↔ lv[i]? = some (some v) := by
  rw [lvP, List.mem_filterMap]
  constructor
  · rintro ⟨⟨o, j⟩, h1, h2⟩
    have h3 := List.mem_zipIdx_iff_getElem?.mp h1
    cases o with
    | none => cases h2
    | some w => cases h2; exact h3
  · intro h
    exact ⟨(some v, i), List.mem_zipIdx_iff_getElem?.mpr h, rfl⟩
theorem lvh.has {ls : Array Slot} {nL : Nat} {lv : lvT} (h : lvh ls nL lv) : lv_has ls nL (lvP lv) := ⟨h.1.1, h.2.1, fun q hq => h.2.2 q.1 q.2 (lvP_mem.mp hq)⟩
/-- no long stands just ahead of place i -/
def nlg (lv : lvT) (i : Nat) : Bool := match i with
  | 0 => true
  | j + 1 => match lv[j]? with
    | some (some v) => v.category != 2
    | _ => true
theorem lvh_st1 {ls : Array Slot} {nL : Nat} {lv : lvT} {i : Nat} {v : Value} (hn : nlg lv i = true) (hz : lv.length ≤ nL) (h : lv_has ls nL ((i, v) :: (lvP lv).filter (fun q => !(q.1 == i) && !(q.1 + 1 == i && q.2.category == 2)))) : lvh ls nL (lv.set i (some v)) := by
  refine ⟨⟨h.1, by simpa using hz⟩, h.2.1, fun j w hj => ?_⟩
  rw [List.getElem?_set] at hj
  by_cases e : i = j
  · subst e
    by_cases hl : i < lv.length
    · rw [if_pos rfl, if_pos hl] at hj
      cases hj
      exact h.2.2 (i, v) List.mem_cons_self
    · rw [if_pos rfl, if_neg hl] at hj
      cases hj
  · rw [if_neg e] at hj
    refine h.2.2 (j, w) (List.mem_cons_of_mem _ (List.mem_filter.mpr ⟨lvP_mem.mpr hj, ?_⟩))
    have e1 : ¬ j = i := fun q => e q.symm
    simp only [Bool.and_eq_true, Bool.not_eq_true', beq_eq_false_iff_ne, ne_eq, e1, not_false_eq_true, true_and, Bool.and_eq_false_iff]
    by_cases e2 : j + 1 = i
    · subst e2
      right
      simp only [nlg, hj] at hn
      simpa using hn
    · left
      simpa using e2
theorem lvh_st2 {ls : Array Slot} {nL : Nat} {lv : lvT} {i : Nat} {v : Value} (hn : nlg lv i = true) (hz : lv.length ≤ nL) (h : lv_has ls nL ((i, v) :: (lvP lv).filter (fun q => !(q.1 == i) && (!(q.1 == i + 1) && !(q.1 + 1 == i && q.2.category == 2))))) : lvh ls nL ((lv.set i (some v)).set (i + 1) none) := by
  refine ⟨⟨h.1, by simpa using hz⟩, h.2.1, fun j w hj => ?_⟩
  rw [List.getElem?_set] at hj
  by_cases e0 : i + 1 = j
  · rw [if_pos e0] at hj
    split at hj <;> cases hj
  · rw [if_neg e0, List.getElem?_set] at hj
    by_cases e : i = j
    · subst e
      by_cases hl : i < lv.length
      · rw [if_pos rfl, if_pos hl] at hj
        cases hj
        exact h.2.2 (i, v) List.mem_cons_self
      · rw [if_pos rfl, if_neg hl] at hj
        cases hj
    · rw [if_neg e] at hj
      refine h.2.2 (j, w) (List.mem_cons_of_mem _ (List.mem_filter.mpr ⟨lvP_mem.mpr hj, ?_⟩))
      have e1 : ¬ j = i := fun q => e q.symm
      have e3 : ¬ j = i + 1 := fun q => e0 q.symm
      simp only [Bool.and_eq_true, Bool.not_eq_true', beq_eq_false_iff_ne, ne_eq, e1, e3, not_false_eq_true, true_and, Bool.and_eq_false_iff]
      by_cases e2 : j + 1 = i
      · subst e2
        right
        simp only [nlg, hj] at hn
        simpa using hn
      · left
        simpa using e2
end
section
/-! ROWS: an instruction each, over Rn -/
def rg (z : Int) : Prop := -2147483648 ≤ z ∧ z < 2147483648
theorem zI_toInt {z : Int} (h : rg z) : (zI z).toInt = z := Int32.toInt_ofInt_of_le (by have := h.1; omega) (by have := h.2; omega)
theorem zI_le {a b : Int} (ha : rg a) (hb : rg b) : zI a ≤ zI b ↔ a ≤ b := by rw [Int32.le_iff_toInt_le, zI_toInt ha, zI_toInt hb]
theorem zI_lt {a b : Int} (ha : rg a) (hb : rg b) : zI a < zI b ↔ a < b := by rw [Int32.lt_iff_toInt_lt, zI_toInt ha, zI_toInt hb]
theorem zI_eq {a b : Int} (ha : rg a) (hb : rg b) : zI a = zI b ↔ a = b := by rw [← Int32.toInt_inj, zI_toInt ha, zI_toInt hb]
theorem rg0 : rg 0 := ⟨by omega, by omega⟩
theorem zI_0 : zI 0 = 0 := rfl
theorem rg_i (v : Int32) : rg v.toInt := ⟨by have := v.le_toInt; omega, by have := v.toInt_lt; omega⟩
theorem zI_v (v : Int32) : zI v.toInt = v := Int32.ofInt_toInt v
theorem zI_nat (n : Nat) : zI (n : Int) = nI n := Int32.ofInt_eq_ofNat
theorem zI_clamp {n : Nat} (h : n < 2 ^ 31) : (zI (n : Int)).toNatClampNeg = n := by rw [zI_nat]; exact nI_clamp h
theorem zI_in {n N : Nat} (h : n < N) (hN : N < 2 ^ 31) : vp_in (zI (n : Int)) N := by rw [zI_nat]; exact vp_in_nI h hN
section RR
variable {x : cT} {ly : lyT} {g : gT} {cc : ByteArray} {own : String} {ret : Option FieldType} {f lo : Nat} {post : poT} {pc : Nat} {lv : lvT} {st : List Value} {I : IM} {L : LM}
theorem rr_iadd (F : Fx x ly g cc own ret f lo) {a b : Int} (d : decode cc pc = .ok (.iadd, 1))  (k : Rn x ly g post (pc + 1) lv (.int (zI (a + b)) :: st) I L) : Rn x ly g post pc lv (.int (zI b) :: .int (zI a) :: st) I L := fun H locs ls hP hS hl => lv_iadd F.1 F.2.1 d (by rw [← Int32.ofInt_add]; exact (k H locs ls hP hS hl))
theorem rr_isub (F : Fx x ly g cc own ret f lo) {a b : Int} (d : decode cc pc = .ok (.isub, 1))  (k : Rn x ly g post (pc + 1) lv (.int (zI (a - b)) :: st) I L) : Rn x ly g post pc lv (.int (zI b) :: .int (zI a) :: st) I L := fun H locs ls hP hS hl => lv_isub F.1 F.2.1 d (by rw [← Int32.ofInt_sub]; exact (k H locs ls hP hS hl))
theorem rr_imul (F : Fx x ly g cc own ret f lo) {a b : Int} (d : decode cc pc = .ok (.imul, 1))  (k : Rn x ly g post (pc + 1) lv (.int (zI (a * b)) :: st) I L) : Rn x ly g post pc lv (.int (zI b) :: .int (zI a) :: st) I L := fun H locs ls hP hS hl => lv_imul F.1 F.2.1 d (by rw [← Int32.ofInt_mul]; exact (k H locs ls hP hS hl))
theorem rr_iand (F : Fx x ly g cc own ret f lo) {a b : Int32} (d : decode cc pc = .ok (.iand, 1))  (k : Rn x ly g post (pc + 1) lv (.int (zI (a &&& b).toInt) :: st) I L) : Rn x ly g post pc lv (.int b :: .int a :: st) I L := fun H locs ls hP hS hl => lv_iand F.1 F.2.1 d (by rw [zI_v] at k; exact (k H locs ls hP hS hl))
theorem rr_ladd (F : Fx x ly g cc own ret f lo) {a b : Int64} (d : decode cc pc = .ok (.ladd, 1))  (k : Rn x ly g post (pc + 1) lv (.long (a + b) :: st) I L) : Rn x ly g post pc lv (.long b :: .long a :: st) I L := fun H locs ls hP hS hl => lv_ladd F.1 F.2.1 d (k H locs ls hP hS hl)
theorem rr_lmul (F : Fx x ly g cc own ret f lo) {a b : Int64} (d : decode cc pc = .ok (.lmul, 1))  (k : Rn x ly g post (pc + 1) lv (.long (a * b) :: st) I L) : Rn x ly g post pc lv (.long b :: .long a :: st) I L := fun H locs ls hP hS hl => lv_lmul F.1 F.2.1 d (k H locs ls hP hS hl)
theorem rr_land (F : Fx x ly g cc own ret f lo) {a b : Int64} (d : decode cc pc = .ok (.land, 1))  (k : Rn x ly g post (pc + 1) lv (.long (a &&& b) :: st) I L) : Rn x ly g post pc lv (.long b :: .long a :: st) I L := fun H locs ls hP hS hl => lv_land F.1 F.2.1 d (k H locs ls hP hS hl)
theorem rr_lor (F : Fx x ly g cc own ret f lo) {a b : Int64} (d : decode cc pc = .ok (.lor, 1))  (k : Rn x ly g post (pc + 1) lv (.long (a ||| b) :: st) I L) : Rn x ly g post pc lv (.long b :: .long a :: st) I L := fun H locs ls hP hS hl => lv_lor F.1 F.2.1 d (k H locs ls hP hS hl)
theorem rr_lrem (F : Fx x ly g cc own ret f lo) {a b : Int64} (d : decode cc pc = .ok (.lrem, 1)) (hn : ¬ b = 0) (k : Rn x ly g post (pc + 1) lv (.long (a - a / b * b) :: st) I L) : Rn x ly g post pc lv (.long b :: .long a :: st) I L := fun H locs ls hP hS hl => lv_lrem F.1 F.2.1 d hn (k H locs ls hP hS hl)
theorem rr_irem (F : Fx x ly g cc own ret f lo) {a b : Int32} (d : decode cc pc = .ok (.irem, 1)) (hn : ¬ b = 0) (k : Rn x ly g post (pc + 1) lv (.int (zI (a - a / b * b).toInt) :: st) I L) : Rn x ly g post pc lv (.int b :: .int a :: st) I L := fun H locs ls hP hS hl => lv_irem F.1 F.2.1 d hn (by rw [zI_v] at k; exact (k H locs ls hP hS hl))
theorem rr_i2l (F : Fx x ly g cc own ret f lo) {a : Int32} (d : decode cc pc = .ok (.i2l, 1))  (k : Rn x ly g post (pc + 1) lv (.long a.toInt64 :: st) I L) : Rn x ly g post pc lv (.int a :: st) I L := fun H locs ls hP hS hl => lv_i2l F.1 F.2.1 d rfl (k H locs ls hP hS hl)
theorem rr_l2i (F : Fx x ly g cc own ret f lo) {a : Int64} (d : decode cc pc = .ok (.l2i, 1))  (k : Rn x ly g post (pc + 1) lv (.int (zI a.toInt32.toInt) :: st) I L) : Rn x ly g post pc lv (.long a :: st) I L := fun H locs ls hP hS hl => lv_l2i F.1 F.2.1 d (zI_v _).symm (k H locs ls hP hS hl)
theorem rr_i2b (F : Fx x ly g cc own ret f lo) {a : Int32} (d : decode cc pc = .ok (.i2b, 1))  (k : Rn x ly g post (pc + 1) lv (.int (zI a.toInt8.toInt32.toInt) :: st) I L) : Rn x ly g post pc lv (.int a :: st) I L := fun H locs ls hP hS hl => lv_i2b F.1 F.2.1 d (zI_v _).symm (k H locs ls hP hS hl)
theorem rr_lushr (F : Fx x ly g cc own ret f lo) {a : Int64} {b : Int32} (d : decode cc pc = .ok (.lushr, 1))  (k : Rn x ly g post (pc + 1) lv (.long (a.toUInt64 >>> (b.toInt64.toUInt64 &&& Int64.toUInt64 63)).toInt64 :: st) I L) : Rn x ly g post pc lv (.int b :: .long a :: st) I L := fun H locs ls hP hS hl => lv_lushr F.1 F.2.1 d rfl (k H locs ls hP hS hl)
theorem rr_lshr (F : Fx x ly g cc own ret f lo) {a : Int64} {b : Int32} (d : decode cc pc = .ok (.lshr, 1))  (k : Rn x ly g post (pc + 1) lv (.long (a >>> (b.toInt64 &&& 63)) :: st) I L) : Rn x ly g post pc lv (.int b :: .long a :: st) I L := fun H locs ls hP hS hl => lv_lshr F.1 F.2.1 d rfl (k H locs ls hP hS hl)
theorem rr_lcmp (F : Fx x ly g cc own ret f lo) {a b : Int64} (d : decode cc pc = .ok (.lcmp, 1))  (k : Rn x ly g post (pc + 1) lv (.int (lg_cmp a b) :: st) I L) : Rn x ly g post pc lv (.long b :: .long a :: st) I L := fun H locs ls hP hS hl => W.lcmp F.1 F.2.1 d (k H locs ls hP hS hl)
theorem rr_iconst (F : Fx x ly g cc own ret f lo) {n : Int} (d : decode cc pc = .ok (.iconst n, 1))  (k : Rn x ly g post (pc + 1) lv (.int (zI n) :: st) I L) : Rn x ly g post pc lv (st) I L := fun H locs ls hP hS hl => lv_iconst F.1 F.2.1 d rfl (k H locs ls hP hS hl)
theorem rr_bipush (F : Fx x ly g cc own ret f lo) {n : Int} (d : decode cc pc = .ok (.bipush n, 2)) (hv : (Int8.ofInt n).toInt32 = zI n) (k : Rn x ly g post (pc + 2) lv (.int (zI n) :: st) I L) : Rn x ly g post pc lv (st) I L := fun H locs ls hP hS hl => lv_bipush F.1 F.2.1 d hv (k H locs ls hP hS hl)
theorem rr_sipush (F : Fx x ly g cc own ret f lo) {n : Int} (d : decode cc pc = .ok (.sipush n, 3)) (hv : (Int16.ofInt n).toInt32 = zI n) (k : Rn x ly g post (pc + 3) lv (.int (zI n) :: st) I L) : Rn x ly g post pc lv (st) I L := fun H locs ls hP hS hl => lv_sipush F.1 F.2.1 d hv (k H locs ls hP hS hl)
theorem rr_lconst (F : Fx x ly g cc own ret f lo) {n : Fin 2} (d : decode cc pc = .ok (.lconst n, 1))  (k : Rn x ly g post (pc + 1) lv (.long (Int64.ofNat n) :: st) I L) : Rn x ly g post pc lv (st) I L := fun H locs ls hP hS hl => lv_lconst F.1 F.2.1 d rfl (k H locs ls hP hS hl)
theorem rr_ldc2 (F : Fx x ly g cc own ret f lo) {idx : Nat} {v : Int64} (d : decode cc pc = .ok (.ldc2_w idx, 3)) (hw : Cond.constantLong own idx v ∈ UW) (k : Rn x ly g post (pc + 3) lv (.long v :: st) I L) : Rn x ly g post pc lv (st) I L := fun H locs ls hP hS hl => lv_ldc2 F.1 F.2.1 F.2.2.2.1 (F.2.2.2.2.1 _ hw) d (k H locs ls hP hS hl)
theorem rr_dup (F : Fx x ly g cc own ret f lo) {a : Value} (d : decode cc pc = .ok (.dup, 1)) (hc : a.category = 1) (k : Rn x ly g post (pc + 1) lv (a :: a :: st) I L) : Rn x ly g post pc lv (a :: st) I L := fun H locs ls hP hS hl => lv_dup F.1 F.2.1 d hc (k H locs ls hP hS hl)
theorem rr_dup2 (F : Fx x ly g cc own ret f lo) {a b : Value} (d : decode cc pc = .ok (.dup2, 1)) (hc : a.category = 1) (hc2 : b.category = 1) (k : Rn x ly g post (pc + 1) lv (a :: b :: a :: b :: st) I L) : Rn x ly g post pc lv (a :: b :: st) I L := fun H locs ls hP hS hl => lv_dup2_11 F.1 F.2.1 d hc hc2 (k H locs ls hP hS hl)
theorem rr_goto (F : Fx x ly g cc own ret f lo) {off : Int} {tgt : Nat} (d : decode cc pc = .ok (.goto off, 3)) (ht : (pc : Int) + off = (tgt : Int)) (k : Rn x ly g post tgt lv (st) I L) : Rn x ly g post pc lv (st) I L := fun H locs ls hP hS hl => lv_goto F.1 F.2.1 d ht (k H locs ls hP hS hl)
theorem rr_iload (F : Fx x ly g cc own ret f lo) {i : Nat} {a : Int} (d : decode cc pc = .ok (.iload i, 2)) (h : lv[i]? = some (some (.int (zI a)))) (k : Rn x ly g post (pc + 2) lv (.int (zI a) :: st) I L) : Rn x ly g post pc lv (st) I L := fun H locs ls hP hS hl => lv_iload F.1 F.2.1 d (hl.2.2 i _ h) (k H locs ls hP hS hl)
theorem rr_iload_n (F : Fx x ly g cc own ret f lo) {i : Fin 4} {a : Int} (d : decode cc pc = .ok (.iload_n i, 1)) (h : lv[(i : Nat)]? = some (some (.int (zI a)))) (k : Rn x ly g post (pc + 1) lv (.int (zI a) :: st) I L) : Rn x ly g post pc lv (st) I L := fun H locs ls hP hS hl => lv_iload_n F.1 F.2.1 d rfl (hl.2.2 i _ h) (k H locs ls hP hS hl)
theorem rr_lload (F : Fx x ly g cc own ret f lo) {i : Nat} {a : Int64} (d : decode cc pc = .ok (.lload i, 2)) (h : lv[i]? = some (some (.long a))) (k : Rn x ly g post (pc + 2) lv (.long a :: st) I L) : Rn x ly g post pc lv (st) I L := fun H locs ls hP hS hl => lv_lload F.1 F.2.1 d (hl.2.2 i _ h) (k H locs ls hP hS hl)
theorem rr_lload_n (F : Fx x ly g cc own ret f lo) {i : Fin 4} {a : Int64} (d : decode cc pc = .ok (.lload_n i, 1)) (h : lv[(i : Nat)]? = some (some (.long a))) (k : Rn x ly g post (pc + 1) lv (.long a :: st) I L) : Rn x ly g post pc lv (st) I L := fun H locs ls hP hS hl => lv_lload_n F.1 F.2.1 d rfl (hl.2.2 i _ h) (k H locs ls hP hS hl)
theorem rr_aload (F : Fx x ly g cc own ret f lo) {i : Nat} {a : Nat} (d : decode cc pc = .ok (.aload i, 2)) (h : lv[i]? = some (some (.ref a))) (k : Rn x ly g post (pc + 2) lv (.ref a :: st) I L) : Rn x ly g post pc lv (st) I L := fun H locs ls hP hS hl => lv_aload F.1 F.2.1 d (hl.2.2 i _ h) (k H locs ls hP hS hl)
theorem rr_aload_n (F : Fx x ly g cc own ret f lo) {i : Fin 4} {a : Nat} (d : decode cc pc = .ok (.aload_n i, 1)) (h : lv[(i : Nat)]? = some (some (.ref a))) (k : Rn x ly g post (pc + 1) lv (.ref a :: st) I L) : Rn x ly g post pc lv (st) I L := fun H locs ls hP hS hl => lv_aload_n F.1 F.2.1 d rfl (hl.2.2 i _ h) (k H locs ls hP hS hl)
theorem rr_istore (F : Fx x ly g cc own ret f lo) {i : Nat} {a : Int} (d : decode cc pc = .ok (.istore i, 2)) (hi : i < lv.length) (hn : nlg lv i = true) (k : Rn x ly g post (pc + 2) (lv.set i (some (.int (zI a)))) (st) I L) : Rn x ly g post pc lv (.int (zI a) :: st) I L := fun H locs ls hP hS hl => lv_istore F.1 F.2.1 d hl.has (Nat.lt_of_lt_of_le hi hl.1.2) rfl (fun ls' hl' => k H locs ls' hP hS (lvh_st1 hn hl.1.2 hl'))
theorem rr_istore_n (F : Fx x ly g cc own ret f lo) {i : Fin 4} {a : Int} (d : decode cc pc = .ok (.istore_n i, 1)) (hi : (i : Nat) < lv.length) (hn : nlg lv i = true) (k : Rn x ly g post (pc + 1) (lv.set (i : Nat) (some (.int (zI a)))) (st) I L) : Rn x ly g post pc lv (.int (zI a) :: st) I L := fun H locs ls hP hS hl => lv_istore_n F.1 F.2.1 d rfl hl.has (Nat.lt_of_lt_of_le hi hl.1.2) rfl (fun ls' hl' => k H locs ls' hP hS (lvh_st1 hn hl.1.2 hl'))
theorem rr_astore (F : Fx x ly g cc own ret f lo) {i : Nat} {a : Nat} (d : decode cc pc = .ok (.astore i, 2)) (hi : i < lv.length) (hn : nlg lv i = true) (k : Rn x ly g post (pc + 2) (lv.set i (some (.ref a))) (st) I L) : Rn x ly g post pc lv (.ref a :: st) I L := fun H locs ls hP hS hl => lv_astore F.1 F.2.1 d hl.has (Nat.lt_of_lt_of_le hi hl.1.2) rfl (fun ls' hl' => k H locs ls' hP hS (lvh_st1 hn hl.1.2 hl'))
theorem rr_astore_n (F : Fx x ly g cc own ret f lo) {i : Fin 4} {a : Nat} (d : decode cc pc = .ok (.astore_n i, 1)) (hi : (i : Nat) < lv.length) (hn : nlg lv i = true) (k : Rn x ly g post (pc + 1) (lv.set (i : Nat) (some (.ref a))) (st) I L) : Rn x ly g post pc lv (.ref a :: st) I L := fun H locs ls hP hS hl => lv_astore_n F.1 F.2.1 d rfl hl.has (Nat.lt_of_lt_of_le hi hl.1.2) rfl (fun ls' hl' => k H locs ls' hP hS (lvh_st1 hn hl.1.2 hl'))
theorem rr_lstore (F : Fx x ly g cc own ret f lo) {i : Nat} {a : Int64} (d : decode cc pc = .ok (.lstore i, 2)) (hi : i + 1 < lv.length) (hn : nlg lv i = true) (k : Rn x ly g post (pc + 2) ((lv.set i (some (.long a))).set (i + 1) none) (st) I L) : Rn x ly g post pc lv (.long a :: st) I L := fun H locs ls hP hS hl => lv_lstore F.1 F.2.1 d hl.has (Nat.lt_of_lt_of_le hi hl.1.2) rfl (fun ls' hl' => k H locs ls' hP hS (lvh_st2 hn hl.1.2 hl'))
theorem rr_lstore_n (F : Fx x ly g cc own ret f lo) {i : Fin 4} {a : Int64} (d : decode cc pc = .ok (.lstore_n i, 1)) (hi : (i : Nat) + 1 < lv.length) (hn : nlg lv i = true) (k : Rn x ly g post (pc + 1) ((lv.set (i : Nat) (some (.long a))).set ((i : Nat) + 1) none) (st) I L) : Rn x ly g post pc lv (.long a :: st) I L := fun H locs ls hP hS hl => lv_lstore_n F.1 F.2.1 d rfl hl.has (Nat.lt_of_lt_of_le hi hl.1.2) rfl (fun ls' hl' => k H locs ls' hP hS (lvh_st2 hn hl.1.2 hl'))
theorem rr_iinc (F : Fx x ly g cc own ret f lo) {i : Nat} {n a : Int} (d : decode cc pc = .ok (.iinc i n, 3)) (h : lv[i]? = some (some (.int (zI a)))) (hn : nlg lv i = true) (k : Rn x ly g post (pc + 3) (lv.set i (some (.int (zI (a + n))))) (st) I L) : Rn x ly g post pc lv (st) I L := fun H locs ls hP hS hl => by
  have hm := lvP_mem.mpr h
  obtain ⟨q, hq⟩ := List.getElem?_of_mem hm
  exact lv_iinc F.1 F.2.1 d hl.has (k := q) hq (Int32.ofInt_add a n).symm (Nat.lt_of_lt_of_le (List.getElem?_eq_some_iff.mp h).1 hl.1.2) rfl (fun ls' hl' => k H locs ls' hP hS (lvh_st1 hn hl.1.2 hl'))
theorem rr_drop (j : Nat) (k : Rn x ly g post pc (lv.set j none) (st) I L) : Rn x ly g post pc lv (st) I L := fun H locs ls hP hS hl => k H locs ls hP hS ⟨⟨hl.1.1, by simpa using hl.1.2⟩, hl.2.1, fun i v hv => by
  rw [List.getElem?_set] at hv
  split at hv
  · split at hv <;> cases hv
  · exact hl.2.2 i v hv⟩
theorem rr_if_eq (F : Fx x ly g cc own ret f lo) {a off : Int} {tgt : Nat} (d : decode cc pc = .ok (.ifCond .eq off, 3)) (ht : (pc : Int) + off = (tgt : Int)) (ha : rg a) (kt : a = 0 → Rn x ly g post tgt lv (st) I L) (kf : ¬ a = 0 → Rn x ly g post (pc + 3) lv (st) I L) : Rn x ly g post pc lv (.int (zI a) :: st) I L := fun H locs ls hP hS hl => lv_if_eq F.1 F.2.1 d ht (fun q => kt ((zI_eq ha rg0).mp q) H locs ls hP hS hl) (fun q => kf (fun e => q ((zI_eq ha rg0).mpr e)) H locs ls hP hS hl)
theorem rr_if_ne (F : Fx x ly g cc own ret f lo) {a off : Int} {tgt : Nat} (d : decode cc pc = .ok (.ifCond .ne off, 3)) (ht : (pc : Int) + off = (tgt : Int)) (ha : rg a) (kt : ¬ a = 0 → Rn x ly g post tgt lv (st) I L) (kf : a = 0 → Rn x ly g post (pc + 3) lv (st) I L) : Rn x ly g post pc lv (.int (zI a) :: st) I L := fun H locs ls hP hS hl => lv_if_ne F.1 F.2.1 d ht (fun q => kt (fun e => q ((zI_eq ha rg0).mpr e)) H locs ls hP hS hl) (fun q => kf ((zI_eq ha rg0).mp q) H locs ls hP hS hl)
theorem rr_if_lt (F : Fx x ly g cc own ret f lo) {a off : Int} {tgt : Nat} (d : decode cc pc = .ok (.ifCond .lt off, 3)) (ht : (pc : Int) + off = (tgt : Int)) (ha : rg a) (kt : a < 0 → Rn x ly g post tgt lv (st) I L) (kf : 0 ≤ a → Rn x ly g post (pc + 3) lv (st) I L) : Rn x ly g post pc lv (.int (zI a) :: st) I L := fun H locs ls hP hS hl => lv_if_lt F.1 F.2.1 d ht (fun q => kt ((zI_lt ha rg0).mp q) H locs ls hP hS hl) (fun q => kf (Int.not_lt.mp (fun e => q ((zI_lt ha rg0).mpr e))) H locs ls hP hS hl)
theorem rr_if_ge (F : Fx x ly g cc own ret f lo) {a off : Int} {tgt : Nat} (d : decode cc pc = .ok (.ifCond .ge off, 3)) (ht : (pc : Int) + off = (tgt : Int)) (ha : rg a) (kt : 0 ≤ a → Rn x ly g post tgt lv (st) I L) (kf : a < 0 → Rn x ly g post (pc + 3) lv (st) I L) : Rn x ly g post pc lv (.int (zI a) :: st) I L := fun H locs ls hP hS hl => lv_if_ge F.1 F.2.1 d ht (fun q => kt ((zI_le rg0 ha).mp q) H locs ls hP hS hl) (fun q => kf (Int.not_le.mp (fun e => q ((zI_le rg0 ha).mpr e))) H locs ls hP hS hl)
theorem rr_if_gt (F : Fx x ly g cc own ret f lo) {a off : Int} {tgt : Nat} (d : decode cc pc = .ok (.ifCond .gt off, 3)) (ht : (pc : Int) + off = (tgt : Int)) (ha : rg a) (kt : 0 < a → Rn x ly g post tgt lv (st) I L) (kf : a ≤ 0 → Rn x ly g post (pc + 3) lv (st) I L) : Rn x ly g post pc lv (.int (zI a) :: st) I L := fun H locs ls hP hS hl => lv_if_gt F.1 F.2.1 d ht (fun q => kt ((zI_lt rg0 ha).mp q) H locs ls hP hS hl) (fun q => kf (Int.not_lt.mp (fun e => q ((zI_lt rg0 ha).mpr e))) H locs ls hP hS hl)
theorem rr_if_le (F : Fx x ly g cc own ret f lo) {a off : Int} {tgt : Nat} (d : decode cc pc = .ok (.ifCond .le off, 3)) (ht : (pc : Int) + off = (tgt : Int)) (ha : rg a) (kt : a ≤ 0 → Rn x ly g post tgt lv (st) I L) (kf : 0 < a → Rn x ly g post (pc + 3) lv (st) I L) : Rn x ly g post pc lv (.int (zI a) :: st) I L := fun H locs ls hP hS hl => lv_if_le F.1 F.2.1 d ht (fun q => kt ((zI_le ha rg0).mp q) H locs ls hP hS hl) (fun q => kf (Int.not_le.mp (fun e => q ((zI_le ha rg0).mpr e))) H locs ls hP hS hl)
theorem rr_icmp_eq (F : Fx x ly g cc own ret f lo) {a b off : Int} {tgt : Nat} (d : decode cc pc = .ok (.if_icmp .eq off, 3)) (ht : (pc : Int) + off = (tgt : Int)) (ha : rg a) (hb : rg b) (kt : a = b → Rn x ly g post tgt lv (st) I L) (kf : ¬ a = b → Rn x ly g post (pc + 3) lv (st) I L) : Rn x ly g post pc lv (.int (zI b) :: .int (zI a) :: st) I L := fun H locs ls hP hS hl => lv_icmp_eq F.1 F.2.1 d ht (fun q => kt ((zI_eq ha hb).mp q) H locs ls hP hS hl) (fun q => kf (fun e => q ((zI_eq ha hb).mpr e)) H locs ls hP hS hl)
theorem rr_icmp_ne (F : Fx x ly g cc own ret f lo) {a b off : Int} {tgt : Nat} (d : decode cc pc = .ok (.if_icmp .ne off, 3)) (ht : (pc : Int) + off = (tgt : Int)) (ha : rg a) (hb : rg b) (kt : ¬ a = b → Rn x ly g post tgt lv (st) I L) (kf : a = b → Rn x ly g post (pc + 3) lv (st) I L) : Rn x ly g post pc lv (.int (zI b) :: .int (zI a) :: st) I L := fun H locs ls hP hS hl => lv_icmp_ne F.1 F.2.1 d ht (fun q => kt (fun e => q ((zI_eq ha hb).mpr e)) H locs ls hP hS hl) (fun q => kf ((zI_eq ha hb).mp q) H locs ls hP hS hl)
theorem rr_icmp_lt (F : Fx x ly g cc own ret f lo) {a b off : Int} {tgt : Nat} (d : decode cc pc = .ok (.if_icmp .lt off, 3)) (ht : (pc : Int) + off = (tgt : Int)) (ha : rg a) (hb : rg b) (kt : a < b → Rn x ly g post tgt lv (st) I L) (kf : b ≤ a → Rn x ly g post (pc + 3) lv (st) I L) : Rn x ly g post pc lv (.int (zI b) :: .int (zI a) :: st) I L := fun H locs ls hP hS hl => lv_icmp_lt F.1 F.2.1 d ht (fun q => kt ((zI_lt ha hb).mp q) H locs ls hP hS hl) (fun q => kf (Int.not_lt.mp (fun e => q ((zI_lt ha hb).mpr e))) H locs ls hP hS hl)
theorem rr_icmp_ge (F : Fx x ly g cc own ret f lo) {a b off : Int} {tgt : Nat} (d : decode cc pc = .ok (.if_icmp .ge off, 3)) (ht : (pc : Int) + off = (tgt : Int)) (ha : rg a) (hb : rg b) (kt : b ≤ a → Rn x ly g post tgt lv (st) I L) (kf : a < b → Rn x ly g post (pc + 3) lv (st) I L) : Rn x ly g post pc lv (.int (zI b) :: .int (zI a) :: st) I L := fun H locs ls hP hS hl => lv_icmp_ge F.1 F.2.1 d ht (fun q => kt ((zI_le hb ha).mp q) H locs ls hP hS hl) (fun q => kf (Int.not_le.mp (fun e => q ((zI_le hb ha).mpr e))) H locs ls hP hS hl)
theorem rr_icmp_gt (F : Fx x ly g cc own ret f lo) {a b off : Int} {tgt : Nat} (d : decode cc pc = .ok (.if_icmp .gt off, 3)) (ht : (pc : Int) + off = (tgt : Int)) (ha : rg a) (hb : rg b) (kt : b < a → Rn x ly g post tgt lv (st) I L) (kf : a ≤ b → Rn x ly g post (pc + 3) lv (st) I L) : Rn x ly g post pc lv (.int (zI b) :: .int (zI a) :: st) I L := fun H locs ls hP hS hl => lv_icmp_gt F.1 F.2.1 d ht (fun q => kt ((zI_lt hb ha).mp q) H locs ls hP hS hl) (fun q => kf (Int.not_lt.mp (fun e => q ((zI_lt hb ha).mpr e))) H locs ls hP hS hl)
theorem rr_icmp_le (F : Fx x ly g cc own ret f lo) {a b off : Int} {tgt : Nat} (d : decode cc pc = .ok (.if_icmp .le off, 3)) (ht : (pc : Int) + off = (tgt : Int)) (ha : rg a) (hb : rg b) (kt : a ≤ b → Rn x ly g post tgt lv (st) I L) (kf : b < a → Rn x ly g post (pc + 3) lv (st) I L) : Rn x ly g post pc lv (.int (zI b) :: .int (zI a) :: st) I L := fun H locs ls hP hS hl => lv_icmp_le F.1 F.2.1 d ht (fun q => kt ((zI_le ha hb).mp q) H locs ls hP hS hl) (fun q => kf (Int.not_le.mp (fun e => q ((zI_le ha hb).mpr e))) H locs ls hP hS hl)
theorem lgc_eq (a b : Int64) : lg_cmp a b = 0 ↔ a = b := by
  unfold lg_cmp
  by_cases h1 : a > b
  · rw [if_pos h1]
    exact ⟨fun q => absurd q (by decide), fun q => by subst q; exact absurd h1 Int64.lt_irrefl⟩
  · rw [if_neg h1]
    by_cases h2 : a = b
    · rw [if_pos h2]; exact ⟨fun _ => h2, fun _ => rfl⟩
    · rw [if_neg h2]; exact ⟨fun q => absurd q (by decide), fun q => absurd q h2⟩
theorem rr_lif_eq (F : Fx x ly g cc own ret f lo) {a b : Int64} {off : Int} {tgt : Nat} (d : decode cc pc = .ok (.ifCond .eq off, 3)) (ht : (pc : Int) + off = (tgt : Int)) (kt : a = b → Rn x ly g post tgt lv (st) I L) (kf : ¬ a = b → Rn x ly g post (pc + 3) lv (st) I L) : Rn x ly g post pc lv (.int (lg_cmp a b) :: st) I L := fun H locs ls hP hS hl => lv_if_eq F.1 F.2.1 d ht (fun q => kt ((lgc_eq a b).mp q) H locs ls hP hS hl) (fun q => kf (fun e => q ((lgc_eq a b).mpr e)) H locs ls hP hS hl)
theorem rr_lif_ne (F : Fx x ly g cc own ret f lo) {a b : Int64} {off : Int} {tgt : Nat} (d : decode cc pc = .ok (.ifCond .ne off, 3)) (ht : (pc : Int) + off = (tgt : Int)) (kt : ¬ a = b → Rn x ly g post tgt lv (st) I L) (kf : a = b → Rn x ly g post (pc + 3) lv (st) I L) : Rn x ly g post pc lv (.int (lg_cmp a b) :: st) I L := fun H locs ls hP hS hl => lv_if_ne F.1 F.2.1 d ht (fun q => kt (fun e => q ((lgc_eq a b).mpr e)) H locs ls hP hS hl) (fun q => kf ((lgc_eq a b).mp q) H locs ls hP hS hl)
theorem rr_top {a b : Value} (h : a = b) (k : Rn x ly g post pc lv (b :: st) I L) : Rn x ly g post pc lv (a :: st) I L := h ▸ k
theorem rr_topi {a b : Int} (h : a = b) (k : Rn x ly g post pc lv (.int (zI b) :: st) I L) : Rn x ly g post pc lv (.int (zI a) :: st) I L := h ▸ k
theorem rr_topv {a : Int32} (k : Rn x ly g post pc lv (.int (zI a.toInt) :: st) I L) : Rn x ly g post pc lv (.int a :: st) I L := by rw [zI_v] at k; exact k
theorem rr_cell {k k2 : Nat} (h : k = k2) (kk : Rn x ly g post pc lv (.ref (g.2.1 k2) :: st) I L) : Rn x ly g post pc lv (.ref (g.2.1 k) :: st) I L := h ▸ kk
theorem rr_get (F : Fx x ly g cc own ret f lo) {k idx ci N : Nat} {C : String} {T : u_T} {fs : List Value} {v : Value} (hk : k < ly.length) (hm : mkE g (ly.getD k (99, 0)) k (I k) (L k) = .inr (ci, fs)) (hc : vwCl[ci]? = some (C, T, N)) (hw : ∀ w ∈ u_ws C T N, w ∈ UW) (j : Nat) (hj : j < N) (hl : Cond.fieldLink own idx (T j).1 (T j).2.1 (T j).2.2.1 ∈ UW) (hv : fs[j]? = some v) (d : decode cc pc = .ok (.getfield idx, 3)) (kk : Rn x ly g post (pc + 3) lv (v :: st) I L) : Rn x ly g post pc lv (.ref (g.2.1 k) :: st) I L := fun H locs ls hP hS h => va_get F.1 F.2.1 (F.2.2.2.2.1) hw F.2.2.2.1 F.2.2.2.2.2.1.1 hP k (by rw [wl_get g I L hk, hm]) hc j hj (F.2.2.2.2.1 _ hl) (fun _ q => q) hv d (kk H locs ls hP hS h)
theorem rr_put (F : Fx x ly g cc own ret f lo) {k idx ci N : Nat} {C : String} {T : u_T} {fs : List Value} {v : Value} {I' : IM} {L' : LM} {ty : FieldType} (ty0 : Nat → FieldType) (hk : k < ly.length) (hm : mkE g (ly.getD k (99, 0)) k (I k) (L k) = .inr (ci, fs)) (hc : vwCl[ci]? = some (C, T, N)) (hw : ∀ w ∈ u_ws C T N, w ∈ UW) (hty : ∀ k, k < N → parseFieldDescriptor (T k).2.2.1 = some (ty0 k)) (hnm : ∀ a, a < N → ∀ b, b < N → a ≠ b → (T a).2.1 ≠ (T b).2.1) (j : Nat) (hj : j < N) (hl : Cond.fieldLink own idx (T j).1 (T j).2.1 (T j).2.2.1 ∈ UW) (hfin : (T j).2.2.2 = false) (hd : parseFieldDescriptor (T j).2.2.1 = some ty) (hn : narrow ty v = v) (hfit : fits ty v = true) (hlen : j < fs.length) (hm' : mkE g (ly.getD k (99, 0)) k (I' k) (L' k) = .inr (ci, fs.set j v)) (hI : ∀ q, q ≠ k → I' q = I q) (hL : ∀ q, q ≠ k → L' q = L q) (d : decode cc pc = .ok (.putfield idx, 3)) (kk : Rn x ly g post (pc + 3) lv (st) I' L') : Rn x ly g post pc lv (v :: .ref (g.2.1 k) :: st) I L := fun H locs ls hP hS h =>
  va_put F.1 F.2.1 (F.2.2.2.2.1) hw ty0 hty hnm F.2.2.2.1 F.2.2.2.2.2.1.1 hP (wl_D F.2.2.2.2.2.1.2.1 I L) hS k (by rw [wl_get g I L hk, hm]) hc j hj (F.2.2.2.2.1 _ hl) (fun _ q => q) hfin hd hn hfit hlen d (fun H1 locs1 hP1 _ hS1 => kk H1 locs1 ls (by rw [← hm', wl_set g hI hL] at hP1; exact hP1) hS1 h)
theorem mk_Book {k : Nat} (hk : kd ly k = 0) (f : Int → Int) (h : Int → Int64) : mkE g (ly.getD k (99, 0)) k f h = .inr (0, [.ref (g.2.1 (k + 1)), .int (zI (f 1)), .int (zI (f 2)), .int (zI (f 3)), .int (zI (f 4))]) := by
  have e : (ly.getD k (99, 0)).1 = 0 := hk
  simp only [mkE, e]
theorem rg_Book_tokens (F : Fx x ly g cc own ret f lo) {k idx : Nat} (hk : kd ly k = 0) (hl : Cond.fieldLink own idx "BorrowedPages$Book" "tokens" "[J" ∈ UW) (d : decode cc pc = .ok (.getfield idx, 3)) (kk : Rn x ly g post (pc + 3) lv (.ref (g.2.1 (k + 1)) :: st) I L) : Rn x ly g post pc lv (.ref (g.2.1 k) :: st) I L := rr_get F (kd_lt hk (by decide)) (mk_Book hk _ _) rfl inU0 0 (by decide) hl rfl d kk
theorem rg_Book_size (F : Fx x ly g cc own ret f lo) {k idx : Nat} (hk : kd ly k = 0) (hl : Cond.fieldLink own idx "BorrowedPages$Book" "size" "I" ∈ UW) (d : decode cc pc = .ok (.getfield idx, 3)) (kk : Rn x ly g post (pc + 3) lv (.int (zI (I k 1)) :: st) I L) : Rn x ly g post pc lv (.ref (g.2.1 k) :: st) I L := rr_get F (kd_lt hk (by decide)) (mk_Book hk _ _) rfl inU0 1 (by decide) hl rfl d kk
theorem rp_Book_size (F : Fx x ly g cc own ret f lo) {k idx : Nat} {a : Int} (hk : kd ly k = 0) (hl : Cond.fieldLink own idx "BorrowedPages$Book" "size" "I" ∈ UW) (d : decode cc pc = .ok (.putfield idx, 3)) (kk : Rn x ly g post (pc + 3) lv (st) (up2 I k 1 a) L) : Rn x ly g post pc lv (.int (zI a) :: .ref (g.2.1 k) :: st) I L := rr_put (ty := .int) F tyX0 (kd_lt hk (by decide)) (mk_Book hk _ _) rfl inU0 tyX0_ok nmX0 1 (by decide) hl rfl (by decide +kernel) rfl rfl (Nat.le_of_ble_eq_true rfl) ((mk_Book hk _ _).trans (by simp [up2])) (fun q h => up2_cell I _ _ h) (fun _ _ => rfl) d kk
theorem rg_Book_language (F : Fx x ly g cc own ret f lo) {k idx : Nat} (hk : kd ly k = 0) (hl : Cond.fieldLink own idx "BorrowedPages$Book" "language" "I" ∈ UW) (d : decode cc pc = .ok (.getfield idx, 3)) (kk : Rn x ly g post (pc + 3) lv (.int (zI (I k 2)) :: st) I L) : Rn x ly g post pc lv (.ref (g.2.1 k) :: st) I L := rr_get F (kd_lt hk (by decide)) (mk_Book hk _ _) rfl inU0 2 (by decide) hl rfl d kk
theorem rp_Book_language (F : Fx x ly g cc own ret f lo) {k idx : Nat} {a : Int} (hk : kd ly k = 0) (hl : Cond.fieldLink own idx "BorrowedPages$Book" "language" "I" ∈ UW) (d : decode cc pc = .ok (.putfield idx, 3)) (kk : Rn x ly g post (pc + 3) lv (st) (up2 I k 2 a) L) : Rn x ly g post pc lv (.int (zI a) :: .ref (g.2.1 k) :: st) I L := rr_put (ty := .int) F tyX0 (kd_lt hk (by decide)) (mk_Book hk _ _) rfl inU0 tyX0_ok nmX0 2 (by decide) hl rfl (by decide +kernel) rfl rfl (Nat.le_of_ble_eq_true rfl) ((mk_Book hk _ _).trans (by simp [up2])) (fun q h => up2_cell I _ _ h) (fun _ _ => rfl) d kk
theorem rg_Book_day (F : Fx x ly g cc own ret f lo) {k idx : Nat} (hk : kd ly k = 0) (hl : Cond.fieldLink own idx "BorrowedPages$Book" "day" "I" ∈ UW) (d : decode cc pc = .ok (.getfield idx, 3)) (kk : Rn x ly g post (pc + 3) lv (.int (zI (I k 3)) :: st) I L) : Rn x ly g post pc lv (.ref (g.2.1 k) :: st) I L := rr_get F (kd_lt hk (by decide)) (mk_Book hk _ _) rfl inU0 3 (by decide) hl rfl d kk
theorem rp_Book_day (F : Fx x ly g cc own ret f lo) {k idx : Nat} {a : Int} (hk : kd ly k = 0) (hl : Cond.fieldLink own idx "BorrowedPages$Book" "day" "I" ∈ UW) (d : decode cc pc = .ok (.putfield idx, 3)) (kk : Rn x ly g post (pc + 3) lv (st) (up2 I k 3 a) L) : Rn x ly g post pc lv (.int (zI a) :: .ref (g.2.1 k) :: st) I L := rr_put (ty := .int) F tyX0 (kd_lt hk (by decide)) (mk_Book hk _ _) rfl inU0 tyX0_ok nmX0 3 (by decide) hl rfl (by decide +kernel) rfl rfl (Nat.le_of_ble_eq_true rfl) ((mk_Book hk _ _).trans (by simp [up2])) (fun q h => up2_cell I _ _ h) (fun _ _ => rfl) d kk
theorem rg_Book_held (F : Fx x ly g cc own ret f lo) {k idx : Nat} (hk : kd ly k = 0) (hl : Cond.fieldLink own idx "BorrowedPages$Book" "held" "Z" ∈ UW) (d : decode cc pc = .ok (.getfield idx, 3)) (kk : Rn x ly g post (pc + 3) lv (.int (zI (I k 4)) :: st) I L) : Rn x ly g post pc lv (.ref (g.2.1 k) :: st) I L := rr_get F (kd_lt hk (by decide)) (mk_Book hk _ _) rfl inU0 4 (by decide) hl rfl d kk
theorem rp_Book_held (F : Fx x ly g cc own ret f lo) {k idx : Nat} {a : Int} (hk : kd ly k = 0) (hl : Cond.fieldLink own idx "BorrowedPages$Book" "held" "Z" ∈ UW) (hn : narrow .boolean (.int (zI a)) = .int (zI a)) (hft : fits .boolean (.int (zI a)) = true) (d : decode cc pc = .ok (.putfield idx, 3)) (kk : Rn x ly g post (pc + 3) lv (st) (up2 I k 4 a) L) : Rn x ly g post pc lv (.int (zI a) :: .ref (g.2.1 k) :: st) I L := rr_put (ty := .boolean) F tyX0 (kd_lt hk (by decide)) (mk_Book hk _ _) rfl inU0 tyX0_ok nmX0 4 (by decide) hl rfl (by decide +kernel) hn hft (Nat.le_of_ble_eq_true rfl) ((mk_Book hk _ _).trans (by simp [up2])) (fun q h => up2_cell I _ _ h) (fun _ _ => rfl) d kk
theorem mk_Comparison {k : Nat} (hk : kd ly k = 1) (f : Int → Int) (h : Int → Int64) : mkE g (ly.getD k (99, 0)) k f h = .inr (1, [.ref (g.2.1 (k + 1)), .int (zI (f 1)), .int (zI (f 2)), .int (zI (f 3)), .ref (g.2.1 (k + 4)), .ref (g.2.1 (k + 10)), .ref (g.2.1 (k + 16)), .ref (g.2.1 (k + 2)), .ref (g.2.1 (k + 3))]) := by
  have e : (ly.getD k (99, 0)).1 = 1 := hk
  simp only [mkE, e]
theorem rg_Comparison_chainRuns (F : Fx x ly g cc own ret f lo) {k idx : Nat} (hk : kd ly k = 1) (hl : Cond.fieldLink own idx "BorrowedPages$Comparison" "chainRuns" "[I" ∈ UW) (d : decode cc pc = .ok (.getfield idx, 3)) (kk : Rn x ly g post (pc + 3) lv (.ref (g.2.1 (k + 1)) :: st) I L) : Rn x ly g post pc lv (.ref (g.2.1 k) :: st) I L := rr_get F (kd_lt hk (by decide)) (mk_Comparison hk _ _) rfl inU1 0 (by decide) hl rfl d kk
theorem rg_Comparison_chainLength (F : Fx x ly g cc own ret f lo) {k idx : Nat} (hk : kd ly k = 1) (hl : Cond.fieldLink own idx "BorrowedPages$Comparison" "chainLength" "I" ∈ UW) (d : decode cc pc = .ok (.getfield idx, 3)) (kk : Rn x ly g post (pc + 3) lv (.int (zI (I k 1)) :: st) I L) : Rn x ly g post pc lv (.ref (g.2.1 k) :: st) I L := rr_get F (kd_lt hk (by decide)) (mk_Comparison hk _ _) rfl inU1 1 (by decide) hl rfl d kk
theorem rp_Comparison_chainLength (F : Fx x ly g cc own ret f lo) {k idx : Nat} {a : Int} (hk : kd ly k = 1) (hl : Cond.fieldLink own idx "BorrowedPages$Comparison" "chainLength" "I" ∈ UW) (d : decode cc pc = .ok (.putfield idx, 3)) (kk : Rn x ly g post (pc + 3) lv (st) (up2 I k 1 a) L) : Rn x ly g post pc lv (.int (zI a) :: .ref (g.2.1 k) :: st) I L := rr_put (ty := .int) F tyX1 (kd_lt hk (by decide)) (mk_Comparison hk _ _) rfl inU1 tyX1_ok nmX1 1 (by decide) hl rfl (by decide +kernel) rfl rfl (Nat.le_of_ble_eq_true rfl) ((mk_Comparison hk _ _).trans (by simp [up2])) (fun q h => up2_cell I _ _ h) (fun _ _ => rfl) d kk
theorem rg_Comparison_chainTokens (F : Fx x ly g cc own ret f lo) {k idx : Nat} (hk : kd ly k = 1) (hl : Cond.fieldLink own idx "BorrowedPages$Comparison" "chainTokens" "I" ∈ UW) (d : decode cc pc = .ok (.getfield idx, 3)) (kk : Rn x ly g post (pc + 3) lv (.int (zI (I k 2)) :: st) I L) : Rn x ly g post pc lv (.ref (g.2.1 k) :: st) I L := rr_get F (kd_lt hk (by decide)) (mk_Comparison hk _ _) rfl inU1 2 (by decide) hl rfl d kk
theorem rp_Comparison_chainTokens (F : Fx x ly g cc own ret f lo) {k idx : Nat} {a : Int} (hk : kd ly k = 1) (hl : Cond.fieldLink own idx "BorrowedPages$Comparison" "chainTokens" "I" ∈ UW) (d : decode cc pc = .ok (.putfield idx, 3)) (kk : Rn x ly g post (pc + 3) lv (st) (up2 I k 2 a) L) : Rn x ly g post pc lv (.int (zI a) :: .ref (g.2.1 k) :: st) I L := rr_put (ty := .int) F tyX1 (kd_lt hk (by decide)) (mk_Comparison hk _ _) rfl inU1 tyX1_ok nmX1 2 (by decide) hl rfl (by decide +kernel) rfl rfl (Nat.le_of_ble_eq_true rfl) ((mk_Comparison hk _ _).trans (by simp [up2])) (fun q h => up2_cell I _ _ h) (fun _ _ => rfl) d kk
theorem rg_Comparison_runCount (F : Fx x ly g cc own ret f lo) {k idx : Nat} (hk : kd ly k = 1) (hl : Cond.fieldLink own idx "BorrowedPages$Comparison" "runCount" "I" ∈ UW) (d : decode cc pc = .ok (.getfield idx, 3)) (kk : Rn x ly g post (pc + 3) lv (.int (zI (I k 3)) :: st) I L) : Rn x ly g post pc lv (.ref (g.2.1 k) :: st) I L := rr_get F (kd_lt hk (by decide)) (mk_Comparison hk _ _) rfl inU1 3 (by decide) hl rfl d kk
theorem rp_Comparison_runCount (F : Fx x ly g cc own ret f lo) {k idx : Nat} {a : Int} (hk : kd ly k = 1) (hl : Cond.fieldLink own idx "BorrowedPages$Comparison" "runCount" "I" ∈ UW) (d : decode cc pc = .ok (.putfield idx, 3)) (kk : Rn x ly g post (pc + 3) lv (st) (up2 I k 3 a) L) : Rn x ly g post pc lv (.int (zI a) :: .ref (g.2.1 k) :: st) I L := rr_put (ty := .int) F tyX1 (kd_lt hk (by decide)) (mk_Comparison hk _ _) rfl inU1 tyX1_ok nmX1 3 (by decide) hl rfl (by decide +kernel) rfl rfl (Nat.le_of_ble_eq_true rfl) ((mk_Comparison hk _ _).trans (by simp [up2])) (fun q h => up2_cell I _ _ h) (fun _ _ => rfl) d kk
theorem rg_Comparison_left (F : Fx x ly g cc own ret f lo) {k idx : Nat} (hk : kd ly k = 1) (hl : Cond.fieldLink own idx "BorrowedPages$Comparison" "left" "LBorrowedPages$Page;" ∈ UW) (d : decode cc pc = .ok (.getfield idx, 3)) (kk : Rn x ly g post (pc + 3) lv (.ref (g.2.1 (k + 4)) :: st) I L) : Rn x ly g post pc lv (.ref (g.2.1 k) :: st) I L := rr_get F (kd_lt hk (by decide)) (mk_Comparison hk _ _) rfl inU1 4 (by decide) hl rfl d kk
theorem rg_Comparison_right (F : Fx x ly g cc own ret f lo) {k idx : Nat} (hk : kd ly k = 1) (hl : Cond.fieldLink own idx "BorrowedPages$Comparison" "right" "LBorrowedPages$Page;" ∈ UW) (d : decode cc pc = .ok (.getfield idx, 3)) (kk : Rn x ly g post (pc + 3) lv (.ref (g.2.1 (k + 10)) :: st) I L) : Rn x ly g post pc lv (.ref (g.2.1 k) :: st) I L := rr_get F (kd_lt hk (by decide)) (mk_Comparison hk _ _) rfl inU1 5 (by decide) hl rfl d kk
theorem rg_Comparison_third (F : Fx x ly g cc own ret f lo) {k idx : Nat} (hk : kd ly k = 1) (hl : Cond.fieldLink own idx "BorrowedPages$Comparison" "third" "LBorrowedPages$Page;" ∈ UW) (d : decode cc pc = .ok (.getfield idx, 3)) (kk : Rn x ly g post (pc + 3) lv (.ref (g.2.1 (k + 16)) :: st) I L) : Rn x ly g post pc lv (.ref (g.2.1 k) :: st) I L := rr_get F (kd_lt hk (by decide)) (mk_Comparison hk _ _) rfl inU1 6 (by decide) hl rfl d kk
theorem rg_Comparison_runLengths (F : Fx x ly g cc own ret f lo) {k idx : Nat} (hk : kd ly k = 1) (hl : Cond.fieldLink own idx "BorrowedPages$Comparison" "runLengths" "[I" ∈ UW) (d : decode cc pc = .ok (.getfield idx, 3)) (kk : Rn x ly g post (pc + 3) lv (.ref (g.2.1 (k + 2)) :: st) I L) : Rn x ly g post pc lv (.ref (g.2.1 k) :: st) I L := rr_get F (kd_lt hk (by decide)) (mk_Comparison hk _ _) rfl inU1 7 (by decide) hl rfl d kk
theorem rg_Comparison_best (F : Fx x ly g cc own ret f lo) {k idx : Nat} (hk : kd ly k = 1) (hl : Cond.fieldLink own idx "BorrowedPages$Comparison" "best" "[I" ∈ UW) (d : decode cc pc = .ok (.getfield idx, 3)) (kk : Rn x ly g post (pc + 3) lv (.ref (g.2.1 (k + 3)) :: st) I L) : Rn x ly g post pc lv (.ref (g.2.1 k) :: st) I L := rr_get F (kd_lt hk (by decide)) (mk_Comparison hk _ _) rfl inU1 8 (by decide) hl rfl d kk
theorem mk_Groups {k : Nat} (hk : kd ly k = 2) (f : Int → Int) (h : Int → Int64) : mkE g (ly.getD k (99, 0)) k f h = .inr (2, [.ref (g.2.1 (k + 1)), .int (zI (f 1))]) := by
  have e : (ly.getD k (99, 0)).1 = 2 := hk
  simp only [mkE, e]
theorem rg_Groups_leaders (F : Fx x ly g cc own ret f lo) {k idx : Nat} (hk : kd ly k = 2) (hl : Cond.fieldLink own idx "BorrowedPages$Groups" "leaders" "[I" ∈ UW) (d : decode cc pc = .ok (.getfield idx, 3)) (kk : Rn x ly g post (pc + 3) lv (.ref (g.2.1 (k + 1)) :: st) I L) : Rn x ly g post pc lv (.ref (g.2.1 k) :: st) I L := rr_get F (kd_lt hk (by decide)) (mk_Groups hk _ _) rfl inU2 0 (by decide) hl rfl d kk
theorem rg_Groups_links (F : Fx x ly g cc own ret f lo) {k idx : Nat} (hk : kd ly k = 2) (hl : Cond.fieldLink own idx "BorrowedPages$Groups" "links" "I" ∈ UW) (d : decode cc pc = .ok (.getfield idx, 3)) (kk : Rn x ly g post (pc + 3) lv (.int (zI (I k 1)) :: st) I L) : Rn x ly g post pc lv (.ref (g.2.1 k) :: st) I L := rr_get F (kd_lt hk (by decide)) (mk_Groups hk _ _) rfl inU2 1 (by decide) hl rfl d kk
theorem rp_Groups_links (F : Fx x ly g cc own ret f lo) {k idx : Nat} {a : Int} (hk : kd ly k = 2) (hl : Cond.fieldLink own idx "BorrowedPages$Groups" "links" "I" ∈ UW) (d : decode cc pc = .ok (.putfield idx, 3)) (kk : Rn x ly g post (pc + 3) lv (st) (up2 I k 1 a) L) : Rn x ly g post pc lv (.int (zI a) :: .ref (g.2.1 k) :: st) I L := rr_put (ty := .int) F tyX2 (kd_lt hk (by decide)) (mk_Groups hk _ _) rfl inU2 tyX2_ok nmX2 1 (by decide) hl rfl (by decide +kernel) rfl rfl (Nat.le_of_ble_eq_true rfl) ((mk_Groups hk _ _).trans (by simp [up2])) (fun q h => up2_cell I _ _ h) (fun _ _ => rfl) d kk
theorem mk_Page {k : Nat} (hk : kd ly k = 3) (f : Int → Int) (h : Int → Int64) : mkE g (ly.getD k (99, 0)) k f h = .inr (3, [.ref (g.2.1 (k + 1)), .ref (g.2.1 (k + 2)), .ref (g.2.1 (k + 3)), .ref (g.2.1 (k + 4)), .ref (g.2.1 (k + 5)), .int (zI (f 5)), .int (zI (f 6)), .int (zI (f 7))]) := by
  have e : (ly.getD k (99, 0)).1 = 3 := hk
  simp only [mkE, e]
theorem rg_Page_tokens (F : Fx x ly g cc own ret f lo) {k idx : Nat} (hk : kd ly k = 3) (hl : Cond.fieldLink own idx "BorrowedPages$Page" "tokens" "[J" ∈ UW) (d : decode cc pc = .ok (.getfield idx, 3)) (kk : Rn x ly g post (pc + 3) lv (.ref (g.2.1 (k + 1)) :: st) I L) : Rn x ly g post pc lv (.ref (g.2.1 k) :: st) I L := rr_get F (kd_lt hk (by decide)) (mk_Page hk _ _) rfl inU3 0 (by decide) hl rfl d kk
theorem rg_Page_hashes (F : Fx x ly g cc own ret f lo) {k idx : Nat} (hk : kd ly k = 3) (hl : Cond.fieldLink own idx "BorrowedPages$Page" "hashes" "[I" ∈ UW) (d : decode cc pc = .ok (.getfield idx, 3)) (kk : Rn x ly g post (pc + 3) lv (.ref (g.2.1 (k + 2)) :: st) I L) : Rn x ly g post pc lv (.ref (g.2.1 k) :: st) I L := rr_get F (kd_lt hk (by decide)) (mk_Page hk _ _) rfl inU3 1 (by decide) hl rfl d kk
theorem rg_Page_isMark (F : Fx x ly g cc own ret f lo) {k idx : Nat} (hk : kd ly k = 3) (hl : Cond.fieldLink own idx "BorrowedPages$Page" "isMark" "[Z" ∈ UW) (d : decode cc pc = .ok (.getfield idx, 3)) (kk : Rn x ly g post (pc + 3) lv (.ref (g.2.1 (k + 3)) :: st) I L) : Rn x ly g post pc lv (.ref (g.2.1 k) :: st) I L := rr_get F (kd_lt hk (by decide)) (mk_Page hk _ _) rfl inU3 2 (by decide) hl rfl d kk
theorem rg_Page_isAside (F : Fx x ly g cc own ret f lo) {k idx : Nat} (hk : kd ly k = 3) (hl : Cond.fieldLink own idx "BorrowedPages$Page" "isAside" "[Z" ∈ UW) (d : decode cc pc = .ok (.getfield idx, 3)) (kk : Rn x ly g post (pc + 3) lv (.ref (g.2.1 (k + 4)) :: st) I L) : Rn x ly g post pc lv (.ref (g.2.1 k) :: st) I L := rr_get F (kd_lt hk (by decide)) (mk_Page hk _ _) rfl inU3 3 (by decide) hl rfl d kk
theorem rg_Page_sharedLengths (F : Fx x ly g cc own ret f lo) {k idx : Nat} (hk : kd ly k = 3) (hl : Cond.fieldLink own idx "BorrowedPages$Page" "sharedLengths" "[I" ∈ UW) (d : decode cc pc = .ok (.getfield idx, 3)) (kk : Rn x ly g post (pc + 3) lv (.ref (g.2.1 (k + 5)) :: st) I L) : Rn x ly g post pc lv (.ref (g.2.1 k) :: st) I L := rr_get F (kd_lt hk (by decide)) (mk_Page hk _ _) rfl inU3 4 (by decide) hl rfl d kk
theorem rg_Page_size (F : Fx x ly g cc own ret f lo) {k idx : Nat} (hk : kd ly k = 3) (hl : Cond.fieldLink own idx "BorrowedPages$Page" "size" "I" ∈ UW) (d : decode cc pc = .ok (.getfield idx, 3)) (kk : Rn x ly g post (pc + 3) lv (.int (zI (I k 5)) :: st) I L) : Rn x ly g post pc lv (.ref (g.2.1 k) :: st) I L := rr_get F (kd_lt hk (by decide)) (mk_Page hk _ _) rfl inU3 5 (by decide) hl rfl d kk
theorem rp_Page_size (F : Fx x ly g cc own ret f lo) {k idx : Nat} {a : Int} (hk : kd ly k = 3) (hl : Cond.fieldLink own idx "BorrowedPages$Page" "size" "I" ∈ UW) (d : decode cc pc = .ok (.putfield idx, 3)) (kk : Rn x ly g post (pc + 3) lv (st) (up2 I k 5 a) L) : Rn x ly g post pc lv (.int (zI a) :: .ref (g.2.1 k) :: st) I L := rr_put (ty := .int) F tyX3 (kd_lt hk (by decide)) (mk_Page hk _ _) rfl inU3 tyX3_ok nmX3 5 (by decide) hl rfl (by decide +kernel) rfl rfl (Nat.le_of_ble_eq_true rfl) ((mk_Page hk _ _).trans (by simp [up2])) (fun q h => up2_cell I _ _ h) (fun _ _ => rfl) d kk
theorem rg_Page_language (F : Fx x ly g cc own ret f lo) {k idx : Nat} (hk : kd ly k = 3) (hl : Cond.fieldLink own idx "BorrowedPages$Page" "language" "I" ∈ UW) (d : decode cc pc = .ok (.getfield idx, 3)) (kk : Rn x ly g post (pc + 3) lv (.int (zI (I k 6)) :: st) I L) : Rn x ly g post pc lv (.ref (g.2.1 k) :: st) I L := rr_get F (kd_lt hk (by decide)) (mk_Page hk _ _) rfl inU3 6 (by decide) hl rfl d kk
theorem rp_Page_language (F : Fx x ly g cc own ret f lo) {k idx : Nat} {a : Int} (hk : kd ly k = 3) (hl : Cond.fieldLink own idx "BorrowedPages$Page" "language" "I" ∈ UW) (d : decode cc pc = .ok (.putfield idx, 3)) (kk : Rn x ly g post (pc + 3) lv (st) (up2 I k 6 a) L) : Rn x ly g post pc lv (.int (zI a) :: .ref (g.2.1 k) :: st) I L := rr_put (ty := .int) F tyX3 (kd_lt hk (by decide)) (mk_Page hk _ _) rfl inU3 tyX3_ok nmX3 6 (by decide) hl rfl (by decide +kernel) rfl rfl (Nat.le_of_ble_eq_true rfl) ((mk_Page hk _ _).trans (by simp [up2])) (fun q h => up2_cell I _ _ h) (fun _ _ => rfl) d kk
theorem rg_Page_grams (F : Fx x ly g cc own ret f lo) {k idx : Nat} (hk : kd ly k = 3) (hl : Cond.fieldLink own idx "BorrowedPages$Page" "grams" "I" ∈ UW) (d : decode cc pc = .ok (.getfield idx, 3)) (kk : Rn x ly g post (pc + 3) lv (.int (zI (I k 7)) :: st) I L) : Rn x ly g post pc lv (.ref (g.2.1 k) :: st) I L := rr_get F (kd_lt hk (by decide)) (mk_Page hk _ _) rfl inU3 7 (by decide) hl rfl d kk
theorem rp_Page_grams (F : Fx x ly g cc own ret f lo) {k idx : Nat} {a : Int} (hk : kd ly k = 3) (hl : Cond.fieldLink own idx "BorrowedPages$Page" "grams" "I" ∈ UW) (d : decode cc pc = .ok (.putfield idx, 3)) (kk : Rn x ly g post (pc + 3) lv (st) (up2 I k 7 a) L) : Rn x ly g post pc lv (.int (zI a) :: .ref (g.2.1 k) :: st) I L := rr_put (ty := .int) F tyX3 (kd_lt hk (by decide)) (mk_Page hk _ _) rfl inU3 tyX3_ok nmX3 7 (by decide) hl rfl (by decide +kernel) rfl rfl (Nat.le_of_ble_eq_true rfl) ((mk_Page hk _ _).trans (by simp [up2])) (fun q h => up2_cell I _ _ h) (fun _ _ => rfl) d kk
theorem mk_Reader {k : Nat} (hk : kd ly k = 4) (f : Int → Int) (h : Int → Int64) : mkE g (ly.getD k (99, 0)) k f h = .inr (4, [.int (zI (f 0)), .int (zI (f 1)), .long (h 2)]) := by
  have e : (ly.getD k (99, 0)).1 = 4 := hk
  simp only [mkE, e]
theorem rg_Reader_piece (F : Fx x ly g cc own ret f lo) {k idx : Nat} (hk : kd ly k = 4) (hl : Cond.fieldLink own idx "BorrowedPages$Reader" "piece" "I" ∈ UW) (d : decode cc pc = .ok (.getfield idx, 3)) (kk : Rn x ly g post (pc + 3) lv (.int (zI (I k 0)) :: st) I L) : Rn x ly g post pc lv (.ref (g.2.1 k) :: st) I L := rr_get F (kd_lt hk (by decide)) (mk_Reader hk _ _) rfl inU4 0 (by decide) hl rfl d kk
theorem rp_Reader_piece (F : Fx x ly g cc own ret f lo) {k idx : Nat} {a : Int} (hk : kd ly k = 4) (hl : Cond.fieldLink own idx "BorrowedPages$Reader" "piece" "I" ∈ UW) (d : decode cc pc = .ok (.putfield idx, 3)) (kk : Rn x ly g post (pc + 3) lv (st) (up2 I k 0 a) L) : Rn x ly g post pc lv (.int (zI a) :: .ref (g.2.1 k) :: st) I L := rr_put (ty := .int) F tyX4 (kd_lt hk (by decide)) (mk_Reader hk _ _) rfl inU4 tyX4_ok nmX4 0 (by decide) hl rfl (by decide +kernel) rfl rfl (Nat.le_of_ble_eq_true rfl) ((mk_Reader hk _ _).trans (by simp [up2])) (fun q h => up2_cell I _ _ h) (fun _ _ => rfl) d kk
theorem rg_Reader_wordLength (F : Fx x ly g cc own ret f lo) {k idx : Nat} (hk : kd ly k = 4) (hl : Cond.fieldLink own idx "BorrowedPages$Reader" "wordLength" "I" ∈ UW) (d : decode cc pc = .ok (.getfield idx, 3)) (kk : Rn x ly g post (pc + 3) lv (.int (zI (I k 1)) :: st) I L) : Rn x ly g post pc lv (.ref (g.2.1 k) :: st) I L := rr_get F (kd_lt hk (by decide)) (mk_Reader hk _ _) rfl inU4 1 (by decide) hl rfl d kk
theorem rp_Reader_wordLength (F : Fx x ly g cc own ret f lo) {k idx : Nat} {a : Int} (hk : kd ly k = 4) (hl : Cond.fieldLink own idx "BorrowedPages$Reader" "wordLength" "I" ∈ UW) (d : decode cc pc = .ok (.putfield idx, 3)) (kk : Rn x ly g post (pc + 3) lv (st) (up2 I k 1 a) L) : Rn x ly g post pc lv (.int (zI a) :: .ref (g.2.1 k) :: st) I L := rr_put (ty := .int) F tyX4 (kd_lt hk (by decide)) (mk_Reader hk _ _) rfl inU4 tyX4_ok nmX4 1 (by decide) hl rfl (by decide +kernel) rfl rfl (Nat.le_of_ble_eq_true rfl) ((mk_Reader hk _ _).trans (by simp [up2])) (fun q h => up2_cell I _ _ h) (fun _ _ => rfl) d kk
theorem rg_Reader_wordNumber (F : Fx x ly g cc own ret f lo) {k idx : Nat} (hk : kd ly k = 4) (hl : Cond.fieldLink own idx "BorrowedPages$Reader" "wordNumber" "J" ∈ UW) (d : decode cc pc = .ok (.getfield idx, 3)) (kk : Rn x ly g post (pc + 3) lv (.long (L k 2) :: st) I L) : Rn x ly g post pc lv (.ref (g.2.1 k) :: st) I L := rr_get F (kd_lt hk (by decide)) (mk_Reader hk _ _) rfl inU4 2 (by decide) hl rfl d kk
theorem rp_Reader_wordNumber (F : Fx x ly g cc own ret f lo) {k idx : Nat} {a : Int64} (hk : kd ly k = 4) (hl : Cond.fieldLink own idx "BorrowedPages$Reader" "wordNumber" "J" ∈ UW) (d : decode cc pc = .ok (.putfield idx, 3)) (kk : Rn x ly g post (pc + 3) lv (st) I (up2 L k 2 a)) : Rn x ly g post pc lv (.long a :: .ref (g.2.1 k) :: st) I L := rr_put (ty := .long) F tyX4 (kd_lt hk (by decide)) (mk_Reader hk _ _) rfl inU4 tyX4_ok nmX4 2 (by decide) hl rfl (by decide +kernel) rfl rfl (Nat.le_of_ble_eq_true rfl) ((mk_Reader hk _ _).trans (by simp [up2])) (fun _ _ => rfl) (fun q h => up2_cell L _ _ h) d kk
theorem mk_Shelf {k : Nat} (hk : kd ly k = 5) (f : Int → Int) (h : Int → Int64) : mkE g (ly.getD k (99, 0)) k f h = .inr (5, [.ref (g.2.1 (k + 1)), .int (zI (f 1)), .int (zI (f 2)), .int (zI (f 3)), .int (zI (f 4)), .int (zI (f 5))]) := by
  have e : (ly.getD k (99, 0)).1 = 5 := hk
  simp only [mkE, e]
theorem rg_Shelf_books (F : Fx x ly g cc own ret f lo) {k idx : Nat} (hk : kd ly k = 5) (hl : Cond.fieldLink own idx "BorrowedPages$Shelf" "books" "[LBorrowedPages$Book;" ∈ UW) (d : decode cc pc = .ok (.getfield idx, 3)) (kk : Rn x ly g post (pc + 3) lv (.ref (g.2.1 (k + 1)) :: st) I L) : Rn x ly g post pc lv (.ref (g.2.1 k) :: st) I L := rr_get F (kd_lt hk (by decide)) (mk_Shelf hk _ _) rfl inU5 0 (by decide) hl rfl d kk
theorem rg_Shelf_givenNumber (F : Fx x ly g cc own ret f lo) {k idx : Nat} (hk : kd ly k = 5) (hl : Cond.fieldLink own idx "BorrowedPages$Shelf" "givenNumber" "I" ∈ UW) (d : decode cc pc = .ok (.getfield idx, 3)) (kk : Rn x ly g post (pc + 3) lv (.int (zI (I k 1)) :: st) I L) : Rn x ly g post pc lv (.ref (g.2.1 k) :: st) I L := rr_get F (kd_lt hk (by decide)) (mk_Shelf hk _ _) rfl inU5 1 (by decide) hl rfl d kk
theorem rp_Shelf_givenNumber (F : Fx x ly g cc own ret f lo) {k idx : Nat} {a : Int} (hk : kd ly k = 5) (hl : Cond.fieldLink own idx "BorrowedPages$Shelf" "givenNumber" "I" ∈ UW) (d : decode cc pc = .ok (.putfield idx, 3)) (kk : Rn x ly g post (pc + 3) lv (st) (up2 I k 1 a) L) : Rn x ly g post pc lv (.int (zI a) :: .ref (g.2.1 k) :: st) I L := rr_put (ty := .int) F tyX5 (kd_lt hk (by decide)) (mk_Shelf hk _ _) rfl inU5 tyX5_ok nmX5 1 (by decide) hl rfl (by decide +kernel) rfl rfl (Nat.le_of_ble_eq_true rfl) ((mk_Shelf hk _ _).trans (by simp [up2])) (fun q h => up2_cell I _ _ h) (fun _ _ => rfl) d kk
theorem rg_Shelf_gramLength (F : Fx x ly g cc own ret f lo) {k idx : Nat} (hk : kd ly k = 5) (hl : Cond.fieldLink own idx "BorrowedPages$Shelf" "gramLength" "I" ∈ UW) (d : decode cc pc = .ok (.getfield idx, 3)) (kk : Rn x ly g post (pc + 3) lv (.int (zI (I k 2)) :: st) I L) : Rn x ly g post pc lv (.ref (g.2.1 k) :: st) I L := rr_get F (kd_lt hk (by decide)) (mk_Shelf hk _ _) rfl inU5 2 (by decide) hl rfl d kk
theorem rp_Shelf_gramLength (F : Fx x ly g cc own ret f lo) {k idx : Nat} {a : Int} (hk : kd ly k = 5) (hl : Cond.fieldLink own idx "BorrowedPages$Shelf" "gramLength" "I" ∈ UW) (d : decode cc pc = .ok (.putfield idx, 3)) (kk : Rn x ly g post (pc + 3) lv (st) (up2 I k 2 a) L) : Rn x ly g post pc lv (.int (zI a) :: .ref (g.2.1 k) :: st) I L := rr_put (ty := .int) F tyX5 (kd_lt hk (by decide)) (mk_Shelf hk _ _) rfl inU5 tyX5_ok nmX5 2 (by decide) hl rfl (by decide +kernel) rfl rfl (Nat.le_of_ble_eq_true rfl) ((mk_Shelf hk _ _).trans (by simp [up2])) (fun q h => up2_cell I _ _ h) (fun _ _ => rfl) d kk
theorem rg_Shelf_windowLength (F : Fx x ly g cc own ret f lo) {k idx : Nat} (hk : kd ly k = 5) (hl : Cond.fieldLink own idx "BorrowedPages$Shelf" "windowLength" "I" ∈ UW) (d : decode cc pc = .ok (.getfield idx, 3)) (kk : Rn x ly g post (pc + 3) lv (.int (zI (I k 3)) :: st) I L) : Rn x ly g post pc lv (.ref (g.2.1 k) :: st) I L := rr_get F (kd_lt hk (by decide)) (mk_Shelf hk _ _) rfl inU5 3 (by decide) hl rfl d kk
theorem rp_Shelf_windowLength (F : Fx x ly g cc own ret f lo) {k idx : Nat} {a : Int} (hk : kd ly k = 5) (hl : Cond.fieldLink own idx "BorrowedPages$Shelf" "windowLength" "I" ∈ UW) (d : decode cc pc = .ok (.putfield idx, 3)) (kk : Rn x ly g post (pc + 3) lv (st) (up2 I k 3 a) L) : Rn x ly g post pc lv (.int (zI a) :: .ref (g.2.1 k) :: st) I L := rr_put (ty := .int) F tyX5 (kd_lt hk (by decide)) (mk_Shelf hk _ _) rfl inU5 tyX5_ok nmX5 3 (by decide) hl rfl (by decide +kernel) rfl rfl (Nat.le_of_ble_eq_true rfl) ((mk_Shelf hk _ _).trans (by simp [up2])) (fun q h => up2_cell I _ _ h) (fun _ _ => rfl) d kk
theorem rg_Shelf_gapCost (F : Fx x ly g cc own ret f lo) {k idx : Nat} (hk : kd ly k = 5) (hl : Cond.fieldLink own idx "BorrowedPages$Shelf" "gapCost" "I" ∈ UW) (d : decode cc pc = .ok (.getfield idx, 3)) (kk : Rn x ly g post (pc + 3) lv (.int (zI (I k 4)) :: st) I L) : Rn x ly g post pc lv (.ref (g.2.1 k) :: st) I L := rr_get F (kd_lt hk (by decide)) (mk_Shelf hk _ _) rfl inU5 4 (by decide) hl rfl d kk
theorem rp_Shelf_gapCost (F : Fx x ly g cc own ret f lo) {k idx : Nat} {a : Int} (hk : kd ly k = 5) (hl : Cond.fieldLink own idx "BorrowedPages$Shelf" "gapCost" "I" ∈ UW) (d : decode cc pc = .ok (.putfield idx, 3)) (kk : Rn x ly g post (pc + 3) lv (st) (up2 I k 4 a) L) : Rn x ly g post pc lv (.int (zI a) :: .ref (g.2.1 k) :: st) I L := rr_put (ty := .int) F tyX5 (kd_lt hk (by decide)) (mk_Shelf hk _ _) rfl inU5 tyX5_ok nmX5 4 (by decide) hl rfl (by decide +kernel) rfl rfl (Nat.le_of_ble_eq_true rfl) ((mk_Shelf hk _ _).trans (by simp [up2])) (fun q h => up2_cell I _ _ h) (fun _ _ => rfl) d kk
theorem rg_Shelf_linkScore (F : Fx x ly g cc own ret f lo) {k idx : Nat} (hk : kd ly k = 5) (hl : Cond.fieldLink own idx "BorrowedPages$Shelf" "linkScore" "I" ∈ UW) (d : decode cc pc = .ok (.getfield idx, 3)) (kk : Rn x ly g post (pc + 3) lv (.int (zI (I k 5)) :: st) I L) : Rn x ly g post pc lv (.ref (g.2.1 k) :: st) I L := rr_get F (kd_lt hk (by decide)) (mk_Shelf hk _ _) rfl inU5 5 (by decide) hl rfl d kk
theorem rp_Shelf_linkScore (F : Fx x ly g cc own ret f lo) {k idx : Nat} {a : Int} (hk : kd ly k = 5) (hl : Cond.fieldLink own idx "BorrowedPages$Shelf" "linkScore" "I" ∈ UW) (d : decode cc pc = .ok (.putfield idx, 3)) (kk : Rn x ly g post (pc + 3) lv (st) (up2 I k 5 a) L) : Rn x ly g post pc lv (.int (zI a) :: .ref (g.2.1 k) :: st) I L := rr_put (ty := .int) F tyX5 (kd_lt hk (by decide)) (mk_Shelf hk _ _) rfl inU5 tyX5_ok nmX5 5 (by decide) hl rfl (by decide +kernel) rfl rfl (Nat.le_of_ble_eq_true rfl) ((mk_Shelf hk _ _).trans (by simp [up2])) (fun q h => up2_cell I _ _ h) (fun _ _ => rfl) d kk
theorem mk_Tape {k : Nat} (hk : kd ly k = 6) (f : Int → Int) (h : Int → Int64) : mkE g (ly.getD k (99, 0)) k f h = .inr (6, [.ref (g.2.1 (k + 1)), .int (zI (f 1))]) := by
  have e : (ly.getD k (99, 0)).1 = 6 := hk
  simp only [mkE, e]
theorem rg_Tape_bytes (F : Fx x ly g cc own ret f lo) {k idx : Nat} (hk : kd ly k = 6) (hl : Cond.fieldLink own idx "BorrowedPages$Tape" "bytes" "[B" ∈ UW) (d : decode cc pc = .ok (.getfield idx, 3)) (kk : Rn x ly g post (pc + 3) lv (.ref (g.2.1 (k + 1)) :: st) I L) : Rn x ly g post pc lv (.ref (g.2.1 k) :: st) I L := rr_get F (kd_lt hk (by decide)) (mk_Tape hk _ _) rfl inU6 0 (by decide) hl rfl d kk
theorem rg_Tape_length (F : Fx x ly g cc own ret f lo) {k idx : Nat} (hk : kd ly k = 6) (hl : Cond.fieldLink own idx "BorrowedPages$Tape" "length" "I" ∈ UW) (d : decode cc pc = .ok (.getfield idx, 3)) (kk : Rn x ly g post (pc + 3) lv (.int (zI (I k 1)) :: st) I L) : Rn x ly g post pc lv (.ref (g.2.1 k) :: st) I L := rr_get F (kd_lt hk (by decide)) (mk_Tape hk _ _) rfl inU6 1 (by decide) hl rfl d kk
theorem rp_Tape_length (F : Fx x ly g cc own ret f lo) {k idx : Nat} {a : Int} (hk : kd ly k = 6) (hl : Cond.fieldLink own idx "BorrowedPages$Tape" "length" "I" ∈ UW) (d : decode cc pc = .ok (.putfield idx, 3)) (kk : Rn x ly g post (pc + 3) lv (st) (up2 I k 1 a) L) : Rn x ly g post pc lv (.int (zI a) :: .ref (g.2.1 k) :: st) I L := rr_put (ty := .int) F tyX6 (kd_lt hk (by decide)) (mk_Tape hk _ _) rfl inU6 tyX6_ok nmX6 1 (by decide) hl rfl (by decide +kernel) rfl rfl (Nat.le_of_ble_eq_true rfl) ((mk_Tape hk _ _).trans (by simp [up2])) (fun q h => up2_cell I _ _ h) (fun _ _ => rfl) d kk
theorem mk_BP {k : Nat} (hk : kd ly k = 7) (f : Int → Int) (h : Int → Int64) : mkE g (ly.getD k (99, 0)) k f h = .inr (7, [.ref (g.2.1 (k + 1)), .ref (g.2.1 (k + 3)), .ref (g.2.1 (k + 4)), .ref (g.2.1 (k + 18)), .ref (g.2.1 (k + 40))]) := by
  have e : (ly.getD k (99, 0)).1 = 7 := hk
  simp only [mkE, e]
theorem rg_BP_tape (F : Fx x ly g cc own ret f lo) {k idx : Nat} (hk : kd ly k = 7) (hl : Cond.fieldLink own idx "BorrowedPages" "tape" "LBorrowedPages$Tape;" ∈ UW) (d : decode cc pc = .ok (.getfield idx, 3)) (kk : Rn x ly g post (pc + 3) lv (.ref (g.2.1 (k + 1)) :: st) I L) : Rn x ly g post pc lv (.ref (g.2.1 k) :: st) I L := rr_get F (kd_lt hk (by decide)) (mk_BP hk _ _) rfl inU7 0 (by decide) hl rfl d kk
theorem rg_BP_reader (F : Fx x ly g cc own ret f lo) {k idx : Nat} (hk : kd ly k = 7) (hl : Cond.fieldLink own idx "BorrowedPages" "reader" "LBorrowedPages$Reader;" ∈ UW) (d : decode cc pc = .ok (.getfield idx, 3)) (kk : Rn x ly g post (pc + 3) lv (.ref (g.2.1 (k + 3)) :: st) I L) : Rn x ly g post pc lv (.ref (g.2.1 k) :: st) I L := rr_get F (kd_lt hk (by decide)) (mk_BP hk _ _) rfl inU7 1 (by decide) hl rfl d kk
theorem rg_BP_shelf (F : Fx x ly g cc own ret f lo) {k idx : Nat} (hk : kd ly k = 7) (hl : Cond.fieldLink own idx "BorrowedPages" "shelf" "LBorrowedPages$Shelf;" ∈ UW) (d : decode cc pc = .ok (.getfield idx, 3)) (kk : Rn x ly g post (pc + 3) lv (.ref (g.2.1 (k + 4)) :: st) I L) : Rn x ly g post pc lv (.ref (g.2.1 k) :: st) I L := rr_get F (kd_lt hk (by decide)) (mk_BP hk _ _) rfl inU7 2 (by decide) hl rfl d kk
theorem rg_BP_comparison (F : Fx x ly g cc own ret f lo) {k idx : Nat} (hk : kd ly k = 7) (hl : Cond.fieldLink own idx "BorrowedPages" "comparison" "LBorrowedPages$Comparison;" ∈ UW) (d : decode cc pc = .ok (.getfield idx, 3)) (kk : Rn x ly g post (pc + 3) lv (.ref (g.2.1 (k + 18)) :: st) I L) : Rn x ly g post pc lv (.ref (g.2.1 k) :: st) I L := rr_get F (kd_lt hk (by decide)) (mk_BP hk _ _) rfl inU7 3 (by decide) hl rfl d kk
theorem rg_BP_groups (F : Fx x ly g cc own ret f lo) {k idx : Nat} (hk : kd ly k = 7) (hl : Cond.fieldLink own idx "BorrowedPages" "groups" "LBorrowedPages$Groups;" ∈ UW) (d : decode cc pc = .ok (.getfield idx, 3)) (kk : Rn x ly g post (pc + 3) lv (.ref (g.2.1 (k + 40)) :: st) I L) : Rn x ly g post pc lv (.ref (g.2.1 k) :: st) I L := rr_get F (kd_lt hk (by decide)) (mk_BP hk _ _) rfl inU7 4 (by decide) hl rfl d kk
theorem mk_Model {k : Nat} (hk : kd ly k = 8) (f : Int → Int) (h : Int → Int64) : mkE g (ly.getD k (99, 0)) k f h = .inr (8, [.ref (g.2.1 (k + 1)), .int (zI (f 1)), .ref (g.2.1 (k + 2)), .ref (g.2.1 (k + 3)), .ref (g.2.1 (k + 4)), .ref (g.2.1 (k + 5)), .ref (g.2.1 (k + 6)), .int (zI (f 7)), .int (zI (f 8)), .int (zI (f 9)), .int (zI (f 10)), .int (zI (f 11)), .int (zI (f 12)), .int (zI (f 13)), .ref (g.2.1 (k + 7)), .ref (g.2.1 (k + 8)), .ref (g.2.1 (k + 9)), .ref (g.2.1 (k + 10)), .int (zI (f 18)), .ref (g.2.1 (k + 11)), .ref (g.2.1 (k + 12)), .ref (g.2.1 (k + 13)), .ref (g.2.1 (k + 14)), .ref (g.2.1 (k + 15)), .int (zI (f 24)), .ref (g.2.1 (k + 16)), .int (zI (f 26))]) := by
  have e : (ly.getD k (99, 0)).1 = 8 := hk
  simp only [mkE, e]
theorem rg_Model_tape (F : Fx x ly g cc own ret f lo) {k idx : Nat} (hk : kd ly k = 8) (hl : Cond.fieldLink own idx "BorrowedPagesModel" "tape" "[I" ∈ UW) (d : decode cc pc = .ok (.getfield idx, 3)) (kk : Rn x ly g post (pc + 3) lv (.ref (g.2.1 (k + 1)) :: st) I L) : Rn x ly g post pc lv (.ref (g.2.1 k) :: st) I L := rr_get F (kd_lt hk (by decide)) (mk_Model hk _ _) rfl inU8 0 (by decide) hl rfl d kk
theorem rg_Model_taped (F : Fx x ly g cc own ret f lo) {k idx : Nat} (hk : kd ly k = 8) (hl : Cond.fieldLink own idx "BorrowedPagesModel" "taped" "I" ∈ UW) (d : decode cc pc = .ok (.getfield idx, 3)) (kk : Rn x ly g post (pc + 3) lv (.int (zI (I k 1)) :: st) I L) : Rn x ly g post pc lv (.ref (g.2.1 k) :: st) I L := rr_get F (kd_lt hk (by decide)) (mk_Model hk _ _) rfl inU8 1 (by decide) hl rfl d kk
theorem rp_Model_taped (F : Fx x ly g cc own ret f lo) {k idx : Nat} {a : Int} (hk : kd ly k = 8) (hl : Cond.fieldLink own idx "BorrowedPagesModel" "taped" "I" ∈ UW) (d : decode cc pc = .ok (.putfield idx, 3)) (kk : Rn x ly g post (pc + 3) lv (st) (up2 I k 1 a) L) : Rn x ly g post pc lv (.int (zI a) :: .ref (g.2.1 k) :: st) I L := rr_put (ty := .int) F tyX8 (kd_lt hk (by decide)) (mk_Model hk _ _) rfl inU8 tyX8_ok nmX8 1 (by decide) hl rfl (by decide +kernel) rfl rfl (Nat.le_of_ble_eq_true rfl) ((mk_Model hk _ _).trans (by simp [up2])) (fun q h => up2_cell I _ _ h) (fun _ _ => rfl) d kk
theorem rg_Model_is (F : Fx x ly g cc own ret f lo) {k idx : Nat} (hk : kd ly k = 8) (hl : Cond.fieldLink own idx "BorrowedPagesModel" "is" "[Z" ∈ UW) (d : decode cc pc = .ok (.getfield idx, 3)) (kk : Rn x ly g post (pc + 3) lv (.ref (g.2.1 (k + 2)) :: st) I L) : Rn x ly g post pc lv (.ref (g.2.1 k) :: st) I L := rr_get F (kd_lt hk (by decide)) (mk_Model hk _ _) rfl inU8 2 (by decide) hl rfl d kk
theorem rg_Model_sizes (F : Fx x ly g cc own ret f lo) {k idx : Nat} (hk : kd ly k = 8) (hl : Cond.fieldLink own idx "BorrowedPagesModel" "sizes" "[I" ∈ UW) (d : decode cc pc = .ok (.getfield idx, 3)) (kk : Rn x ly g post (pc + 3) lv (.ref (g.2.1 (k + 3)) :: st) I L) : Rn x ly g post pc lv (.ref (g.2.1 k) :: st) I L := rr_get F (kd_lt hk (by decide)) (mk_Model hk _ _) rfl inU8 3 (by decide) hl rfl d kk
theorem rg_Model_languages (F : Fx x ly g cc own ret f lo) {k idx : Nat} (hk : kd ly k = 8) (hl : Cond.fieldLink own idx "BorrowedPagesModel" "languages" "[I" ∈ UW) (d : decode cc pc = .ok (.getfield idx, 3)) (kk : Rn x ly g post (pc + 3) lv (.ref (g.2.1 (k + 4)) :: st) I L) : Rn x ly g post pc lv (.ref (g.2.1 k) :: st) I L := rr_get F (kd_lt hk (by decide)) (mk_Model hk _ _) rfl inU8 4 (by decide) hl rfl d kk
theorem rg_Model_days (F : Fx x ly g cc own ret f lo) {k idx : Nat} (hk : kd ly k = 8) (hl : Cond.fieldLink own idx "BorrowedPagesModel" "days" "[I" ∈ UW) (d : decode cc pc = .ok (.getfield idx, 3)) (kk : Rn x ly g post (pc + 3) lv (.ref (g.2.1 (k + 5)) :: st) I L) : Rn x ly g post pc lv (.ref (g.2.1 k) :: st) I L := rr_get F (kd_lt hk (by decide)) (mk_Model hk _ _) rfl inU8 5 (by decide) hl rfl d kk
theorem rg_Model_tokens (F : Fx x ly g cc own ret f lo) {k idx : Nat} (hk : kd ly k = 8) (hl : Cond.fieldLink own idx "BorrowedPagesModel" "tokens" "[J" ∈ UW) (d : decode cc pc = .ok (.getfield idx, 3)) (kk : Rn x ly g post (pc + 3) lv (.ref (g.2.1 (k + 6)) :: st) I L) : Rn x ly g post pc lv (.ref (g.2.1 k) :: st) I L := rr_get F (kd_lt hk (by decide)) (mk_Model hk _ _) rfl inU8 6 (by decide) hl rfl d kk
theorem rg_Model_k (F : Fx x ly g cc own ret f lo) {k idx : Nat} (hk : kd ly k = 8) (hl : Cond.fieldLink own idx "BorrowedPagesModel" "k" "I" ∈ UW) (d : decode cc pc = .ok (.getfield idx, 3)) (kk : Rn x ly g post (pc + 3) lv (.int (zI (I k 7)) :: st) I L) : Rn x ly g post pc lv (.ref (g.2.1 k) :: st) I L := rr_get F (kd_lt hk (by decide)) (mk_Model hk _ _) rfl inU8 7 (by decide) hl rfl d kk
theorem rp_Model_k (F : Fx x ly g cc own ret f lo) {k idx : Nat} {a : Int} (hk : kd ly k = 8) (hl : Cond.fieldLink own idx "BorrowedPagesModel" "k" "I" ∈ UW) (d : decode cc pc = .ok (.putfield idx, 3)) (kk : Rn x ly g post (pc + 3) lv (st) (up2 I k 7 a) L) : Rn x ly g post pc lv (.int (zI a) :: .ref (g.2.1 k) :: st) I L := rr_put (ty := .int) F tyX8 (kd_lt hk (by decide)) (mk_Model hk _ _) rfl inU8 tyX8_ok nmX8 7 (by decide) hl rfl (by decide +kernel) rfl rfl (Nat.le_of_ble_eq_true rfl) ((mk_Model hk _ _).trans (by simp [up2])) (fun q h => up2_cell I _ _ h) (fun _ _ => rfl) d kk
theorem rg_Model_w (F : Fx x ly g cc own ret f lo) {k idx : Nat} (hk : kd ly k = 8) (hl : Cond.fieldLink own idx "BorrowedPagesModel" "w" "I" ∈ UW) (d : decode cc pc = .ok (.getfield idx, 3)) (kk : Rn x ly g post (pc + 3) lv (.int (zI (I k 8)) :: st) I L) : Rn x ly g post pc lv (.ref (g.2.1 k) :: st) I L := rr_get F (kd_lt hk (by decide)) (mk_Model hk _ _) rfl inU8 8 (by decide) hl rfl d kk
theorem rp_Model_w (F : Fx x ly g cc own ret f lo) {k idx : Nat} {a : Int} (hk : kd ly k = 8) (hl : Cond.fieldLink own idx "BorrowedPagesModel" "w" "I" ∈ UW) (d : decode cc pc = .ok (.putfield idx, 3)) (kk : Rn x ly g post (pc + 3) lv (st) (up2 I k 8 a) L) : Rn x ly g post pc lv (.int (zI a) :: .ref (g.2.1 k) :: st) I L := rr_put (ty := .int) F tyX8 (kd_lt hk (by decide)) (mk_Model hk _ _) rfl inU8 tyX8_ok nmX8 8 (by decide) hl rfl (by decide +kernel) rfl rfl (Nat.le_of_ble_eq_true rfl) ((mk_Model hk _ _).trans (by simp [up2])) (fun q h => up2_cell I _ _ h) (fun _ _ => rfl) d kk
theorem rg_Model_gap (F : Fx x ly g cc own ret f lo) {k idx : Nat} (hk : kd ly k = 8) (hl : Cond.fieldLink own idx "BorrowedPagesModel" "gap" "I" ∈ UW) (d : decode cc pc = .ok (.getfield idx, 3)) (kk : Rn x ly g post (pc + 3) lv (.int (zI (I k 9)) :: st) I L) : Rn x ly g post pc lv (.ref (g.2.1 k) :: st) I L := rr_get F (kd_lt hk (by decide)) (mk_Model hk _ _) rfl inU8 9 (by decide) hl rfl d kk
theorem rp_Model_gap (F : Fx x ly g cc own ret f lo) {k idx : Nat} {a : Int} (hk : kd ly k = 8) (hl : Cond.fieldLink own idx "BorrowedPagesModel" "gap" "I" ∈ UW) (d : decode cc pc = .ok (.putfield idx, 3)) (kk : Rn x ly g post (pc + 3) lv (st) (up2 I k 9 a) L) : Rn x ly g post pc lv (.int (zI a) :: .ref (g.2.1 k) :: st) I L := rr_put (ty := .int) F tyX8 (kd_lt hk (by decide)) (mk_Model hk _ _) rfl inU8 tyX8_ok nmX8 9 (by decide) hl rfl (by decide +kernel) rfl rfl (Nat.le_of_ble_eq_true rfl) ((mk_Model hk _ _).trans (by simp [up2])) (fun q h => up2_cell I _ _ h) (fun _ _ => rfl) d kk
theorem rg_Model_bound (F : Fx x ly g cc own ret f lo) {k idx : Nat} (hk : kd ly k = 8) (hl : Cond.fieldLink own idx "BorrowedPagesModel" "bound" "I" ∈ UW) (d : decode cc pc = .ok (.getfield idx, 3)) (kk : Rn x ly g post (pc + 3) lv (.int (zI (I k 10)) :: st) I L) : Rn x ly g post pc lv (.ref (g.2.1 k) :: st) I L := rr_get F (kd_lt hk (by decide)) (mk_Model hk _ _) rfl inU8 10 (by decide) hl rfl d kk
theorem rp_Model_bound (F : Fx x ly g cc own ret f lo) {k idx : Nat} {a : Int} (hk : kd ly k = 8) (hl : Cond.fieldLink own idx "BorrowedPagesModel" "bound" "I" ∈ UW) (d : decode cc pc = .ok (.putfield idx, 3)) (kk : Rn x ly g post (pc + 3) lv (st) (up2 I k 10 a) L) : Rn x ly g post pc lv (.int (zI a) :: .ref (g.2.1 k) :: st) I L := rr_put (ty := .int) F tyX8 (kd_lt hk (by decide)) (mk_Model hk _ _) rfl inU8 tyX8_ok nmX8 10 (by decide) hl rfl (by decide +kernel) rfl rfl (Nat.le_of_ble_eq_true rfl) ((mk_Model hk _ _).trans (by simp [up2])) (fun q h => up2_cell I _ _ h) (fun _ _ => rfl) d kk
theorem rg_Model_given (F : Fx x ly g cc own ret f lo) {k idx : Nat} (hk : kd ly k = 8) (hl : Cond.fieldLink own idx "BorrowedPagesModel" "given" "I" ∈ UW) (d : decode cc pc = .ok (.getfield idx, 3)) (kk : Rn x ly g post (pc + 3) lv (.int (zI (I k 11)) :: st) I L) : Rn x ly g post pc lv (.ref (g.2.1 k) :: st) I L := rr_get F (kd_lt hk (by decide)) (mk_Model hk _ _) rfl inU8 11 (by decide) hl rfl d kk
theorem rp_Model_given (F : Fx x ly g cc own ret f lo) {k idx : Nat} {a : Int} (hk : kd ly k = 8) (hl : Cond.fieldLink own idx "BorrowedPagesModel" "given" "I" ∈ UW) (d : decode cc pc = .ok (.putfield idx, 3)) (kk : Rn x ly g post (pc + 3) lv (st) (up2 I k 11 a) L) : Rn x ly g post pc lv (.int (zI a) :: .ref (g.2.1 k) :: st) I L := rr_put (ty := .int) F tyX8 (kd_lt hk (by decide)) (mk_Model hk _ _) rfl inU8 tyX8_ok nmX8 11 (by decide) hl rfl (by decide +kernel) rfl rfl (Nat.le_of_ble_eq_true rfl) ((mk_Model hk _ _).trans (by simp [up2])) (fun q h => up2_cell I _ _ h) (fun _ _ => rfl) d kk
theorem rg_Model_at (F : Fx x ly g cc own ret f lo) {k idx : Nat} (hk : kd ly k = 8) (hl : Cond.fieldLink own idx "BorrowedPagesModel" "at" "I" ∈ UW) (d : decode cc pc = .ok (.getfield idx, 3)) (kk : Rn x ly g post (pc + 3) lv (.int (zI (I k 12)) :: st) I L) : Rn x ly g post pc lv (.ref (g.2.1 k) :: st) I L := rr_get F (kd_lt hk (by decide)) (mk_Model hk _ _) rfl inU8 12 (by decide) hl rfl d kk
theorem rp_Model_at (F : Fx x ly g cc own ret f lo) {k idx : Nat} {a : Int} (hk : kd ly k = 8) (hl : Cond.fieldLink own idx "BorrowedPagesModel" "at" "I" ∈ UW) (d : decode cc pc = .ok (.putfield idx, 3)) (kk : Rn x ly g post (pc + 3) lv (st) (up2 I k 12 a) L) : Rn x ly g post pc lv (.int (zI a) :: .ref (g.2.1 k) :: st) I L := rr_put (ty := .int) F tyX8 (kd_lt hk (by decide)) (mk_Model hk _ _) rfl inU8 tyX8_ok nmX8 12 (by decide) hl rfl (by decide +kernel) rfl rfl (Nat.le_of_ble_eq_true rfl) ((mk_Model hk _ _).trans (by simp [up2])) (fun q h => up2_cell I _ _ h) (fun _ _ => rfl) d kk
theorem rg_Model_wordSize (F : Fx x ly g cc own ret f lo) {k idx : Nat} (hk : kd ly k = 8) (hl : Cond.fieldLink own idx "BorrowedPagesModel" "wordSize" "I" ∈ UW) (d : decode cc pc = .ok (.getfield idx, 3)) (kk : Rn x ly g post (pc + 3) lv (.int (zI (I k 13)) :: st) I L) : Rn x ly g post pc lv (.ref (g.2.1 k) :: st) I L := rr_get F (kd_lt hk (by decide)) (mk_Model hk _ _) rfl inU8 13 (by decide) hl rfl d kk
theorem rp_Model_wordSize (F : Fx x ly g cc own ret f lo) {k idx : Nat} {a : Int} (hk : kd ly k = 8) (hl : Cond.fieldLink own idx "BorrowedPagesModel" "wordSize" "I" ∈ UW) (d : decode cc pc = .ok (.putfield idx, 3)) (kk : Rn x ly g post (pc + 3) lv (st) (up2 I k 13 a) L) : Rn x ly g post pc lv (.int (zI a) :: .ref (g.2.1 k) :: st) I L := rr_put (ty := .int) F tyX8 (kd_lt hk (by decide)) (mk_Model hk _ _) rfl inU8 tyX8_ok nmX8 13 (by decide) hl rfl (by decide +kernel) rfl rfl (Nat.le_of_ble_eq_true rfl) ((mk_Model hk _ _).trans (by simp [up2])) (fun q h => up2_cell I _ _ h) (fun _ _ => rfl) d kk
theorem rg_Model_words (F : Fx x ly g cc own ret f lo) {k idx : Nat} (hk : kd ly k = 8) (hl : Cond.fieldLink own idx "BorrowedPagesModel" "words" "[J" ∈ UW) (d : decode cc pc = .ok (.getfield idx, 3)) (kk : Rn x ly g post (pc + 3) lv (.ref (g.2.1 (k + 7)) :: st) I L) : Rn x ly g post pc lv (.ref (g.2.1 k) :: st) I L := rr_get F (kd_lt hk (by decide)) (mk_Model hk _ _) rfl inU8 14 (by decide) hl rfl d kk
theorem rg_Model_marks (F : Fx x ly g cc own ret f lo) {k idx : Nat} (hk : kd ly k = 8) (hl : Cond.fieldLink own idx "BorrowedPagesModel" "marks" "[Z" ∈ UW) (d : decode cc pc = .ok (.getfield idx, 3)) (kk : Rn x ly g post (pc + 3) lv (.ref (g.2.1 (k + 8)) :: st) I L) : Rn x ly g post pc lv (.ref (g.2.1 k) :: st) I L := rr_get F (kd_lt hk (by decide)) (mk_Model hk _ _) rfl inU8 15 (by decide) hl rfl d kk
theorem rg_Model_hashes (F : Fx x ly g cc own ret f lo) {k idx : Nat} (hk : kd ly k = 8) (hl : Cond.fieldLink own idx "BorrowedPagesModel" "hashes" "[I" ∈ UW) (d : decode cc pc = .ok (.getfield idx, 3)) (kk : Rn x ly g post (pc + 3) lv (.ref (g.2.1 (k + 9)) :: st) I L) : Rn x ly g post pc lv (.ref (g.2.1 k) :: st) I L := rr_get F (kd_lt hk (by decide)) (mk_Model hk _ _) rfl inU8 16 (by decide) hl rfl d kk
theorem rg_Model_asides (F : Fx x ly g cc own ret f lo) {k idx : Nat} (hk : kd ly k = 8) (hl : Cond.fieldLink own idx "BorrowedPagesModel" "asides" "[Z" ∈ UW) (d : decode cc pc = .ok (.getfield idx, 3)) (kk : Rn x ly g post (pc + 3) lv (.ref (g.2.1 (k + 10)) :: st) I L) : Rn x ly g post pc lv (.ref (g.2.1 k) :: st) I L := rr_get F (kd_lt hk (by decide)) (mk_Model hk _ _) rfl inU8 17 (by decide) hl rfl d kk
theorem rg_Model_many (F : Fx x ly g cc own ret f lo) {k idx : Nat} (hk : kd ly k = 8) (hl : Cond.fieldLink own idx "BorrowedPagesModel" "many" "I" ∈ UW) (d : decode cc pc = .ok (.getfield idx, 3)) (kk : Rn x ly g post (pc + 3) lv (.int (zI (I k 18)) :: st) I L) : Rn x ly g post pc lv (.ref (g.2.1 k) :: st) I L := rr_get F (kd_lt hk (by decide)) (mk_Model hk _ _) rfl inU8 18 (by decide) hl rfl d kk
theorem rp_Model_many (F : Fx x ly g cc own ret f lo) {k idx : Nat} {a : Int} (hk : kd ly k = 8) (hl : Cond.fieldLink own idx "BorrowedPagesModel" "many" "I" ∈ UW) (d : decode cc pc = .ok (.putfield idx, 3)) (kk : Rn x ly g post (pc + 3) lv (st) (up2 I k 18 a) L) : Rn x ly g post pc lv (.int (zI a) :: .ref (g.2.1 k) :: st) I L := rr_put (ty := .int) F tyX8 (kd_lt hk (by decide)) (mk_Model hk _ _) rfl inU8 tyX8_ok nmX8 18 (by decide) hl rfl (by decide +kernel) rfl rfl (Nat.le_of_ble_eq_true rfl) ((mk_Model hk _ _).trans (by simp [up2])) (fun q h => up2_cell I _ _ h) (fun _ _ => rfl) d kk
theorem rg_Model_runA (F : Fx x ly g cc own ret f lo) {k idx : Nat} (hk : kd ly k = 8) (hl : Cond.fieldLink own idx "BorrowedPagesModel" "runA" "[I" ∈ UW) (d : decode cc pc = .ok (.getfield idx, 3)) (kk : Rn x ly g post (pc + 3) lv (.ref (g.2.1 (k + 11)) :: st) I L) : Rn x ly g post pc lv (.ref (g.2.1 k) :: st) I L := rr_get F (kd_lt hk (by decide)) (mk_Model hk _ _) rfl inU8 19 (by decide) hl rfl d kk
theorem rg_Model_runB (F : Fx x ly g cc own ret f lo) {k idx : Nat} (hk : kd ly k = 8) (hl : Cond.fieldLink own idx "BorrowedPagesModel" "runB" "[I" ∈ UW) (d : decode cc pc = .ok (.getfield idx, 3)) (kk : Rn x ly g post (pc + 3) lv (.ref (g.2.1 (k + 12)) :: st) I L) : Rn x ly g post pc lv (.ref (g.2.1 k) :: st) I L := rr_get F (kd_lt hk (by decide)) (mk_Model hk _ _) rfl inU8 20 (by decide) hl rfl d kk
theorem rg_Model_runN (F : Fx x ly g cc own ret f lo) {k idx : Nat} (hk : kd ly k = 8) (hl : Cond.fieldLink own idx "BorrowedPagesModel" "runN" "[I" ∈ UW) (d : decode cc pc = .ok (.getfield idx, 3)) (kk : Rn x ly g post (pc + 3) lv (.ref (g.2.1 (k + 13)) :: st) I L) : Rn x ly g post pc lv (.ref (g.2.1 k) :: st) I L := rr_get F (kd_lt hk (by decide)) (mk_Model hk _ _) rfl inU8 21 (by decide) hl rfl d kk
theorem rg_Model_best (F : Fx x ly g cc own ret f lo) {k idx : Nat} (hk : kd ly k = 8) (hl : Cond.fieldLink own idx "BorrowedPagesModel" "best" "[I" ∈ UW) (d : decode cc pc = .ok (.getfield idx, 3)) (kk : Rn x ly g post (pc + 3) lv (.ref (g.2.1 (k + 14)) :: st) I L) : Rn x ly g post pc lv (.ref (g.2.1 k) :: st) I L := rr_get F (kd_lt hk (by decide)) (mk_Model hk _ _) rfl inU8 22 (by decide) hl rfl d kk
theorem rg_Model_next (F : Fx x ly g cc own ret f lo) {k idx : Nat} (hk : kd ly k = 8) (hl : Cond.fieldLink own idx "BorrowedPagesModel" "next" "[I" ∈ UW) (d : decode cc pc = .ok (.getfield idx, 3)) (kk : Rn x ly g post (pc + 3) lv (.ref (g.2.1 (k + 15)) :: st) I L) : Rn x ly g post pc lv (.ref (g.2.1 k) :: st) I L := rr_get F (kd_lt hk (by decide)) (mk_Model hk _ _) rfl inU8 23 (by decide) hl rfl d kk
theorem rg_Model_first (F : Fx x ly g cc own ret f lo) {k idx : Nat} (hk : kd ly k = 8) (hl : Cond.fieldLink own idx "BorrowedPagesModel" "first" "I" ∈ UW) (d : decode cc pc = .ok (.getfield idx, 3)) (kk : Rn x ly g post (pc + 3) lv (.int (zI (I k 24)) :: st) I L) : Rn x ly g post pc lv (.ref (g.2.1 k) :: st) I L := rr_get F (kd_lt hk (by decide)) (mk_Model hk _ _) rfl inU8 24 (by decide) hl rfl d kk
theorem rp_Model_first (F : Fx x ly g cc own ret f lo) {k idx : Nat} {a : Int} (hk : kd ly k = 8) (hl : Cond.fieldLink own idx "BorrowedPagesModel" "first" "I" ∈ UW) (d : decode cc pc = .ok (.putfield idx, 3)) (kk : Rn x ly g post (pc + 3) lv (st) (up2 I k 24 a) L) : Rn x ly g post pc lv (.int (zI a) :: .ref (g.2.1 k) :: st) I L := rr_put (ty := .int) F tyX8 (kd_lt hk (by decide)) (mk_Model hk _ _) rfl inU8 tyX8_ok nmX8 24 (by decide) hl rfl (by decide +kernel) rfl rfl (Nat.le_of_ble_eq_true rfl) ((mk_Model hk _ _).trans (by simp [up2])) (fun q h => up2_cell I _ _ h) (fun _ _ => rfl) d kk
theorem rg_Model_groups (F : Fx x ly g cc own ret f lo) {k idx : Nat} (hk : kd ly k = 8) (hl : Cond.fieldLink own idx "BorrowedPagesModel" "groups" "[I" ∈ UW) (d : decode cc pc = .ok (.getfield idx, 3)) (kk : Rn x ly g post (pc + 3) lv (.ref (g.2.1 (k + 16)) :: st) I L) : Rn x ly g post pc lv (.ref (g.2.1 k) :: st) I L := rr_get F (kd_lt hk (by decide)) (mk_Model hk _ _) rfl inU8 25 (by decide) hl rfl d kk
theorem rg_Model_links (F : Fx x ly g cc own ret f lo) {k idx : Nat} (hk : kd ly k = 8) (hl : Cond.fieldLink own idx "BorrowedPagesModel" "links" "I" ∈ UW) (d : decode cc pc = .ok (.getfield idx, 3)) (kk : Rn x ly g post (pc + 3) lv (.int (zI (I k 26)) :: st) I L) : Rn x ly g post pc lv (.ref (g.2.1 k) :: st) I L := rr_get F (kd_lt hk (by decide)) (mk_Model hk _ _) rfl inU8 26 (by decide) hl rfl d kk
theorem rp_Model_links (F : Fx x ly g cc own ret f lo) {k idx : Nat} {a : Int} (hk : kd ly k = 8) (hl : Cond.fieldLink own idx "BorrowedPagesModel" "links" "I" ∈ UW) (d : decode cc pc = .ok (.putfield idx, 3)) (kk : Rn x ly g post (pc + 3) lv (st) (up2 I k 26 a) L) : Rn x ly g post pc lv (.int (zI a) :: .ref (g.2.1 k) :: st) I L := rr_put (ty := .int) F tyX8 (kd_lt hk (by decide)) (mk_Model hk _ _) rfl inU8 tyX8_ok nmX8 26 (by decide) hl rfl (by decide +kernel) rfl rfl (Nat.le_of_ble_eq_true rfl) ((mk_Model hk _ _).trans (by simp [up2])) (fun q h => up2_cell I _ _ h) (fun _ _ => rfl) d kk
theorem mk_arrB {k : Nat} (hk : kd ly k = 9) (f : Int → Int) (h : Int → Int64) : mkE g (ly.getD k (99, 0)) k f h = .inl (g.2.2 9, ln ly k, .inl (fun j : Nat => zI (f (j : Int)))) := by
  have e : (ly.getD k (99, 0)).1 = 9 := hk
  simp only [mkE, e, ln]
theorem mk_arrI {k : Nat} (hk : kd ly k = 10) (f : Int → Int) (h : Int → Int64) : mkE g (ly.getD k (99, 0)) k f h = .inl (g.2.2 10, ln ly k, .inl (fun j : Nat => zI (f (j : Int)))) := by
  have e : (ly.getD k (99, 0)).1 = 10 := hk
  simp only [mkE, e, ln]
theorem mk_arrJ {k : Nat} (hk : kd ly k = 11) (f : Int → Int) (h : Int → Int64) : mkE g (ly.getD k (99, 0)) k f h = .inl (g.2.2 11, ln ly k, .inr (.inl (fun j : Nat => h (j : Int)))) := by
  have e : (ly.getD k (99, 0)).1 = 11 := hk
  simp only [mkE, e, ln]
theorem mk_arrZ {k : Nat} (hk : kd ly k = 12) (f : Int → Int) (h : Int → Int64) : mkE g (ly.getD k (99, 0)) k f h = .inl (g.2.2 12, ln ly k, .inl (fun j : Nat => zI (f (j : Int)))) := by
  have e : (ly.getD k (99, 0)).1 = 12 := hk
  simp only [mkE, e, ln]
theorem mk_arrR {k : Nat} (hk : kd ly k = 13) (f : Int → Int) (h : Int → Int64) : mkE g (ly.getD k (99, 0)) k f h = .inl (g.2.2 13, ln ly k, .inr (.inr (.inr (.inr (fun j => some (g.2.1 (k + 1 + 2 * j))))))) := by
  have e : (ly.getD k (99, 0)).1 = 13 := hk
  simp only [mkE, e, ln]
theorem rr_iald (F : Fx x ly g cc own ret f lo) {k : Nat} {i : Int} (hk : kd ly k = 10) (h0 : 0 ≤ i) {N : Nat} (hN : ln ly k = N) (hn : i < (N : Int)) (d : decode cc pc = .ok (.iaload, 1)) (kk : Rn x ly g post (pc + 1) lv (.int (zI (I k i)) :: st) I L) : Rn x ly g post pc lv (.int (zI i) :: .ref (g.2.1 k) :: st) I L := fun H locs ls hP hS h => by
  obtain ⟨n, rfl⟩ := Int.eq_ofNat_of_zero_le h0
  have hn : n < ln ly k := by rw [hN]; omega
  have hN := F.2.2.2.2.2.1.2.2.2 k
  refine va_iald F.1 F.2.1 F.2.2.2.2.2.1.1 hP k 1 (by rw [wl_get g I L (kd_lt hk (by decide)), mk_arrI hk]) rfl (zI_in hn hN) d ?_
  rw [zI_clamp (Nat.lt_trans hn hN)]
  exact kk H locs ls hP hS h
theorem rr_bald (F : Fx x ly g cc own ret f lo) {k : Nat} {i : Int} (hk : kd ly k = 9) (h0 : 0 ≤ i) {N : Nat} (hN : ln ly k = N) (hn : i < (N : Int)) (d : decode cc pc = .ok (.baload, 1)) (kk : Rn x ly g post (pc + 1) lv (.int (zI (I k i)) :: st) I L) : Rn x ly g post pc lv (.int (zI i) :: .ref (g.2.1 k) :: st) I L := fun H locs ls hP hS h => by
  obtain ⟨n, rfl⟩ := Int.eq_ofNat_of_zero_le h0
  have hn : n < ln ly k := by rw [hN]; omega
  have hN := F.2.2.2.2.2.1.2.2.2 k
  refine va_bald F.1 F.2.1 F.2.2.2.2.2.1.1 hP k 0 (by rw [wl_get g I L (kd_lt hk (by decide)), mk_arrB hk]) rfl (zI_in hn hN) d ?_
  rw [zI_clamp (Nat.lt_trans hn hN)]
  exact kk H locs ls hP hS h
theorem rr_zald (F : Fx x ly g cc own ret f lo) {k : Nat} {i : Int} (hk : kd ly k = 12) (h0 : 0 ≤ i) {N : Nat} (hN : ln ly k = N) (hn : i < (N : Int)) (d : decode cc pc = .ok (.baload, 1)) (kk : Rn x ly g post (pc + 1) lv (.int (zI (I k i)) :: st) I L) : Rn x ly g post pc lv (.int (zI i) :: .ref (g.2.1 k) :: st) I L := fun H locs ls hP hS h => by
  obtain ⟨n, rfl⟩ := Int.eq_ofNat_of_zero_le h0
  have hn : n < ln ly k := by rw [hN]; omega
  have hN := F.2.2.2.2.2.1.2.2.2 k
  refine va_zald F.1 F.2.1 F.2.2.2.2.2.1.1 hP k 3 (by rw [wl_get g I L (kd_lt hk (by decide)), mk_arrZ hk]) rfl (zI_in hn hN) d ?_
  rw [zI_clamp (Nat.lt_trans hn hN)]
  exact kk H locs ls hP hS h
theorem rr_lald (F : Fx x ly g cc own ret f lo) {k : Nat} {i : Int} (hk : kd ly k = 11) (h0 : 0 ≤ i) {N : Nat} (hN : ln ly k = N) (hn : i < (N : Int)) (d : decode cc pc = .ok (.laload, 1)) (kk : Rn x ly g post (pc + 1) lv (.long (L k i) :: st) I L) : Rn x ly g post pc lv (.int (zI i) :: .ref (g.2.1 k) :: st) I L := fun H locs ls hP hS h => by
  obtain ⟨n, rfl⟩ := Int.eq_ofNat_of_zero_le h0
  have hn : n < ln ly k := by rw [hN]; omega
  have hN := F.2.2.2.2.2.1.2.2.2 k
  refine va_lald F.1 F.2.1 F.2.2.2.2.2.1.1 hP k 2 (by rw [wl_get g I L (kd_lt hk (by decide)), mk_arrJ hk]) rfl (zI_in hn hN) d ?_
  rw [zI_clamp (Nat.lt_trans hn hN)]
  exact kk H locs ls hP hS h
theorem rr_aald (F : Fx x ly g cc own ret f lo) {k : Nat} {i : Int} (hk : kd ly k = 13) (h0 : 0 ≤ i) {N : Nat} (hN : ln ly k = N) (hn : i < (N : Int)) (d : decode cc pc = .ok (.aaload, 1)) (kk : Rn x ly g post (pc + 1) lv (.ref (g.2.1 (k + 1 + 2 * i.toNat)) :: st) I L) : Rn x ly g post pc lv (.int (zI i) :: .ref (g.2.1 k) :: st) I L := fun H locs ls hP hS h => by
  obtain ⟨n, rfl⟩ := Int.eq_ofNat_of_zero_le h0
  have hn : n < ln ly k := by rw [hN]; omega
  have hN := F.2.2.2.2.2.1.2.2.2 k
  refine va_aldq F.1 F.2.1 F.2.2.2.2.2.1.1 hP k 4 (by rw [wl_get g I L (kd_lt hk (by decide)), mk_arrR hk]) rfl (zI_in hn hN) d ?_
  rw [zI_clamp (Nat.lt_trans hn hN)]
  exact kk H locs ls hP hS h
theorem wl_upB {k n : Nat} {a : Int} (hk : kd ly k = 9) : wl ly g (up2 I k (n : Int) a) L = (wl ly g I L).set k (g.2.1 k, .inl (g.2.2 9, ln ly k, .inl (fun j : Nat => zI (if (j : Int) = (n : Int) then a else I k (j : Int))))) := by
  rw [← wl_set g (I := I) (L := L) (k := k) (fun j h => up2_cell I n a h) (fun _ _ => rfl), mk_arrB hk]
  simp only [up2, if_true]
theorem wl_upI {k n : Nat} {a : Int} (hk : kd ly k = 10) : wl ly g (up2 I k (n : Int) a) L = (wl ly g I L).set k (g.2.1 k, .inl (g.2.2 10, ln ly k, .inl (fun j : Nat => zI (if (j : Int) = (n : Int) then a else I k (j : Int))))) := by
  rw [← wl_set g (I := I) (L := L) (k := k) (fun j h => up2_cell I n a h) (fun _ _ => rfl), mk_arrI hk]
  simp only [up2, if_true]
theorem wl_upZ {k n : Nat} {a : Int} (hk : kd ly k = 12) : wl ly g (up2 I k (n : Int) a) L = (wl ly g I L).set k (g.2.1 k, .inl (g.2.2 12, ln ly k, .inl (fun j : Nat => zI (if (j : Int) = (n : Int) then a else I k (j : Int))))) := by
  rw [← wl_set g (I := I) (L := L) (k := k) (fun j h => up2_cell I n a h) (fun _ _ => rfl), mk_arrZ hk]
  simp only [up2, if_true]
theorem wl_upJ {k n : Nat} {a : Int64} (hk : kd ly k = 11) : wl ly g I (up2 L k (n : Int) a) = (wl ly g I L).set k (g.2.1 k, .inl (g.2.2 11, ln ly k, .inr (.inl (vp_updL (fun j : Nat => L k (j : Int)) n a)))) := by
  rw [← wl_set g (I := I) (L := L) (k := k) (fun _ _ => rfl) (fun j h => up2_cell L n a h), mk_arrJ hk]
  congr 6
  refine congrArg Sum.inl ?_
  funext j
  by_cases h : j = n <;> simp [up2, vp_updL, h, Int.natCast_inj]
theorem upd_zI (f : Int → Int) (n : Nat) (a : Int) : upd (fun j : Nat => zI (f (j : Int))) n (zI a) = fun j : Nat => zI (if (j : Int) = (n : Int) then a else f (j : Int)) := by
  funext j
  by_cases h : j = n <;> simp [upd, h, Int.natCast_inj]
theorem rr_iast (F : Fx x ly g cc own ret f lo) {k : Nat} {i a : Int} (hk : kd ly k = 10) (h0 : 0 ≤ i) {N : Nat} (hN : ln ly k = N) (hn : i < (N : Int)) (d : decode cc pc = .ok (.iastore, 1)) (kk : Rn x ly g post (pc + 1) lv (st) (up2 I k i a) L) : Rn x ly g post pc lv (.int (zI a) :: .int (zI i) :: .ref (g.2.1 k) :: st) I L := fun H locs ls hP hS h => by
  obtain ⟨n, rfl⟩ := Int.eq_ofNat_of_zero_le h0
  have hn : n < ln ly k := by rw [hN]; omega
  have hN := F.2.2.2.2.2.1.2.2.2 k
  refine va_iast F.1 F.2.1 F.2.2.2.2.2.1.1 hP (wl_D F.2.2.2.2.2.1.2.1 I L) hS k 1 (by rw [wl_get g I L (kd_lt hk (by decide)), mk_arrI hk]) rfl (zI_in hn hN) d (fun H1 locs1 hP1 _ hS1 => kk H1 locs1 ls ?_ hS1 h)
  rw [zI_clamp (Nat.lt_trans hn hN), upd_zI, ← wl_upI hk] at hP1
  exact hP1
theorem rr_bast (F : Fx x ly g cc own ret f lo) {k : Nat} {i a : Int} (hk : kd ly k = 9) (h0 : 0 ≤ i) {N : Nat} (hN : ln ly k = N) (hn : i < (N : Int)) (hv : vp_nar .byte (zI a) = zI a) (d : decode cc pc = .ok (.bastore, 1)) (kk : Rn x ly g post (pc + 1) lv (st) (up2 I k i a) L) : Rn x ly g post pc lv (.int (zI a) :: .int (zI i) :: .ref (g.2.1 k) :: st) I L := fun H locs ls hP hS h => by
  obtain ⟨n, rfl⟩ := Int.eq_ofNat_of_zero_le h0
  have hn : n < ln ly k := by rw [hN]; omega
  have hN := F.2.2.2.2.2.1.2.2.2 k
  refine va_bast F.1 F.2.1 F.2.2.2.2.2.1.1 hP (wl_D F.2.2.2.2.2.1.2.1 I L) hS k 0 (by rw [wl_get g I L (kd_lt hk (by decide)), mk_arrB hk]) rfl (zI_in hn hN) d (fun H1 locs1 hP1 _ hS1 => kk H1 locs1 ls ?_ hS1 h)
  rw [zI_clamp (Nat.lt_trans hn hN), hv, upd_zI, ← wl_upB hk] at hP1
  exact hP1
theorem rr_zast (F : Fx x ly g cc own ret f lo) {k : Nat} {i a : Int} (hk : kd ly k = 12) (h0 : 0 ≤ i) {N : Nat} (hN : ln ly k = N) (hn : i < (N : Int)) (hv : vp_nar .boolean (zI a) = zI a) (d : decode cc pc = .ok (.bastore, 1)) (kk : Rn x ly g post (pc + 1) lv (st) (up2 I k i a) L) : Rn x ly g post pc lv (.int (zI a) :: .int (zI i) :: .ref (g.2.1 k) :: st) I L := fun H locs ls hP hS h => by
  obtain ⟨n, rfl⟩ := Int.eq_ofNat_of_zero_le h0
  have hn : n < ln ly k := by rw [hN]; omega
  have hN := F.2.2.2.2.2.1.2.2.2 k
  refine va_zast F.1 F.2.1 F.2.2.2.2.2.1.1 hP (wl_D F.2.2.2.2.2.1.2.1 I L) hS k 3 (by rw [wl_get g I L (kd_lt hk (by decide)), mk_arrZ hk]) rfl (zI_in hn hN) d (fun H1 locs1 hP1 _ hS1 => kk H1 locs1 ls ?_ hS1 h)
  rw [zI_clamp (Nat.lt_trans hn hN), hv, upd_zI, ← wl_upZ hk] at hP1
  exact hP1
theorem rr_last_0 : True := trivial
theorem rr_last (F : Fx x ly g cc own ret f lo) {k : Nat} {i : Int} {a : Int64} (hk : kd ly k = 11) (h0 : 0 ≤ i) {N : Nat} (hN : ln ly k = N) (hn : i < (N : Int)) (d : decode cc pc = .ok (.lastore, 1)) (kk : Rn x ly g post (pc + 1) lv (st) I (up2 L k i a)) : Rn x ly g post pc lv (.long a :: .int (zI i) :: .ref (g.2.1 k) :: st) I L := fun H locs ls hP hS h => by
  obtain ⟨n, rfl⟩ := Int.eq_ofNat_of_zero_le h0
  have hn : n < ln ly k := by rw [hN]; omega
  have hN := F.2.2.2.2.2.1.2.2.2 k
  refine va_last F.1 F.2.1 F.2.2.2.2.2.1.1 hP (wl_D F.2.2.2.2.2.1.2.1 I L) hS k 2 (by rw [wl_get g I L (kd_lt hk (by decide)), mk_arrJ hk]) rfl (zI_in hn hN) d (fun H1 locs1 hP1 _ hS1 => kk H1 locs1 ls ?_ hS1 h)
  rw [zI_clamp (Nat.lt_trans hn hN), ← wl_upJ hk] at hP1
  exact hP1
theorem rr_iret (F : Fx x ly g cc own (some .int) f lo) {a : Int} (d : decode cc pc = .ok (.ireturn, 1)) (hp : post (some (.int (zI a))) I L) : Rn x ly g post pc lv ([.int (zI a)]) I L := fun H locs ls hP hS hl => W.iret F.1 F.2.1 F.2.2.2.2.2.2.2.1 (fun t ht _ => ⟨⟨_, I, L, rfl, hp, by rw [ht]; exact hP⟩, hS.F ht⟩) hS.2.2 d F.2.2.2.2.2.2.1
theorem rr_zret (F : Fx x ly g cc own (some .boolean) f lo) {a : Int} (d : decode cc pc = .ok (.ireturn, 1)) (hn : narrow .boolean (.int (zI a)) = .int (zI a)) (hp : post (some (.int (zI a))) I L) : Rn x ly g post pc lv ([.int (zI a)]) I L := fun H locs ls hP hS hl => W.zret F.1 F.2.1 F.2.2.2.2.2.2.2.1 hn (fun t ht _ => ⟨⟨_, I, L, rfl, hp, by rw [ht]; exact hP⟩, hS.F ht⟩) hS.2.2 d F.2.2.2.2.2.2.1
theorem rr_lret (F : Fx x ly g cc own (some .long) f lo) {a : Int64} (d : decode cc pc = .ok (.lreturn, 1)) (hp : post (some (.long a)) I L) : Rn x ly g post pc lv ([.long a]) I L := fun H locs ls hP hS hl => W.lret F.1 F.2.1 F.2.2.2.2.2.2.2.1 (fun t ht _ => ⟨⟨_, I, L, rfl, hp, by rw [ht]; exact hP⟩, hS.F ht⟩) hS.2.2 d F.2.2.2.2.2.2.1
theorem rr_vret (F : Fx x ly g cc own none f lo) (d : decode cc pc = .ok (.return_, 1)) (hp : post none I L) : Rn x ly g post pc lv ([]) I L := fun H locs ls hP hS hl => W.vret F.1 F.2.1 F.2.2.2.2.2.2.2.1 (fun t ht _ => ⟨⟨_, I, L, rfl, hp, by rw [ht]; exact hP⟩, hS.F ht⟩) hS.2.2 d F.2.2.2.2.2.2.1
theorem rr_aret {C : String} (F : Fx x ly g cc own (some (.object C)) f lo) {a : Nat} (d : decode cc pc = .ok (.areturn, 1)) (hp : post (some (.ref a)) I L) : Rn x ly g post pc lv ([.ref a]) I L := fun H locs ls hP hS hl => W.aret F.1 F.2.1 F.2.2.2.2.2.2.2.1 (Or.inl ⟨_, rfl⟩) (Or.inr ⟨_, rfl⟩) (fun t ht _ => ⟨⟨_, I, L, rfl, hp, by rw [ht]; exact hP⟩, hS.F ht⟩) hS.2.2 d F.2.2.2.2.2.2.1
theorem zI_max {a b : Int} (ha : rg a) (hb : rg b) : (if zI a < zI b then zI b else zI a) = zI (max a b) := by
  by_cases h : a < b
  · rw [if_pos ((zI_lt ha hb).mpr h), Int.max_eq_right (Int.le_of_lt h)]
  · rw [if_neg (fun q => h ((zI_lt ha hb).mp q)), Int.max_eq_left (Int.not_lt.mp h)]
theorem rr_max (F : Fx x ly g cc own ret f lo) {idx : Nat} {a b : Int} (hl : Cond.methodLink own idx Lib.Math.max.name ∈ UW) (ha : rg a) (hb : rg b) (hf : 1 ≤ f) (hlo : (st.map fun v => v.category).sum + 13 ≤ lo) (d : decode cc pc = .ok (.invokestatic idx, 3)) (kk : Rn x ly g post (pc + 3) lv (.int (zI (max a b)) :: st) I L) : Rn x ly g post pc lv (.int (zI b) :: .int (zI a) :: st) I L := fun H locs ls hP hS hl' => va_mmax F.1 F.2.1 (F.2.2.1.trans hl'.1.1.symm) F.2.2.2.1 (F.2.2.2.2.1 _ hl) (F.2.2.2.2.1 _ mw_max_st) (F.2.2.2.2.1 _ mw_Math) (F.2.2.2.2.1 _ mw_max_code) (by rw [F.2.2.2.2.2.2.2.2]; exact hf) (by rw [F.2.2.2.2.2.2.2.2]; exact hlo) (Nat.zero_le _) (Nat.zero_le _) d (by rw [zI_max ha hb]; exact kk H locs ls hP hS hl')
theorem zI_min {a b : Int} (ha : rg a) (hb : rg b) : (if zI b < zI a then zI b else zI a) = zI (min a b) := by
  by_cases h : b < a
  · rw [if_pos ((zI_lt hb ha).mpr h), Int.min_eq_right (Int.le_of_lt h)]
  · rw [if_neg (fun q => h ((zI_lt hb ha).mp q)), Int.min_eq_left (Int.not_lt.mp h)]
theorem rr_min (F : Fx x ly g cc own ret f lo) {idx : Nat} {a b : Int} (hl : Cond.methodLink own idx Lib.Math.min.name ∈ UW) (ha : rg a) (hb : rg b) (hf : 1 ≤ f) (hlo : (st.map fun v => v.category).sum + 13 ≤ lo) (d : decode cc pc = .ok (.invokestatic idx, 3)) (kk : Rn x ly g post (pc + 3) lv (.int (zI (min a b)) :: st) I L) : Rn x ly g post pc lv (.int (zI b) :: .int (zI a) :: st) I L := fun H locs ls hP hS hl' => va_mmin F.1 F.2.1 (F.2.2.1.trans hl'.1.1.symm) F.2.2.2.1 (F.2.2.2.2.1 _ hl) (F.2.2.2.2.1 _ mw_min_st) (F.2.2.2.2.1 _ mw_Math) (F.2.2.2.2.1 _ mw_min_code) (by rw [F.2.2.2.2.2.2.2.2]; exact hf) (by rw [F.2.2.2.2.2.2.2.2]; exact hlo) (Nat.zero_le _) (Nat.zero_le _) d (by rw [zI_min ha hb]; exact kk H locs ls hP hS hl')
theorem rr_kw (F : Fx x ly g cc own ret f lo) {idx : Nat} (hl : Cond.fieldLink own idx "BorrowedPages$Reader" "KEYWORDS" "[I" ∈ UW) (d : decode cc pc = .ok (.getstatic idx, 3)) (kk : ∀ t : Nat, va_T .int t 5 kwv (AA ly g) x.2.2.2.2.1 x.2.2.2.2.1.heap → Rn x ly g post (pc + 3) lv (.ref t :: st) I L) : Rn x ly g post pc lv (st) I L := fun H locs ls hP hS h => by
  obtain ⟨t, hZ, hT⟩ := F.2.2.2.2.2.1.2.2.1
  exact va_gets F.1 F.2.1 hZ hS F.2.2.2.1 (F.2.2.2.2.1 _ hl) (fun _ q => q) d (kk t hT H locs ls hP hS h)
theorem rr_kwlen (F : Fx x ly g cc own ret f lo) {t : Nat} (hT : va_T .int t 5 kwv (AA ly g) x.2.2.2.2.1 x.2.2.2.2.1.heap) (d : decode cc pc = .ok (.arraylength, 1)) (kk : Rn x ly g post (pc + 1) lv (.int (zI 5) :: st) I L) : Rn x ly g post pc lv (.ref t :: st) I L := fun H locs ls hP hS h => va_tlen F.1 F.2.1 hT hS rfl d (kk H locs ls hP hS h)
theorem rr_kwld (F : Fx x ly g cc own ret f lo) {t : Nat} {i : Int} {v : Value} (hT : va_T .int t 5 kwv (AA ly g) x.2.2.2.2.1 x.2.2.2.2.1.heap) (h0 : 0 ≤ i) (hn : i < 5) (hv : kwv i.toNat = v) (d : decode cc pc = .ok (.iaload, 1)) (kk : Rn x ly g post (pc + 1) lv (v :: st) I L) : Rn x ly g post pc lv (.int (zI i) :: .ref t :: st) I L := fun H locs ls hP hS h => by
  obtain ⟨n, rfl⟩ := Int.eq_ofNat_of_zero_le h0
  exact va_ti F.1 F.2.1 hT hS (zI_in (by omega) (by omega)) (by rw [zI_clamp (by omega)]; exact hv) d (kk H locs ls hP hS h)
theorem univ_good {y : MethodName} {cy : ByteArray} {ny : Nat} {ry : Option FieldType} (h : Cond.code y cy ny ry ∈ UW) : GoodIn UW (Cond.code y cy ny ry :: UW) := by
  intro w hw
  have hm : w ∈ UW := by
    rcases List.mem_cons.mp hw with rfl | q
    · exact h
    · exact q
  exact ⟨hm, good_of_word (List.mem_filter.mp hm).2⟩
theorem KW.go {A : Nat → Prop} {u U : State} {H H1 : Heap} (h : KW A u H) (hvm : u.vm.Alike U.vm) (hq : ∀ a : Nat, a < H.size → ¬ A a → H1[a]? = H[a]?) : KW A U H1 := by
  obtain ⟨t, h1, h2⟩ := h
  exact ⟨t, (h1.kept hq).moved hvm, (h2.kept hq).moved hvm⟩
theorem Bw.blind (av : List Value) : FrameBlind (va_Pc av (Bw ly g I L)) := fun a U gg mk q => by
  obtain ⟨q0, qP, qK, qi, qW, qn⟩ := q
  exact ⟨q0, qP, va_K.moved (u := U) (U := U.calling gg mk a) (Vm.Alike.refl U.vm) qK, qi, qW.go (U := U.calling gg mk a) (Vm.Alike.refl U.vm) (fun _ _ _ => rfl), qn⟩
theorem Kx.go {s U : State} {H : Heap} {locs : List Loc} (h : Kx ly g s) (hS : va_S (AA ly g) s.heap H locs) (hU : U.heap = H) (hvm : s.vm.Alike U.vm) : Kx ly g U := by
  obtain ⟨h1, h2, h3, h4⟩ := h
  exact ⟨va_K.moved hvm h1, h2, h3.go hvm (fun a ha hA => by rw [hU]; exact hS.2.1 a ha hA), h4⟩
theorem arity_of {y : MethodName} {n : Nat} (h : (parseMethodDescriptor y.desc).map (fun d => d.parameters.length) = some n) : ∀ sig, parseMethodDescriptor y.desc = some sig → n = sig.parameters.length := by
  intro sig hs
  rw [hs] at h
  exact (Option.some.inj h).symm
theorem mk_obj {k ci : Nat} (hk : kd ly k = ci) (hci : ci < 9) (f : Int → Int) (h : Int → Int64) : ∃ fs, mkE g (ly.getD k (99, 0)) k f h = .inr (ci, fs) := by
  subst hk
  have : kd ly k = 0 ∨ kd ly k = 1 ∨ kd ly k = 2 ∨ kd ly k = 3 ∨ kd ly k = 4 ∨ kd ly k = 5 ∨ kd ly k = 6 ∨ kd ly k = 7 ∨ kd ly k = 8 := by omega
  rcases this with e | e | e | e | e | e | e | e | e
  · exact ⟨_, by rw [e]; exact mk_Book e f h⟩
  · exact ⟨_, by rw [e]; exact mk_Comparison e f h⟩
  · exact ⟨_, by rw [e]; exact mk_Groups e f h⟩
  · exact ⟨_, by rw [e]; exact mk_Page e f h⟩
  · exact ⟨_, by rw [e]; exact mk_Reader e f h⟩
  · exact ⟨_, by rw [e]; exact mk_Shelf e f h⟩
  · exact ⟨_, by rw [e]; exact mk_Tape e f h⟩
  · exact ⟨_, by rw [e]; exact mk_BP e f h⟩
  · exact ⟨_, by rw [e]; exact mk_Model e f h⟩
theorem rr_callV (F : Fx x ly g cc own ret f lo) {y : MethodName} {cy : ByteArray} {ny f' lo' idx k ci N : Nat} {ry : Option FieldType} {As rest : List Value} {C : String} {T : u_T} {post' : poT} (hM : Ct x.2.1 y cy ny ry f' lo' ly g (.ref (g.2.1 k) :: As) I L post') (hF : MF y cy ny ry C As.length) (hl1 : Cond.methodLink own idx y ∈ UW) (hr : f' + 1 ≤ f ∧ 8 + (ny + 11) + lo' ≤ lo) (hk : kd ly k = ci) (hci : ci < 9) (hcl : vwCl[ci]? = some (C, T, N)) (hst : st = As.reverse ++ .ref (g.2.1 k) :: rest) (hrest : (rest.map fun v => v.category).sum ≤ 8) (d : decode cc pc = .ok (.invokevirtual idx, 3)) (kk : ∀ (v : Option Value) (I' : IM) (L' : LM), post' v I' L' → Rn x ly g post (pc + 3) lv (v.toList ++ rest) I' L') : Rn x ly g post pc lv (st) I L := fun H locs ls hP hS hl => by
  have hR : x.2.2.2.1 = rmT f lo := F.2.2.2.2.2.2.2.2
  obtain ⟨hc, hi, hs, hini, hy, hd⟩ := hF
  subst hst
  have hts := F.2.2.2.2.1
  have hcb : CallB x.2.2.2.1 x.2.2.2.2.1 x.2.2.2.2.2.2.1 own idx y cy ny ry (Cond.code y cy ny ry :: UW) (rmT f' lo') 0 0 As.length := ⟨rfl, rfl, by rw [hR]; exact hr.1, by rw [hR]; exact hr.2, pay_in hts (univ_good hc), List.mem_cons_self, hts _ hc, hts _ hini, hy, arity_of hd, hts _ hl1⟩
  have hrun := va_runV (e := x.2.2.1) (m := x.2.2.2.2.2.1) (below := x.2.2.2.2.2.2.2.1) (meth := x.2.2.2.2.2.2.2.2.1) (locs := locs) (cells := 0) (slots := 0) (rest := rest) (g := F0 x.2.2.2.2.2.1 pc ls (As.reverse ++ .ref (g.2.1 k) :: rest)) ⟨F.1, F.2.1, F.2.2.1, F.2.2.2.1, hts⟩ hM ⟨hcb, hts _ hi, hts _ hs⟩ ⟨Bw.blind _, va_recv F.2.2.2.2.2.1.1 hP hcl (q0 := k) (by rw [wl_get g I L (kd_lt hk (by omega)), (mk_obj hk hci _ _).choose_spec]), fun U hU hW => ⟨rfl, by rw [hU]; exact hP, F.2.2.2.2.2.1.go hS hU hW.alike⟩⟩ rfl rfl hl.1.1 rfl (lv_room hrest) d ⟨Nat.zero_le _, Nat.zero_le _⟩
  intro T hT X
  obtain ⟨v, st₀, t, T', LL, h0, X', hL, e1, e2, ⟨⟨v', I', L', hv, hp, hP'⟩, hz, hk'⟩, stp⟩ := hrun T hT X
  cases hv
  rw [h0] at hz hk'
  have hS' : va_S (AA ly g) x.2.2.2.2.1.heap T'.heap (locs ++ LL) := ⟨Nat.le_trans hS.1 (by rw [e1]; exact hz), fun q h1 h2 => by rw [e1, hk' q (Nat.lt_of_lt_of_le h1 hS.1) h2]; exact hS.2.1 q h1 h2, fun q hq => by
      rcases List.mem_append.mp hq with h | h
      · exact hS.2.2 q h
      · exact hL q h⟩
  obtain ⟨t2, a1, b1⟩ := kk v I' L' hp T'.heap (locs ++ LL) ls (by rw [e1]; exact hP') hS' hl T' rfl X'
  exact ⟨t2, stp t2 a1, b1⟩
theorem rr_callS (F : Fx x ly g cc own ret f lo) {y : MethodName} {cy : ByteArray} {ny f' lo' idx : Nat} {ry : Option FieldType} {As rest : List Value} {post' : poT} (hM : Ct x.2.1 y cy ny ry f' lo' ly g As I L post') (hF : MFs y cy ny ry As.length) (hl1 : Cond.methodLink own idx y ∈ UW) (hr : f' + 1 ≤ f ∧ 8 + (ny + 11) + lo' ≤ lo) (hst : st = As.reverse ++ rest) (hrest : (rest.map fun v => v.category).sum ≤ 8) (d : decode cc pc = .ok (.invokestatic idx, 3)) (kk : ∀ (v : Option Value) (I' : IM) (L' : LM), post' v I' L' → Rn x ly g post (pc + 3) lv (v.toList ++ rest) I' L') : Rn x ly g post pc lv (st) I L := fun H locs ls hP hS hl => by
  have hR : x.2.2.2.1 = rmT f lo := F.2.2.2.2.2.2.2.2
  obtain ⟨hc, hs, hini, hy, hd⟩ := hF
  subst hst
  have hts := F.2.2.2.2.1
  have hcb : CallB x.2.2.2.1 x.2.2.2.2.1 x.2.2.2.2.2.2.1 own idx y cy ny ry (Cond.code y cy ny ry :: UW) (rmT f' lo') 0 0 As.length := ⟨rfl, rfl, by rw [hR]; exact hr.1, by rw [hR]; exact hr.2, pay_in hts (univ_good hc), List.mem_cons_self, hts _ hc, hts _ hini, hy, arity_of hd, hts _ hl1⟩
  have hrun := va_runS (e := x.2.2.1) (m := x.2.2.2.2.2.1) (below := x.2.2.2.2.2.2.2.1) (meth := x.2.2.2.2.2.2.2.2.1) (locs := locs) (cells := 0) (slots := 0) (rest := rest) (g := F0 x.2.2.2.2.2.1 pc ls (As.reverse ++ rest)) ⟨F.1, F.2.1, F.2.2.1, F.2.2.2.1, hts⟩ hM ⟨hcb, hts _ hs⟩ ⟨Bw.blind _, fun U hU hW => ⟨rfl, by rw [hU]; exact hP, F.2.2.2.2.2.1.go hS hU hW.alike⟩⟩ rfl rfl hl.1.1 rfl (lv_room hrest) d ⟨Nat.zero_le _, Nat.zero_le _⟩
  intro T hT X
  obtain ⟨v, st₀, t, T', LL, h0, X', hL, e1, e2, ⟨⟨v', I', L', hv, hp, hP'⟩, hz, hk'⟩, stp⟩ := hrun T hT X
  cases hv
  rw [h0] at hz hk'
  have hS' : va_S (AA ly g) x.2.2.2.2.1.heap T'.heap (locs ++ LL) := ⟨Nat.le_trans hS.1 (by rw [e1]; exact hz), fun q h1 h2 => by rw [e1, hk' q (Nat.lt_of_lt_of_le h1 hS.1) h2]; exact hS.2.1 q h1 h2, fun q hq => by
      rcases List.mem_append.mp hq with h | h
      · exact hS.2.2 q h
      · exact hL q h⟩
  obtain ⟨t2, a1, b1⟩ := kk v I' L' hp T'.heap (locs ++ LL) ls (by rw [e1]; exact hP') hS' hl T' rfl X'
  exact ⟨t2, stp t2 a1, b1⟩
/-- posts by the kind of the answer -/
def pI (φ : Int → IM → LM → Prop) : poT := fun v I L => ∃ r : Int, v = some (.int (zI r)) ∧ φ r I L
def pJ (φ : Int64 → IM → LM → Prop) : poT := fun v I L => ∃ r : Int64, v = some (.long r) ∧ φ r I L
def pR (g : gT) (φ : Nat → IM → LM → Prop) : poT := fun v I L => ∃ r : Nat, v = some (.ref (g.2.1 r)) ∧ φ r I L
def pV (φ : IM → LM → Prop) : poT := fun v I L => v = none ∧ φ I L
theorem rr_callVI (F : Fx x ly g cc own ret f lo) {y : MethodName} {cy : ByteArray} {ny f' lo' idx k ci N : Nat} {ry : Option FieldType} {As rest : List Value} {C : String} {T : u_T} {φ : Int → IM → LM → Prop} (hM : Ct x.2.1 y cy ny ry f' lo' ly g (.ref (g.2.1 k) :: As) I L (pI φ)) (hF : MF y cy ny ry C As.length) (hl1 : Cond.methodLink own idx y ∈ UW) (hr : f' + 1 ≤ f ∧ 8 + (ny + 11) + lo' ≤ lo) (hk : kd ly k = ci) (hci : ci < 9) (hcl : vwCl[ci]? = some (C, T, N)) (hst : st = As.reverse ++ .ref (g.2.1 k) :: rest) (hrest : (rest.map fun v => v.category).sum ≤ 8) (d : decode cc pc = .ok (.invokevirtual idx, 3)) (kk : ∀ (r : Int) (I' : IM) (L' : LM), φ r I' L' → Rn x ly g post (pc + 3) lv (.int (zI r) :: rest) I' L') : Rn x ly g post pc lv (st) I L := rr_callV F hM hF hl1 hr hk hci hcl hst hrest d (fun v I2 L2 h => by
  obtain ⟨r, rfl, h⟩ := h
  exact kk r I2 L2 h)
theorem rr_callSI (F : Fx x ly g cc own ret f lo) {y : MethodName} {cy : ByteArray} {ny f' lo' idx : Nat} {ry : Option FieldType} {As rest : List Value} {φ : Int → IM → LM → Prop} (hM : Ct x.2.1 y cy ny ry f' lo' ly g As I L (pI φ)) (hF : MFs y cy ny ry As.length) (hl1 : Cond.methodLink own idx y ∈ UW) (hr : f' + 1 ≤ f ∧ 8 + (ny + 11) + lo' ≤ lo) (hst : st = As.reverse ++ rest) (hrest : (rest.map fun v => v.category).sum ≤ 8) (d : decode cc pc = .ok (.invokestatic idx, 3)) (kk : ∀ (r : Int) (I' : IM) (L' : LM), φ r I' L' → Rn x ly g post (pc + 3) lv (.int (zI r) :: rest) I' L') : Rn x ly g post pc lv (st) I L := rr_callS F hM hF hl1 hr hst hrest d (fun v I2 L2 h => by
  obtain ⟨r, rfl, h⟩ := h
  exact kk r I2 L2 h)
theorem rr_callVJ (F : Fx x ly g cc own ret f lo) {y : MethodName} {cy : ByteArray} {ny f' lo' idx k ci N : Nat} {ry : Option FieldType} {As rest : List Value} {C : String} {T : u_T} {φ : Int64 → IM → LM → Prop} (hM : Ct x.2.1 y cy ny ry f' lo' ly g (.ref (g.2.1 k) :: As) I L (pJ φ)) (hF : MF y cy ny ry C As.length) (hl1 : Cond.methodLink own idx y ∈ UW) (hr : f' + 1 ≤ f ∧ 8 + (ny + 11) + lo' ≤ lo) (hk : kd ly k = ci) (hci : ci < 9) (hcl : vwCl[ci]? = some (C, T, N)) (hst : st = As.reverse ++ .ref (g.2.1 k) :: rest) (hrest : (rest.map fun v => v.category).sum ≤ 8) (d : decode cc pc = .ok (.invokevirtual idx, 3)) (kk : ∀ (r : Int64) (I' : IM) (L' : LM), φ r I' L' → Rn x ly g post (pc + 3) lv (.long r :: rest) I' L') : Rn x ly g post pc lv (st) I L := rr_callV F hM hF hl1 hr hk hci hcl hst hrest d (fun v I2 L2 h => by
  obtain ⟨r, rfl, h⟩ := h
  exact kk r I2 L2 h)
theorem rr_callSJ (F : Fx x ly g cc own ret f lo) {y : MethodName} {cy : ByteArray} {ny f' lo' idx : Nat} {ry : Option FieldType} {As rest : List Value} {φ : Int64 → IM → LM → Prop} (hM : Ct x.2.1 y cy ny ry f' lo' ly g As I L (pJ φ)) (hF : MFs y cy ny ry As.length) (hl1 : Cond.methodLink own idx y ∈ UW) (hr : f' + 1 ≤ f ∧ 8 + (ny + 11) + lo' ≤ lo) (hst : st = As.reverse ++ rest) (hrest : (rest.map fun v => v.category).sum ≤ 8) (d : decode cc pc = .ok (.invokestatic idx, 3)) (kk : ∀ (r : Int64) (I' : IM) (L' : LM), φ r I' L' → Rn x ly g post (pc + 3) lv (.long r :: rest) I' L') : Rn x ly g post pc lv (st) I L := rr_callS F hM hF hl1 hr hst hrest d (fun v I2 L2 h => by
  obtain ⟨r, rfl, h⟩ := h
  exact kk r I2 L2 h)
theorem rr_callVR (F : Fx x ly g cc own ret f lo) {y : MethodName} {cy : ByteArray} {ny f' lo' idx k ci N : Nat} {ry : Option FieldType} {As rest : List Value} {C : String} {T : u_T} {φ : Nat → IM → LM → Prop} (hM : Ct x.2.1 y cy ny ry f' lo' ly g (.ref (g.2.1 k) :: As) I L (pR g φ)) (hF : MF y cy ny ry C As.length) (hl1 : Cond.methodLink own idx y ∈ UW) (hr : f' + 1 ≤ f ∧ 8 + (ny + 11) + lo' ≤ lo) (hk : kd ly k = ci) (hci : ci < 9) (hcl : vwCl[ci]? = some (C, T, N)) (hst : st = As.reverse ++ .ref (g.2.1 k) :: rest) (hrest : (rest.map fun v => v.category).sum ≤ 8) (d : decode cc pc = .ok (.invokevirtual idx, 3)) (kk : ∀ (r : Nat) (I' : IM) (L' : LM), φ r I' L' → Rn x ly g post (pc + 3) lv (.ref (g.2.1 r) :: rest) I' L') : Rn x ly g post pc lv (st) I L := rr_callV F hM hF hl1 hr hk hci hcl hst hrest d (fun v I2 L2 h => by
  obtain ⟨r, rfl, h⟩ := h
  exact kk r I2 L2 h)
theorem rr_callSR (F : Fx x ly g cc own ret f lo) {y : MethodName} {cy : ByteArray} {ny f' lo' idx : Nat} {ry : Option FieldType} {As rest : List Value} {φ : Nat → IM → LM → Prop} (hM : Ct x.2.1 y cy ny ry f' lo' ly g As I L (pR g φ)) (hF : MFs y cy ny ry As.length) (hl1 : Cond.methodLink own idx y ∈ UW) (hr : f' + 1 ≤ f ∧ 8 + (ny + 11) + lo' ≤ lo) (hst : st = As.reverse ++ rest) (hrest : (rest.map fun v => v.category).sum ≤ 8) (d : decode cc pc = .ok (.invokestatic idx, 3)) (kk : ∀ (r : Nat) (I' : IM) (L' : LM), φ r I' L' → Rn x ly g post (pc + 3) lv (.ref (g.2.1 r) :: rest) I' L') : Rn x ly g post pc lv (st) I L := rr_callS F hM hF hl1 hr hst hrest d (fun v I2 L2 h => by
  obtain ⟨r, rfl, h⟩ := h
  exact kk r I2 L2 h)
theorem rr_callVV (F : Fx x ly g cc own ret f lo) {y : MethodName} {cy : ByteArray} {ny f' lo' idx k ci N : Nat} {ry : Option FieldType} {As rest : List Value} {C : String} {T : u_T} {φ : IM → LM → Prop} (hM : Ct x.2.1 y cy ny ry f' lo' ly g (.ref (g.2.1 k) :: As) I L (pV φ)) (hF : MF y cy ny ry C As.length) (hl1 : Cond.methodLink own idx y ∈ UW) (hr : f' + 1 ≤ f ∧ 8 + (ny + 11) + lo' ≤ lo) (hk : kd ly k = ci) (hci : ci < 9) (hcl : vwCl[ci]? = some (C, T, N)) (hst : st = As.reverse ++ .ref (g.2.1 k) :: rest) (hrest : (rest.map fun v => v.category).sum ≤ 8) (d : decode cc pc = .ok (.invokevirtual idx, 3)) (kk : ∀ (I' : IM) (L' : LM), φ I' L' → Rn x ly g post (pc + 3) lv (rest) I' L') : Rn x ly g post pc lv (st) I L := rr_callV F hM hF hl1 hr hk hci hcl hst hrest d (fun v I2 L2 h => by
  obtain ⟨rfl, h⟩ := h
  exact kk I2 L2 h)
theorem rr_callSV (F : Fx x ly g cc own ret f lo) {y : MethodName} {cy : ByteArray} {ny f' lo' idx : Nat} {ry : Option FieldType} {As rest : List Value} {φ : IM → LM → Prop} (hM : Ct x.2.1 y cy ny ry f' lo' ly g As I L (pV φ)) (hF : MFs y cy ny ry As.length) (hl1 : Cond.methodLink own idx y ∈ UW) (hr : f' + 1 ≤ f ∧ 8 + (ny + 11) + lo' ≤ lo) (hst : st = As.reverse ++ rest) (hrest : (rest.map fun v => v.category).sum ≤ 8) (d : decode cc pc = .ok (.invokestatic idx, 3)) (kk : ∀ (I' : IM) (L' : LM), φ I' L' → Rn x ly g post (pc + 3) lv (rest) I' L') : Rn x ly g post pc lv (st) I L := rr_callS F hM hF hl1 hr hst hrest d (fun v I2 L2 h => by
  obtain ⟨rfl, h⟩ := h
  exact kk I2 L2 h)
end RR
end
section
/-! the two layouts: the class's cells, the model's cells -/
def lyC : lyT := [(7, 0), (6, 0), (9, 240), (4, 0), (5, 0), (13, 6), (0, 0), (11, 40), (0, 0), (11, 40), (0, 0), (11, 40), (0, 0), (11, 40), (0, 0), (11, 40), (0, 0), (11, 40), (1, 0), (10, 40), (10, 1681), (10, 1681), (3, 0), (11, 40), (10, 40), (12, 40), (12, 40), (10, 40), (3, 0), (11, 40), (10, 40), (12, 40), (12, 40), (10, 40), (3, 0), (11, 40), (10, 40), (12, 40), (12, 40), (10, 40), (2, 0), (10, 6)]
def lyM : lyT := [(8, 0), (10, 240), (12, 6), (10, 6), (10, 6), (10, 6), (11, 240), (11, 5), (12, 240), (10, 40), (12, 240), (10, 1600), (10, 1600), (10, 1600), (10, 1600), (10, 1600), (10, 6)]
/-- a page's cell, a book's cell -/
def isP (k : Nat) : Prop := k = 22 ∨ k = 28 ∨ k = 34
def isB (k : Nat) : Prop := k = 6 ∨ k = 8 ∨ k = 10 ∨ k = 12 ∨ k = 14 ∨ k = 16
theorem isP.f {k : Nat} (h : isP k) : kd lyC k = 3 ∧ kd lyC (k + 1) = 11 ∧ kd lyC (k + 2) = 10 ∧ kd lyC (k + 3) = 12 ∧ kd lyC (k + 4) = 12 ∧ kd lyC (k + 5) = 10 ∧ ln lyC (k + 1) = 40 ∧ ln lyC (k + 2) = 40 ∧ ln lyC (k + 3) = 40 ∧ ln lyC (k + 4) = 40 ∧ ln lyC (k + 5) = 40 := by
  rcases h with rfl | rfl | rfl <;> decide
theorem isB.f {k : Nat} (h : isB k) : kd lyC k = 0 ∧ kd lyC (k + 1) = 11 ∧ ln lyC (k + 1) = 40 := by
  rcases h with rfl | rfl | rfl | rfl | rfl | rfl <;> decide
/-- book b's cell -/
def bk (b : Int) : Nat := 5 + 1 + 2 * b.toNat
theorem bk_isB {b : Int} (h0 : 0 ≤ b) (h : b < 6) : isB (bk b) := by
  unfold isB bk
  omega
abbrev vn (z : Int) : Option Value := some (.int (zI z))
abbrev vr (g : gT) (k : Nat) : Option Value := some (.ref (g.2.1 k))
abbrev vl (z : Int64) : Option Value := some (.long z)
theorem rr_bk {x : cT} {ly : lyT} {g : gT} {post : poT} {pc : Nat} {lv : lvT} {st : List Value} {I : IM} {L : LM} {b : Int} (kk : Rn x ly g post pc lv (.ref (g.2.1 (bk b)) :: st) I L) : Rn x ly g post pc lv (.ref (g.2.1 (5 + 1 + 2 * b.toNat)) :: st) I L := kk
end
section
/-! the abstract state, and what it is to each side -/
abbrev sT : Type := (Int × (Int → Int)) × ((Int → Int) × (Int → Int) × (Int → Int) × (Int → Int) × (Int → Int → Int64)) × (Int × Int × Int × Int × Int)
abbrev s_tl (σ : sT) : Int := σ.1.1
abbrev s_tb (σ : sT) : Int → Int := σ.1.2
abbrev s_hd (σ : sT) : Int → Int := σ.2.1.1
abbrev s_sz (σ : sT) : Int → Int := σ.2.1.2.1
abbrev s_lg (σ : sT) : Int → Int := σ.2.1.2.2.1
abbrev s_dy (σ : sT) : Int → Int := σ.2.1.2.2.2.1
abbrev s_tk (σ : sT) : Int → Int → Int64 := σ.2.1.2.2.2.2
abbrev s_k (σ : sT) : Int := σ.2.2.1
abbrev s_w (σ : sT) : Int := σ.2.2.2.1
abbrev s_gp (σ : sT) : Int := σ.2.2.2.2.1
abbrev s_bd (σ : sT) : Int := σ.2.2.2.2.2.1
abbrev s_gv (σ : sT) : Int := σ.2.2.2.2.2.2
def u1 {α : Type} (f : Int → α) (k : Int) (v : α) : Int → α := fun j => if j = k then v else f j
theorem u1_same {α : Type} (f : Int → α) (k : Int) (v : α) : u1 f k v k = v := by simp [u1]
theorem u1_ne {α : Type} (f : Int → α) {k j : Int} (v : α) (h : j ≠ k) : u1 f k v j = f j := by simp [u1, h]
/-- what the numbers of a state keep to -/
def WF (σ : sT) : Prop := (0 ≤ s_tl σ ∧ s_tl σ ≤ 240) ∧ (∀ i, 0 ≤ i → i < s_tl σ → 32 ≤ s_tb σ i ∧ s_tb σ i ≤ 126) ∧ (∀ b, 0 ≤ s_hd σ b ∧ s_hd σ b ≤ 1) ∧ (∀ b, 0 ≤ s_sz σ b ∧ s_sz σ b ≤ 40) ∧ (∀ b, 0 ≤ s_lg σ b ∧ s_lg σ b ≤ 1) ∧ (∀ b, 0 ≤ s_dy σ b ∧ s_dy σ b ≤ 9999) ∧ (2 ≤ s_k σ ∧ s_k σ ≤ 5) ∧ (1 ≤ s_w σ ∧ s_w σ ≤ 8) ∧ (0 ≤ s_gp σ ∧ s_gp σ ≤ 20) ∧ (1 ≤ s_bd σ ∧ s_bd σ ≤ 200) ∧ (-1 ≤ s_gv σ ∧ s_gv σ ≤ 5) ∧ (0 ≤ s_gv σ → s_hd σ (s_gv σ) = 1)
/-- the class's cells hold the state -/
def CR (σ : sT) (I : IM) (L : LM) : Prop := I 1 1 = s_tl σ ∧ (∀ i, 0 ≤ i → i < s_tl σ → I 2 i = s_tb σ i) ∧ (∀ b, 0 ≤ b → b < 6 → I (bk b) 4 = s_hd σ b ∧ (s_hd σ b = 1 → I (bk b) 1 = s_sz σ b ∧ I (bk b) 2 = s_lg σ b ∧ I (bk b) 3 = s_dy σ b ∧ ∀ i, 0 ≤ i → i < s_sz σ b → L (bk b + 1) i = s_tk σ b i)) ∧ I 4 1 = s_gv σ ∧ I 4 2 = s_k σ ∧ I 4 3 = s_w σ ∧ I 4 4 = s_gp σ ∧ I 4 5 = s_bd σ
/-- the model's cells hold the state -/
def MR (σ : sT) (J : IM) (K : LM) : Prop := J 0 1 = s_tl σ ∧ (∀ i, 0 ≤ i → i < s_tl σ → J 1 i = s_tb σ i) ∧ (∀ b, 0 ≤ b → b < 6 → J 2 b = s_hd σ b ∧ J 3 b = s_sz σ b ∧ J 4 b = s_lg σ b ∧ J 5 b = s_dy σ b ∧ ∀ i, 0 ≤ i → i < s_sz σ b → K 6 (40 * b + i) = s_tk σ b i) ∧ J 0 11 = s_gv σ ∧ J 0 7 = s_k σ ∧ J 0 8 = s_w σ ∧ J 0 9 = s_gp σ ∧ J 0 10 = s_bd σ ∧ (K 7 0 = 339 ∧ K 7 1 = 8787 ∧ K 7 2 = 236 ∧ K 7 3 = 16633 ∧ K 7 4 = 7367)
/-- only scratch has changed -/
def kC (I : IM) (L : LM) (I' : IM) (L' : LM) : Prop := ∀ q, q < 18 → I' q = I q ∧ L' q = L q
def kM (J : IM) (K : LM) (J' : IM) (K' : LM) : Prop := (∀ q, 1 ≤ q → q ≤ 5 → J' q = J q) ∧ (∀ j, j = 1 ∨ j = 7 ∨ j = 8 ∨ j = 9 ∨ j = 10 ∨ j = 11 → J' 0 j = J 0 j) ∧ K' = K
theorem kC.rf {I : IM} {L : LM} : kC I L I L := fun _ _ => ⟨rfl, rfl⟩
theorem kM.rf {J : IM} {K : LM} : kM J K J K := ⟨fun _ _ _ => rfl, fun _ _ => rfl, rfl⟩
theorem kC.tr {I I1 I2 : IM} {L L1 L2 : LM} (h : kC I L I1 L1) (h2 : kC I1 L1 I2 L2) : kC I L I2 L2 := fun q hq => ⟨(h2 q hq).1.trans (h q hq).1, (h2 q hq).2.trans (h q hq).2⟩
theorem kM.tr {J J1 J2 : IM} {K K1 K2 : LM} (h : kM J K J1 K1) (h2 : kM J1 K1 J2 K2) : kM J K J2 K2 := ⟨fun q a b => (h2.1 q a b).trans (h.1 q a b), fun j hj => (h2.2.1 j hj).trans (h.2.1 j hj), h2.2.2.trans h.2.2⟩
theorem CR.k {σ : sT} {I I' : IM} {L L' : LM} (h : CR σ I L) (k : kC I L I' L') : CR σ I' L' := by
  obtain ⟨h1, h2, h3, h4⟩ := h
  refine ⟨by rw [(k 1 (by omega)).1]; exact h1, fun i a b => by rw [(k 2 (by omega)).1]; exact h2 i a b, fun b h0 h6 => ?_, by rw [(k 4 (by omega)).1]; exact h4⟩
  have e1 := k (bk b) (by unfold bk; omega)
  have e2 := k (bk b + 1) (by unfold bk; omega)
  rw [e1.1, e2.2]
  exact h3 b h0 h6
theorem MR.k {σ : sT} {J J' : IM} {K K' : LM} (h : MR σ J K) (k : kM J K J' K') : MR σ J' K' := by
  obtain ⟨h1, h2, h3, h4, h5, h6, h7, h8, h9⟩ := h
  obtain ⟨k1, k2, rfl⟩ := k
  refine ⟨(k2 1 (by omega)).trans h1, fun i a b => by rw [k1 1 (by omega) (by omega)]; exact h2 i a b, fun b h0 h6 => ?_, (k2 11 (by omega)).trans h4, (k2 7 (by omega)).trans h5, (k2 8 (by omega)).trans h6, (k2 9 (by omega)).trans h7, (k2 10 (by omega)).trans h8, h9⟩
  rw [k1 2 (by omega) (by omega), k1 3 (by omega) (by omega), k1 4 (by omega) (by omega), k1 5 (by omega) (by omega)]
  exact h3 b h0 h6
/-- refusals of one book, of a pair -/
def rB (σ : sT) (b : Int) : Int := if 0 ≤ b ∧ b < 6 then (if s_hd σ b = 1 then 0 else -2) else -1
def rP (σ : sT) (a b : Int) : Int := if (0 ≤ a ∧ a < 6) ∧ (0 ≤ b ∧ b < 6) ∧ ¬ a = b then (if s_hd σ a = 1 ∧ s_hd σ b = 1 then 0 else -2) else -1
theorem bk_inj {a b : Int} (ha : 0 ≤ a) (hb : 0 ≤ b) (h : bk a = bk b) : a = b := by unfold bk at h; omega
end
section
/-! what the small calls answer, and the state behind them -/
def pS (Rl : sT → IM → LM → Prop) (q : Int × sT) : poT := pI (fun r I' L' => r = q.1 ∧ Rl q.2 I' L')
def pSJ (Rl : sT → IM → LM → Prop) (q : Int64 × sT) : poT := pJ (fun r I' L' => r = q.1 ∧ Rl q.2 I' L')
def sp_windows (σ : sT) (k w : Int) : Int × sT := if (2 ≤ k ∧ k ≤ 5) ∧ (1 ≤ w ∧ w ≤ 8) then (1, (σ.1, σ.2.1, (k, w, s_gp σ, s_bd σ, s_gv σ))) else (-1, σ)
def sp_gap (σ : sT) (t : Int) : Int × sT := if 0 ≤ t ∧ t ≤ 20 then (s_gp σ, (σ.1, σ.2.1, (s_k σ, s_w σ, t, s_bd σ, s_gv σ))) else (-1, σ)
def sp_link (σ : sT) (t : Int) : Int × sT := if 1 ≤ t ∧ t ≤ 200 then (s_bd σ, (σ.1, σ.2.1, (s_k σ, s_w σ, s_gp σ, t, s_gv σ))) else (-1, σ)
def sp_given (σ : sT) (b : Int) : Int × sT := if b = -1 ∨ ((0 ≤ b ∧ b < 6) ∧ s_hd σ b = 1) then (s_gv σ, (σ.1, σ.2.1, (s_k σ, s_w σ, s_gp σ, s_bd σ, b))) else (rB σ b - 10, σ)
def sp_withdraw (σ : sT) (b : Int) : Int × sT := if (0 ≤ b ∧ b < 6) ∧ s_hd σ b = 1 then (s_sz σ b, (σ.1, (u1 (s_hd σ) b 0, s_sz σ, s_lg σ, s_dy σ, s_tk σ), (s_k σ, s_w σ, s_gp σ, s_bd σ, if s_gv σ = b then -1 else s_gv σ))) else (rB σ b, σ)
def sp_token (σ : sT) (b i : Int) : Int64 := if (0 ≤ b ∧ b < 6) ∧ -3 ≤ i then (if s_hd σ b = 1 then (if s_sz σ b ≤ i then -1 else if i = -1 then (zI (s_sz σ b)).toInt64 else if i = -2 then (zI (s_lg σ b)).toInt64 else if i = -3 then (zI (s_dy σ b)).toInt64 else s_tk σ b i) else -2) else -1
theorem WF_windows {σ : sT} (h : WF σ) (k w : Int) : WF (sp_windows σ k w).2 := by
  unfold sp_windows
  split
  · next q => exact ⟨h.1, h.2.1, h.2.2.1, h.2.2.2.1, h.2.2.2.2.1, h.2.2.2.2.2.1, q.1, q.2, h.2.2.2.2.2.2.2.2.1, h.2.2.2.2.2.2.2.2.2.1, h.2.2.2.2.2.2.2.2.2.2.1, h.2.2.2.2.2.2.2.2.2.2.2⟩
  · exact h
theorem WF_gap {σ : sT} (h : WF σ) (t : Int) : WF (sp_gap σ t).2 := by
  unfold sp_gap
  split
  · next q => exact ⟨h.1, h.2.1, h.2.2.1, h.2.2.2.1, h.2.2.2.2.1, h.2.2.2.2.2.1, h.2.2.2.2.2.2.1, h.2.2.2.2.2.2.2.1, q, h.2.2.2.2.2.2.2.2.2.1, h.2.2.2.2.2.2.2.2.2.2.1, h.2.2.2.2.2.2.2.2.2.2.2⟩
  · exact h
theorem WF_link {σ : sT} (h : WF σ) (t : Int) : WF (sp_link σ t).2 := by
  unfold sp_link
  split
  · next q => exact ⟨h.1, h.2.1, h.2.2.1, h.2.2.2.1, h.2.2.2.2.1, h.2.2.2.2.2.1, h.2.2.2.2.2.2.1, h.2.2.2.2.2.2.2.1, h.2.2.2.2.2.2.2.2.1, q, h.2.2.2.2.2.2.2.2.2.2.1, h.2.2.2.2.2.2.2.2.2.2.2⟩
  · exact h
theorem WF_given {σ : sT} (h : WF σ) (b : Int) : WF (sp_given σ b).2 := by
  unfold sp_given
  split
  · next q => exact ⟨h.1, h.2.1, h.2.2.1, h.2.2.2.1, h.2.2.2.2.1, h.2.2.2.2.2.1, h.2.2.2.2.2.2.1, h.2.2.2.2.2.2.2.1, h.2.2.2.2.2.2.2.2.1, h.2.2.2.2.2.2.2.2.2.1, (by show -1 ≤ b ∧ b ≤ 5; omega), fun z => (by have z : 0 ≤ b := z; rcases q with q | q; omega; exact q.2)⟩
  · exact h
theorem WF_withdraw {σ : sT} (h : WF σ) (b : Int) : WF (sp_withdraw σ b).2 := by
  unfold sp_withdraw
  split
  · next q =>
    have w := h.2.2.2.2.2.2.2.2.2.2.1
    have hg := h.2.2.2.2.2.2.2.2.2.2.2
    have w3 := h.2.2.1
    refine ⟨h.1, h.2.1, fun c => ?_, h.2.2.2.1, h.2.2.2.2.1, h.2.2.2.2.2.1, h.2.2.2.2.2.2.1, h.2.2.2.2.2.2.2.1, h.2.2.2.2.2.2.2.2.1, h.2.2.2.2.2.2.2.2.2.1, ?_, fun z => ?_⟩
    · show 0 ≤ u1 (s_hd σ) b 0 c ∧ u1 (s_hd σ) b 0 c ≤ 1
      unfold u1
      split
      · omega
      · exact w3 c
    · show -1 ≤ (if s_gv σ = b then -1 else s_gv σ) ∧ (if s_gv σ = b then -1 else s_gv σ) ≤ 5
      split <;> omega
    · have z : 0 ≤ (if s_gv σ = b then -1 else s_gv σ) := z
      show u1 (s_hd σ) b 0 (if s_gv σ = b then -1 else s_gv σ) = 1
      by_cases e : s_gv σ = b
      · rw [if_pos e] at z; omega
      · rw [if_neg e] at z ⊢
        rw [u1_ne _ _ e]
        exact hg z
  · exact h
end
section
/-! BorrowedPages$Page: leaves -/
set_option maxHeartbeats 4000000 in
set_option maxRecDepth 100000 in
/-- the last of the least of h at a .. i-1, beginning with b -/
theorem mm_X3_lastOfLeast_0 : True := trivial
def lolF (h : Int → Int) : Nat → Int → Int → Int
  | 0, _, b => b
  | n + 1, i, b => lolF h n (i + 1) (if h i ≤ h b then i else b)
set_option maxHeartbeats 4000000 in
set_option maxRecDepth 100000 in
theorem mm_X3_lastOfLeast {l : Launch} {g : gT} {k : Nat} {a e : Int} {I : IM} {L : LM} (hk : isP k) (ha : 0 ≤ a) (hae : a < e) (he : e ≤ 40) (hr : ∀ j, a ≤ j → j < e → rg (I (k + 2) j)) :
    Ct l yX3_lastOfLeast cX3_lastOfLeast 5 (some .int) 0 0 lyC g [.ref (g.2.1 k), .int (zI a), .int (zI e)] I L (pI (fun r I' L' => r = lolF (I (k + 2)) (e - (a + 1)).toNat (a + 1) a ∧ I = I' ∧ L = L')) := by
  obtain ⟨q1, q2, q3, q4, q5, q6, q7, q8, q9, q10, q11⟩ := hk.f
  refine Ct.of RX3 (by decide +kernel) rfl (Nat.le_of_ble_eq_true rfl) (fun x hx F => ?_)
  have loop : ∀ (n : Nat) (i b : Int), n = (e - i).toNat → a < i → i ≤ e → a ≤ b → b < i → lolF (I (k + 2)) n i b = lolF (I (k + 2)) (e - (a + 1)).toNat (a + 1) a → Rn x lyC g (pI (fun r I' L' => r = lolF (I (k + 2)) (e - (a + 1)).toNat (a + 1) a ∧ I = I' ∧ L = L')) 7 [vr g k, vn a, vn e, vn b, vn i] [] I L := by
    intro n
    induction n with
    | zero =>
      intro i b h1 h2 h3 h4 h5 h6
      refine rr_iload F dX3_lastOfLeast_7 rfl ?_
      refine rr_iload_n F dX3_lastOfLeast_9 rfl ?_
      refine rr_icmp_ge F dX3_lastOfLeast_10 (tgt := 38) (by decide) ⟨by omega, by omega⟩ ⟨by omega, by omega⟩ (fun c_10 => ?_) (fun c_10 => ?_)
      · refine rr_iload_n F dX3_lastOfLeast_38 rfl ?_
        refine rr_iret F dX3_lastOfLeast_39 ?_
        exact ⟨_, rfl, h6, rfl, rfl⟩
      · exact absurd c_10 (by omega)
    | succ n ih =>
      intro i b h1 h2 h3 h4 h5 h6
      have hi : i < e → rg (I (k + 2) i) := fun z => hr i (by omega) z
      have hb := hr b (by omega) (by omega)
      unfold rg at hi hb
      refine rr_iload F dX3_lastOfLeast_7 rfl ?_
      refine rr_iload_n F dX3_lastOfLeast_9 rfl ?_
      refine rr_icmp_ge F dX3_lastOfLeast_10 (tgt := 38) (by decide) ⟨by omega, by omega⟩ ⟨by omega, by omega⟩ (fun c_10 => ?_) (fun c_10 => ?_)
      · exact absurd c_10 (by omega)
      · have hi := hi (by omega)
        refine rr_aload_n F dX3_lastOfLeast_13 rfl ?_
        refine rg_Page_hashes F (by first | rfl | assumption) fl_X3_15 dX3_lastOfLeast_14 ?_
        refine rr_iload F dX3_lastOfLeast_17 rfl ?_
        refine rr_iald F (N := 40) (by first | rfl | assumption) (by omega) (by first | rfl | assumption) (by omega) dX3_lastOfLeast_19 ?_
        refine rr_aload_n F dX3_lastOfLeast_20 rfl ?_
        refine rg_Page_hashes F (by first | rfl | assumption) fl_X3_15 dX3_lastOfLeast_21 ?_
        refine rr_iload_n F dX3_lastOfLeast_24 rfl ?_
        refine rr_iald F (N := 40) (by first | rfl | assumption) (by omega) (by first | rfl | assumption) (by omega) dX3_lastOfLeast_25 ?_
        refine rr_icmp_gt F dX3_lastOfLeast_26 (tgt := 32) (by decide) ⟨by omega, by omega⟩ ⟨by omega, by omega⟩ (fun c_26 => ?_) (fun c_26 => ?_)
        · refine rr_iinc F dX3_lastOfLeast_32 rfl rfl ?_
          refine rr_goto F dX3_lastOfLeast_35 (tgt := 7) (by decide) ?_
          exact ih (i + 1) _ (by omega) (by omega) (by omega) (by first | omega | assumption) (by omega) (by rw [← h6, lolF]; first | rw [if_pos (by omega)] | rw [if_neg (by omega)])
        · refine rr_iload F dX3_lastOfLeast_29 rfl ?_
          refine rr_istore_n F dX3_lastOfLeast_31 (Nat.le_of_ble_eq_true rfl) rfl ?_
          refine rr_iinc F dX3_lastOfLeast_32 rfl rfl ?_
          refine rr_goto F dX3_lastOfLeast_35 (tgt := 7) (by decide) ?_
          exact ih (i + 1) _ (by omega) (by omega) (by omega) (by first | omega | assumption) (by omega) (by rw [← h6, lolF]; first | rw [if_pos (by omega)] | rw [if_neg (by omega)])
  refine rr_iload_n F dX3_lastOfLeast_0 rfl ?_
  refine rr_istore_n F dX3_lastOfLeast_1 (Nat.le_of_ble_eq_true rfl) rfl ?_
  refine rr_iload_n F dX3_lastOfLeast_2 rfl ?_
  refine rr_iconst F dX3_lastOfLeast_3 ?_
  refine rr_iadd F dX3_lastOfLeast_4 ?_
  refine rr_istore F dX3_lastOfLeast_5 (Nat.le_of_ble_eq_true rfl) rfl ?_
  exact loop _ (a + 1) a rfl (by omega) (by omega) (by omega) (by omega) rfl
end
section
/-! hashes and marks: what they are -/
def hshF (T : Int → Int64) : Nat → Int → Int64 → Int64
  | 0, _, h => h
  | n + 1, i, h => hshF T n (i + 1) (h * 131 + T i - (h * 131 + T i) / 1000003 * 1000003)
def hsh (T : Int → Int64) (k s : Int) : Int := (hshF T k.toNat s 7).toInt32.toInt
theorem hsh_rg (T : Int → Int64) (k s : Int) : rg (hsh T k s) := rg_i _
noncomputable def bi (p : Prop) : Int := @ite Int p (Classical.propDecidable p) 1 0
theorem bi_pos {p : Prop} (h : p) : bi p = 1 := by unfold bi; exact if_pos h
theorem bi_neg {p : Prop} (h : ¬ p) : bi p = 0 := by unfold bi; exact if_neg h
theorem bi_congr {p q : Prop} (h : p ↔ q) : bi p = bi q := by
  by_cases hp : p
  · rw [bi_pos hp, bi_pos (h.mp hp)]
  · rw [bi_neg hp, bi_neg (fun z => hp (h.mpr z))]
theorem bi_01 (p : Prop) : bi p = 0 ∨ bi p = 1 := by
  by_cases hp : p
  · exact Or.inr (bi_pos hp)
  · exact Or.inl (bi_neg hp)
theorem bi_eq1 {p : Prop} : bi p = 1 ↔ p := ⟨fun h => Classical.byContradiction (fun z => by rw [bi_neg z] at h; omega), bi_pos⟩
theorem bi_eq0 {p : Prop} : bi p = 0 ↔ ¬ p := ⟨fun h z => by rw [bi_pos z] at h; omega, bi_neg⟩
theorem lolF_in (h : Int → Int) : ∀ (n : Nat) (i b lo hi : Int), lo ≤ b → b < hi → lo ≤ i → i + n ≤ hi → lo ≤ lolF h n i b ∧ lolF h n i b < hi := by
  intro n
  induction n with
  | zero => intro i b lo hi h1 h2 h3 h4; exact ⟨h1, h2⟩
  | succ n ih =>
    intro i b lo hi h1 h2 h3 h4
    rw [lolF]
    split
    · exact ih (i + 1) i lo hi h3 (by omega) (by omega) (by omega)
    · exact ih (i + 1) b lo hi h1 h2 (by omega) (by omega)
theorem lolF_congr {h h' : Int → Int} {lo hi : Int} (hh : ∀ j, lo ≤ j → j < hi → h j = h' j) : ∀ (n : Nat) (i b : Int), lo ≤ b → b < hi → lo ≤ i → i + n ≤ hi → lolF h n i b = lolF h' n i b := by
  intro n
  induction n with
  | zero => intro i b h1 h2 h3 h4; rfl
  | succ n ih =>
    intro i b h1 h2 h3 h4
    rw [lolF, lolF, hh i h3 (by omega), hh b h1 h2]
    split
    · exact ih (i + 1) i h3 (by omega) (by omega) (by omega)
    · exact ih (i + 1) b h1 h2 (by omega) (by omega)
/-- gram j is a mark of one of the first u windows of width W -/
def MkU (h : Int → Int) (W u j : Int) : Prop := ∃ f, 0 ≤ f ∧ f < u ∧ j = lolF h (W - 1).toNat (f + 1) f
/-- how many grams -/
def grm (n k : Int) : Int := max 0 (n - k + 1)
/-- the marks of a text of n tokens -/
noncomputable def mkF (T : Int → Int64) (n k w : Int) (j : Int) : Int := if 0 ≤ j ∧ j < grm n k then bi (MkU (hsh T k) (min w (grm n k)) (grm n k - min w (grm n k) + 1) j) else 0
theorem mkF_01 (T : Int → Int64) (n k w j : Int) : mkF T n k w j = 0 ∨ mkF T n k w j = 1 := by
  unfold mkF
  split
  · exact bi_01 _
  · exact Or.inl rfl
def cntF (m : Int → Int) : Nat → Int → Int → Int
  | 0, _, a => a
  | n + 1, i, a => cntF m n (i + 1) (if m i = 0 then a else a + 1)
def nthF (m : Int → Int) (t : Int) : Nat → Int → Int → Int
  | 0, _, _ => -1
  | n + 1, i, a => if m i = 0 then nthF m t n (i + 1) a else if a = t then i else nthF m t n (i + 1) (a + 1)
theorem cntF_congr {m m' : Int → Int} : ∀ (n : Nat) (i a : Int), (∀ j, i ≤ j → j < i + n → m j = m' j) → cntF m n i a = cntF m' n i a := by
  intro n
  induction n with
  | zero => intro i a h; rfl
  | succ n ih => intro i a h; rw [cntF, cntF, h i (by omega) (by omega)]; exact ih _ _ (fun j h1 h2 => h j (by omega) (by omega))
theorem nthF_congr {m m' : Int → Int} {t : Int} : ∀ (n : Nat) (i a : Int), (∀ j, i ≤ j → j < i + n → m j = m' j) → nthF m t n i a = nthF m' t n i a := by
  intro n
  induction n with
  | zero => intro i a h; rfl
  | succ n ih =>
    intro i a h
    rw [nthF, nthF, h i (by omega) (by omega), ih _ _ (fun j h1 h2 => h j (by omega) (by omega)), ih _ _ (fun j h1 h2 => h j (by omega) (by omega))]
theorem cntF_zero {m : Int → Int} : ∀ (n : Nat) (i a : Int), (∀ j, i ≤ j → j < i + n → m j = 0) → cntF m n i a = a := by
  intro n
  induction n with
  | zero => intro i a h; rfl
  | succ n ih => intro i a h; rw [cntF, if_pos (h i (by omega) (by omega))]; exact ih _ _ (fun j h1 h2 => h j (by omega) (by omega))
theorem nthF_zero {m : Int → Int} {t : Int} : ∀ (n : Nat) (i a : Int), (∀ j, i ≤ j → j < i + n → m j = 0) → nthF m t n i a = -1 := by
  intro n
  induction n with
  | zero => intro i a h; rfl
  | succ n ih => intro i a h; rw [nthF, if_pos (h i (by omega) (by omega))]; exact ih _ _ (fun j h1 h2 => h j (by omega) (by omega))
theorem cntF_more {m : Int → Int} (q : Nat) : ∀ (n : Nat) (i a : Int), (∀ j, i + n ≤ j → j < i + n + q → m j = 0) → cntF m (n + q) i a = cntF m n i a := by
  intro n
  induction n with
  | zero => intro i a h; rw [Nat.zero_add, cntF_zero q i a (fun j h1 h2 => h j (by omega) (by omega))]; rfl
  | succ n ih => intro i a h; rw [show n + 1 + q = (n + q) + 1 by omega, cntF, cntF]; exact ih _ _ (fun j h1 h2 => h j (by omega) (by omega))
theorem nthF_more {m : Int → Int} {t : Int} (q : Nat) : ∀ (n : Nat) (i a : Int), (∀ j, i + n ≤ j → j < i + n + q → m j = 0) → nthF m t (n + q) i a = nthF m t n i a := by
  intro n
  induction n with
  | zero => intro i a h; rw [Nat.zero_add, nthF_zero q i a (fun j h1 h2 => h j (by omega) (by omega))]; rfl
  | succ n ih => intro i a h; rw [show n + 1 + q = (n + q) + 1 by omega, nthF, nthF, ih _ _ (fun j h1 h2 => h j (by omega) (by omega)), ih _ _ (fun j h1 h2 => h j (by omega) (by omega))]
theorem irem_z {a b : Int} (h0 : 0 ≤ a) (ha : a < 2147483648) (hb0 : 0 < b) (hb : b < 2147483648) : (zI a - zI a / zI b * zI b).toInt = a % b := by
  have hra : rg a := ⟨by omega, ha⟩
  have hrb : rg b := ⟨by omega, hb⟩
  have hd : zI a / zI b = zI (a / b) := by
    rw [← Int32.toInt_inj, Int32.toInt_div_of_ne_left _ _ (fun e => by
      have := congrArg Int32.toInt e
      rw [zI_toInt hra] at this
      have h2 : Int32.minValue.toInt = -2147483648 := by decide
      omega), zI_toInt hra, zI_toInt hrb, zI_toInt ⟨by have := Int.ediv_nonneg h0 (Int.le_of_lt hb0); omega, by have := Int.ediv_le_self b h0; omega⟩, Int.tdiv_eq_ediv_of_nonneg h0]
  have hm := Int.emod_nonneg a (show b ≠ 0 by omega)
  have hm2 := Int.emod_lt_of_pos a hb0
  rw [hd, ← Int32.ofInt_mul, ← Int32.ofInt_sub, show a - a / b * b = a % b by rw [Int.emod_def, Int.mul_comm], zI_toInt ⟨by omega, by omega⟩]
theorem zI_ne0 {b : Int} (hb0 : 0 < b) (hb : b < 2147483648) : ¬ zI b = 0 := fun e => by
  have := (zI_eq (a := b) (b := 0) ⟨by omega, hb⟩ rg0).mp e
  omega
set_option maxHeartbeats 4000000 in
set_option maxRecDepth 100000 in
theorem mm_X3_hashOfGram {l : Launch} {g : gT} {k : Nat} {s m : Int} {I : IM} {L : LM} {T : Int → Int64} {n : Int} (hk : isP k) (hs : 0 ≤ s) (hm : 0 ≤ m) (hsm : s + m ≤ n) (hn : n ≤ 40) (hT : ∀ i, 0 ≤ i → i < n → L (k + 1) i = T i) :
    Ct l yX3_hashOfGram cX3_hashOfGram 6 (some .int) 0 0 lyC g [.ref (g.2.1 k), .int (zI s), .int (zI m)] I L (pI (fun r I' L' => r = hsh T m s ∧ I = I' ∧ L = L')) := by
  obtain ⟨q1, q2, q3, q4, q5, q6, q7, q8, q9, q10, q11⟩ := hk.f
  refine Ct.of RX3 (by decide +kernel) rfl (Nat.le_of_ble_eq_true rfl) (fun x hx F => ?_)
  have loop : ∀ (c : Nat) (i : Int) (h : Int64), c = (s + m - i).toNat → s ≤ i → i ≤ s + m → hshF T c i h = hshF T m.toNat s 7 → Rn x lyC g (pI (fun r I' L' => r = hsh T m s ∧ I = I' ∧ L = L')) 7 [vr g k, vn s, vn m, vl h, none, vn i] [] I L := by
    intro c
    induction c with
    | zero =>
      intro i h h1 h2 h3 h4
      refine rr_iload F dX3_hashOfGram_7 rfl ?_
      refine rr_iload_n F dX3_hashOfGram_9 rfl ?_
      refine rr_iload_n F dX3_hashOfGram_10 rfl ?_
      refine rr_iadd F dX3_hashOfGram_11 ?_
      refine rr_icmp_ge F dX3_hashOfGram_12 (tgt := 39) (by decide) ⟨by omega, by omega⟩ ⟨by omega, by omega⟩ (fun c_12 => ?_) (fun c_12 => ?_)
      · refine rr_lload_n F dX3_hashOfGram_39 rfl ?_
        refine rr_l2i F dX3_hashOfGram_40 ?_
        refine rr_iret F dX3_hashOfGram_41 ?_
        exact ⟨_, rfl, by rw [hsh, ← h4, hshF], rfl, rfl⟩
      · exact absurd c_12 (by omega)
    | succ c ih =>
      intro i h h1 h2 h3 h4
      refine rr_iload F dX3_hashOfGram_7 rfl ?_
      refine rr_iload_n F dX3_hashOfGram_9 rfl ?_
      refine rr_iload_n F dX3_hashOfGram_10 rfl ?_
      refine rr_iadd F dX3_hashOfGram_11 ?_
      refine rr_icmp_ge F dX3_hashOfGram_12 (tgt := 39) (by decide) ⟨by omega, by omega⟩ ⟨by omega, by omega⟩ (fun c_12 => ?_) (fun c_12 => ?_)
      · exact absurd c_12 (by omega)
      · refine rr_lload_n F dX3_hashOfGram_15 rfl ?_
        refine rr_ldc2 F dX3_hashOfGram_16 co_X3_61 ?_
        refine rr_lmul F dX3_hashOfGram_19 ?_
        refine rr_aload_n F dX3_hashOfGram_20 rfl ?_
        refine rg_Page_tokens F (by first | rfl | assumption) fl_X3_9 dX3_hashOfGram_21 ?_
        refine rr_iload F dX3_hashOfGram_24 rfl ?_
        refine rr_lald F (N := 40) (by first | rfl | assumption) (by omega) (by first | rfl | assumption) (by omega) dX3_hashOfGram_26 ?_
        refine rr_ladd F dX3_hashOfGram_27 ?_
        refine rr_ldc2 F dX3_hashOfGram_28 co_X3_63 ?_
        refine rr_lrem F dX3_hashOfGram_31 (by decide) ?_
        refine rr_lstore_n F dX3_hashOfGram_32 (Nat.le_of_ble_eq_true rfl) rfl ?_
        refine rr_iinc F dX3_hashOfGram_33 rfl rfl ?_
        refine rr_goto F dX3_hashOfGram_36 (tgt := 7) (by decide) ?_
        rw [hT i (by omega) (by omega)]
        exact ih (i + 1) _ (by omega) (by omega) (by omega) (by rw [← h4, hshF])
  refine rr_ldc2 F dX3_hashOfGram_0 co_X3_59 ?_
  refine rr_lstore_n F dX3_hashOfGram_3 (Nat.le_of_ble_eq_true rfl) rfl ?_
  refine rr_iload_n F dX3_hashOfGram_4 rfl ?_
  refine rr_istore F dX3_hashOfGram_5 (Nat.le_of_ble_eq_true rfl) rfl ?_
  exact loop _ s 7 rfl (by omega) (by omega) (by rw [show (s + m - s) = m by omega])
end
section
/-! the model's small methods -/
set_option maxHeartbeats 4000000 in
set_option maxRecDepth 100000 in
theorem mm_X8_in {l : Launch} {g : gT} {v a b : Int} {I : IM} {L : LM} (hv : rg v) (ha : rg a) (hb : rg b) :
    Ct l yX8_in cX8_in 3 (some .boolean) 0 0 lyM g [.int (zI v), .int (zI a), .int (zI b)] I L (pI (fun r I' L' => ((r = 1 ∧ a ≤ v ∧ v ≤ b) ∨ (r = 0 ∧ (v < a ∨ b < v))) ∧ I = I' ∧ L = L')) := by
  unfold rg at hv ha hb
  refine Ct.of RX8 (by decide +kernel) rfl (Nat.le_of_ble_eq_true rfl) (fun x hx F => ?_)
  refine rr_iload_n F dX8_in_0 rfl ?_
  refine rr_iload_n F dX8_in_1 rfl ?_
  refine rr_icmp_lt F dX8_in_2 (tgt := 14) (by decide) ⟨by omega, by omega⟩ ⟨by omega, by omega⟩ (fun c_2 => ?_) (fun c_2 => ?_)
  · refine rr_iconst F dX8_in_14 ?_
    refine rr_zret F dX8_in_15 (by decide) ?_
    exact ⟨_, rfl, by omega, rfl, rfl⟩
  · refine rr_iload_n F dX8_in_5 rfl ?_
    refine rr_iload_n F dX8_in_6 rfl ?_
    refine rr_icmp_gt F dX8_in_7 (tgt := 14) (by decide) ⟨by omega, by omega⟩ ⟨by omega, by omega⟩ (fun c_7 => ?_) (fun c_7 => ?_)
    · refine rr_iconst F dX8_in_14 ?_
      refine rr_zret F dX8_in_15 (by decide) ?_
      exact ⟨_, rfl, by omega, rfl, rfl⟩
    · refine rr_iconst F dX8_in_10 ?_
      refine rr_goto F dX8_in_11 (tgt := 15) (by decide) ?_
      refine rr_zret F dX8_in_15 (by decide) ?_
      exact ⟨_, rfl, by omega, rfl, rfl⟩
set_option maxHeartbeats 4000000 in
set_option maxRecDepth 100000 in
theorem mm_X8_isNumber {l : Launch} {g : gT} {v : Int} {I : IM} {L : LM} (hv : rg v) :
    Ct l yX8_isNumber cX8_isNumber 1 (some .boolean) 1 22 lyM g [.int (zI v)] I L (pI (fun r I' L' => ((r = 1 ∧ 0 ≤ v ∧ v < 6) ∨ (r = 0 ∧ (v < 0 ∨ 5 < v))) ∧ I = I' ∧ L = L')) := by
  refine Ct.of RX8 (by decide +kernel) rfl (Nat.le_of_ble_eq_true rfl) (fun x hx F => ?_)
  refine rr_iload_n F dX8_isNumber_0 rfl ?_
  refine rr_iconst F dX8_isNumber_1 ?_
  refine rr_iconst F dX8_isNumber_2 ?_
  refine rr_callSI F (mm_X8_in hv ⟨by omega, by omega⟩ ⟨by omega, by omega⟩) mf_X8_in ml_X8_86 ⟨by decide, by decide⟩ rfl (Nat.le_of_ble_eq_true rfl) dX8_isNumber_3 (fun r_3 I_3 L_3 h_3 => ?_)
  obtain ⟨h1, rfl, rfl⟩ := h_3
  have hr : r_3 = 0 ∨ r_3 = 1 := by omega
  refine rr_zret F dX8_isNumber_6 (by rcases hr with rfl | rfl <;> decide) ?_
  exact ⟨_, rfl, by omega, rfl, rfl⟩
set_option maxHeartbeats 4000000 in
set_option maxRecDepth 100000 in
theorem mm_X8_against {l : Launch} {g : gT} {σ : sT} {a b : Int} {I : IM} {L : LM} (ha : rg a) (hb : rg b) (hR : MR σ I L) (hW : WF σ) :
    Ct l yX8_against cX8_against 3 (some .int) 2 42 lyM g [.ref (g.2.1 0), .int (zI a), .int (zI b)] I L (pI (fun r I' L' => r = rP σ a b ∧ I = I' ∧ L = L')) := by
  have h2 := hR.2.2.1
  have w3 := hW.2.2.1
  unfold rg at ha hb
  refine Ct.of RX8 (by decide +kernel) rfl (Nat.le_of_ble_eq_true rfl) (fun x hx F => ?_)
  refine rr_iload_n F dX8_against_0 rfl ?_
  refine rr_callSI F (mm_X8_isNumber ha) mf_X8_isNumber ml_X8_123 ⟨by decide, by decide⟩ rfl (Nat.le_of_ble_eq_true rfl) dX8_against_1 (fun r_1 I_1 L_1 h_1 => ?_)
  obtain ⟨h1, rfl, rfl⟩ := h_1
  refine rr_if_eq F dX8_against_4 (tgt := 19) (by decide) ⟨by omega, by omega⟩ (fun c_4 => ?_) (fun c_4 => ?_)
  · refine rr_iconst F dX8_against_19 ?_
    refine rr_goto F dX8_against_20 (tgt := 47) (by decide) ?_
    refine rr_iret F dX8_against_47 ?_
    refine ⟨_, rfl, ?_, rfl, rfl⟩
    unfold rP
    first | (rw [if_neg (by omega)]; done) | (rw [if_pos (by omega), if_neg (by omega)]; done) | (rw [if_pos (by omega), if_pos (by omega)]; done)
  · refine rr_iload_n F dX8_against_7 rfl ?_
    refine rr_callSI F (mm_X8_isNumber hb) mf_X8_isNumber ml_X8_123 ⟨by decide, by decide⟩ rfl (Nat.le_of_ble_eq_true rfl) dX8_against_8 (fun r_8 I_8 L_8 h_8 => ?_)
    obtain ⟨h8, rfl, rfl⟩ := h_8
    refine rr_if_eq F dX8_against_11 (tgt := 19) (by decide) ⟨by omega, by omega⟩ (fun c_11 => ?_) (fun c_11 => ?_)
    · refine rr_iconst F dX8_against_19 ?_
      refine rr_goto F dX8_against_20 (tgt := 47) (by decide) ?_
      refine rr_iret F dX8_against_47 ?_
      refine ⟨_, rfl, ?_, rfl, rfl⟩
      unfold rP
      first | (rw [if_neg (by omega)]; done) | (rw [if_pos (by omega), if_neg (by omega)]; done) | (rw [if_pos (by omega), if_pos (by omega)]; done)
    · refine rr_iload_n F dX8_against_14 rfl ?_
      refine rr_iload_n F dX8_against_15 rfl ?_
      refine rr_icmp_ne F dX8_against_16 (tgt := 23) (by decide) ⟨by omega, by omega⟩ ⟨by omega, by omega⟩ (fun c_16 => ?_) (fun c_16 => ?_)
      · refine rr_aload_n F dX8_against_23 rfl ?_
        refine rg_Model_is F (by first | rfl | assumption) fl_X8_13 dX8_against_24 ?_
        refine rr_cell (k2 := 2) rfl ?_
        refine rr_iload_n F dX8_against_27 rfl ?_
        refine rr_zald F (N := 6) (by first | rfl | assumption) (by omega) (by first | rfl | assumption) (by omega) dX8_against_28 ?_
        have e1 := (h2 a (by omega) (by omega)).1
        have w1 := w3 a
        refine rr_if_eq F dX8_against_29 (tgt := 41) (by decide) ⟨by omega, by omega⟩ (fun c_29 => ?_) (fun c_29 => ?_)
        · refine rr_bipush F dX8_against_41 (by decide) ?_
          refine rr_goto F dX8_against_43 (tgt := 47) (by decide) ?_
          refine rr_iret F dX8_against_47 ?_
          refine ⟨_, rfl, ?_, rfl, rfl⟩
          unfold rP
          first | (rw [if_neg (by omega)]; done) | (rw [if_pos (by omega), if_neg (by omega)]; done) | (rw [if_pos (by omega), if_pos (by omega)]; done)
        · refine rr_aload_n F dX8_against_32 rfl ?_
          refine rg_Model_is F (by first | rfl | assumption) fl_X8_13 dX8_against_33 ?_
          refine rr_cell (k2 := 2) rfl ?_
          refine rr_iload_n F dX8_against_36 rfl ?_
          refine rr_zald F (N := 6) (by first | rfl | assumption) (by omega) (by first | rfl | assumption) (by omega) dX8_against_37 ?_
          have e2 := (h2 b (by omega) (by omega)).1
          have w2 := w3 b
          refine rr_if_ne F dX8_against_38 (tgt := 46) (by decide) ⟨by omega, by omega⟩ (fun c_38 => ?_) (fun c_38 => ?_)
          · refine rr_iconst F dX8_against_46 ?_
            refine rr_iret F dX8_against_47 ?_
            refine ⟨_, rfl, ?_, rfl, rfl⟩
            unfold rP
            first | (rw [if_neg (by omega)]; done) | (rw [if_pos (by omega), if_neg (by omega)]; done) | (rw [if_pos (by omega), if_pos (by omega)]; done)
          · refine rr_bipush F dX8_against_41 (by decide) ?_
            refine rr_goto F dX8_against_43 (tgt := 47) (by decide) ?_
            refine rr_iret F dX8_against_47 ?_
            refine ⟨_, rfl, ?_, rfl, rfl⟩
            unfold rP
            first | (rw [if_neg (by omega)]; done) | (rw [if_pos (by omega), if_neg (by omega)]; done) | (rw [if_pos (by omega), if_pos (by omega)]; done)
      · refine rr_iconst F dX8_against_19 ?_
        refine rr_goto F dX8_against_20 (tgt := 47) (by decide) ?_
        refine rr_iret F dX8_against_47 ?_
        refine ⟨_, rfl, ?_, rfl, rfl⟩
        unfold rP
        first | (rw [if_neg (by omega)]; done) | (rw [if_pos (by omega), if_neg (by omega)]; done) | (rw [if_pos (by omega), if_pos (by omega)]; done)
end
section
/-! the model's setters and readers -/
set_option maxHeartbeats 4000000 in
set_option maxRecDepth 100000 in
theorem mm_X8_windows {l : Launch} {g : gT} {σ : sT} {a b : Int} {I : IM} {L : LM} (ha : rg a) (hb : rg b) (hR : MR σ I L) :
    Ct l yX8_windows cX8_windows 3 (some .int) 1 22 lyM g [.ref (g.2.1 0), .int (zI a), .int (zI b)] I L (pS MR (sp_windows σ a b)) := by
  obtain ⟨h1, h2, h3, h4, h5, h6, h7, h8, h9⟩ := id hR
  refine Ct.of RX8 (by decide +kernel) rfl (Nat.le_of_ble_eq_true rfl) (fun x hx F => ?_)
  refine rr_iload_n F dX8_windows_0 rfl ?_
  refine rr_iconst F dX8_windows_1 ?_
  refine rr_iconst F dX8_windows_2 ?_
  refine rr_callSI F (mm_X8_in ha ⟨by omega, by omega⟩ ⟨by omega, by omega⟩) mf_X8_in ml_X8_86 ⟨by decide, by decide⟩ rfl (Nat.le_of_ble_eq_true rfl) dX8_windows_3 (fun r_3 I_3 L_3 h_3 => ?_)
  obtain ⟨e3, rfl, rfl⟩ := h_3
  refine rr_if_eq F dX8_windows_6 (tgt := 19) (by decide) ⟨by omega, by omega⟩ (fun c_6 => ?_) (fun c_6 => ?_)
  · refine rr_iconst F dX8_windows_19 ?_
    refine rr_iret F dX8_windows_20 ?_
    refine ⟨_, rfl, ?_⟩
    rw [sp_windows, if_neg (by omega)]
    exact ⟨rfl, hR⟩
  · refine rr_iload_n F dX8_windows_9 rfl ?_
    refine rr_iconst F dX8_windows_10 ?_
    refine rr_bipush F dX8_windows_11 (by decide) ?_
    refine rr_callSI F (mm_X8_in hb ⟨by omega, by omega⟩ ⟨by omega, by omega⟩) mf_X8_in ml_X8_86 ⟨by decide, by decide⟩ rfl (Nat.le_of_ble_eq_true rfl) dX8_windows_13 (fun r_13 I_13 L_13 h_13 => ?_)
    obtain ⟨e13, rfl, rfl⟩ := h_13
    refine rr_if_ne F dX8_windows_16 (tgt := 21) (by decide) ⟨by omega, by omega⟩ (fun c_16 => ?_) (fun c_16 => ?_)
    · refine rr_aload_n F dX8_windows_21 rfl ?_
      refine rr_iload_n F dX8_windows_22 rfl ?_
      refine rp_Model_k F (by first | rfl | assumption) fl_X8_30 dX8_windows_23 ?_
      refine rr_aload_n F dX8_windows_26 rfl ?_
      refine rr_iload_n F dX8_windows_27 rfl ?_
      refine rp_Model_w F (by first | rfl | assumption) fl_X8_34 dX8_windows_28 ?_
      refine rr_iconst F dX8_windows_31 ?_
      refine rr_iret F dX8_windows_32 ?_
      refine ⟨_, rfl, ?_⟩
      rw [sp_windows, if_pos (by omega)]
      exact ⟨rfl, by simpa [up2] using h1, by simpa [up2] using h2, by simpa [up2] using h3, by simpa [up2] using h4, by simp [up2], by simp [up2], by simpa [up2] using h7, by simpa [up2] using h8, h9⟩
    · refine rr_iconst F dX8_windows_19 ?_
      refine rr_iret F dX8_windows_20 ?_
      refine ⟨_, rfl, ?_⟩
      rw [sp_windows, if_neg (by omega)]
      exact ⟨rfl, hR⟩
set_option maxHeartbeats 4000000 in
set_option maxRecDepth 100000 in
theorem mm_X8_gap {l : Launch} {g : gT} {σ : sT} {a : Int} {I : IM} {L : LM} (ha : rg a) (hR : MR σ I L) :
    Ct l yX8_gap cX8_gap 3 (some .int) 1 22 lyM g [.ref (g.2.1 0), .int (zI a)] I L (pS MR (sp_gap σ a)) := by
  obtain ⟨h1, h2, h3, h4, h5, h6, h7, h8, h9⟩ := id hR
  refine Ct.of RX8 (by decide +kernel) rfl (Nat.le_of_ble_eq_true rfl) (fun x hx F => ?_)
  refine rr_iload_n F dX8_gap_0 rfl ?_
  refine rr_iconst F dX8_gap_1 ?_
  refine rr_bipush F dX8_gap_2 (by decide) ?_
  refine rr_callSI F (mm_X8_in ha ⟨by omega, by omega⟩ ⟨by omega, by omega⟩) mf_X8_in ml_X8_86 ⟨by decide, by decide⟩ rfl (Nat.le_of_ble_eq_true rfl) dX8_gap_4 (fun r_4 I_4 L_4 h_4 => ?_)
  obtain ⟨e3, rfl, rfl⟩ := h_4
  refine rr_if_ne F dX8_gap_7 (tgt := 12) (by decide) ⟨by omega, by omega⟩ (fun c_7 => ?_) (fun c_7 => ?_)
  · refine rr_aload_n F dX8_gap_12 rfl ?_
    refine rg_Model_gap F (by first | rfl | assumption) fl_X8_37 dX8_gap_13 ?_
    refine rr_istore_n F dX8_gap_16 (Nat.le_of_ble_eq_true rfl) rfl ?_
    refine rr_aload_n F dX8_gap_17 rfl ?_
    refine rr_iload_n F dX8_gap_18 rfl ?_
    refine rp_Model_gap F (by first | rfl | assumption) fl_X8_37 dX8_gap_19 ?_
    refine rr_iload_n F dX8_gap_22 rfl ?_
    refine rr_iret F dX8_gap_23 ?_
    refine ⟨_, rfl, ?_⟩
    rw [sp_gap, if_pos (by omega)]
    exact ⟨h7, by simpa [up2] using h1, by simpa [up2] using h2, by simpa [up2] using h3, by simpa [up2] using h4, by simpa [up2] using h5, by simpa [up2] using h6, by simp [up2], by simpa [up2] using h8, h9⟩
  · refine rr_iconst F dX8_gap_10 ?_
    refine rr_iret F dX8_gap_11 ?_
    refine ⟨_, rfl, ?_⟩
    rw [sp_gap, if_neg (by omega)]
    exact ⟨rfl, hR⟩
set_option maxHeartbeats 4000000 in
set_option maxRecDepth 100000 in
theorem mm_X8_link {l : Launch} {g : gT} {σ : sT} {a : Int} {I : IM} {L : LM} (ha : rg a) (hR : MR σ I L) :
    Ct l yX8_link cX8_link 3 (some .int) 1 22 lyM g [.ref (g.2.1 0), .int (zI a)] I L (pS MR (sp_link σ a)) := by
  obtain ⟨h1, h2, h3, h4, h5, h6, h7, h8, h9⟩ := id hR
  refine Ct.of RX8 (by decide +kernel) rfl (Nat.le_of_ble_eq_true rfl) (fun x hx F => ?_)
  refine rr_iload_n F dX8_link_0 rfl ?_
  refine rr_iconst F dX8_link_1 ?_
  refine rr_sipush F dX8_link_2 (by decide) ?_
  refine rr_callSI F (mm_X8_in ha ⟨by omega, by omega⟩ ⟨by omega, by omega⟩) mf_X8_in ml_X8_86 ⟨by decide, by decide⟩ rfl (Nat.le_of_ble_eq_true rfl) dX8_link_5 (fun r_5 I_5 L_5 h_5 => ?_)
  obtain ⟨e3, rfl, rfl⟩ := h_5
  refine rr_if_ne F dX8_link_8 (tgt := 13) (by decide) ⟨by omega, by omega⟩ (fun c_8 => ?_) (fun c_8 => ?_)
  · refine rr_aload_n F dX8_link_13 rfl ?_
    refine rg_Model_bound F (by first | rfl | assumption) fl_X8_40 dX8_link_14 ?_
    refine rr_istore_n F dX8_link_17 (Nat.le_of_ble_eq_true rfl) rfl ?_
    refine rr_aload_n F dX8_link_18 rfl ?_
    refine rr_iload_n F dX8_link_19 rfl ?_
    refine rp_Model_bound F (by first | rfl | assumption) fl_X8_40 dX8_link_20 ?_
    refine rr_iload_n F dX8_link_23 rfl ?_
    refine rr_iret F dX8_link_24 ?_
    refine ⟨_, rfl, ?_⟩
    rw [sp_link, if_pos (by omega)]
    exact ⟨h8, by simpa [up2] using h1, by simpa [up2] using h2, by simpa [up2] using h3, by simpa [up2] using h4, by simpa [up2] using h5, by simpa [up2] using h6, by simpa [up2] using h7, by simp [up2], h9⟩
  · refine rr_iconst F dX8_link_11 ?_
    refine rr_iret F dX8_link_12 ?_
    refine ⟨_, rfl, ?_⟩
    rw [sp_link, if_neg (by omega)]
    exact ⟨rfl, hR⟩
set_option maxHeartbeats 4000000 in
set_option maxRecDepth 100000 in
theorem mm_X8_given {l : Launch} {g : gT} {σ : sT} {a : Int} {I : IM} {L : LM} (ha : rg a) (hR : MR σ I L) (hW : WF σ) :
    Ct l yX8_given cX8_given 3 (some .int) 1 22 lyM g [.ref (g.2.1 0), .int (zI a)] I L (pS MR (sp_given σ a)) := by
  obtain ⟨h1, h2, h3, h4, h5, h6, h7, h8, h9⟩ := id hR
  have w3 := hW.2.2.1
  unfold rg at ha
  refine Ct.of RX8 (by decide +kernel) rfl (Nat.le_of_ble_eq_true rfl) (fun x hx F => ?_)
  refine rr_iload_n F dX8_given_0 rfl ?_
  refine rr_iconst F dX8_given_1 ?_
  refine rr_iconst F dX8_given_2 ?_
  refine rr_callSI F (mm_X8_in ha ⟨by omega, by omega⟩ ⟨by omega, by omega⟩) mf_X8_in ml_X8_86 ⟨by decide, by decide⟩ rfl (Nat.le_of_ble_eq_true rfl) dX8_given_3 (fun r_3 I_3 L_3 h_3 => ?_)
  obtain ⟨e3, rfl, rfl⟩ := h_3
  refine rr_if_ne F dX8_given_6 (tgt := 12) (by decide) ⟨by omega, by omega⟩ (fun c_6 => ?_) (fun c_6 => ?_)
  · refine rr_iload_n F dX8_given_12 rfl ?_
    refine rr_if_lt F dX8_given_13 (tgt := 28) (by decide) ⟨by omega, by omega⟩ (fun c_13 => ?_) (fun c_13 => ?_)
    · refine rr_aload_n F dX8_given_28 rfl ?_
      refine rg_Model_given F (by first | rfl | assumption) fl_X8_43 dX8_given_29 ?_
      refine rr_istore_n F dX8_given_32 (Nat.le_of_ble_eq_true rfl) rfl ?_
      refine rr_aload_n F dX8_given_33 rfl ?_
      refine rr_iload_n F dX8_given_34 rfl ?_
      refine rp_Model_given F (by first | rfl | assumption) fl_X8_43 dX8_given_35 ?_
      refine rr_iload_n F dX8_given_38 rfl ?_
      refine rr_iret F dX8_given_39 ?_
      refine ⟨_, rfl, ?_⟩
      rw [sp_given, if_pos (by omega)]
      exact ⟨h4, by simpa [up2] using h1, by simpa [up2] using h2, by simpa [up2] using h3, by simp [up2], by simpa [up2] using h5, by simpa [up2] using h6, by simpa [up2] using h7, by simpa [up2] using h8, h9⟩
    · refine rr_aload_n F dX8_given_16 rfl ?_
      refine rg_Model_is F (by first | rfl | assumption) fl_X8_13 dX8_given_17 ?_
      refine rr_cell (k2 := 2) rfl ?_
      refine rr_iload_n F dX8_given_20 rfl ?_
      refine rr_zald F (N := 6) (by first | rfl | assumption) (by omega) (by first | rfl | assumption) (by omega) dX8_given_21 ?_
      have e1 := (h3 a (by omega) (by omega)).1
      have w1 := w3 a
      refine rr_if_ne F dX8_given_22 (tgt := 28) (by decide) ⟨by omega, by omega⟩ (fun c_22 => ?_) (fun c_22 => ?_)
      · refine rr_aload_n F dX8_given_28 rfl ?_
        refine rg_Model_given F (by first | rfl | assumption) fl_X8_43 dX8_given_29 ?_
        refine rr_istore_n F dX8_given_32 (Nat.le_of_ble_eq_true rfl) rfl ?_
        refine rr_aload_n F dX8_given_33 rfl ?_
        refine rr_iload_n F dX8_given_34 rfl ?_
        refine rp_Model_given F (by first | rfl | assumption) fl_X8_43 dX8_given_35 ?_
        refine rr_iload_n F dX8_given_38 rfl ?_
        refine rr_iret F dX8_given_39 ?_
        refine ⟨_, rfl, ?_⟩
        rw [sp_given, if_pos (by omega)]
        exact ⟨h4, by simpa [up2] using h1, by simpa [up2] using h2, by simpa [up2] using h3, by simp [up2], by simpa [up2] using h5, by simpa [up2] using h6, by simpa [up2] using h7, by simpa [up2] using h8, h9⟩
      · refine rr_bipush F dX8_given_25 (by decide) ?_
        refine rr_iret F dX8_given_27 ?_
        refine ⟨_, rfl, ?_⟩
        rw [sp_given, if_neg (by omega), rB, if_pos (by omega), if_neg (by omega)]
        exact ⟨rfl, hR⟩
  · refine rr_bipush F dX8_given_9 (by decide) ?_
    refine rr_iret F dX8_given_11 ?_
    refine ⟨_, rfl, ?_⟩
    rw [sp_given, if_neg (by omega), rB, if_neg (by omega)]
    exact ⟨rfl, hR⟩
set_option maxHeartbeats 4000000 in
set_option maxRecDepth 100000 in
theorem mm_X8_withdraw {l : Launch} {g : gT} {σ : sT} {a : Int} {I : IM} {L : LM} (ha : rg a) (hR : MR σ I L) (hW : WF σ) :
    Ct l yX8_withdraw cX8_withdraw 2 (some .int) 2 42 lyM g [.ref (g.2.1 0), .int (zI a)] I L (pS MR (sp_withdraw σ a)) := by
  obtain ⟨h1, h2, h3, h4, h5, h6, h7, h8, h9⟩ := id hR
  have w3 := hW.2.2.1
  have wg := hW.2.2.2.2.2.2.2.2.2.2.1
  unfold rg at ha
  have key : ∀ v : Int, v = (if s_gv σ = a then -1 else s_gv σ) → 0 ≤ a → a < 6 → MR (σ.1, (u1 (s_hd σ) a 0, s_sz σ, s_lg σ, s_dy σ, s_tk σ), (s_k σ, s_w σ, s_gp σ, s_bd σ, if s_gv σ = a then -1 else s_gv σ)) (up2 (up2 I 2 a 0) 0 11 v) L := by
    intro v hv h0 h60
    refine ⟨by simpa [up2] using h1, by simpa [up2] using h2, fun b hb0 hb6 => ?_, by simp [up2, hv], by simpa [up2] using h5, by simpa [up2] using h6, by simpa [up2] using h7, by simpa [up2] using h8, h9⟩
    obtain ⟨t1, t2⟩ := h3 b hb0 hb6
    by_cases e : b = a
    · exact ⟨by simp [up2, u1, e, s_hd], by simpa [up2] using t2⟩
    · exact ⟨by simpa [up2, u1, e, s_hd] using t1, by simpa [up2] using t2⟩
  refine Ct.of RX8 (by decide +kernel) rfl (Nat.le_of_ble_eq_true rfl) (fun x hx F => ?_)
  refine rr_iload_n F dX8_withdraw_0 rfl ?_
  refine rr_callSI F (mm_X8_isNumber ha) mf_X8_isNumber ml_X8_123 ⟨by decide, by decide⟩ rfl (Nat.le_of_ble_eq_true rfl) dX8_withdraw_1 (fun r_1 I_1 L_1 h_1 => ?_)
  obtain ⟨e3, rfl, rfl⟩ := h_1
  refine rr_if_ne F dX8_withdraw_4 (tgt := 9) (by decide) ⟨by omega, by omega⟩ (fun c_4 => ?_) (fun c_4 => ?_)
  · refine rr_aload_n F dX8_withdraw_9 rfl ?_
    refine rg_Model_is F (by first | rfl | assumption) fl_X8_13 dX8_withdraw_10 ?_
    refine rr_cell (k2 := 2) rfl ?_
    refine rr_iload_n F dX8_withdraw_13 rfl ?_
    refine rr_zald F (N := 6) (by first | rfl | assumption) (by omega) (by first | rfl | assumption) (by omega) dX8_withdraw_14 ?_
    have e1 := (h3 a (by omega) (by omega)).1
    have w1 := w3 a
    refine rr_if_ne F dX8_withdraw_15 (tgt := 21) (by decide) ⟨by omega, by omega⟩ (fun c_15 => ?_) (fun c_15 => ?_)
    · refine rr_aload_n F dX8_withdraw_21 rfl ?_
      refine rg_Model_is F (by first | rfl | assumption) fl_X8_13 dX8_withdraw_22 ?_
      refine rr_cell (k2 := 2) rfl ?_
      refine rr_iload_n F dX8_withdraw_25 rfl ?_
      refine rr_iconst F dX8_withdraw_26 ?_
      refine rr_zast F (N := 6) (by first | rfl | assumption) (by omega) (by first | rfl | assumption) (by omega) (by decide) dX8_withdraw_27 ?_
      refine rr_aload_n F dX8_withdraw_28 rfl ?_
      refine rr_aload_n F dX8_withdraw_29 rfl ?_
      refine rg_Model_given F (by first | rfl | assumption) fl_X8_43 dX8_withdraw_30 ?_
      refine rr_iload_n F dX8_withdraw_33 rfl ?_
      have eg : up2 I 2 a 0 0 11 = s_gv σ := by simpa [up2] using h4
      refine rr_icmp_ne F dX8_withdraw_34 (tgt := 41) (by decide) ⟨by omega, by omega⟩ ⟨by omega, by omega⟩ (fun c_34 => ?_) (fun c_34 => ?_)
      · refine rr_aload_n F dX8_withdraw_41 rfl ?_
        refine rg_Model_given F (by first | rfl | assumption) fl_X8_43 dX8_withdraw_42 ?_
        refine rp_Model_given F (by first | rfl | assumption) fl_X8_43 dX8_withdraw_45 ?_
        refine rr_aload_n F dX8_withdraw_48 rfl ?_
        refine rg_Model_sizes F (by first | rfl | assumption) fl_X8_17 dX8_withdraw_49 ?_
        refine rr_cell (k2 := 3) rfl ?_
        refine rr_iload_n F dX8_withdraw_52 rfl ?_
        refine rr_iald F (N := 6) (by first | rfl | assumption) (by omega) (by first | rfl | assumption) (by omega) dX8_withdraw_53 ?_
        refine rr_iret F dX8_withdraw_54 ?_
        refine ⟨_, rfl, ?_⟩
        rw [sp_withdraw, if_pos (by omega)]
        refine ⟨by simpa [up2] using (h3 a (by omega) (by omega)).2.1, key _ ?_ (by omega) (by omega)⟩
        first | (rw [if_neg (by omega)]; exact eg) | (rw [if_pos (by omega)])
      · refine rr_iconst F dX8_withdraw_37 ?_
        refine rr_goto F dX8_withdraw_38 (tgt := 45) (by decide) ?_
        refine rp_Model_given F (by first | rfl | assumption) fl_X8_43 dX8_withdraw_45 ?_
        refine rr_aload_n F dX8_withdraw_48 rfl ?_
        refine rg_Model_sizes F (by first | rfl | assumption) fl_X8_17 dX8_withdraw_49 ?_
        refine rr_cell (k2 := 3) rfl ?_
        refine rr_iload_n F dX8_withdraw_52 rfl ?_
        refine rr_iald F (N := 6) (by first | rfl | assumption) (by omega) (by first | rfl | assumption) (by omega) dX8_withdraw_53 ?_
        refine rr_iret F dX8_withdraw_54 ?_
        refine ⟨_, rfl, ?_⟩
        rw [sp_withdraw, if_pos (by omega)]
        refine ⟨by simpa [up2] using (h3 a (by omega) (by omega)).2.1, key _ ?_ (by omega) (by omega)⟩
        first | (rw [if_neg (by omega)]; exact eg) | (rw [if_pos (by omega)])
    · refine rr_bipush F dX8_withdraw_18 (by decide) ?_
      refine rr_iret F dX8_withdraw_20 ?_
      refine ⟨_, rfl, ?_⟩
      rw [sp_withdraw, if_neg (by omega), rB, if_pos (by omega), if_neg (by omega)]
      exact ⟨rfl, hR⟩
  · refine rr_iconst F dX8_withdraw_7 ?_
    refine rr_iret F dX8_withdraw_8 ?_
    refine ⟨_, rfl, ?_⟩
    rw [sp_withdraw, if_neg (by omega), rB, if_neg (by omega)]
    exact ⟨rfl, hR⟩
set_option maxHeartbeats 4000000 in
set_option maxRecDepth 100000 in
theorem mm_X8_token {l : Launch} {g : gT} {σ : sT} {a i : Int} {I : IM} {L : LM} (ha : rg a) (hi : rg i) (hR : MR σ I L) (hW : WF σ) :
    Ct l yX8_token cX8_token 3 (some .long) 2 42 lyM g [.ref (g.2.1 0), .int (zI a), .int (zI i)] I L (pSJ MR (sp_token σ a i, σ)) := by
  obtain ⟨h1, h2, h3, h4, h5, h6, h7, h8, h9⟩ := id hR
  have w3 := hW.2.2.1
  have w4 := hW.2.2.2.1
  unfold rg at ha hi
  refine Ct.of RX8 (by decide +kernel) rfl (Nat.le_of_ble_eq_true rfl) (fun x hx F => ?_)
  refine rr_iload_n F dX8_token_0 rfl ?_
  refine rr_callSI F (mm_X8_isNumber ha) mf_X8_isNumber ml_X8_123 ⟨by decide, by decide⟩ rfl (Nat.le_of_ble_eq_true rfl) dX8_token_1 (fun r_1 I_1 L_1 h_1 => ?_)
  obtain ⟨e3, rfl, rfl⟩ := h_1
  refine rr_if_eq F dX8_token_4 (tgt := 13) (by decide) ⟨by omega, by omega⟩ (fun c_4 => ?_) (fun c_4 => ?_)
  · refine rr_ldc2 F dX8_token_13 co_X8_131 ?_
    refine rr_lret F dX8_token_16 ?_
    exact ⟨_, rfl, by rw [sp_token, if_neg (by omega)], hR⟩
  · refine rr_iload_n F dX8_token_7 rfl ?_
    refine rr_bipush F dX8_token_8 (by decide) ?_
    refine rr_icmp_ge F dX8_token_10 (tgt := 17) (by decide) ⟨by omega, by omega⟩ ⟨by omega, by omega⟩ (fun c_10 => ?_) (fun c_10 => ?_)
    · refine rr_aload_n F dX8_token_17 rfl ?_
      refine rg_Model_is F (by first | rfl | assumption) fl_X8_13 dX8_token_18 ?_
      refine rr_cell (k2 := 2) rfl ?_
      refine rr_iload_n F dX8_token_21 rfl ?_
      refine rr_zald F (N := 6) (by first | rfl | assumption) (by omega) (by first | rfl | assumption) (by omega) dX8_token_22 ?_
      obtain ⟨e1, e2, e4, e5, e6⟩ := h3 a (by omega) (by omega)
      have w1 := w3 a
      have w2 := w4 a
      refine rr_if_ne F dX8_token_23 (tgt := 30) (by decide) ⟨by omega, by omega⟩ (fun c_23 => ?_) (fun c_23 => ?_)
      · refine rr_iload_n F dX8_token_30 rfl ?_
        refine rr_aload_n F dX8_token_31 rfl ?_
        refine rg_Model_sizes F (by first | rfl | assumption) fl_X8_17 dX8_token_32 ?_
        refine rr_cell (k2 := 3) rfl ?_
        refine rr_iload_n F dX8_token_35 rfl ?_
        refine rr_iald F (N := 6) (by first | rfl | assumption) (by omega) (by first | rfl | assumption) (by omega) dX8_token_36 ?_
        refine rr_icmp_lt F dX8_token_37 (tgt := 44) (by decide) ⟨by omega, by omega⟩ ⟨by omega, by omega⟩ (fun c_37 => ?_) (fun c_37 => ?_)
        · refine rr_iload_n F dX8_token_44 rfl ?_
          refine rr_iconst F dX8_token_45 ?_
          refine rr_icmp_ne F dX8_token_46 (tgt := 59) (by decide) ⟨by omega, by omega⟩ ⟨by omega, by omega⟩ (fun c_46 => ?_) (fun c_46 => ?_)
          · refine rr_iload_n F dX8_token_59 rfl ?_
            refine rr_bipush F dX8_token_60 (by decide) ?_
            refine rr_icmp_ne F dX8_token_62 (tgt := 75) (by decide) ⟨by omega, by omega⟩ ⟨by omega, by omega⟩ (fun c_62 => ?_) (fun c_62 => ?_)
            · refine rr_iload_n F dX8_token_75 rfl ?_
              refine rr_bipush F dX8_token_76 (by decide) ?_
              refine rr_icmp_ne F dX8_token_78 (tgt := 91) (by decide) ⟨by omega, by omega⟩ ⟨by omega, by omega⟩ (fun c_78 => ?_) (fun c_78 => ?_)
              · refine rr_aload_n F dX8_token_91 rfl ?_
                refine rg_Model_tokens F (by first | rfl | assumption) fl_X8_26 dX8_token_92 ?_
                refine rr_cell (k2 := 6) rfl ?_
                refine rr_bipush F dX8_token_95 (by decide) ?_
                refine rr_iload_n F dX8_token_97 rfl ?_
                refine rr_imul F dX8_token_98 ?_
                refine rr_iload_n F dX8_token_99 rfl ?_
                refine rr_iadd F dX8_token_100 ?_
                refine rr_lald F (N := 240) (by first | rfl | assumption) (by omega) (by first | rfl | assumption) (by omega) dX8_token_101 ?_
                refine rr_lret F dX8_token_102 ?_
                refine ⟨_, rfl, ?_, hR⟩
                rw [sp_token, if_pos (by omega), if_pos (by omega), if_neg (by omega)]
                first | (rw [if_pos (by omega), e2]; done) | (rw [if_neg (by omega), if_pos (by omega), e4]; done) | (rw [if_neg (by omega), if_neg (by omega), if_pos (by omega), e5]; done) | (rw [if_neg (by omega), if_neg (by omega), if_neg (by omega)]; exact e6 i (by omega) (by omega))
              · refine rr_aload_n F dX8_token_81 rfl ?_
                refine rg_Model_days F (by first | rfl | assumption) fl_X8_23 dX8_token_82 ?_
                refine rr_cell (k2 := 5) rfl ?_
                refine rr_iload_n F dX8_token_85 rfl ?_
                refine rr_iald F (N := 6) (by first | rfl | assumption) (by omega) (by first | rfl | assumption) (by omega) dX8_token_86 ?_
                refine rr_i2l F dX8_token_87 ?_
                refine rr_goto F dX8_token_88 (tgt := 102) (by decide) ?_
                refine rr_lret F dX8_token_102 ?_
                refine ⟨_, rfl, ?_, hR⟩
                rw [sp_token, if_pos (by omega), if_pos (by omega), if_neg (by omega)]
                first | (rw [if_pos (by omega), e2]; done) | (rw [if_neg (by omega), if_pos (by omega), e4]; done) | (rw [if_neg (by omega), if_neg (by omega), if_pos (by omega), e5]; done) | (rw [if_neg (by omega), if_neg (by omega), if_neg (by omega)]; exact e6 i (by omega) (by omega))
            · refine rr_aload_n F dX8_token_65 rfl ?_
              refine rg_Model_languages F (by first | rfl | assumption) fl_X8_20 dX8_token_66 ?_
              refine rr_cell (k2 := 4) rfl ?_
              refine rr_iload_n F dX8_token_69 rfl ?_
              refine rr_iald F (N := 6) (by first | rfl | assumption) (by omega) (by first | rfl | assumption) (by omega) dX8_token_70 ?_
              refine rr_i2l F dX8_token_71 ?_
              refine rr_goto F dX8_token_72 (tgt := 102) (by decide) ?_
              refine rr_lret F dX8_token_102 ?_
              refine ⟨_, rfl, ?_, hR⟩
              rw [sp_token, if_pos (by omega), if_pos (by omega), if_neg (by omega)]
              first | (rw [if_pos (by omega), e2]; done) | (rw [if_neg (by omega), if_pos (by omega), e4]; done) | (rw [if_neg (by omega), if_neg (by omega), if_pos (by omega), e5]; done) | (rw [if_neg (by omega), if_neg (by omega), if_neg (by omega)]; exact e6 i (by omega) (by omega))
          · refine rr_aload_n F dX8_token_49 rfl ?_
            refine rg_Model_sizes F (by first | rfl | assumption) fl_X8_17 dX8_token_50 ?_
            refine rr_cell (k2 := 3) rfl ?_
            refine rr_iload_n F dX8_token_53 rfl ?_
            refine rr_iald F (N := 6) (by first | rfl | assumption) (by omega) (by first | rfl | assumption) (by omega) dX8_token_54 ?_
            refine rr_i2l F dX8_token_55 ?_
            refine rr_goto F dX8_token_56 (tgt := 102) (by decide) ?_
            refine rr_lret F dX8_token_102 ?_
            refine ⟨_, rfl, ?_, hR⟩
            rw [sp_token, if_pos (by omega), if_pos (by omega), if_neg (by omega)]
            first | (rw [if_pos (by omega), e2]; done) | (rw [if_neg (by omega), if_pos (by omega), e4]; done) | (rw [if_neg (by omega), if_neg (by omega), if_pos (by omega), e5]; done) | (rw [if_neg (by omega), if_neg (by omega), if_neg (by omega)]; exact e6 i (by omega) (by omega))
        · refine rr_ldc2 F dX8_token_40 co_X8_131 ?_
          refine rr_lret F dX8_token_43 ?_
          exact ⟨_, rfl, by rw [sp_token, if_pos (by omega), if_pos (by omega), if_pos (by omega)], hR⟩
      · refine rr_ldc2 F dX8_token_26 co_X8_133 ?_
        refine rr_lret F dX8_token_29 ?_
        exact ⟨_, rfl, by rw [sp_token, if_pos (by omega), if_neg (by omega)], hR⟩
    · refine rr_ldc2 F dX8_token_13 co_X8_131 ?_
      refine rr_lret F dX8_token_16 ?_
      exact ⟨_, rfl, by rw [sp_token, if_neg (by omega)], hR⟩
end
section
/-! the class's small methods -/
set_option maxHeartbeats 4000000 in
set_option maxRecDepth 100000 in
theorem mm_X5_names {l : Launch} {g : gT} {v : Int} {I : IM} {L : LM} (hv : rg v) :
    Ct l yX5_names cX5_names 2 (some .boolean) 0 0 lyC g [.ref (g.2.1 4), .int (zI v)] I L (pI (fun r I' L' => ((r = 1 ∧ 0 ≤ v ∧ v < 6) ∨ (r = 0 ∧ (v < 0 ∨ 5 < v))) ∧ I = I' ∧ L = L')) := by
  unfold rg at hv
  refine Ct.of RX5 (by decide +kernel) rfl (Nat.le_of_ble_eq_true rfl) (fun x hx F => ?_)
  refine rr_iload_n F dX5_names_0 rfl ?_
  refine rr_if_lt F dX5_names_1 (tgt := 14) (by decide) ⟨by omega, by omega⟩ (fun c_1 => ?_) (fun c_1 => ?_)
  · refine rr_iconst F dX5_names_14 ?_
    refine rr_zret F dX5_names_15 (by decide) ?_
    exact ⟨_, rfl, by omega, rfl, rfl⟩
  · refine rr_iload_n F dX5_names_4 rfl ?_
    refine rr_bipush F dX5_names_5 (by decide) ?_
    refine rr_icmp_ge F dX5_names_7 (tgt := 14) (by decide) ⟨by omega, by omega⟩ ⟨by omega, by omega⟩ (fun c_7 => ?_) (fun c_7 => ?_)
    · refine rr_iconst F dX5_names_14 ?_
      refine rr_zret F dX5_names_15 (by decide) ?_
      exact ⟨_, rfl, by omega, rfl, rfl⟩
    · refine rr_iconst F dX5_names_10 ?_
      refine rr_goto F dX5_names_11 (tgt := 15) (by decide) ?_
      refine rr_zret F dX5_names_15 (by decide) ?_
      exact ⟨_, rfl, by omega, rfl, rfl⟩
set_option maxHeartbeats 4000000 in
set_option maxRecDepth 100000 in
theorem mm_X5_holds {l : Launch} {g : gT} {σ : sT} {v : Int} {I : IM} {L : LM} (hv : rg v) (hR : CR σ I L) (hW : WF σ) :
    Ct l yX5_holds cX5_holds 2 (some .boolean) 1 21 lyC g [.ref (g.2.1 4), .int (zI v)] I L (pI (fun r I' L' => ((r = 1 ∧ (0 ≤ v ∧ v < 6) ∧ s_hd σ v = 1) ∨ (r = 0 ∧ ¬ ((0 ≤ v ∧ v < 6) ∧ s_hd σ v = 1))) ∧ I = I' ∧ L = L')) := by
  unfold rg at hv
  have h3 := hR.2.2.1
  have w3 := hW.2.2.1
  refine Ct.of RX5 (by decide +kernel) rfl (Nat.le_of_ble_eq_true rfl) (fun x hx F => ?_)
  refine rr_aload_n F dX5_holds_0 rfl ?_
  refine rr_iload_n F dX5_holds_1 rfl ?_
  refine rr_callVI F (ci := 5) (mm_X5_names hv) mf_X5_names ml_X5_34 ⟨by decide, by decide⟩ (by first | rfl | assumption) (by decide) rfl rfl (Nat.le_of_ble_eq_true rfl) dX5_holds_2 (fun r_2 I_2 L_2 h_2 => ?_)
  obtain ⟨e3, rfl, rfl⟩ := h_2
  refine rr_if_eq F dX5_holds_5 (tgt := 24) (by decide) ⟨by omega, by omega⟩ (fun c_5 => ?_) (fun c_5 => ?_)
  · refine rr_iconst F dX5_holds_24 ?_
    refine rr_zret F dX5_holds_25 (by decide) ?_
    exact ⟨_, rfl, by omega, rfl, rfl⟩
  · refine rr_aload_n F dX5_holds_8 rfl ?_
    refine rg_Shelf_books F (by first | rfl | assumption) fl_X5_11 dX5_holds_9 ?_
    refine rr_cell (k2 := 5) rfl ?_
    refine rr_iload_n F dX5_holds_12 rfl ?_
    refine rr_aald F (N := 6) (by first | rfl | assumption) (by omega) (by first | rfl | assumption) (by omega) dX5_holds_13 ?_
    refine rr_bk ?_
    obtain ⟨q1, q2, q3⟩ := (bk_isB (b := v) (by omega) (by omega)).f
    have e1 := (h3 v (by omega) (by omega)).1
    have w1 := w3 v
    refine rg_Book_held F (by first | rfl | assumption) fl_X5_38 dX5_holds_14 ?_
    refine rr_if_eq F dX5_holds_17 (tgt := 24) (by decide) ⟨by omega, by omega⟩ (fun c_17 => ?_) (fun c_17 => ?_)
    · refine rr_iconst F dX5_holds_24 ?_
      refine rr_zret F dX5_holds_25 (by decide) ?_
      exact ⟨_, rfl, by omega, rfl, rfl⟩
    · refine rr_iconst F dX5_holds_20 ?_
      refine rr_goto F dX5_holds_21 (tgt := 25) (by decide) ?_
      refine rr_zret F dX5_holds_25 (by decide) ?_
      exact ⟨_, rfl, by omega, rfl, rfl⟩
set_option maxHeartbeats 4000000 in
set_option maxRecDepth 100000 in
theorem mm_X7_refusalOfBook {l : Launch} {g : gT} {σ : sT} {v : Int} {I : IM} {L : LM} (hv : rg v) (hR : CR σ I L) (hW : WF σ) :
    Ct l yX7_refusalOfBook cX7_refusalOfBook 2 (some .int) 2 42 lyC g [.ref (g.2.1 0), .int (zI v)] I L (pI (fun r I' L' => r = rB σ v ∧ I = I' ∧ L = L')) := by
  refine Ct.of RX7 (by decide +kernel) rfl (Nat.le_of_ble_eq_true rfl) (fun x hx F => ?_)
  refine rr_aload_n F dX7_refusalOfBook_0 rfl ?_
  refine rg_BP_shelf F (by first | rfl | assumption) fl_X7_26 dX7_refusalOfBook_1 ?_
  refine rr_cell (k2 := 4) rfl ?_
  refine rr_iload_n F dX7_refusalOfBook_4 rfl ?_
  refine rr_callVI F (ci := 5) (mm_X5_names hv) mf_X5_names ml_X7_60 ⟨by decide, by decide⟩ (by first | rfl | assumption) (by decide) rfl rfl (Nat.le_of_ble_eq_true rfl) dX7_refusalOfBook_5 (fun r_5 I_5 L_5 h_5 => ?_)
  obtain ⟨e5, rfl, rfl⟩ := h_5
  refine rr_if_ne F dX7_refusalOfBook_8 (tgt := 13) (by decide) ⟨by omega, by omega⟩ (fun c_8 => ?_) (fun c_8 => ?_)
  · refine rr_aload_n F dX7_refusalOfBook_13 rfl ?_
    refine rg_BP_shelf F (by first | rfl | assumption) fl_X7_26 dX7_refusalOfBook_14 ?_
    refine rr_cell (k2 := 4) rfl ?_
    refine rr_iload_n F dX7_refusalOfBook_17 rfl ?_
    refine rr_callVI F (ci := 5) (mm_X5_holds hv hR hW) mf_X5_holds ml_X7_193 ⟨by decide, by decide⟩ (by first | rfl | assumption) (by decide) rfl rfl (Nat.le_of_ble_eq_true rfl) dX7_refusalOfBook_18 (fun r_18 I_18 L_18 h_18 => ?_)
    obtain ⟨e18, rfl, rfl⟩ := h_18
    refine rr_if_eq F dX7_refusalOfBook_21 (tgt := 28) (by decide) ⟨by omega, by omega⟩ (fun c_21 => ?_) (fun c_21 => ?_)
    · refine rr_bipush F dX7_refusalOfBook_28 (by decide) ?_
      refine rr_iret F dX7_refusalOfBook_30 ?_
      refine ⟨_, rfl, ?_, rfl, rfl⟩
      unfold rB
      first | (rw [if_neg (by omega)]; done) | (rw [if_pos (by omega), if_neg (by omega)]; done) | (rw [if_pos (by omega), if_pos (by omega)]; done)
    · refine rr_iconst F dX7_refusalOfBook_24 ?_
      refine rr_goto F dX7_refusalOfBook_25 (tgt := 30) (by decide) ?_
      refine rr_iret F dX7_refusalOfBook_30 ?_
      refine ⟨_, rfl, ?_, rfl, rfl⟩
      unfold rB
      first | (rw [if_neg (by omega)]; done) | (rw [if_pos (by omega), if_neg (by omega)]; done) | (rw [if_pos (by omega), if_pos (by omega)]; done)
  · refine rr_iconst F dX7_refusalOfBook_11 ?_
    refine rr_iret F dX7_refusalOfBook_12 ?_
    refine ⟨_, rfl, ?_, rfl, rfl⟩
    unfold rB
    first | (rw [if_neg (by omega)]; done) | (rw [if_pos (by omega), if_neg (by omega)]; done) | (rw [if_pos (by omega), if_pos (by omega)]; done)
set_option maxHeartbeats 4000000 in
set_option maxRecDepth 100000 in
theorem mm_X7_refusalOfPair {l : Launch} {g : gT} {σ : sT} {a b : Int} {I : IM} {L : LM} (ha : rg a) (hb : rg b) (hR : CR σ I L) (hW : WF σ) :
    Ct l yX7_refusalOfPair cX7_refusalOfPair 3 (some .int) 2 42 lyC g [.ref (g.2.1 0), .int (zI a), .int (zI b)] I L (pI (fun r I' L' => r = rP σ a b ∧ I = I' ∧ L = L')) := by
  have ha' := ha
  have hb' := hb
  unfold rg at ha' hb'
  refine Ct.of RX7 (by decide +kernel) rfl (Nat.le_of_ble_eq_true rfl) (fun x hx F => ?_)
  refine rr_aload_n F dX7_refusalOfPair_0 rfl ?_
  refine rg_BP_shelf F (by first | rfl | assumption) fl_X7_26 dX7_refusalOfPair_1 ?_
  refine rr_cell (k2 := 4) rfl ?_
  refine rr_iload_n F dX7_refusalOfPair_4 rfl ?_
  refine rr_callVI F (ci := 5) (mm_X5_names ha) mf_X5_names ml_X7_60 ⟨by decide, by decide⟩ (by first | rfl | assumption) (by decide) rfl rfl (Nat.le_of_ble_eq_true rfl) dX7_refusalOfPair_5 (fun r_5 I_5 L_5 h_5 => ?_)
  obtain ⟨e5, rfl, rfl⟩ := h_5
  refine rr_if_eq F dX7_refusalOfPair_8 (tgt := 27) (by decide) ⟨by omega, by omega⟩ (fun c_8 => ?_) (fun c_8 => ?_)
  · refine rr_iconst F dX7_refusalOfPair_27 ?_
    refine rr_iret F dX7_refusalOfPair_28 ?_
    refine ⟨_, rfl, ?_, rfl, rfl⟩
    unfold rP
    first | (rw [if_neg (by omega)]; done) | (rw [if_pos (by omega), if_neg (by omega)]; done) | (rw [if_pos (by omega), if_pos (by omega)]; done)
  · refine rr_aload_n F dX7_refusalOfPair_11 rfl ?_
    refine rg_BP_shelf F (by first | rfl | assumption) fl_X7_26 dX7_refusalOfPair_12 ?_
    refine rr_cell (k2 := 4) rfl ?_
    refine rr_iload_n F dX7_refusalOfPair_15 rfl ?_
    refine rr_callVI F (ci := 5) (mm_X5_names hb) mf_X5_names ml_X7_60 ⟨by decide, by decide⟩ (by first | rfl | assumption) (by decide) rfl rfl (Nat.le_of_ble_eq_true rfl) dX7_refusalOfPair_16 (fun r_16 I_16 L_16 h_16 => ?_)
    obtain ⟨e16, rfl, rfl⟩ := h_16
    refine rr_if_eq F dX7_refusalOfPair_19 (tgt := 27) (by decide) ⟨by omega, by omega⟩ (fun c_19 => ?_) (fun c_19 => ?_)
    · refine rr_iconst F dX7_refusalOfPair_27 ?_
      refine rr_iret F dX7_refusalOfPair_28 ?_
      refine ⟨_, rfl, ?_, rfl, rfl⟩
      unfold rP
      first | (rw [if_neg (by omega)]; done) | (rw [if_pos (by omega), if_neg (by omega)]; done) | (rw [if_pos (by omega), if_pos (by omega)]; done)
    · refine rr_iload_n F dX7_refusalOfPair_22 rfl ?_
      refine rr_iload_n F dX7_refusalOfPair_23 rfl ?_
      refine rr_icmp_ne F dX7_refusalOfPair_24 (tgt := 29) (by decide) ⟨by omega, by omega⟩ ⟨by omega, by omega⟩ (fun c_24 => ?_) (fun c_24 => ?_)
      · refine rr_aload_n F dX7_refusalOfPair_29 rfl ?_
        refine rg_BP_shelf F (by first | rfl | assumption) fl_X7_26 dX7_refusalOfPair_30 ?_
        refine rr_cell (k2 := 4) rfl ?_
        refine rr_iload_n F dX7_refusalOfPair_33 rfl ?_
        refine rr_callVI F (ci := 5) (mm_X5_holds ha hR hW) mf_X5_holds ml_X7_193 ⟨by decide, by decide⟩ (by first | rfl | assumption) (by decide) rfl rfl (Nat.le_of_ble_eq_true rfl) dX7_refusalOfPair_34 (fun r_34 I_34 L_34 h_34 => ?_)
        obtain ⟨e34, rfl, rfl⟩ := h_34
        refine rr_if_eq F dX7_refusalOfPair_37 (tgt := 55) (by decide) ⟨by omega, by omega⟩ (fun c_37 => ?_) (fun c_37 => ?_)
        · refine rr_bipush F dX7_refusalOfPair_55 (by decide) ?_
          refine rr_iret F dX7_refusalOfPair_57 ?_
          refine ⟨_, rfl, ?_, rfl, rfl⟩
          unfold rP
          first | (rw [if_neg (by omega)]; done) | (rw [if_pos (by omega), if_neg (by omega)]; done) | (rw [if_pos (by omega), if_pos (by omega)]; done)
        · refine rr_aload_n F dX7_refusalOfPair_40 rfl ?_
          refine rg_BP_shelf F (by first | rfl | assumption) fl_X7_26 dX7_refusalOfPair_41 ?_
          refine rr_cell (k2 := 4) rfl ?_
          refine rr_iload_n F dX7_refusalOfPair_44 rfl ?_
          refine rr_callVI F (ci := 5) (mm_X5_holds hb hR hW) mf_X5_holds ml_X7_193 ⟨by decide, by decide⟩ (by first | rfl | assumption) (by decide) rfl rfl (Nat.le_of_ble_eq_true rfl) dX7_refusalOfPair_45 (fun r_45 I_45 L_45 h_45 => ?_)
          obtain ⟨e45, rfl, rfl⟩ := h_45
          refine rr_if_eq F dX7_refusalOfPair_48 (tgt := 55) (by decide) ⟨by omega, by omega⟩ (fun c_48 => ?_) (fun c_48 => ?_)
          · refine rr_bipush F dX7_refusalOfPair_55 (by decide) ?_
            refine rr_iret F dX7_refusalOfPair_57 ?_
            refine ⟨_, rfl, ?_, rfl, rfl⟩
            unfold rP
            first | (rw [if_neg (by omega)]; done) | (rw [if_pos (by omega), if_neg (by omega)]; done) | (rw [if_pos (by omega), if_pos (by omega)]; done)
          · refine rr_iconst F dX7_refusalOfPair_51 ?_
            refine rr_goto F dX7_refusalOfPair_52 (tgt := 57) (by decide) ?_
            refine rr_iret F dX7_refusalOfPair_57 ?_
            refine ⟨_, rfl, ?_, rfl, rfl⟩
            unfold rP
            first | (rw [if_neg (by omega)]; done) | (rw [if_pos (by omega), if_neg (by omega)]; done) | (rw [if_pos (by omega), if_pos (by omega)]; done)
      · refine rr_iconst F dX7_refusalOfPair_27 ?_
        refine rr_iret F dX7_refusalOfPair_28 ?_
        refine ⟨_, rfl, ?_, rfl, rfl⟩
        unfold rP
        first | (rw [if_neg (by omega)]; done) | (rw [if_pos (by omega), if_neg (by omega)]; done) | (rw [if_pos (by omega), if_pos (by omega)]; done)
set_option maxHeartbeats 4000000 in
set_option maxRecDepth 100000 in
theorem mm_X7_windows {l : Launch} {g : gT} {σ : sT} {a b : Int} {I : IM} {L : LM} (ha : rg a) (hb : rg b) (hR : CR σ I L) :
    Ct l yX7_windows cX7_windows 3 (some .int) 0 0 lyC g [.ref (g.2.1 0), .int (zI a), .int (zI b)] I L (pS CR (sp_windows σ a b)) := by
  obtain ⟨h1, h2, h3, h4, h5, h6, h7, h8⟩ := id hR
  unfold rg at ha hb
  have key : CR (σ.1, σ.2.1, (a, b, s_gp σ, s_bd σ, s_gv σ)) (up2 (up2 I 4 2 a) 4 3 b) L := by
    refine ⟨by simpa [up2] using h1, by simpa [up2] using h2, fun c hc0 hc6 => ?_, by simpa [up2] using h4, by simp [up2], by simp [up2], by simpa [up2] using h7, by simpa [up2] using h8⟩
    have hne : bk c ≠ 4 := by unfold bk; omega
    rw [up2_cell _ _ _ hne, up2_cell _ _ _ hne]
    exact h3 c hc0 hc6
  refine Ct.of RX7 (by decide +kernel) rfl (Nat.le_of_ble_eq_true rfl) (fun x hx F => ?_)
  refine rr_iload_n F dX7_windows_0 rfl ?_
  refine rr_iconst F dX7_windows_1 ?_
  refine rr_icmp_lt F dX7_windows_2 (tgt := 21) (by decide) ⟨by omega, by omega⟩ ⟨by omega, by omega⟩ (fun c_2 => ?_) (fun c_2 => ?_)
  · refine rr_iconst F dX7_windows_21 ?_
    refine rr_iret F dX7_windows_22 ?_
    refine ⟨_, rfl, ?_⟩
    rw [sp_windows, if_neg (by omega)]
    exact ⟨rfl, hR⟩
  · refine rr_iload_n F dX7_windows_5 rfl ?_
    refine rr_iconst F dX7_windows_6 ?_
    refine rr_icmp_gt F dX7_windows_7 (tgt := 21) (by decide) ⟨by omega, by omega⟩ ⟨by omega, by omega⟩ (fun c_7 => ?_) (fun c_7 => ?_)
    · refine rr_iconst F dX7_windows_21 ?_
      refine rr_iret F dX7_windows_22 ?_
      refine ⟨_, rfl, ?_⟩
      rw [sp_windows, if_neg (by omega)]
      exact ⟨rfl, hR⟩
    · refine rr_iload_n F dX7_windows_10 rfl ?_
      refine rr_iconst F dX7_windows_11 ?_
      refine rr_icmp_lt F dX7_windows_12 (tgt := 21) (by decide) ⟨by omega, by omega⟩ ⟨by omega, by omega⟩ (fun c_12 => ?_) (fun c_12 => ?_)
      · refine rr_iconst F dX7_windows_21 ?_
        refine rr_iret F dX7_windows_22 ?_
        refine ⟨_, rfl, ?_⟩
        rw [sp_windows, if_neg (by omega)]
        exact ⟨rfl, hR⟩
      · refine rr_iload_n F dX7_windows_15 rfl ?_
        refine rr_bipush F dX7_windows_16 (by decide) ?_
        refine rr_icmp_le F dX7_windows_18 (tgt := 23) (by decide) ⟨by omega, by omega⟩ ⟨by omega, by omega⟩ (fun c_18 => ?_) (fun c_18 => ?_)
        · refine rr_aload_n F dX7_windows_23 rfl ?_
          refine rg_BP_shelf F (by first | rfl | assumption) fl_X7_26 dX7_windows_24 ?_
          refine rr_cell (k2 := 4) rfl ?_
          refine rr_iload_n F dX7_windows_27 rfl ?_
          refine rp_Shelf_gramLength F (by first | rfl | assumption) fl_X7_105 dX7_windows_28 ?_
          refine rr_aload_n F dX7_windows_31 rfl ?_
          refine rg_BP_shelf F (by first | rfl | assumption) fl_X7_26 dX7_windows_32 ?_
          refine rr_cell (k2 := 4) rfl ?_
          refine rr_iload_n F dX7_windows_35 rfl ?_
          refine rp_Shelf_windowLength F (by first | rfl | assumption) fl_X7_108 dX7_windows_36 ?_
          refine rr_iconst F dX7_windows_39 ?_
          refine rr_iret F dX7_windows_40 ?_
          refine ⟨_, rfl, ?_⟩
          rw [sp_windows, if_pos (by omega)]
          exact ⟨rfl, key⟩
        · refine rr_iconst F dX7_windows_21 ?_
          refine rr_iret F dX7_windows_22 ?_
          refine ⟨_, rfl, ?_⟩
          rw [sp_windows, if_neg (by omega)]
          exact ⟨rfl, hR⟩
set_option maxHeartbeats 4000000 in
set_option maxRecDepth 100000 in
theorem mm_X7_gap {l : Launch} {g : gT} {σ : sT} {a : Int} {I : IM} {L : LM} (ha : rg a) (hR : CR σ I L) :
    Ct l yX7_gap cX7_gap 3 (some .int) 0 0 lyC g [.ref (g.2.1 0), .int (zI a)] I L (pS CR (sp_gap σ a)) := by
  obtain ⟨h1, h2, h3, h4, h5, h6, h7, h8⟩ := id hR
  unfold rg at ha
  have key : CR (σ.1, σ.2.1, (s_k σ, s_w σ, a, s_bd σ, s_gv σ)) (up2 I 4 4 a) L := by
    refine ⟨by simpa [up2] using h1, by simpa [up2] using h2, fun c hc0 hc6 => ?_, by simpa [up2] using h4, by simpa [up2] using h5, by simpa [up2] using h6, by simp [up2], by simpa [up2] using h8⟩
    have hne : bk c ≠ 4 := by unfold bk; omega
    rw [up2_cell _ _ _ hne]
    exact h3 c hc0 hc6
  refine Ct.of RX7 (by decide +kernel) rfl (Nat.le_of_ble_eq_true rfl) (fun x hx F => ?_)
  refine rr_iload_n F dX7_gap_0 rfl ?_
  refine rr_if_lt F dX7_gap_1 (tgt := 10) (by decide) ⟨by omega, by omega⟩ (fun c_1 => ?_) (fun c_1 => ?_)
  · refine rr_iconst F dX7_gap_10 ?_
    refine rr_iret F dX7_gap_11 ?_
    refine ⟨_, rfl, ?_⟩
    rw [sp_gap, if_neg (by omega)]
    exact ⟨rfl, hR⟩
  · refine rr_iload_n F dX7_gap_4 rfl ?_
    refine rr_bipush F dX7_gap_5 (by decide) ?_
    refine rr_icmp_le F dX7_gap_7 (tgt := 12) (by decide) ⟨by omega, by omega⟩ ⟨by omega, by omega⟩ (fun c_7 => ?_) (fun c_7 => ?_)
    · refine rr_aload_n F dX7_gap_12 rfl ?_
      refine rg_BP_shelf F (by first | rfl | assumption) fl_X7_26 dX7_gap_13 ?_
      refine rr_cell (k2 := 4) rfl ?_
      refine rg_Shelf_gapCost F (by first | rfl | assumption) fl_X7_111 dX7_gap_16 ?_
      refine rr_istore_n F dX7_gap_19 (Nat.le_of_ble_eq_true rfl) rfl ?_
      refine rr_aload_n F dX7_gap_20 rfl ?_
      refine rg_BP_shelf F (by first | rfl | assumption) fl_X7_26 dX7_gap_21 ?_
      refine rr_cell (k2 := 4) rfl ?_
      refine rr_iload_n F dX7_gap_24 rfl ?_
      refine rp_Shelf_gapCost F (by first | rfl | assumption) fl_X7_111 dX7_gap_25 ?_
      refine rr_iload_n F dX7_gap_28 rfl ?_
      refine rr_iret F dX7_gap_29 ?_
      refine ⟨_, rfl, ?_⟩
      rw [sp_gap, if_pos (by omega)]
      exact ⟨h7, key⟩
    · refine rr_iconst F dX7_gap_10 ?_
      refine rr_iret F dX7_gap_11 ?_
      refine ⟨_, rfl, ?_⟩
      rw [sp_gap, if_neg (by omega)]
      exact ⟨rfl, hR⟩
set_option maxHeartbeats 4000000 in
set_option maxRecDepth 100000 in
theorem mm_X7_link {l : Launch} {g : gT} {σ : sT} {a : Int} {I : IM} {L : LM} (ha : rg a) (hR : CR σ I L) :
    Ct l yX7_link cX7_link 3 (some .int) 0 0 lyC g [.ref (g.2.1 0), .int (zI a)] I L (pS CR (sp_link σ a)) := by
  obtain ⟨h1, h2, h3, h4, h5, h6, h7, h8⟩ := id hR
  unfold rg at ha
  have key : CR (σ.1, σ.2.1, (s_k σ, s_w σ, s_gp σ, a, s_gv σ)) (up2 I 4 5 a) L := by
    refine ⟨by simpa [up2] using h1, by simpa [up2] using h2, fun c hc0 hc6 => ?_, by simpa [up2] using h4, by simpa [up2] using h5, by simpa [up2] using h6, by simpa [up2] using h7, by simp [up2]⟩
    have hne : bk c ≠ 4 := by unfold bk; omega
    rw [up2_cell _ _ _ hne]
    exact h3 c hc0 hc6
  refine Ct.of RX7 (by decide +kernel) rfl (Nat.le_of_ble_eq_true rfl) (fun x hx F => ?_)
  refine rr_iload_n F dX7_link_0 rfl ?_
  refine rr_iconst F dX7_link_1 ?_
  refine rr_icmp_lt F dX7_link_2 (tgt := 12) (by decide) ⟨by omega, by omega⟩ ⟨by omega, by omega⟩ (fun c_2 => ?_) (fun c_2 => ?_)
  · refine rr_iconst F dX7_link_12 ?_
    refine rr_iret F dX7_link_13 ?_
    refine ⟨_, rfl, ?_⟩
    rw [sp_link, if_neg (by omega)]
    exact ⟨rfl, hR⟩
  · refine rr_iload_n F dX7_link_5 rfl ?_
    refine rr_sipush F dX7_link_6 (by decide) ?_
    refine rr_icmp_le F dX7_link_9 (tgt := 14) (by decide) ⟨by omega, by omega⟩ ⟨by omega, by omega⟩ (fun c_9 => ?_) (fun c_9 => ?_)
    · refine rr_aload_n F dX7_link_14 rfl ?_
      refine rg_BP_shelf F (by first | rfl | assumption) fl_X7_26 dX7_link_15 ?_
      refine rr_cell (k2 := 4) rfl ?_
      refine rg_Shelf_linkScore F (by first | rfl | assumption) fl_X7_114 dX7_link_18 ?_
      refine rr_istore_n F dX7_link_21 (Nat.le_of_ble_eq_true rfl) rfl ?_
      refine rr_aload_n F dX7_link_22 rfl ?_
      refine rg_BP_shelf F (by first | rfl | assumption) fl_X7_26 dX7_link_23 ?_
      refine rr_cell (k2 := 4) rfl ?_
      refine rr_iload_n F dX7_link_26 rfl ?_
      refine rp_Shelf_linkScore F (by first | rfl | assumption) fl_X7_114 dX7_link_27 ?_
      refine rr_iload_n F dX7_link_30 rfl ?_
      refine rr_iret F dX7_link_31 ?_
      refine ⟨_, rfl, ?_⟩
      rw [sp_link, if_pos (by omega)]
      exact ⟨h8, key⟩
    · refine rr_iconst F dX7_link_12 ?_
      refine rr_iret F dX7_link_13 ?_
      refine ⟨_, rfl, ?_⟩
      rw [sp_link, if_neg (by omega)]
      exact ⟨rfl, hR⟩
theorem rB_cases (σ : sT) (b : Int) : (rB σ b = 0 ∧ (0 ≤ b ∧ b < 6) ∧ s_hd σ b = 1) ∨ (rB σ b = -2 ∧ (0 ≤ b ∧ b < 6) ∧ ¬ s_hd σ b = 1) ∨ (rB σ b = -1 ∧ ¬ (0 ≤ b ∧ b < 6)) := by
  unfold rB
  by_cases h1 : 0 ≤ b ∧ b < 6
  · by_cases h2 : s_hd σ b = 1
    · rw [if_pos h1, if_pos h2]; exact Or.inl ⟨rfl, h1, h2⟩
    · rw [if_pos h1, if_neg h2]; exact Or.inr (Or.inl ⟨rfl, h1, h2⟩)
  · rw [if_neg h1]; exact Or.inr (Or.inr ⟨rfl, h1⟩)
theorem rP_cases (σ : sT) (a b : Int) : (rP σ a b = 0 ∧ (0 ≤ a ∧ a < 6) ∧ (0 ≤ b ∧ b < 6) ∧ ¬ a = b ∧ s_hd σ a = 1 ∧ s_hd σ b = 1) ∨ rP σ a b = -2 ∨ rP σ a b = -1 := by
  unfold rP
  split
  · next h =>
    split
    · next h2 => exact Or.inl ⟨rfl, h.1, h.2.1, h.2.2, h2.1, h2.2⟩
    · exact Or.inr (Or.inl rfl)
  · exact Or.inr (Or.inr rfl)
set_option maxHeartbeats 4000000 in
set_option maxRecDepth 100000 in
theorem mm_X7_given {l : Launch} {g : gT} {σ : sT} {a : Int} {I : IM} {L : LM} (ha : rg a) (hR : CR σ I L) (hW : WF σ) :
    Ct l yX7_given cX7_given 4 (some .int) 3 63 lyC g [.ref (g.2.1 0), .int (zI a)] I L (pS CR (sp_given σ a)) := by
  obtain ⟨h1, h2, h3, h4, h5, h6, h7, h8⟩ := id hR
  have hc := rB_cases σ a
  have ha' := ha
  unfold rg at ha'
  have key : CR (σ.1, σ.2.1, (s_k σ, s_w σ, s_gp σ, s_bd σ, a)) (up2 I 4 1 a) L := by
    refine ⟨by simpa [up2] using h1, by simpa [up2] using h2, fun c hc0 hc6 => ?_, by simp [up2], by simpa [up2] using h5, by simpa [up2] using h6, by simpa [up2] using h7, by simpa [up2] using h8⟩
    have hne : bk c ≠ 4 := by unfold bk; omega
    rw [up2_cell _ _ _ hne]
    exact h3 c hc0 hc6
  refine Ct.of RX7 (by decide +kernel) rfl (Nat.le_of_ble_eq_true rfl) (fun x hx F => ?_)
  refine rr_iload_n F dX7_given_0 rfl ?_
  refine rr_iconst F dX7_given_1 ?_
  refine rr_icmp_ne F dX7_given_2 (tgt := 9) (by decide) ⟨by omega, by omega⟩ ⟨by omega, by omega⟩ (fun c_2 => ?_) (fun c_2 => ?_)
  · refine rr_aload_n F dX7_given_9 rfl ?_
    refine rr_iload_n F dX7_given_10 rfl ?_
    refine rr_callVI F (ci := 7) (mm_X7_refusalOfBook ha hR hW) mf_X7_refusalOfBook ml_X7_83 ⟨by decide, by decide⟩ (by first | rfl | assumption) (by decide) rfl rfl (Nat.le_of_ble_eq_true rfl) dX7_given_11 (fun r_11 I_11 L_11 h_11 => ?_)
    obtain ⟨e11, rfl, rfl⟩ := h_11
    refine rr_istore_n F dX7_given_14 (Nat.le_of_ble_eq_true rfl) rfl ?_
    refine rr_iload_n F dX7_given_15 rfl ?_
    refine rr_if_eq F dX7_given_16 (tgt := 24) (by decide) ⟨by omega, by omega⟩ (fun c_16 => ?_) (fun c_16 => ?_)
    · refine rr_aload_n F dX7_given_24 rfl ?_
      refine rg_BP_shelf F (by first | rfl | assumption) fl_X7_26 dX7_given_25 ?_
      refine rr_cell (k2 := 4) rfl ?_
      refine rg_Shelf_givenNumber F (by first | rfl | assumption) fl_X7_90 dX7_given_28 ?_
      refine rr_istore_n F dX7_given_31 (Nat.le_of_ble_eq_true rfl) rfl ?_
      refine rr_aload_n F dX7_given_32 rfl ?_
      refine rg_BP_shelf F (by first | rfl | assumption) fl_X7_26 dX7_given_33 ?_
      refine rr_cell (k2 := 4) rfl ?_
      refine rr_iload_n F dX7_given_36 rfl ?_
      refine rp_Shelf_givenNumber F (by first | rfl | assumption) fl_X7_90 dX7_given_37 ?_
      refine rr_iload_n F dX7_given_40 rfl ?_
      refine rr_iret F dX7_given_41 ?_
      refine ⟨_, rfl, ?_⟩
      rw [sp_given, if_pos (by omega)]
      exact ⟨h4, key⟩
    · refine rr_iload_n F dX7_given_19 rfl ?_
      refine rr_bipush F dX7_given_20 (by decide) ?_
      refine rr_isub F dX7_given_22 ?_
      refine rr_iret F dX7_given_23 ?_
      refine ⟨_, rfl, ?_⟩
      rw [sp_given, if_neg (by omega)]
      exact ⟨by omega, hR⟩
  · refine rr_iconst F dX7_given_5 ?_
    refine rr_goto F dX7_given_6 (tgt := 14) (by decide) ?_
    refine rr_istore_n F dX7_given_14 (Nat.le_of_ble_eq_true rfl) rfl ?_
    refine rr_iload_n F dX7_given_15 rfl ?_
    refine rr_if_eq F dX7_given_16 (tgt := 24) (by decide) ⟨by omega, by omega⟩ (fun c_16 => ?_) (fun c_16 => ?_)
    · refine rr_aload_n F dX7_given_24 rfl ?_
      refine rg_BP_shelf F (by first | rfl | assumption) fl_X7_26 dX7_given_25 ?_
      refine rr_cell (k2 := 4) rfl ?_
      refine rg_Shelf_givenNumber F (by first | rfl | assumption) fl_X7_90 dX7_given_28 ?_
      refine rr_istore_n F dX7_given_31 (Nat.le_of_ble_eq_true rfl) rfl ?_
      refine rr_aload_n F dX7_given_32 rfl ?_
      refine rg_BP_shelf F (by first | rfl | assumption) fl_X7_26 dX7_given_33 ?_
      refine rr_cell (k2 := 4) rfl ?_
      refine rr_iload_n F dX7_given_36 rfl ?_
      refine rp_Shelf_givenNumber F (by first | rfl | assumption) fl_X7_90 dX7_given_37 ?_
      refine rr_iload_n F dX7_given_40 rfl ?_
      refine rr_iret F dX7_given_41 ?_
      refine ⟨_, rfl, ?_⟩
      rw [sp_given, if_pos (by omega)]
      exact ⟨h4, key⟩
    · refine rr_iload_n F dX7_given_19 rfl ?_
      refine rr_bipush F dX7_given_20 (by decide) ?_
      refine rr_isub F dX7_given_22 ?_
      refine rr_iret F dX7_given_23 ?_
      refine ⟨_, rfl, ?_⟩
      rw [sp_given, if_neg (by omega)]
      exact ⟨by omega, hR⟩
set_option maxHeartbeats 4000000 in
set_option maxRecDepth 100000 in
theorem mm_X0_close {l : Launch} {g : gT} {k : Nat} {I : IM} {L : LM} (hk : isB k) :
    Ct l yX0_close cX0_close 1 none 0 0 lyC g [.ref (g.2.1 k)] I L (pV (fun I' L' => I' = up2 (up2 I k 1 0) k 4 0 ∧ L = L')) := by
  obtain ⟨q1, q2, q3⟩ := hk.f
  refine Ct.of RX0 (by decide +kernel) rfl (Nat.le_of_ble_eq_true rfl) (fun x hx F => ?_)
  refine rr_aload_n F dX0_close_0 rfl ?_
  refine rr_iconst F dX0_close_1 ?_
  refine rp_Book_size F (by first | rfl | assumption) fl_X0_15 dX0_close_2 ?_
  refine rr_aload_n F dX0_close_5 rfl ?_
  refine rr_iconst F dX0_close_6 ?_
  refine rp_Book_held F (by first | rfl | assumption) fl_X0_25 (by decide) (by decide) dX0_close_7 ?_
  refine rr_vret F dX0_close_10 ?_
  exact ⟨rfl, rfl, rfl⟩
set_option maxHeartbeats 4000000 in
set_option maxRecDepth 100000 in
theorem mm_X7_withdraw {l : Launch} {g : gT} {σ : sT} {a : Int} {I : IM} {L : LM} (ha : rg a) (hR : CR σ I L) (hW : WF σ) :
    Ct l yX7_withdraw cX7_withdraw 4 (some .int) 3 63 lyC g [.ref (g.2.1 0), .int (zI a)] I L (pS CR (sp_withdraw σ a)) := by
  obtain ⟨h1, h2, h3, h4, h5, h6, h7, h8⟩ := id hR
  have w3 := hW.2.2.1
  have wg := hW.2.2.2.2.2.2.2.2.2.2.1
  have hc := rB_cases σ a
  have ha' := ha
  unfold rg at ha'
  have key : 0 ≤ a → a < 6 → ∀ I' : IM, (∀ q, q ≠ bk a → q ≠ 4 → I' q = I q) → I' (bk a) 4 = 0 → (I' 4 1 = if s_gv σ = a then -1 else s_gv σ) → (∀ j, j ≠ 1 → I' 4 j = I 4 j) → CR (σ.1, (u1 (s_hd σ) a 0, s_sz σ, s_lg σ, s_dy σ, s_tk σ), (s_k σ, s_w σ, s_gp σ, s_bd σ, if s_gv σ = a then -1 else s_gv σ)) I' L := by
    intro h0 h60 I' g1 g2 g3 g4
    refine ⟨by rw [g1 1 (by unfold bk; omega) (by omega)]; exact h1, fun i a1 b1 => by rw [g1 2 (by unfold bk; omega) (by omega)]; exact h2 i a1 b1, fun b hb0 hb6 => ?_, g3, by rw [g4 2 (by omega)]; exact h5, by rw [g4 3 (by omega)]; exact h6, by rw [g4 4 (by omega)]; exact h7, by rw [g4 5 (by omega)]; exact h8⟩
    by_cases e : b = a
    · subst e
      exact ⟨by simp [g2, u1, s_hd], fun z => absurd z (by simp [u1, s_hd])⟩
    · have hne : bk b ≠ bk a := fun z => e (bk_inj hb0 h0 z)
      have h4' : bk b ≠ 4 := by unfold bk; omega
      rw [g1 _ hne h4']
      simpa [u1, e, s_hd] using h3 b hb0 hb6
  refine Ct.of RX7 (by decide +kernel) rfl (Nat.le_of_ble_eq_true rfl) (fun x hx F => ?_)
  refine rr_aload_n F dX7_withdraw_0 rfl ?_
  refine rr_iload_n F dX7_withdraw_1 rfl ?_
  refine rr_callVI F (ci := 7) (mm_X7_refusalOfBook ha hR hW) mf_X7_refusalOfBook ml_X7_83 ⟨by decide, by decide⟩ (by first | rfl | assumption) (by decide) rfl rfl (Nat.le_of_ble_eq_true rfl) dX7_withdraw_2 (fun r_2 I_2 L_2 h_2 => ?_)
  obtain ⟨e2, rfl, rfl⟩ := h_2
  refine rr_istore_n F dX7_withdraw_5 (Nat.le_of_ble_eq_true rfl) rfl ?_
  refine rr_iload_n F dX7_withdraw_6 rfl ?_
  refine rr_if_eq F dX7_withdraw_7 (tgt := 12) (by decide) ⟨by omega, by omega⟩ (fun c_7 => ?_) (fun c_7 => ?_)
  · refine rr_aload_n F dX7_withdraw_12 rfl ?_
    refine rg_BP_shelf F (by first | rfl | assumption) fl_X7_26 dX7_withdraw_13 ?_
    refine rr_cell (k2 := 4) rfl ?_
    refine rg_Shelf_books F (by first | rfl | assumption) fl_X7_63 dX7_withdraw_16 ?_
    refine rr_cell (k2 := 5) rfl ?_
    refine rr_iload_n F dX7_withdraw_19 rfl ?_
    refine rr_aald F (N := 6) (by first | rfl | assumption) (by omega) (by first | rfl | assumption) (by omega) dX7_withdraw_20 ?_
    refine rr_bk ?_
    have hB := bk_isB (b := a) (by omega) (by omega)
    obtain ⟨q1, q2, q3⟩ := hB.f
    refine rg_Book_size F (by first | rfl | assumption) fl_X7_80 dX7_withdraw_21 ?_
    refine rr_istore_n F dX7_withdraw_24 (Nat.le_of_ble_eq_true rfl) rfl ?_
    refine rr_aload_n F dX7_withdraw_25 rfl ?_
    refine rg_BP_shelf F (by first | rfl | assumption) fl_X7_26 dX7_withdraw_26 ?_
    refine rr_cell (k2 := 4) rfl ?_
    refine rg_Shelf_books F (by first | rfl | assumption) fl_X7_63 dX7_withdraw_29 ?_
    refine rr_cell (k2 := 5) rfl ?_
    refine rr_iload_n F dX7_withdraw_32 rfl ?_
    refine rr_aald F (N := 6) (by first | rfl | assumption) (by omega) (by first | rfl | assumption) (by omega) dX7_withdraw_33 ?_
    refine rr_bk ?_
    refine rr_callVV F (ci := 0) (mm_X0_close hB) mf_X0_close ml_X7_87 ⟨by decide, by decide⟩ (by first | rfl | assumption) (by decide) rfl rfl (Nat.le_of_ble_eq_true rfl) dX7_withdraw_34 (fun I_34 L_34 h_34 => ?_)
    obtain ⟨e34, rfl⟩ := h_34
    have e4b : bk a ≠ 4 := by unfold bk; omega
    have eg : I_34 4 1 = s_gv σ := by rw [e34, up2_cell _ _ _ e4b.symm, up2_cell _ _ _ e4b.symm]; exact h4
    refine rr_aload_n F dX7_withdraw_37 rfl ?_
    refine rg_BP_shelf F (by first | rfl | assumption) fl_X7_26 dX7_withdraw_38 ?_
    refine rr_cell (k2 := 4) rfl ?_
    refine rg_Shelf_givenNumber F (by first | rfl | assumption) fl_X7_90 dX7_withdraw_41 ?_
    refine rr_iload_n F dX7_withdraw_44 rfl ?_
    refine rr_icmp_ne F dX7_withdraw_45 (tgt := 56) (by decide) ⟨by omega, by omega⟩ ⟨by omega, by omega⟩ (fun c_45 => ?_) (fun c_45 => ?_)
    · refine rr_iload_n F dX7_withdraw_56 rfl ?_
      refine rr_iret F dX7_withdraw_57 ?_
      refine ⟨_, rfl, ?_⟩
      rw [sp_withdraw, if_pos (by omega)]
      refine ⟨((h3 a (by omega) (by omega)).2 (by omega)).1, key (by omega) (by omega) _ (fun q z1 z2 => ?_) ?_ ?_ (fun j z => ?_)⟩
      · first | (rw [up2_cell _ _ _ z2, e34, up2_cell _ _ _ z1, up2_cell _ _ _ z1]; done) | rw [e34, up2_cell _ _ _ z1, up2_cell _ _ _ z1]
      · first | (rw [up2_cell _ _ _ e4b, e34, up2_same]; done) | rw [e34, up2_same]
      · first | (rw [up2_same, if_pos (by omega)]; done) | rw [if_neg (by omega), eg]
      · first | (rw [up2_ne _ _ _ z, e34, up2_cell _ _ _ e4b.symm, up2_cell _ _ _ e4b.symm]; done) | rw [e34, up2_cell _ _ _ e4b.symm, up2_cell _ _ _ e4b.symm]
    · refine rr_aload_n F dX7_withdraw_48 rfl ?_
      refine rg_BP_shelf F (by first | rfl | assumption) fl_X7_26 dX7_withdraw_49 ?_
      refine rr_cell (k2 := 4) rfl ?_
      refine rr_iconst F dX7_withdraw_52 ?_
      refine rp_Shelf_givenNumber F (by first | rfl | assumption) fl_X7_90 dX7_withdraw_53 ?_
      refine rr_iload_n F dX7_withdraw_56 rfl ?_
      refine rr_iret F dX7_withdraw_57 ?_
      refine ⟨_, rfl, ?_⟩
      rw [sp_withdraw, if_pos (by omega)]
      refine ⟨((h3 a (by omega) (by omega)).2 (by omega)).1, key (by omega) (by omega) _ (fun q z1 z2 => ?_) ?_ ?_ (fun j z => ?_)⟩
      · first | (rw [up2_cell _ _ _ z2, e34, up2_cell _ _ _ z1, up2_cell _ _ _ z1]; done) | rw [e34, up2_cell _ _ _ z1, up2_cell _ _ _ z1]
      · first | (rw [up2_cell _ _ _ e4b, e34, up2_same]; done) | rw [e34, up2_same]
      · first | (rw [up2_same, if_pos (by omega)]; done) | rw [if_neg (by omega), eg]
      · first | (rw [up2_ne _ _ _ z, e34, up2_cell _ _ _ e4b.symm, up2_cell _ _ _ e4b.symm]; done) | rw [e34, up2_cell _ _ _ e4b.symm, up2_cell _ _ _ e4b.symm]
  · refine rr_iload_n F dX7_withdraw_10 rfl ?_
    refine rr_iret F dX7_withdraw_11 ?_
    refine ⟨_, rfl, ?_⟩
    rw [sp_withdraw, if_neg (by omega)]
    exact ⟨e2, hR⟩
set_option maxHeartbeats 4000000 in
set_option maxRecDepth 100000 in
theorem mm_X7_token {l : Launch} {g : gT} {σ : sT} {a i : Int} {I : IM} {L : LM} (ha : rg a) (hi : rg i) (hR : CR σ I L) (hW : WF σ) :
    Ct l yX7_token cX7_token 5 (some .long) 3 63 lyC g [.ref (g.2.1 0), .int (zI a), .int (zI i)] I L (pSJ CR (sp_token σ a i, σ)) := by
  obtain ⟨h1, h2, h3, h4, h5, h6, h7, h8⟩ := id hR
  have w4 := hW.2.2.2.1
  have hc := rB_cases σ a
  have hi' := hi
  unfold rg at hi'
  refine Ct.of RX7 (by decide +kernel) rfl (Nat.le_of_ble_eq_true rfl) (fun x hx F => ?_)
  refine rr_iload_n F dX7_token_0 rfl ?_
  refine rr_bipush F dX7_token_1 (by decide) ?_
  refine rr_icmp_ge F dX7_token_3 (tgt := 10) (by decide) ⟨by omega, by omega⟩ ⟨by omega, by omega⟩ (fun c_3 => ?_) (fun c_3 => ?_)
  · refine rr_aload_n F dX7_token_10 rfl ?_
    refine rr_iload_n F dX7_token_11 rfl ?_
    refine rr_callVI F (ci := 7) (mm_X7_refusalOfBook ha hR hW) mf_X7_refusalOfBook ml_X7_83 ⟨by decide, by decide⟩ (by first | rfl | assumption) (by decide) rfl rfl (Nat.le_of_ble_eq_true rfl) dX7_token_12 (fun r_12 I_12 L_12 h_12 => ?_)
    obtain ⟨e12, rfl, rfl⟩ := h_12
    refine rr_istore_n F dX7_token_15 (Nat.le_of_ble_eq_true rfl) rfl ?_
    refine rr_iload_n F dX7_token_16 rfl ?_
    refine rr_if_eq F dX7_token_17 (tgt := 23) (by decide) ⟨by omega, by omega⟩ (fun c_17 => ?_) (fun c_17 => ?_)
    · refine rr_aload_n F dX7_token_23 rfl ?_
      refine rg_BP_shelf F (by first | rfl | assumption) fl_X7_26 dX7_token_24 ?_
      refine rr_cell (k2 := 4) rfl ?_
      refine rg_Shelf_books F (by first | rfl | assumption) fl_X7_63 dX7_token_27 ?_
      refine rr_cell (k2 := 5) rfl ?_
      refine rr_iload_n F dX7_token_30 rfl ?_
      refine rr_aald F (N := 6) (by first | rfl | assumption) (by omega) (by first | rfl | assumption) (by omega) dX7_token_31 ?_
      refine rr_bk ?_
      have hB := bk_isB (b := a) (by omega) (by omega)
      obtain ⟨q1, q2, q3⟩ := hB.f
      obtain ⟨e1, e2⟩ := h3 a (by omega) (by omega)
      obtain ⟨e2, e3, e4, e5⟩ := e2 (by omega)
      have w2 := w4 a
      refine rr_astore F dX7_token_32 (Nat.le_of_ble_eq_true rfl) rfl ?_
      refine rr_iload_n F dX7_token_34 rfl ?_
      refine rr_bipush F dX7_token_35 (by decide) ?_
      refine rr_icmp_ne F dX7_token_37 (tgt := 47) (by decide) ⟨by omega, by omega⟩ ⟨by omega, by omega⟩ (fun c_37 => ?_) (fun c_37 => ?_)
      · refine rr_iload_n F dX7_token_47 rfl ?_
        refine rr_bipush F dX7_token_48 (by decide) ?_
        refine rr_icmp_ne F dX7_token_50 (tgt := 60) (by decide) ⟨by omega, by omega⟩ ⟨by omega, by omega⟩ (fun c_50 => ?_) (fun c_50 => ?_)
        · refine rr_iload_n F dX7_token_60 rfl ?_
          refine rr_iconst F dX7_token_61 ?_
          refine rr_icmp_ne F dX7_token_62 (tgt := 72) (by decide) ⟨by omega, by omega⟩ ⟨by omega, by omega⟩ (fun c_62 => ?_) (fun c_62 => ?_)
          · refine rr_iload_n F dX7_token_72 rfl ?_
            refine rr_aload F dX7_token_73 rfl ?_
            refine rg_Book_size F (by first | rfl | assumption) fl_X7_80 dX7_token_75 ?_
            refine rr_icmp_ge F dX7_token_78 (tgt := 91) (by decide) ⟨by omega, by omega⟩ ⟨by omega, by omega⟩ (fun c_78 => ?_) (fun c_78 => ?_)
            · refine rr_ldc2 F dX7_token_91 co_X7_103 ?_
              refine rr_lret F dX7_token_94 ?_
              refine ⟨_, rfl, ?_, hR⟩
              first | (rw [sp_token, if_pos (by omega), if_pos (by omega), if_pos (by omega)]; done) | (rw [sp_token, if_pos (by omega), if_pos (by omega), if_neg (by omega), if_neg (by omega), if_neg (by omega), if_neg (by omega)]; exact e5 i (by omega) (by omega))
            · refine rr_aload F dX7_token_81 rfl ?_
              refine rg_Book_tokens F (by first | rfl | assumption) fl_X7_99 dX7_token_83 ?_
              refine rr_iload_n F dX7_token_86 rfl ?_
              refine rr_lald F (N := 40) (by first | rfl | assumption) (by omega) (by first | rfl | assumption) (by omega) dX7_token_87 ?_
              refine rr_goto F dX7_token_88 (tgt := 94) (by decide) ?_
              refine rr_lret F dX7_token_94 ?_
              refine ⟨_, rfl, ?_, hR⟩
              first | (rw [sp_token, if_pos (by omega), if_pos (by omega), if_pos (by omega)]; done) | (rw [sp_token, if_pos (by omega), if_pos (by omega), if_neg (by omega), if_neg (by omega), if_neg (by omega), if_neg (by omega)]; exact e5 i (by omega) (by omega))
          · refine rr_aload F dX7_token_65 rfl ?_
            refine rg_Book_size F (by first | rfl | assumption) fl_X7_80 dX7_token_67 ?_
            refine rr_i2l F dX7_token_70 ?_
            refine rr_lret F dX7_token_71 ?_
            exact ⟨_, rfl, by rw [sp_token, if_pos (by omega), if_pos (by omega), if_neg (by omega), if_pos (by omega), e2], hR⟩
        · refine rr_aload F dX7_token_53 rfl ?_
          refine rg_Book_language F (by first | rfl | assumption) fl_X7_96 dX7_token_55 ?_
          refine rr_i2l F dX7_token_58 ?_
          refine rr_lret F dX7_token_59 ?_
          exact ⟨_, rfl, by rw [sp_token, if_pos (by omega), if_pos (by omega), if_neg (by omega), if_neg (by omega), if_pos (by omega), e3], hR⟩
      · refine rr_aload F dX7_token_40 rfl ?_
        refine rg_Book_day F (by first | rfl | assumption) fl_X7_93 dX7_token_42 ?_
        refine rr_i2l F dX7_token_45 ?_
        refine rr_lret F dX7_token_46 ?_
        exact ⟨_, rfl, by rw [sp_token, if_pos (by omega), if_pos (by omega), if_neg (by omega), if_neg (by omega), if_neg (by omega), if_pos (by omega), e4], hR⟩
    · refine rr_iload_n F dX7_token_20 rfl ?_
      refine rr_i2l F dX7_token_21 ?_
      refine rr_lret F dX7_token_22 ?_
      refine ⟨_, rfl, ?_, hR⟩
      first | (rw [sp_token, if_neg (by omega)]; rfl) | skip
      try (rcases hc with hc | hc | hc)
      try (exact absurd e12 (by omega))
      try (have z : r_12 = -2 := by omega
           subst z
           rw [sp_token, if_pos (by omega), if_neg (by omega)]
           rfl)
      try (have z : r_12 = -1 := by omega
           subst z
           rw [sp_token, if_neg (by omega)]
           rfl)
  · refine rr_iconst F dX7_token_6 ?_
    refine rr_goto F dX7_token_7 (tgt := 15) (by decide) ?_
    refine rr_istore_n F dX7_token_15 (Nat.le_of_ble_eq_true rfl) rfl ?_
    refine rr_iload_n F dX7_token_16 rfl ?_
    refine rr_if_eq F dX7_token_17 (tgt := 23) (by decide) ⟨by omega, by omega⟩ (fun c_17 => ?_) (fun c_17 => ?_)
    · refine rr_aload_n F dX7_token_23 rfl ?_
      refine rg_BP_shelf F (by first | rfl | assumption) fl_X7_26 dX7_token_24 ?_
      refine rr_cell (k2 := 4) rfl ?_
      refine rg_Shelf_books F (by first | rfl | assumption) fl_X7_63 dX7_token_27 ?_
      refine rr_cell (k2 := 5) rfl ?_
      refine rr_iload_n F dX7_token_30 rfl ?_
      refine rr_aald F (N := 6) (by first | rfl | assumption) (by omega) (by first | rfl | assumption) (by omega) dX7_token_31 ?_
      refine rr_bk ?_
      have hB := bk_isB (b := a) (by omega) (by omega)
      obtain ⟨q1, q2, q3⟩ := hB.f
      obtain ⟨e1, e2⟩ := h3 a (by omega) (by omega)
      obtain ⟨e2, e3, e4, e5⟩ := e2 (by omega)
      have w2 := w4 a
      refine rr_astore F dX7_token_32 (Nat.le_of_ble_eq_true rfl) rfl ?_
      refine rr_iload_n F dX7_token_34 rfl ?_
      refine rr_bipush F dX7_token_35 (by decide) ?_
      refine rr_icmp_ne F dX7_token_37 (tgt := 47) (by decide) ⟨by omega, by omega⟩ ⟨by omega, by omega⟩ (fun c_37 => ?_) (fun c_37 => ?_)
      · refine rr_iload_n F dX7_token_47 rfl ?_
        refine rr_bipush F dX7_token_48 (by decide) ?_
        refine rr_icmp_ne F dX7_token_50 (tgt := 60) (by decide) ⟨by omega, by omega⟩ ⟨by omega, by omega⟩ (fun c_50 => ?_) (fun c_50 => ?_)
        · refine rr_iload_n F dX7_token_60 rfl ?_
          refine rr_iconst F dX7_token_61 ?_
          refine rr_icmp_ne F dX7_token_62 (tgt := 72) (by decide) ⟨by omega, by omega⟩ ⟨by omega, by omega⟩ (fun c_62 => ?_) (fun c_62 => ?_)
          · refine rr_iload_n F dX7_token_72 rfl ?_
            refine rr_aload F dX7_token_73 rfl ?_
            refine rg_Book_size F (by first | rfl | assumption) fl_X7_80 dX7_token_75 ?_
            refine rr_icmp_ge F dX7_token_78 (tgt := 91) (by decide) ⟨by omega, by omega⟩ ⟨by omega, by omega⟩ (fun c_78 => ?_) (fun c_78 => ?_)
            · refine rr_ldc2 F dX7_token_91 co_X7_103 ?_
              refine rr_lret F dX7_token_94 ?_
              refine ⟨_, rfl, ?_, hR⟩
              first | (rw [sp_token, if_pos (by omega), if_pos (by omega), if_pos (by omega)]; done) | (rw [sp_token, if_pos (by omega), if_pos (by omega), if_neg (by omega), if_neg (by omega), if_neg (by omega), if_neg (by omega)]; exact e5 i (by omega) (by omega))
            · refine rr_aload F dX7_token_81 rfl ?_
              refine rg_Book_tokens F (by first | rfl | assumption) fl_X7_99 dX7_token_83 ?_
              refine rr_iload_n F dX7_token_86 rfl ?_
              refine rr_lald F (N := 40) (by first | rfl | assumption) (by omega) (by first | rfl | assumption) (by omega) dX7_token_87 ?_
              refine rr_goto F dX7_token_88 (tgt := 94) (by decide) ?_
              refine rr_lret F dX7_token_94 ?_
              refine ⟨_, rfl, ?_, hR⟩
              first | (rw [sp_token, if_pos (by omega), if_pos (by omega), if_pos (by omega)]; done) | (rw [sp_token, if_pos (by omega), if_pos (by omega), if_neg (by omega), if_neg (by omega), if_neg (by omega), if_neg (by omega)]; exact e5 i (by omega) (by omega))
          · refine rr_aload F dX7_token_65 rfl ?_
            refine rg_Book_size F (by first | rfl | assumption) fl_X7_80 dX7_token_67 ?_
            refine rr_i2l F dX7_token_70 ?_
            refine rr_lret F dX7_token_71 ?_
            exact ⟨_, rfl, by rw [sp_token, if_pos (by omega), if_pos (by omega), if_neg (by omega), if_pos (by omega), e2], hR⟩
        · refine rr_aload F dX7_token_53 rfl ?_
          refine rg_Book_language F (by first | rfl | assumption) fl_X7_96 dX7_token_55 ?_
          refine rr_i2l F dX7_token_58 ?_
          refine rr_lret F dX7_token_59 ?_
          exact ⟨_, rfl, by rw [sp_token, if_pos (by omega), if_pos (by omega), if_neg (by omega), if_neg (by omega), if_pos (by omega), e3], hR⟩
      · refine rr_aload F dX7_token_40 rfl ?_
        refine rg_Book_day F (by first | rfl | assumption) fl_X7_93 dX7_token_42 ?_
        refine rr_i2l F dX7_token_45 ?_
        refine rr_lret F dX7_token_46 ?_
        exact ⟨_, rfl, by rw [sp_token, if_pos (by omega), if_pos (by omega), if_neg (by omega), if_neg (by omega), if_neg (by omega), if_pos (by omega), e4], hR⟩
    · refine rr_iload_n F dX7_token_20 rfl ?_
      refine rr_i2l F dX7_token_21 ?_
      refine rr_lret F dX7_token_22 ?_
      refine ⟨_, rfl, ?_, hR⟩
      first | (rw [sp_token, if_neg (by omega)]; rfl) | skip
      try (rcases hc with hc | hc | hc)
      try (exact absurd e12 (by omega))
      try (have z : r_12 = -2 := by omega
           subst z
           rw [sp_token, if_pos (by omega), if_neg (by omega)]
           rfl)
      try (have z : r_12 = -1 := by omega
           subst z
           rw [sp_token, if_neg (by omega)]
           rfl)
end
section
/-! lay, findMarks and what reads marks -/
set_option maxHeartbeats 4000000 in
set_option maxRecDepth 100000 in
theorem mm_X3_lay {l : Launch} {g : gT} {k c : Nat} {t n : Int} {I : IM} {L : LM} (hk : isP k) (hc : isB c) (hn0 : 0 ≤ n) (hn : n ≤ 40) (ht0 : 0 ≤ t) (ht : t ≤ 40) (hsz : I c 1 = n) :
    Ct l yX3_lay cX3_lay 4 none 0 0 lyC g [.ref (g.2.1 k), .ref (g.2.1 c), .int (zI t)] I L (pV (fun I' L' => I' k 5 = n ∧ I' k 6 = I c 2 ∧ (∀ i, 0 ≤ i → i < n → L' (k + 1) i = L (c + 1) ((i + t) % n)) ∧ (∀ i, 0 ≤ i → i < n → I' (k + 4) i = 0) ∧ (∀ q, q ≠ k → q ≠ k + 4 → I' q = I q) ∧ (∀ q, q ≠ k + 1 → L' q = L q))) := by
  obtain ⟨q1, q2, q3, q4, q5, q6, q7, q8, q9, q10, q11⟩ := hk.f
  obtain ⟨p1, p2, p3⟩ := hc.f
  have hne : c ≠ k ∧ c + 1 ≠ k + 1 ∧ c ≠ k + 4 := by rcases hk with rfl | rfl | rfl <;> rcases hc with rfl | rfl | rfl | rfl | rfl | rfl <;> decide
  refine Ct.of RX3 (by decide +kernel) rfl (Nat.le_of_ble_eq_true rfl) (fun x hx F => ?_)
  have loop : ∀ (m : Nat) (i : Int) (I1 : IM) (L1 : LM), m = (n - i).toNat → 0 ≤ i → i ≤ n → I1 k 5 = n → I1 k 6 = I c 2 → (∀ j, 0 ≤ j → j < i → L1 (k + 1) j = L (c + 1) ((j + t) % n)) → (∀ j, 0 ≤ j → j < i → I1 (k + 4) j = 0) → (∀ q, q ≠ k → q ≠ k + 4 → I1 q = I q) → (∀ q, q ≠ k + 1 → L1 q = L q) → Rn x lyC g (pV (fun I' L' => I' k 5 = n ∧ I' k 6 = I c 2 ∧ (∀ i, 0 ≤ i → i < n → L' (k + 1) i = L (c + 1) ((i + t) % n)) ∧ (∀ i, 0 ≤ i → i < n → I' (k + 4) i = 0) ∧ (∀ q, q ≠ k → q ≠ k + 4 → I' q = I q) ∧ (∀ q, q ≠ k + 1 → L' q = L q))) 18 [vr g k, vr g c, vn t, vn i] [] I1 L1 := by
    intro m
    induction m with
    | zero =>
      intro i I1 L1 h1 h2 h3 h4 h5 h6 h7 h8 h9
      have e : i = n := by omega
      refine rr_iload_n F dX3_lay_18 rfl ?_
      refine rr_aload_n F dX3_lay_19 rfl ?_
      refine rg_Page_size F (by first | rfl | assumption) fl_X3_29 dX3_lay_20 ?_
      refine rr_icmp_ge F dX3_lay_23 (tgt := 58) (by decide) ⟨by omega, by omega⟩ ⟨by omega, by omega⟩ (fun c_23 => ?_) (fun c_23 => ?_)
      · refine rr_vret F dX3_lay_58 ?_
        exact ⟨rfl, h4, h5, fun j a b => h6 j a (by omega), fun j a b => h7 j a (by omega), h8, h9⟩
      · exact absurd c_23 (by omega)
    | succ m ih =>
      intro i I1 L1 h1 h2 h3 h4 h5 h6 h7 h8 h9
      have hm := Int.emod_nonneg (i + t) (show n ≠ 0 by omega)
      have hm2 := Int.emod_lt_of_pos (i + t) (show 0 < n by omega)
      refine rr_iload_n F dX3_lay_18 rfl ?_
      refine rr_aload_n F dX3_lay_19 rfl ?_
      refine rg_Page_size F (by first | rfl | assumption) fl_X3_29 dX3_lay_20 ?_
      refine rr_icmp_ge F dX3_lay_23 (tgt := 58) (by decide) ⟨by omega, by omega⟩ ⟨by omega, by omega⟩ (fun c_23 => ?_) (fun c_23 => ?_)
      · exact absurd c_23 (by omega)
      · refine rr_aload_n F dX3_lay_26 rfl ?_
        refine rg_Page_tokens F (by first | rfl | assumption) fl_X3_9 dX3_lay_27 ?_
        refine rr_iload_n F dX3_lay_30 rfl ?_
        refine rr_aload_n F dX3_lay_31 rfl ?_
        refine rg_Book_tokens F (by first | rfl | assumption) fl_X3_43 dX3_lay_32 ?_
        refine rr_iload_n F dX3_lay_35 rfl ?_
        refine rr_iload_n F dX3_lay_36 rfl ?_
        refine rr_iadd F dX3_lay_37 ?_
        refine rr_aload_n F dX3_lay_38 rfl ?_
        refine rg_Page_size F (by first | rfl | assumption) fl_X3_29 dX3_lay_39 ?_
        rw [h4]
        refine rr_irem F dX3_lay_42 (by exact zI_ne0 (by omega) (by omega)) ?_
        rw [irem_z (by omega) (by omega) (by omega) (by omega)]
        refine rr_lald F (N := 40) (by first | rfl | assumption) (by omega) (by first | rfl | assumption) (by omega) dX3_lay_43 ?_
        refine rr_last F (N := 40) (by first | rfl | assumption) (by omega) (by first | rfl | assumption) (by omega) dX3_lay_44 ?_
        refine rr_aload_n F dX3_lay_45 rfl ?_
        refine rg_Page_isAside F (by first | rfl | assumption) fl_X3_23 dX3_lay_46 ?_
        refine rr_iload_n F dX3_lay_49 rfl ?_
        refine rr_iconst F dX3_lay_50 ?_
        refine rr_zast F (N := 40) (by first | rfl | assumption) (by omega) (by first | rfl | assumption) (by omega) (by decide) dX3_lay_51 ?_
        refine rr_iinc F dX3_lay_52 rfl rfl ?_
        refine rr_goto F dX3_lay_55 (tgt := 18) (by decide) ?_
        rw [h9 (c + 1) hne.2.1]
        refine ih (i + 1) _ _ (by omega) (by omega) (by omega) ?_ ?_ (fun j a b => ?_) (fun j a b => ?_) (fun q a b => ?_) (fun q a => ?_)
        · rw [up2_cell _ _ _ (by omega)]; exact h4
        · rw [up2_cell _ _ _ (by omega)]; exact h5
        · by_cases e : j = i
          · subst e; rw [up2_same]
          · rw [up2_ne _ _ _ e]; exact h6 j a (by omega)
        · by_cases e : j = i
          · subst e; rw [up2_same]
          · rw [up2_ne _ _ _ e]; exact h7 j a (by omega)
        · rw [up2_cell _ _ _ b]; exact h8 q a b
        · rw [up2_cell _ _ _ a]; exact h9 q a
  refine rr_aload_n F dX3_lay_0 rfl ?_
  refine rr_aload_n F dX3_lay_1 rfl ?_
  refine rg_Book_size F (by first | rfl | assumption) fl_X3_39 dX3_lay_2 ?_
  refine rp_Page_size F (by first | rfl | assumption) fl_X3_29 dX3_lay_5 ?_
  refine rr_aload_n F dX3_lay_8 rfl ?_
  refine rr_aload_n F dX3_lay_9 rfl ?_
  refine rg_Book_language F (by first | rfl | assumption) fl_X3_42 dX3_lay_10 ?_
  refine rp_Page_language F (by first | rfl | assumption) fl_X3_33 dX3_lay_13 ?_
  refine rr_iconst F dX3_lay_16 ?_
  refine rr_istore_n F dX3_lay_17 (Nat.le_of_ble_eq_true rfl) rfl ?_
  have e0 : (up2 I k 5 (I c 1)) c 2 = I c 2 := by rw [up2_cell _ _ _ hne.1]
  refine loop _ 0 _ _ rfl (by omega) hn0 ?_ ?_ (fun j a b => absurd b (by omega)) (fun j a b => absurd b (by omega)) (fun q a b => ?_) (fun q a => rfl)
  · rw [up2_ne _ _ _ (by decide), up2_same]; exact hsz
  · rw [up2_same, e0]
  · rw [up2_cell _ _ _ a, up2_cell _ _ _ a]
set_option maxHeartbeats 4000000 in
set_option maxRecDepth 100000 in
theorem mm_X3_findMarks {l : Launch} {g : gT} {k : Nat} {n m w : Int} {I : IM} {L : LM} {T : Int → Int64} (hk : isP k) (hn0 : 0 ≤ n) (hn : n ≤ 40) (hm0 : 2 ≤ m) (hm : m ≤ 5) (hw0 : 1 ≤ w) (hw : w ≤ 8) (hsz : I k 5 = n) (hT : ∀ i, 0 ≤ i → i < n → L (k + 1) i = T i) :
    Ct l yX3_findMarks cX3_findMarks 5 none 1 25 lyC g [.ref (g.2.1 k), .int (zI m), .int (zI w)] I L (pV (fun I' L' => I' k 7 = grm n m ∧ (∀ j, j ≠ 7 → I' k j = I k j) ∧ (∀ i, 0 ≤ i → i < grm n m → I' (k + 2) i = hsh T m i) ∧ (∀ i, 0 ≤ i → i < grm n m → I' (k + 3) i = mkF T n m w i) ∧ (∀ q, q ≠ k → q ≠ k + 2 → q ≠ k + 3 → I' q = I q) ∧ L = L')) := by
  obtain ⟨q1, q2, q3, q4, q5, q6, q7, q8, q9, q10, q11⟩ := hk.f
  have hG0 : grm n m = max 0 (n - m + 1) := rfl
  generalize hG : grm n m = G at *
  have hW0 : min w G = min w G := rfl
  generalize hWd : min w G = W at *
  refine Ct.of RX3 (by decide +kernel) rfl (Nat.le_of_ble_eq_true rfl) (fun x hx F => ?_)
  have loop2 : ∀ (c : Nat) (e : Int) (I1 : IM), c = (G + 1 - e).toNat → W ≤ e → e ≤ G + 1 → I1 k 7 = G → (∀ j, j ≠ 7 → I1 k j = I k j) → (∀ i, 0 ≤ i → i < G → I1 (k + 2) i = hsh T m i) → (∀ i, 0 ≤ i → i < G → I1 (k + 3) i = bi (MkU (hsh T m) W (e - W) i)) → (∀ q, q ≠ k → q ≠ k + 2 → q ≠ k + 3 → I1 q = I q) → Rn x lyC g (pV (fun I' L' => I' k 7 = G ∧ (∀ j, j ≠ 7 → I' k j = I k j) ∧ (∀ i, 0 ≤ i → i < G → I' (k + 2) i = hsh T m i) ∧ (∀ i, 0 ≤ i → i < G → I' (k + 3) i = mkF T n m w i) ∧ (∀ q, q ≠ k → q ≠ k + 2 → q ≠ k + 3 → I' q = I q) ∧ L = L')) 63 [vr g k, vn m, vn w, vn W, vn e] [] I1 L := by
    intro c
    induction c with
    | zero =>
      intro e I1 h1 h2 h3 h4 h5 h6 h7 h8
      have he : e = G + 1 := by omega
      refine rr_iload F dX3_findMarks_63 rfl ?_
      refine rr_aload_n F dX3_findMarks_65 rfl ?_
      refine rg_Page_grams F (by first | rfl | assumption) fl_X3_36 dX3_findMarks_66 ?_
      refine rr_icmp_gt F dX3_findMarks_69 (tgt := 98) (by decide) ⟨by omega, by omega⟩ ⟨by omega, by omega⟩ (fun c_69 => ?_) (fun c_69 => ?_)
      · refine rr_vret F dX3_findMarks_98 ?_
        refine ⟨rfl, h4, h5, h6, fun i a b => ?_, h8, rfl⟩
        rw [h7 i a b, mkF, hG, if_pos ⟨a, b⟩, hWd, he, show G + 1 - W = G - W + 1 by omega]
      · exact absurd c_69 (by omega)
    | succ c ih =>
      intro e I1 h1 h2 h3 h4 h5 h6 h7 h8
      refine rr_iload F dX3_findMarks_63 rfl ?_
      refine rr_aload_n F dX3_findMarks_65 rfl ?_
      refine rg_Page_grams F (by first | rfl | assumption) fl_X3_36 dX3_findMarks_66 ?_
      refine rr_icmp_gt F dX3_findMarks_69 (tgt := 98) (by decide) ⟨by omega, by omega⟩ ⟨by omega, by omega⟩ (fun c_69 => ?_) (fun c_69 => ?_)
      · first | exact absurd c_69 (by omega) | exact rr_vret F dX3_findMarks_98 ⟨rfl, h4, h5, h6, fun i a b => absurd b (by omega), h8, rfl⟩
      · refine rr_iload_n F dX3_findMarks_72 rfl ?_
        refine rr_if_le F dX3_findMarks_73 (tgt := 98) (by decide) ⟨by omega, by omega⟩ (fun c_73 => ?_) (fun c_73 => ?_)
        · first | exact absurd c_69 (by omega) | exact rr_vret F dX3_findMarks_98 ⟨rfl, h4, h5, h6, fun i a b => absurd b (by omega), h8, rfl⟩
        · refine rr_aload_n F dX3_findMarks_76 rfl ?_
          refine rg_Page_isMark F (by first | rfl | assumption) fl_X3_19 dX3_findMarks_77 ?_
          refine rr_aload_n F dX3_findMarks_80 rfl ?_
          refine rr_iload F dX3_findMarks_81 rfl ?_
          refine rr_iload_n F dX3_findMarks_83 rfl ?_
          refine rr_isub F dX3_findMarks_84 ?_
          refine rr_iload F dX3_findMarks_85 rfl ?_
          refine rr_callVI F (ci := 3) (mm_X3_lastOfLeast hk (by omega) (by omega) (by omega) (fun j a b => by rw [h6 j (by omega) (by omega)]; exact hsh_rg _ _ _)) mf_X3_lastOfLeast ml_X3_56 ⟨by decide, by decide⟩ (by first | rfl | assumption) (by decide) rfl rfl (Nat.le_of_ble_eq_true rfl) dX3_findMarks_87 (fun r_87 I_87 L_87 h_87 => ?_)
          obtain ⟨e87, rfl, rfl⟩ := h_87
          have hin := lolF_in (I1 (k + 2)) (e - (e - W + 1)).toNat (e - W + 1) (e - W) (e - W) e (by omega) (by omega) (by omega) (by omega)
          rw [← e87] at hin
          have hlol : r_87 = lolF (hsh T m) (W - 1).toNat (e - W + 1) (e - W) := by
            rw [e87, show e - (e - W + 1) = W - 1 by omega]
            exact lolF_congr (lo := e - W) (hi := e) (fun j a b => h6 j (by omega) (by omega)) _ _ _ (by omega) (by omega) (by omega) (by omega)
          refine rr_iconst F dX3_findMarks_90 ?_
          refine rr_zast F (N := 40) (by first | rfl | assumption) (by omega) (by first | rfl | assumption) (by omega) (by decide) dX3_findMarks_91 ?_
          refine rr_iinc F dX3_findMarks_92 rfl rfl ?_
          refine rr_goto F dX3_findMarks_95 (tgt := 63) (by decide) ?_
          refine ih (e + 1) _ (by omega) (by omega) (by omega) ?_ (fun j a => ?_) (fun i a b => ?_) (fun i a b => ?_) (fun q a b d => ?_)
          · rw [up2_cell _ _ _ (by omega)]; exact h4
          · rw [up2_cell _ _ _ (by omega)]; exact h5 j a
          · rw [up2_cell _ _ _ (by omega)]; exact h6 i a b
          · by_cases z : i = r_87
            · subst z
              rw [up2_same, bi_pos ⟨e - W, by omega, by omega, hlol⟩]
            · rw [up2_ne _ _ _ z, h7 i a b]
              refine bi_congr ⟨fun ⟨f, f1, f2, f3⟩ => ⟨f, f1, by omega, f3⟩, fun ⟨f, f1, f2, f3⟩ => ?_⟩
              by_cases y : f = e - W
              · exact absurd (f3.trans (by rw [y, hlol])) z
              · exact ⟨f, f1, by omega, f3⟩
          · rw [up2_cell _ _ _ d]; exact h8 q a b d
  have loop1 : ∀ (c : Nat) (e : Int) (I1 : IM), c = (G - e).toNat → 0 ≤ e → e ≤ G → I1 k 7 = G → (∀ j, j ≠ 7 → I1 k j = I k j) → (∀ i, 0 ≤ i → i < e → I1 (k + 2) i = hsh T m i) → (∀ i, 0 ≤ i → i < e → I1 (k + 3) i = 0) → (∀ q, q ≠ k → q ≠ k + 2 → q ≠ k + 3 → I1 q = I q) → Rn x lyC g (pV (fun I' L' => I' k 7 = G ∧ (∀ j, j ≠ 7 → I' k j = I k j) ∧ (∀ i, 0 ≤ i → i < G → I' (k + 2) i = hsh T m i) ∧ (∀ i, 0 ≤ i → i < G → I' (k + 3) i = mkF T n m w i) ∧ (∀ q, q ≠ k → q ≠ k + 2 → q ≠ k + 3 → I' q = I q) ∧ L = L')) 18 [vr g k, vn m, vn w, vn e, none] [] I1 L := by
    intro c
    induction c with
    | zero =>
      intro e I1 h1 h2 h3 h4 h5 h6 h7 h8
      have he : e = G := by omega
      refine rr_iload_n F dX3_findMarks_18 rfl ?_
      refine rr_aload_n F dX3_findMarks_19 rfl ?_
      refine rg_Page_grams F (by first | rfl | assumption) fl_X3_36 dX3_findMarks_20 ?_
      refine rr_icmp_ge F dX3_findMarks_23 (tgt := 51) (by decide) ⟨by omega, by omega⟩ ⟨by omega, by omega⟩ (fun c_23 => ?_) (fun c_23 => ?_)
      · refine rr_iload_n F dX3_findMarks_51 rfl ?_
        refine rr_aload_n F dX3_findMarks_52 rfl ?_
        refine rg_Page_grams F (by first | rfl | assumption) fl_X3_36 dX3_findMarks_53 ?_
        refine rr_min F ml_X3_53 ⟨by omega, by omega⟩ ⟨by omega, by omega⟩ (by decide) (Nat.le_of_ble_eq_true rfl) dX3_findMarks_56 ?_
        rw [h4, hWd]
        refine rr_istore_n F dX3_findMarks_59 (Nat.le_of_ble_eq_true rfl) rfl ?_
        refine rr_iload_n F dX3_findMarks_60 rfl ?_
        refine rr_istore F dX3_findMarks_61 (Nat.le_of_ble_eq_true rfl) rfl ?_
        refine loop2 _ W I1 rfl (by omega) (by omega) h4 h5 (fun i a b => h6 i a (by omega)) (fun i a b => ?_) h8
        rw [h7 i a (by omega), bi_neg]
        exact fun ⟨f, f1, f2, f3⟩ => absurd f2 (by omega)
      · exact absurd c_23 (by omega)
    | succ c ih =>
      intro e I1 h1 h2 h3 h4 h5 h6 h7 h8
      refine rr_iload_n F dX3_findMarks_18 rfl ?_
      refine rr_aload_n F dX3_findMarks_19 rfl ?_
      refine rg_Page_grams F (by first | rfl | assumption) fl_X3_36 dX3_findMarks_20 ?_
      refine rr_icmp_ge F dX3_findMarks_23 (tgt := 51) (by decide) ⟨by omega, by omega⟩ ⟨by omega, by omega⟩ (fun c_23 => ?_) (fun c_23 => ?_)
      · exact absurd c_23 (by omega)
      · refine rr_aload_n F dX3_findMarks_26 rfl ?_
        refine rg_Page_hashes F (by first | rfl | assumption) fl_X3_15 dX3_findMarks_27 ?_
        refine rr_iload_n F dX3_findMarks_30 rfl ?_
        refine rr_aload_n F dX3_findMarks_31 rfl ?_
        refine rr_iload_n F dX3_findMarks_32 rfl ?_
        refine rr_iload_n F dX3_findMarks_33 rfl ?_
        refine rr_callVI F (ci := 3) (mm_X3_hashOfGram hk (n := n) (T := T) (by omega) (by omega) (by omega) (by omega) hT) mf_X3_hashOfGram ml_X3_50 ⟨by decide, by decide⟩ (by first | rfl | assumption) (by decide) rfl rfl (Nat.le_of_ble_eq_true rfl) dX3_findMarks_34 (fun r_34 I_34 L_34 h_34 => ?_)
        obtain ⟨e34, rfl, rfl⟩ := h_34
        refine rr_iast F (N := 40) (by first | rfl | assumption) (by omega) (by first | rfl | assumption) (by omega) dX3_findMarks_37 ?_
        refine rr_aload_n F dX3_findMarks_38 rfl ?_
        refine rg_Page_isMark F (by first | rfl | assumption) fl_X3_19 dX3_findMarks_39 ?_
        refine rr_iload_n F dX3_findMarks_42 rfl ?_
        refine rr_iconst F dX3_findMarks_43 ?_
        refine rr_zast F (N := 40) (by first | rfl | assumption) (by omega) (by first | rfl | assumption) (by omega) (by decide) dX3_findMarks_44 ?_
        refine rr_iinc F dX3_findMarks_45 rfl rfl ?_
        refine rr_goto F dX3_findMarks_48 (tgt := 18) (by decide) ?_
        refine ih (e + 1) _ (by omega) (by omega) (by omega) ?_ (fun j a => ?_) (fun i a b => ?_) (fun i a b => ?_) (fun q a b d => ?_)
        · rw [up2_cell _ _ _ (by omega), up2_cell _ _ _ (by omega)]; exact h4
        · rw [up2_cell _ _ _ (by omega), up2_cell _ _ _ (by omega)]; exact h5 j a
        · rw [up2_cell _ _ _ (by omega)]
          by_cases z : i = e
          · subst z; rw [up2_same, e34]
          · rw [up2_ne _ _ _ z]; exact h6 i a (by omega)
        · by_cases z : i = e
          · subst z; rw [up2_same]
          · rw [up2_ne _ _ _ z, up2_cell _ _ _ (by omega)]; exact h7 i a (by omega)
        · rw [up2_cell _ _ _ d, up2_cell _ _ _ b]; exact h8 q a b d
  refine rr_aload_n F dX3_findMarks_0 rfl ?_
  refine rr_iconst F dX3_findMarks_1 ?_
  refine rr_aload_n F dX3_findMarks_2 rfl ?_
  refine rg_Page_size F (by first | rfl | assumption) fl_X3_29 dX3_findMarks_3 ?_
  refine rr_iload_n F dX3_findMarks_6 rfl ?_
  refine rr_isub F dX3_findMarks_7 ?_
  refine rr_iconst F dX3_findMarks_8 ?_
  refine rr_iadd F dX3_findMarks_9 ?_
  refine rr_max F ml_X3_44 ⟨by omega, by omega⟩ ⟨by omega, by omega⟩ (by decide) (Nat.le_of_ble_eq_true rfl) dX3_findMarks_10 ?_
  refine rp_Page_grams F (by first | rfl | assumption) fl_X3_36 dX3_findMarks_13 ?_
  refine rr_iconst F dX3_findMarks_16 ?_
  refine rr_istore_n F dX3_findMarks_17 (Nat.le_of_ble_eq_true rfl) rfl ?_
  refine loop1 _ 0 _ rfl (by omega) (by omega) ?_ (fun j a => ?_) (fun i a b => absurd b (by omega)) (fun i a b => absurd b (by omega)) (fun q a b d => ?_)
  · rw [up2_same, hsz, hG0]
  · rw [up2_ne _ _ _ a]
  · rw [up2_cell _ _ _ a]
end
section
/-! counting marks; setting aside -/
set_option maxHeartbeats 4000000 in
set_option maxRecDepth 100000 in
theorem mm_X3_howManyMarks {l : Launch} {g : gT} {k : Nat} {G : Int} {I : IM} {L : LM} {m : Int → Int} (hk : isP k) (hG0 : 0 ≤ G) (hG : G ≤ 40) (hg : I k 7 = G) (hm : ∀ j, 0 ≤ j → j < G → I (k + 3) j = m j) (h01 : ∀ j, m j = 0 ∨ m j = 1) :
    Ct l yX3_howManyMarks cX3_howManyMarks 3 (some .int) 0 0 lyC g [.ref (g.2.1 k)] I L (pI (fun r I' L' => r = cntF m G.toNat 0 0 ∧ I = I' ∧ L = L')) := by
  obtain ⟨q1, q2, q3, q4, q5, q6, q7, q8, q9, q10, q11⟩ := hk.f
  refine Ct.of RX3 (by decide +kernel) rfl (Nat.le_of_ble_eq_true rfl) (fun x hx F => ?_)
  have loop : ∀ (c : Nat) (i a : Int), c = (G - i).toNat → 0 ≤ i → i ≤ G → 0 ≤ a → a ≤ i → cntF m c i a = cntF m G.toNat 0 0 → Rn x lyC g (pI (fun r I' L' => r = cntF m G.toNat 0 0 ∧ I = I' ∧ L = L')) 4 [vr g k, vn a, vn i] [] I L := by
    intro c
    induction c with
    | zero =>
      intro i a h1 h2 h3 h4 h5 h6
      refine rr_iload_n F dX3_howManyMarks_4 rfl ?_
      refine rr_aload_n F dX3_howManyMarks_5 rfl ?_
      refine rg_Page_grams F (by first | rfl | assumption) fl_X3_36 dX3_howManyMarks_6 ?_
      refine rr_icmp_ge F dX3_howManyMarks_9 (tgt := 30) (by decide) ⟨by omega, by omega⟩ ⟨by omega, by omega⟩ (fun c_9 => ?_) (fun c_9 => ?_)
      · refine rr_iload_n F dX3_howManyMarks_30 rfl ?_
        refine rr_iret F dX3_howManyMarks_31 ?_
        exact ⟨_, rfl, by rw [← h6, cntF], rfl, rfl⟩
      · exact absurd c_9 (by omega)
    | succ c ih =>
      intro i a h1 h2 h3 h4 h5 h6
      have z := h01 i
      refine rr_iload_n F dX3_howManyMarks_4 rfl ?_
      refine rr_aload_n F dX3_howManyMarks_5 rfl ?_
      refine rg_Page_grams F (by first | rfl | assumption) fl_X3_36 dX3_howManyMarks_6 ?_
      refine rr_icmp_ge F dX3_howManyMarks_9 (tgt := 30) (by decide) ⟨by omega, by omega⟩ ⟨by omega, by omega⟩ (fun c_9 => ?_) (fun c_9 => ?_)
      · exact absurd c_9 (by omega)
      · refine rr_aload_n F dX3_howManyMarks_12 rfl ?_
        refine rg_Page_isMark F (by first | rfl | assumption) fl_X3_19 dX3_howManyMarks_13 ?_
        refine rr_iload_n F dX3_howManyMarks_16 rfl ?_
        refine rr_zald F (N := 40) (by first | rfl | assumption) (by omega) (by first | rfl | assumption) (by omega) dX3_howManyMarks_17 ?_
        rw [hm i (by omega) (by omega)]
        refine rr_if_eq F dX3_howManyMarks_18 (tgt := 24) (by decide) ⟨by omega, by omega⟩ (fun c_18 => ?_) (fun c_18 => ?_)
        · refine rr_iinc F dX3_howManyMarks_24 rfl rfl ?_
          refine rr_goto F dX3_howManyMarks_27 (tgt := 4) (by decide) ?_
          exact ih (i + 1) _ (by omega) (by omega) (by omega) (by omega) (by omega) (by rw [← h6, cntF]; first | rw [if_pos c_18] | rw [if_neg c_18])
        · refine rr_iinc F dX3_howManyMarks_21 rfl rfl ?_
          refine rr_iinc F dX3_howManyMarks_24 rfl rfl ?_
          refine rr_goto F dX3_howManyMarks_27 (tgt := 4) (by decide) ?_
          exact ih (i + 1) _ (by omega) (by omega) (by omega) (by omega) (by omega) (by rw [← h6, cntF]; first | rw [if_pos c_18] | rw [if_neg c_18])
  refine rr_iconst F dX3_howManyMarks_0 ?_
  refine rr_istore_n F dX3_howManyMarks_1 (Nat.le_of_ble_eq_true rfl) rfl ?_
  refine rr_iconst F dX3_howManyMarks_2 ?_
  refine rr_istore_n F dX3_howManyMarks_3 (Nat.le_of_ble_eq_true rfl) rfl ?_
  exact loop _ 0 0 rfl (by omega) (by omega) (by omega) (by omega) (by rw [show G - 0 = G by omega])
set_option maxHeartbeats 4000000 in
set_option maxRecDepth 100000 in
theorem mm_X3_gramOfMark {l : Launch} {g : gT} {k : Nat} {G t : Int} {I : IM} {L : LM} {m : Int → Int} (hk : isP k) (hG0 : 0 ≤ G) (hG : G ≤ 40) (ht : rg t) (hg : I k 7 = G) (hm : ∀ j, 0 ≤ j → j < G → I (k + 3) j = m j) (h01 : ∀ j, m j = 0 ∨ m j = 1) :
    Ct l yX3_gramOfMark cX3_gramOfMark 4 (some .int) 0 0 lyC g [.ref (g.2.1 k), .int (zI t)] I L (pI (fun r I' L' => r = nthF m t G.toNat 0 0 ∧ I = I' ∧ L = L')) := by
  obtain ⟨q1, q2, q3, q4, q5, q6, q7, q8, q9, q10, q11⟩ := hk.f
  unfold rg at ht
  refine Ct.of RX3 (by decide +kernel) rfl (Nat.le_of_ble_eq_true rfl) (fun x hx F => ?_)
  have loop : ∀ (c : Nat) (i a : Int), c = (G - i).toNat → 0 ≤ i → i ≤ G → 0 ≤ a → a ≤ i → nthF m t c i a = nthF m t G.toNat 0 0 → Rn x lyC g (pI (fun r I' L' => r = nthF m t G.toNat 0 0 ∧ I = I' ∧ L = L')) 4 [vr g k, vn t, vn a, vn i] [] I L := by
    intro c
    induction c with
    | zero =>
      intro i a h1 h2 h3 h4 h5 h6
      refine rr_iload_n F dX3_gramOfMark_4 rfl ?_
      refine rr_aload_n F dX3_gramOfMark_5 rfl ?_
      refine rg_Page_grams F (by first | rfl | assumption) fl_X3_36 dX3_gramOfMark_6 ?_
      refine rr_icmp_ge F dX3_gramOfMark_9 (tgt := 37) (by decide) ⟨by omega, by omega⟩ ⟨by omega, by omega⟩ (fun c_9 => ?_) (fun c_9 => ?_)
      · refine rr_iconst F dX3_gramOfMark_37 ?_
        refine rr_iret F dX3_gramOfMark_38 ?_
        exact ⟨_, rfl, by rw [← h6, nthF], rfl, rfl⟩
      · exact absurd c_9 (by omega)
    | succ c ih =>
      intro i a h1 h2 h3 h4 h5 h6
      have z := h01 i
      rw [nthF] at h6
      refine rr_iload_n F dX3_gramOfMark_4 rfl ?_
      refine rr_aload_n F dX3_gramOfMark_5 rfl ?_
      refine rg_Page_grams F (by first | rfl | assumption) fl_X3_36 dX3_gramOfMark_6 ?_
      refine rr_icmp_ge F dX3_gramOfMark_9 (tgt := 37) (by decide) ⟨by omega, by omega⟩ ⟨by omega, by omega⟩ (fun c_9 => ?_) (fun c_9 => ?_)
      · exact absurd c_9 (by omega)
      · refine rr_aload_n F dX3_gramOfMark_12 rfl ?_
        refine rg_Page_isMark F (by first | rfl | assumption) fl_X3_19 dX3_gramOfMark_13 ?_
        refine rr_iload_n F dX3_gramOfMark_16 rfl ?_
        refine rr_zald F (N := 40) (by first | rfl | assumption) (by omega) (by first | rfl | assumption) (by omega) dX3_gramOfMark_17 ?_
        rw [hm i (by omega) (by omega)]
        refine rr_if_eq F dX3_gramOfMark_18 (tgt := 31) (by decide) ⟨by omega, by omega⟩ (fun c_18 => ?_) (fun c_18 => ?_)
        · refine rr_iinc F dX3_gramOfMark_31 rfl rfl ?_
          refine rr_goto F dX3_gramOfMark_34 (tgt := 4) (by decide) ?_
          exact ih (i + 1) _ (by omega) (by omega) (by omega) (by omega) (by omega) (by first | rw [← h6, if_pos c_18] | rw [← h6, if_neg c_18, if_neg c_23])
        · refine rr_iload_n F dX3_gramOfMark_21 rfl ?_
          refine rr_iload_n F dX3_gramOfMark_22 rfl ?_
          refine rr_icmp_ne F dX3_gramOfMark_23 (tgt := 28) (by decide) ⟨by omega, by omega⟩ ⟨by omega, by omega⟩ (fun c_23 => ?_) (fun c_23 => ?_)
          · refine rr_iinc F dX3_gramOfMark_28 rfl rfl ?_
            refine rr_iinc F dX3_gramOfMark_31 rfl rfl ?_
            refine rr_goto F dX3_gramOfMark_34 (tgt := 4) (by decide) ?_
            exact ih (i + 1) _ (by omega) (by omega) (by omega) (by omega) (by omega) (by first | rw [← h6, if_pos c_18] | rw [← h6, if_neg c_18, if_neg c_23])
          · refine rr_iload_n F dX3_gramOfMark_26 rfl ?_
            refine rr_iret F dX3_gramOfMark_27 ?_
            exact ⟨_, rfl, by rw [← h6, if_neg c_18, if_pos c_23], rfl, rfl⟩
  refine rr_iconst F dX3_gramOfMark_0 ?_
  refine rr_istore_n F dX3_gramOfMark_1 (Nat.le_of_ble_eq_true rfl) rfl ?_
  refine rr_iconst F dX3_gramOfMark_2 ?_
  refine rr_istore_n F dX3_gramOfMark_3 (Nat.le_of_ble_eq_true rfl) rfl ?_
  exact loop _ 0 0 rfl (by omega) (by omega) (by omega) (by omega) (by rw [show G - 0 = G by omega])
/-- v is the length of the longest run that ends at i and at j -/
def Sf (T G : Int → Int64) (i j v : Int) : Prop := 0 ≤ v ∧ v ≤ i + 1 ∧ v ≤ j + 1 ∧ (∀ t, 0 ≤ t → t < v → T (i - t) = G (j - t)) ∧ (v = i + 1 ∨ v = j + 1 ∨ T (i - v) ≠ G (j - v))
theorem Sf_ge {T G : Int → Int64} {i j v : Int} (h : Sf T G i j v) (len : Int) (hl : 1 ≤ len) : len ≤ v ↔ len ≤ i + 1 ∧ len ≤ j + 1 ∧ ∀ t, 0 ≤ t → t < len → T (i - t) = G (j - t) := by
  obtain ⟨h1, h2, h3, h4, h5⟩ := h
  constructor
  · intro z; exact ⟨by omega, by omega, fun t a b => h4 t a (by omega)⟩
  · intro ⟨z1, z2, z3⟩
    rcases h5 with e | e | e
    · omega
    · omega
    · exact Classical.byContradiction (fun y => e (z3 v h1 (by omega)))
theorem Sf_up {T G : Int → Int64} {i j v : Int} (h : Sf T G (i - 1) (j - 1) v) (e : T i = G j) : Sf T G i j (v + 1) := by
  obtain ⟨h1, h2, h3, h4, h5⟩ := h
  refine ⟨by omega, by omega, by omega, fun t a b => ?_, ?_⟩
  · by_cases z : t = 0
    · subst z; rw [Int.sub_zero, Int.sub_zero]; exact e
    · have := h4 (t - 1) (by omega) (by omega)
      rw [show i - 1 - (t - 1) = i - t by omega, show j - 1 - (t - 1) = j - t by omega] at this
      exact this
  · rcases h5 with q | q | q
    · left; omega
    · right; left; omega
    · right; right
      rw [show i - (v + 1) = i - 1 - v by omega, show j - (v + 1) = j - 1 - v by omega]
      exact q
theorem Sf_no {T G : Int → Int64} {i j : Int} (hi : 0 ≤ i) (hj : 0 ≤ j) (e : ¬ T i = G j) : Sf T G i j 0 :=
  ⟨by omega, by omega, by omega, fun t a b => absurd b (by omega), Or.inr (Or.inr (by rw [Int.sub_zero, Int.sub_zero]; exact e))⟩
theorem Sf_z1 (T G : Int → Int64) {j : Int} (hj : 0 ≤ j) : Sf T G (-1) j 0 := ⟨by omega, by omega, by omega, fun t a b => absurd b (by omega), Or.inl (by omega)⟩
theorem Sf_z2 (T G : Int → Int64) {i : Int} (hi : -1 ≤ i) : Sf T G i (-1) 0 := ⟨by omega, by omega, by omega, fun t a b => absurd b (by omega), Or.inr (Or.inl (by omega))⟩
/-- a stretch of length len that ends at i stands in G -/
def Ed (T G : Int → Int64) (m len i : Int) : Prop := ∃ j, 0 ≤ j ∧ j < m ∧ len ≤ i + 1 ∧ len ≤ j + 1 ∧ ∀ t, 0 ≤ t → t < len → T (i - t) = G (j - t)
/-- token c is within a stretch of length len that stands in G -/
def AsP (T : Int → Int64) (n : Int) (G : Int → Int64) (m len c : Int) : Prop := ∃ a b, 0 ≤ a ∧ a + len ≤ n ∧ 0 ≤ b ∧ b + len ≤ m ∧ a ≤ c ∧ c < a + len ∧ ∀ t, 0 ≤ t → t < len → T (a + t) = G (b + t)
theorem AsP_Ed {T G : Int → Int64} {n m len c : Int} (hl : 1 ≤ len) : AsP T n G m len c ↔ ∃ e, 0 ≤ e ∧ e < n ∧ Ed T G m len e ∧ e - len < c ∧ c ≤ e := by
  constructor
  · intro ⟨a, b, h1, h2, h3, h4, h5, h6, h7⟩
    refine ⟨a + len - 1, by omega, by omega, ⟨b + len - 1, by omega, by omega, by omega, by omega, fun t x y => ?_⟩, by omega, by omega⟩
    have := h7 (len - 1 - t) (by omega) (by omega)
    rw [show a + (len - 1 - t) = a + len - 1 - t by omega, show b + (len - 1 - t) = b + len - 1 - t by omega] at this
    exact this
  · intro ⟨e, h1, h2, ⟨j, g1, g2, g3, g4, g5⟩, h4, h5⟩
    refine ⟨e - len + 1, j - len + 1, by omega, by omega, by omega, by omega, by omega, by omega, fun t x y => ?_⟩
    have := g5 (len - 1 - t) (by omega) (by omega)
    rw [show e - (len - 1 - t) = e - len + 1 + t by omega, show j - (len - 1 - t) = j - len + 1 + t by omega] at this
    exact this
/-- v is nothing, or one of f's behind j -/
def Mx (f : Int → Int) (j m v : Int) : Prop := v = 0 ∨ ∃ j', j < j' ∧ j' < m ∧ v = f j'
set_option maxHeartbeats 4000000 in
set_option maxRecDepth 100000 in
theorem mm_X3_longestSharedUpTo {l : Launch} {g : gT} {k q : Nat} {n m i : Int} {I : IM} {L : LM} {T G : Int → Int64} (hk : isP k) (hq : isP q) (hkq : q ≠ k) (hn : n ≤ 40) (hm0 : 0 ≤ m) (hm : m ≤ 40) (hi0 : 0 ≤ i) (hi : i < n) (hsz : I q 5 = m) (hT : ∀ j, 0 ≤ j → j < n → L (k + 1) j = T j) (hG : ∀ j, 0 ≤ j → j < m → L (q + 1) j = G j) (hS : ∀ j, 0 ≤ j → j < m → Sf T G (i - 1) j (I (k + 5) j)) :
    Ct l yX3_longestSharedUpTo cX3_longestSharedUpTo 6 (some .int) 0 0 lyC g [.ref (g.2.1 k), .int (zI i), .ref (g.2.1 q)] I L (pI (fun r I' L' => (0 ≤ r ∧ r ≤ 40) ∧ (∀ len, 1 ≤ len → (len ≤ r ↔ Ed T G m len i)) ∧ (∀ j, 0 ≤ j → j < m → Sf T G i j (I' (k + 5) j)) ∧ (∀ c, c ≠ k + 5 → I' c = I c) ∧ L = L')) := by
  obtain ⟨q1, q2, q3, q4, q5, q6, q7, q8, q9, q10, q11⟩ := hk.f
  obtain ⟨p1, p2, p3, p4, p5, p6, p7, p8, p9, p10, p11⟩ := hq.f
  have hne : q ≠ k + 5 := by rcases hk with rfl | rfl | rfl <;> rcases hq with rfl | rfl | rfl <;> decide
  refine Ct.of RX3 (by decide +kernel) rfl (Nat.le_of_ble_eq_true rfl) (fun x hx F => ?_)
  have loop : ∀ (c : Nat) (j v : Int) (I1 : IM), c = (j + 1).toNat → -1 ≤ j → j < m → (0 ≤ v ∧ v ≤ 40) → (∀ j', j < j' → j' < m → Sf T G i j' (I1 (k + 5) j')) → (∀ j', 0 ≤ j' → j' ≤ j → Sf T G (i - 1) j' (I1 (k + 5) j')) → (∀ j', j < j' → j' < m → I1 (k + 5) j' ≤ v) → Mx (I1 (k + 5)) j m v → (∀ c, c ≠ k + 5 → I1 c = I c) → Rn x lyC g (pI (fun r I' L' => (0 ≤ r ∧ r ≤ 40) ∧ (∀ len, 1 ≤ len → (len ≤ r ↔ Ed T G m len i)) ∧ (∀ j, 0 ≤ j → j < m → Sf T G i j (I' (k + 5) j)) ∧ (∀ c, c ≠ k + 5 → I' c = I c) ∧ L = L')) 10 [vr g k, vn i, vr g q, vn v, vn j, none] [] I1 L := by
    intro c
    induction c with
    | zero =>
      intro j v I1 h1 h2 h3 h4 h5 h6 h7 h8 h9
      have e : j = -1 := by omega
      refine rr_iload F dX3_longestSharedUpTo_10 rfl ?_
      refine rr_if_lt F dX3_longestSharedUpTo_12 (tgt := 92) (by decide) ⟨by omega, by omega⟩ (fun c_12 => ?_) (fun c_12 => ?_)
      · refine rr_iload_n F dX3_longestSharedUpTo_92 rfl ?_
        refine rr_iret F dX3_longestSharedUpTo_93 ?_
        refine ⟨_, rfl, h4, fun len hl => ⟨fun z => ?_, fun ⟨j', g1, g2, g3⟩ => ?_⟩, fun j' a b => h5 j' (by omega) b, h9, rfl⟩
        · rcases h8 with y | ⟨j', y1, y2, y3⟩
          · omega
          · exact ⟨j', by omega, y2, (Sf_ge (h5 j' (by omega) y2) len hl).mp (by omega)⟩
        · have y1 := (Sf_ge (h5 j' (by omega) g2) len hl).mpr g3
          have y2 := h7 j' (by omega) g2
          omega
      · exact absurd c_12 (by omega)
    | succ c ih =>
      intro j v I1 h1 h2 h3 h4 h5 h6 h7 h8 h9
      have hsz1 : I1 q 5 = m := by rw [h9 q hne]; exact hsz
      have fin : ∀ nv v' : Int, Sf T G i j nv → v' = max v nv → Rn x lyC g (pI (fun r I' L' => (0 ≤ r ∧ r ≤ 40) ∧ (∀ len, 1 ≤ len → (len ≤ r ↔ Ed T G m len i)) ∧ (∀ j, 0 ≤ j → j < m → Sf T G i j (I' (k + 5) j)) ∧ (∀ c, c ≠ k + 5 → I' c = I c) ∧ L = L')) 10 [vr g k, vn i, vr g q, vn v', vn (j + -1), none] [] (up2 I1 (k + 5) j nv) L := by
        intro nv v' hs hv
        have hs' := hs
        obtain ⟨s1, s2, s3, -⟩ := hs'
        refine ih (j + -1) v' _ (by omega) (by omega) (by omega) (by omega) (fun j' a b => ?_) (fun j' a b => ?_) (fun j' a b => ?_) ?_ (fun c a => ?_)
        · by_cases e : j' = j
          · subst e; rw [up2_same]; exact hs
          · rw [up2_ne _ _ _ e]; exact h5 j' (by omega) b
        · rw [up2_ne _ _ _ (by omega)]; exact h6 j' a (by omega)
        · by_cases e : j' = j
          · subst e; rw [up2_same]; omega
          · rw [up2_ne _ _ _ e]; have := h7 j' (by omega) b; omega
        · by_cases e : v ≤ nv
          · right; exact ⟨j, by omega, by omega, by rw [up2_same]; omega⟩
          · rcases h8 with y | ⟨j', y1, y2, y3⟩
            · omega
            · right; exact ⟨j', by omega, y2, by rw [up2_ne _ _ _ (by omega)]; omega⟩
        · rw [up2_cell _ _ _ a]; exact h9 c a
      have tail : ∀ b : Int, Sf T G (i - 1) (j - 1) b → Rn x lyC g (pI (fun r I' L' => (0 ≤ r ∧ r ≤ 40) ∧ (∀ len, 1 ≤ len → (len ≤ r ↔ Ed T G m len i)) ∧ (∀ j, 0 ≤ j → j < m → Sf T G i j (I' (k + 5) j)) ∧ (∀ c, c ≠ k + 5 → I' c = I c) ∧ L = L')) 35 [vr g k, vn i, vr g q, vn v, vn j, vn b] [] I1 L := by
        intro b hb
        have hb' := hb
        obtain ⟨b1, b2, b3, -⟩ := hb'
        have t1 := hT i hi0 hi
        have t2 := hG j (by omega) h3
        refine rr_aload_n F dX3_longestSharedUpTo_35 rfl ?_
        refine rg_Page_sharedLengths F (by first | rfl | assumption) fl_X3_26 dX3_longestSharedUpTo_36 ?_
        refine rr_iload F dX3_longestSharedUpTo_39 rfl ?_
        refine rr_aload_n F dX3_longestSharedUpTo_41 rfl ?_
        refine rg_Page_tokens F (by first | rfl | assumption) fl_X3_9 dX3_longestSharedUpTo_42 ?_
        refine rr_iload_n F dX3_longestSharedUpTo_45 rfl ?_
        refine rr_lald F (N := 40) (by first | rfl | assumption) (by omega) (by first | rfl | assumption) (by omega) dX3_longestSharedUpTo_46 ?_
        refine rr_aload_n F dX3_longestSharedUpTo_47 rfl ?_
        refine rg_Page_tokens F (by first | rfl | assumption) fl_X3_9 dX3_longestSharedUpTo_48 ?_
        refine rr_iload F dX3_longestSharedUpTo_51 rfl ?_
        refine rr_lald F (N := 40) (by first | rfl | assumption) (by omega) (by first | rfl | assumption) (by omega) dX3_longestSharedUpTo_53 ?_
        rw [t1, t2]
        refine rr_lcmp F dX3_longestSharedUpTo_54 ?_
        refine rr_lif_ne F dX3_longestSharedUpTo_55 (tgt := 65) (by decide) (fun c_55 => ?_) (fun c_55 => ?_)
        · refine rr_iconst F dX3_longestSharedUpTo_65 ?_
          refine rr_iast F (N := 40) (by first | rfl | assumption) (by omega) (by first | rfl | assumption) (by omega) dX3_longestSharedUpTo_66 ?_
          refine rr_aload_n F dX3_longestSharedUpTo_67 rfl ?_
          refine rg_Page_sharedLengths F (by first | rfl | assumption) fl_X3_26 dX3_longestSharedUpTo_68 ?_
          refine rr_iload F dX3_longestSharedUpTo_71 rfl ?_
          refine rr_iald F (N := 40) (by first | rfl | assumption) (by omega) (by first | rfl | assumption) (by omega) dX3_longestSharedUpTo_73 ?_
          rw [up2_same]
          refine rr_iload_n F dX3_longestSharedUpTo_74 rfl ?_
          refine rr_icmp_le F dX3_longestSharedUpTo_75 (tgt := 86) (by decide) ⟨by omega, by omega⟩ ⟨by omega, by omega⟩ (fun c_75 => ?_) (fun c_75 => ?_)
          · refine rr_iinc F dX3_longestSharedUpTo_86 rfl rfl ?_
            refine rr_goto F dX3_longestSharedUpTo_89 (tgt := 10) (by decide) ?_
            refine rr_drop 5 ?_
            first | exact fin _ _ (Sf_up hb c_55) (by omega) | exact fin _ _ (Sf_no hi0 (by omega) c_55) (by omega)
          · refine rr_aload_n F dX3_longestSharedUpTo_78 rfl ?_
            refine rg_Page_sharedLengths F (by first | rfl | assumption) fl_X3_26 dX3_longestSharedUpTo_79 ?_
            refine rr_iload F dX3_longestSharedUpTo_82 rfl ?_
            refine rr_iald F (N := 40) (by first | rfl | assumption) (by omega) (by first | rfl | assumption) (by omega) dX3_longestSharedUpTo_84 ?_
            rw [up2_same]
            refine rr_istore_n F dX3_longestSharedUpTo_85 (Nat.le_of_ble_eq_true rfl) rfl ?_
            refine rr_iinc F dX3_longestSharedUpTo_86 rfl rfl ?_
            refine rr_goto F dX3_longestSharedUpTo_89 (tgt := 10) (by decide) ?_
            refine rr_drop 5 ?_
            first | exact fin _ _ (Sf_up hb c_55) (by omega) | exact fin _ _ (Sf_no hi0 (by omega) c_55) (by omega)
        · refine rr_iload F dX3_longestSharedUpTo_58 rfl ?_
          refine rr_iconst F dX3_longestSharedUpTo_60 ?_
          refine rr_iadd F dX3_longestSharedUpTo_61 ?_
          refine rr_goto F dX3_longestSharedUpTo_62 (tgt := 66) (by decide) ?_
          refine rr_iast F (N := 40) (by first | rfl | assumption) (by omega) (by first | rfl | assumption) (by omega) dX3_longestSharedUpTo_66 ?_
          refine rr_aload_n F dX3_longestSharedUpTo_67 rfl ?_
          refine rg_Page_sharedLengths F (by first | rfl | assumption) fl_X3_26 dX3_longestSharedUpTo_68 ?_
          refine rr_iload F dX3_longestSharedUpTo_71 rfl ?_
          refine rr_iald F (N := 40) (by first | rfl | assumption) (by omega) (by first | rfl | assumption) (by omega) dX3_longestSharedUpTo_73 ?_
          rw [up2_same]
          refine rr_iload_n F dX3_longestSharedUpTo_74 rfl ?_
          refine rr_icmp_le F dX3_longestSharedUpTo_75 (tgt := 86) (by decide) ⟨by omega, by omega⟩ ⟨by omega, by omega⟩ (fun c_75 => ?_) (fun c_75 => ?_)
          · refine rr_iinc F dX3_longestSharedUpTo_86 rfl rfl ?_
            refine rr_goto F dX3_longestSharedUpTo_89 (tgt := 10) (by decide) ?_
            refine rr_drop 5 ?_
            first | exact fin _ _ (Sf_up hb c_55) (by omega) | exact fin _ _ (Sf_no hi0 (by omega) c_55) (by omega)
          · refine rr_aload_n F dX3_longestSharedUpTo_78 rfl ?_
            refine rg_Page_sharedLengths F (by first | rfl | assumption) fl_X3_26 dX3_longestSharedUpTo_79 ?_
            refine rr_iload F dX3_longestSharedUpTo_82 rfl ?_
            refine rr_iald F (N := 40) (by first | rfl | assumption) (by omega) (by first | rfl | assumption) (by omega) dX3_longestSharedUpTo_84 ?_
            rw [up2_same]
            refine rr_istore_n F dX3_longestSharedUpTo_85 (Nat.le_of_ble_eq_true rfl) rfl ?_
            refine rr_iinc F dX3_longestSharedUpTo_86 rfl rfl ?_
            refine rr_goto F dX3_longestSharedUpTo_89 (tgt := 10) (by decide) ?_
            refine rr_drop 5 ?_
            first | exact fin _ _ (Sf_up hb c_55) (by omega) | exact fin _ _ (Sf_no hi0 (by omega) c_55) (by omega)
      refine rr_iload F dX3_longestSharedUpTo_10 rfl ?_
      refine rr_if_lt F dX3_longestSharedUpTo_12 (tgt := 92) (by decide) ⟨by omega, by omega⟩ (fun c_12 => ?_) (fun c_12 => ?_)
      · exact absurd c_12 (by omega)
      · refine rr_iload F dX3_longestSharedUpTo_15 rfl ?_
        refine rr_if_le F dX3_longestSharedUpTo_17 (tgt := 32) (by decide) ⟨by omega, by omega⟩ (fun c_17 => ?_) (fun c_17 => ?_)
        · refine rr_iconst F dX3_longestSharedUpTo_32 ?_
          refine rr_istore F dX3_longestSharedUpTo_33 (Nat.le_of_ble_eq_true rfl) rfl ?_
          first | exact tail _ (h6 (j - 1) (by omega) (by omega)) | (have e : j - 1 = -1 := (by omega); exact tail 0 (by rw [e]; exact Sf_z2 T G (by omega)))
        · refine rr_aload_n F dX3_longestSharedUpTo_20 rfl ?_
          refine rg_Page_sharedLengths F (by first | rfl | assumption) fl_X3_26 dX3_longestSharedUpTo_21 ?_
          refine rr_iload F dX3_longestSharedUpTo_24 rfl ?_
          refine rr_iconst F dX3_longestSharedUpTo_26 ?_
          refine rr_isub F dX3_longestSharedUpTo_27 ?_
          refine rr_iald F (N := 40) (by first | rfl | assumption) (by omega) (by first | rfl | assumption) (by omega) dX3_longestSharedUpTo_28 ?_
          have y := h6 (j - 1) (by omega) (by omega)
          refine rr_goto F dX3_longestSharedUpTo_29 (tgt := 33) (by decide) ?_
          refine rr_istore F dX3_longestSharedUpTo_33 (Nat.le_of_ble_eq_true rfl) rfl ?_
          first | exact tail _ (h6 (j - 1) (by omega) (by omega)) | (have e : j - 1 = -1 := (by omega); exact tail 0 (by rw [e]; exact Sf_z2 T G (by omega)))
  refine rr_iconst F dX3_longestSharedUpTo_0 ?_
  refine rr_istore_n F dX3_longestSharedUpTo_1 (Nat.le_of_ble_eq_true rfl) rfl ?_
  refine rr_aload_n F dX3_longestSharedUpTo_2 rfl ?_
  refine rg_Page_size F (by first | rfl | assumption) fl_X3_29 dX3_longestSharedUpTo_3 ?_
  refine rr_iconst F dX3_longestSharedUpTo_6 ?_
  refine rr_isub F dX3_longestSharedUpTo_7 ?_
  refine rr_istore F dX3_longestSharedUpTo_8 (Nat.le_of_ble_eq_true rfl) rfl ?_
  rw [hsz]
  refine loop _ (m - 1) 0 I rfl (by omega) (by omega) (by omega) (fun j' a b => absurd a (by omega)) (fun j' a b => hS j' a (by omega)) (fun j' a b => absurd a (by omega)) (Or.inl rfl) (fun c a => rfl)
set_option maxHeartbeats 4000000 in
set_option maxRecDepth 100000 in
theorem mm_X3_setAside {l : Launch} {g : gT} {k q : Nat} {n m len : Int} {I : IM} {L : LM} {T G : Int → Int64} (hk : isP k) (hq : isP q) (hkq : q ≠ k) (hn0 : 0 ≤ n) (hn : n ≤ 40) (hm0 : 0 ≤ m) (hm : m ≤ 40) (hl0 : 1 ≤ len) (hl : len ≤ 40) (hsz : I k 5 = n) (hszq : I q 5 = m) (hla : rg (I k 6)) (hlb : rg (I q 6)) (hT : ∀ j, 0 ≤ j → j < n → L (k + 1) j = T j) (hG : ∀ j, 0 ≤ j → j < m → L (q + 1) j = G j) (hz : ∀ j, 0 ≤ j → j < n → I (k + 4) j = 0) :
    Ct l yX3_setAside cX3_setAside 5 none 1 25 lyC g [.ref (g.2.1 k), .ref (g.2.1 q), .int (zI len)] I L (pV (fun I' L' => (∀ c, 0 ≤ c → c < n → I' (k + 4) c = bi (I k 6 = I q 6 ∧ AsP T n G m len c)) ∧ (∀ c, c ≠ k + 4 → c ≠ k + 5 → I' c = I c) ∧ L = L')) := by
  obtain ⟨q1, q2, q3, q4, q5, q6, q7, q8, q9, q10, q11⟩ := hk.f
  obtain ⟨p1, p2, p3, p4, p5, p6, p7, p8, p9, p10, p11⟩ := hq.f
  have hne : q ≠ k + 5 ∧ q ≠ k + 4 := by rcases hk with rfl | rfl | rfl <;> rcases hq with rfl | rfl | rfl <;> decide
  refine Ct.of RX3 (by decide +kernel) rfl (Nat.le_of_ble_eq_true rfl) (fun x hx F => ?_)
  generalize hpost : (pV (fun (I' : IM) (L' : LM) => (∀ c, 0 ≤ c → c < n → I' (k + 4) c = bi (I k 6 = I q 6 ∧ AsP T n G m len c)) ∧ (∀ c, c ≠ k + 4 → c ≠ k + 5 → I' c = I c) ∧ L = L')) = post
  have loop2 : I k 6 = I q 6 → ∀ (c : Nat) (i : Int) (I1 : IM), c = (n - i).toNat → 0 ≤ i → i ≤ n → (∀ j, 0 ≤ j → j < m → Sf T G (i - 1) j (I1 (k + 5) j)) → (∀ c, 0 ≤ c → c < n → I1 (k + 4) c = bi (∃ e, 0 ≤ e ∧ e < i ∧ Ed T G m len e ∧ e - len < c ∧ c ≤ e)) → (∀ c, c ≠ k + 4 → c ≠ k + 5 → I1 c = I c) → Rn x lyC g post 37 [vr g k, vr g q, vn len, vn i, none] [] I1 L := by
    intro hll c
    induction c with
    | zero =>
      intro i I1 h1 h2 h3 h4 h5 h6
      have hs1 : I1 k 5 = n := by rw [h6 k (by omega) (by omega)]; exact hsz
      have e : i = n := by omega
      refine rr_iload_n F dX3_setAside_37 rfl ?_
      refine rr_aload_n F dX3_setAside_38 rfl ?_
      refine rg_Page_size F (by first | rfl | assumption) fl_X3_29 dX3_setAside_39 ?_
      refine rr_icmp_ge F dX3_setAside_42 (tgt := 92) (by decide) ⟨by omega, by omega⟩ ⟨by omega, by omega⟩ (fun c_42 => ?_) (fun c_42 => ?_)
      · refine rr_vret F dX3_setAside_92 ?_
        rw [← hpost]
        refine ⟨rfl, fun c a b => ?_, h6, rfl⟩
        rw [h5 c a b, e]
        refine bi_congr ⟨fun z => ⟨hll, (AsP_Ed hl0).mpr z⟩, fun z => (AsP_Ed hl0).mp z.2⟩
      · exact absurd c_42 (by omega)
    | succ c ih =>
      intro i I1 h1 h2 h3 h4 h5 h6
      have hs1 : I1 k 5 = n := by rw [h6 k (by omega) (by omega)]; exact hsz
      have hs2 : I1 q 5 = m := by rw [h6 q hne.2 hne.1]; exact hszq
      have inner : ∀ (I2 : IM), Ed T G m len i → (∀ j, 0 ≤ j → j < m → Sf T G i j (I2 (k + 5) j)) → (∀ c, c ≠ k + 5 → I2 c = I1 c) → ∀ (d : Nat) (t : Int) (I3 : IM), d = (len - t).toNat → 0 ≤ t → t ≤ len → (∀ c, 0 ≤ c → c < n → I3 (k + 4) c = bi ((∃ e, 0 ≤ e ∧ e < i ∧ Ed T G m len e ∧ e - len < c ∧ c ≤ e) ∨ (i - t < c ∧ c ≤ i))) → (∀ c, c ≠ k + 4 → I3 c = I2 c) → Rn x lyC g post 58 [vr g k, vr g q, vn len, vn i, vn t] [] I3 L := by
        intro I2 hE g1 g2 d
        have hE' := hE
        obtain ⟨j0, y1, y2, y3, y4, -⟩ := hE'
        induction d with
        | zero =>
          intro t I3 e1 e2 e3 e4 e5
          have et : t = len := by omega
          refine rr_iload F dX3_setAside_58 rfl ?_
          refine rr_iload_n F dX3_setAside_60 rfl ?_
          refine rr_icmp_ge F dX3_setAside_61 (tgt := 86) (by decide) ⟨by omega, by omega⟩ ⟨by omega, by omega⟩ (fun c_61 => ?_) (fun c_61 => ?_)
          · refine rr_iinc F dX3_setAside_86 rfl rfl ?_
            refine rr_goto F dX3_setAside_89 (tgt := 37) (by decide) ?_
            refine rr_drop 4 ?_
            refine ih (i + 1) I3 (by omega) (by omega) (by omega) (fun j a b => ?_) (fun c a b => ?_) (fun c a b => ?_)
            · rw [e5 _ (by omega), show i + 1 - 1 = i by omega]; exact g1 j a b
            · rw [e4 c a b, et]
              refine bi_congr ⟨fun z => ?_, fun ⟨e, z1, z2, z3, z4, z5⟩ => ?_⟩
              · rcases z with ⟨e, z1, z2, z3⟩ | z
                · exact ⟨e, z1, by omega, z3⟩
                · exact ⟨i, h2, by omega, hE, z⟩
              · by_cases y : e = i
                · subst y; exact Or.inr ⟨z4, z5⟩
                · exact Or.inl ⟨e, z1, by omega, z3, z4, z5⟩
            · rw [e5 _ a, g2 _ b]; exact h6 c a b
          · exact absurd c_61 (by omega)
        | succ d ihd =>
          intro t I3 e1 e2 e3 e4 e5
          refine rr_iload F dX3_setAside_58 rfl ?_
          refine rr_iload_n F dX3_setAside_60 rfl ?_
          refine rr_icmp_ge F dX3_setAside_61 (tgt := 86) (by decide) ⟨by omega, by omega⟩ ⟨by omega, by omega⟩ (fun c_61 => ?_) (fun c_61 => ?_)
          · exact absurd c_61 (by omega)
          · refine rr_iload F dX3_setAside_64 rfl ?_
            refine rr_iload_n F dX3_setAside_66 rfl ?_
            skip
            refine rr_icmp_gt F dX3_setAside_67 (tgt := 86) (by decide) ⟨by omega, by omega⟩ ⟨by omega, by omega⟩ (fun c_67 => ?_) (fun c_67 => ?_)
            · exact absurd c_61 (by omega)
            · refine rr_aload_n F dX3_setAside_70 rfl ?_
              refine rg_Page_isAside F (by first | rfl | assumption) fl_X3_23 dX3_setAside_71 ?_
              refine rr_iload_n F dX3_setAside_74 rfl ?_
              refine rr_iload F dX3_setAside_75 rfl ?_
              refine rr_isub F dX3_setAside_77 ?_
              refine rr_iconst F dX3_setAside_78 ?_
              refine rr_zast F (N := 40) (by first | rfl | assumption) (by omega) (by first | rfl | assumption) (by omega) (by decide) dX3_setAside_79 ?_
              refine rr_iinc F dX3_setAside_80 rfl rfl ?_
              refine rr_goto F dX3_setAside_83 (tgt := 58) (by decide) ?_
              refine ihd (t + 1) _ (by omega) (by omega) (by omega) (fun c a b => ?_) (fun c a => ?_)
              · by_cases z : c = i - t
                · subst z; rw [up2_same, bi_pos (Or.inr ⟨by omega, by omega⟩)]
                · rw [up2_ne _ _ _ z, e4 c a b]
                  refine bi_congr ⟨fun y => y.elim Or.inl (fun y => Or.inr ⟨by omega, by omega⟩), fun y => y.elim Or.inl (fun y => Or.inr ⟨by omega, by omega⟩)⟩
              · rw [up2_cell _ _ _ a]; exact e5 c a
      refine rr_iload_n F dX3_setAside_37 rfl ?_
      refine rr_aload_n F dX3_setAside_38 rfl ?_
      refine rg_Page_size F (by first | rfl | assumption) fl_X3_29 dX3_setAside_39 ?_
      refine rr_icmp_ge F dX3_setAside_42 (tgt := 92) (by decide) ⟨by omega, by omega⟩ ⟨by omega, by omega⟩ (fun c_42 => ?_) (fun c_42 => ?_)
      · exact absurd c_42 (by omega)
      · refine rr_aload_n F dX3_setAside_45 rfl ?_
        refine rr_iload_n F dX3_setAside_46 rfl ?_
        refine rr_aload_n F dX3_setAside_47 rfl ?_
        refine rr_callVI F (ci := 3) (mm_X3_longestSharedUpTo hk hq hkq hn hm0 hm (by omega) (by omega) hs2 hT hG h4) mf_X3_longestSharedUpTo ml_X3_65 ⟨by decide, by decide⟩ (by first | rfl | assumption) (by decide) rfl rfl (Nat.le_of_ble_eq_true rfl) dX3_setAside_48 (fun r_48 I_48 L_48 h_48 => ?_)
        obtain ⟨r1, r2, r3, r4, rfl⟩ := h_48
        refine rr_iload_n F dX3_setAside_51 rfl ?_
        refine rr_icmp_lt F dX3_setAside_52 (tgt := 86) (by decide) ⟨by omega, by omega⟩ ⟨by omega, by omega⟩ (fun c_52 => ?_) (fun c_52 => ?_)
        · refine rr_iinc F dX3_setAside_86 rfl rfl ?_
          refine rr_goto F dX3_setAside_89 (tgt := 37) (by decide) ?_
          refine ih (i + 1) I_48 (by omega) (by omega) (by omega) (fun j a b => ?_) (fun c a b => ?_) (fun c a b => ?_)
          · rw [show i + 1 - 1 = i by omega]; exact r3 j a b
          · rw [r4 _ (by omega), h5 c a b]
            refine bi_congr ⟨fun ⟨e, z1, z2, z3⟩ => ⟨e, z1, by omega, z3⟩, fun ⟨e, z1, z2, z3, z4⟩ => ?_⟩
            by_cases y : e = i
            · subst y; exact absurd ((r2 len hl0).mpr z3) (by omega)
            · exact ⟨e, z1, by omega, z3, z4⟩
          · rw [r4 _ b]; exact h6 c a b
        · refine rr_iconst F dX3_setAside_55 ?_
          refine rr_istore F dX3_setAside_56 (Nat.le_of_ble_eq_true rfl) rfl ?_
          refine inner I_48 ((r2 len hl0).mp (by omega)) r3 r4 _ 0 I_48 rfl (by omega) (by omega) (fun c a b => ?_) (fun c a => rfl)
          rw [r4 _ (by omega), h5 c a b]
          exact bi_congr ⟨Or.inl, fun y => y.elim id (fun y => absurd y.1 (by omega))⟩
  have loop1 : I k 6 = I q 6 → ∀ (c : Nat) (i : Int) (I1 : IM), c = (m - i).toNat → 0 ≤ i → i ≤ m → (∀ j, 0 ≤ j → j < i → I1 (k + 5) j = 0) → (∀ c, c ≠ k + 5 → I1 c = I c) → Rn x lyC g post 14 [vr g k, vr g q, vn len, vn i, none] [] I1 L := by
    intro hll c
    induction c with
    | zero =>
      intro i I1 h1 h2 h3 h4 h5
      have hs2 : I1 q 5 = m := by rw [h5 q hne.1]; exact hszq
      refine rr_iload_n F dX3_setAside_14 rfl ?_
      refine rr_aload_n F dX3_setAside_15 rfl ?_
      refine rg_Page_size F (by first | rfl | assumption) fl_X3_29 dX3_setAside_16 ?_
      refine rr_icmp_ge F dX3_setAside_19 (tgt := 35) (by decide) ⟨by omega, by omega⟩ ⟨by omega, by omega⟩ (fun c_19 => ?_) (fun c_19 => ?_)
      · refine rr_iconst F dX3_setAside_35 ?_
        refine rr_istore_n F dX3_setAside_36 (Nat.le_of_ble_eq_true rfl) rfl ?_
        refine loop2 hll _ 0 I1 rfl (by omega) (by omega) (fun j a b => ?_) (fun c a b => ?_) (fun c a b => h5 c b)
        · rw [h4 j a (by omega)]; exact Sf_z1 T G a
        · rw [h5 _ (by omega), hz c a b, bi_neg]
          exact fun ⟨e, z1, z2, z3⟩ => absurd z2 (by omega)
      · exact absurd c_19 (by omega)
    | succ c ih =>
      intro i I1 h1 h2 h3 h4 h5
      have hs2 : I1 q 5 = m := by rw [h5 q hne.1]; exact hszq
      refine rr_iload_n F dX3_setAside_14 rfl ?_
      refine rr_aload_n F dX3_setAside_15 rfl ?_
      refine rg_Page_size F (by first | rfl | assumption) fl_X3_29 dX3_setAside_16 ?_
      refine rr_icmp_ge F dX3_setAside_19 (tgt := 35) (by decide) ⟨by omega, by omega⟩ ⟨by omega, by omega⟩ (fun c_19 => ?_) (fun c_19 => ?_)
      · exact absurd c_19 (by omega)
      · refine rr_aload_n F dX3_setAside_22 rfl ?_
        refine rg_Page_sharedLengths F (by first | rfl | assumption) fl_X3_26 dX3_setAside_23 ?_
        refine rr_iload_n F dX3_setAside_26 rfl ?_
        refine rr_iconst F dX3_setAside_27 ?_
        refine rr_iast F (N := 40) (by first | rfl | assumption) (by omega) (by first | rfl | assumption) (by omega) dX3_setAside_28 ?_
        refine rr_iinc F dX3_setAside_29 rfl rfl ?_
        refine rr_goto F dX3_setAside_32 (tgt := 14) (by decide) ?_
        refine ih (i + 1) _ (by omega) (by omega) (by omega) (fun j a b => ?_) (fun c a => ?_)
        · by_cases e : j = i
          · subst e; rw [up2_same]
          · rw [up2_ne _ _ _ e]; exact h4 j a (by omega)
        · rw [up2_cell _ _ _ a]; exact h5 c a
  refine rr_aload_n F dX3_setAside_0 rfl ?_
  refine rg_Page_language F (by first | rfl | assumption) fl_X3_33 dX3_setAside_1 ?_
  refine rr_aload_n F dX3_setAside_4 rfl ?_
  refine rg_Page_language F (by first | rfl | assumption) fl_X3_33 dX3_setAside_5 ?_
  refine rr_icmp_eq F dX3_setAside_8 (tgt := 12) (by decide) (by exact hla) (by exact hlb) (fun c_8 => ?_) (fun c_8 => ?_)
  · refine rr_iconst F dX3_setAside_12 ?_
    refine rr_istore_n F dX3_setAside_13 (Nat.le_of_ble_eq_true rfl) rfl ?_
    exact loop1 c_8 _ 0 I rfl (by omega) (by omega) (fun j a b => absurd b (by omega)) (fun c a => rfl)
  · refine rr_vret F dX3_setAside_11 ?_
    rw [← hpost]
    exact ⟨rfl, fun c a b => by rw [hz c a b, bi_neg (fun z => c_8 z.1)], fun c a b => rfl, rfl⟩
end
section
/-! a book laid open -/
noncomputable def aF (σ : sT) (c i : Int) : Int := bi (0 ≤ s_gv σ ∧ s_gv σ ≠ c ∧ s_lg σ c = s_lg σ (s_gv σ) ∧ AsP (s_tk σ c) (s_sz σ c) (s_tk σ (s_gv σ)) (s_sz σ (s_gv σ)) (s_w σ + s_k σ - 1) i)
noncomputable def mF (σ : sT) (c j : Int) : Int := mkF (s_tk σ c) (s_sz σ c) (s_k σ) (s_w σ) j
/-- page k holds these tokens, their hashes and marks, and what is set aside -/
def PgS (k : Nat) (I : IM) (L : LM) (T : Int → Int64) (n lg m w : Int) (as : Int → Int) : Prop := I k 5 = n ∧ I k 6 = lg ∧ I k 7 = grm n m ∧ (∀ i, 0 ≤ i → i < n → L (k + 1) i = T i) ∧ (∀ i, 0 ≤ i → i < grm n m → I (k + 2) i = hsh T m i) ∧ (∀ i, 0 ≤ i → i < grm n m → I (k + 3) i = mkF T n m w i) ∧ (∀ i, 0 ≤ i → i < n → I (k + 4) i = as i)
theorem PgS.fr {k : Nat} {I I' : IM} {L L' : LM} {T : Int → Int64} {n lg m w : Int} {as : Int → Int} (h : PgS k I L T n lg m w as) (h0 : I' k = I k) (h1 : L' (k + 1) = L (k + 1)) (h2 : I' (k + 2) = I (k + 2)) (h3 : I' (k + 3) = I (k + 3)) (h4 : I' (k + 4) = I (k + 4)) : PgS k I' L' T n lg m w as := by
  unfold PgS at *
  rw [h0, h1, h2, h3, h4]
  exact h
theorem PgS.as {k : Nat} {I I' : IM} {L L' : LM} {T : Int → Int64} {n lg m w : Int} {as as' : Int → Int} (h : PgS k I L T n lg m w as) (h0 : I' k = I k) (h1 : L' (k + 1) = L (k + 1)) (h2 : I' (k + 2) = I (k + 2)) (h3 : I' (k + 3) = I (k + 3)) (h4 : ∀ i, 0 ≤ i → i < n → I' (k + 4) i = as' i) : PgS k I' L' T n lg m w as' := by
  unfold PgS at *
  rw [h0, h1, h2, h3]
  exact ⟨h.1, h.2.1, h.2.2.1, h.2.2.2.1, h.2.2.2.2.1, h.2.2.2.2.2.1, h4⟩
theorem grm_b {n m : Int} (h0 : 0 ≤ n) (h : n ≤ 40) (hm : 2 ≤ m) : 0 ≤ grm n m ∧ grm n m ≤ 40 ∧ grm n m ≤ n := by unfold grm; omega
set_option maxHeartbeats 4000000 in
set_option maxRecDepth 100000 in
theorem mm_X1_layWithMarks {l : Launch} {g : gT} {σ : sT} {k : Nat} {b t : Int} {I : IM} {L : LM} {T : Int → Int64} (hk : isP k) (hR : CR σ I L) (hW : WF σ) (hb0 : 0 ≤ b) (hb : b < 6) (hh : s_hd σ b = 1) (ht0 : 0 ≤ t) (ht : t ≤ 40) (hT : ∀ i, 0 ≤ i → i < s_sz σ b → s_tk σ b ((i + t) % s_sz σ b) = T i) :
    Ct l yX1_layWithMarks cX1_layWithMarks 4 none 2 49 lyC g [.ref (g.2.1 k), .ref (g.2.1 4), .int (zI b), .int (zI t)] I L (pV (fun I' L' => PgS k I' L' T (s_sz σ b) (s_lg σ b) (s_k σ) (s_w σ) (fun _ => 0) ∧ (∀ q, q < k ∨ k + 4 < q → I' q = I q ∧ L' q = L q))) := by
  obtain ⟨q1, q2, q3, q4, q5, q6, q7, q8, q9, q10, q11⟩ := hk.f
  obtain ⟨h1, h2, h3, h4, h5, h6, h7, h8⟩ := id hR
  obtain ⟨e1, e2⟩ := h3 b hb0 hb
  obtain ⟨e2, e3, e4, e5⟩ := e2 hh
  have w4 := hW.2.2.2.1 b
  have w7 := hW.2.2.2.2.2.2.1
  have w8 := hW.2.2.2.2.2.2.2.1
  have hB := bk_isB hb0 hb
  obtain ⟨p1, p2, p3⟩ := hB.f
  have h18 : 22 ≤ k := by rcases hk with rfl | rfl | rfl <;> decide
  have hbk : bk b < 18 := by unfold bk; omega
  refine Ct.of RX1 (by decide +kernel) rfl (Nat.le_of_ble_eq_true rfl) (fun x hx F => ?_)
  refine rr_aload_n F dX1_layWithMarks_0 rfl ?_
  refine rr_aload_n F dX1_layWithMarks_1 rfl ?_
  refine rg_Shelf_books F (by first | rfl | assumption) fl_X1_57 dX1_layWithMarks_2 ?_
  refine rr_cell (k2 := 5) rfl ?_
  refine rr_iload_n F dX1_layWithMarks_5 rfl ?_
  refine rr_aald F (N := 6) (by first | rfl | assumption) (by omega) (by first | rfl | assumption) (by omega) dX1_layWithMarks_6 ?_
  refine rr_bk ?_
  refine rr_iload_n F dX1_layWithMarks_7 rfl ?_
  refine rr_callVV F (ci := 3) (mm_X3_lay hk hB (n := s_sz σ b) (by omega) (by omega) ht0 ht e2) mf_X3_lay ml_X1_61 ⟨by decide, by decide⟩ (by first | rfl | assumption) (by decide) rfl rfl (Nat.le_of_ble_eq_true rfl) dX1_layWithMarks_8 (fun I_8 L_8 h_8 => ?_)
  obtain ⟨l1, l2, l3, l4, l5, l6⟩ := h_8
  have l3' : ∀ i, 0 ≤ i → i < s_sz σ b → L_8 (k + 1) i = T i := fun i a c => by
    have m1 := Int.emod_nonneg (i + t) (show s_sz σ b ≠ 0 by omega)
    have m2 := Int.emod_lt_of_pos (i + t) (show 0 < s_sz σ b by omega)
    rw [l3 i a c, e5 _ m1 m2, hT i a c]
  have e42 : I_8 4 2 = s_k σ := by rw [l5 4 (by omega) (by omega)]; exact h5
  have e43 : I_8 4 3 = s_w σ := by rw [l5 4 (by omega) (by omega)]; exact h6
  refine rr_aload_n F dX1_layWithMarks_11 rfl ?_
  refine rr_aload_n F dX1_layWithMarks_12 rfl ?_
  refine rg_Shelf_gramLength F (by first | rfl | assumption) fl_X1_91 dX1_layWithMarks_13 ?_
  refine rr_aload_n F dX1_layWithMarks_16 rfl ?_
  refine rg_Shelf_windowLength F (by first | rfl | assumption) fl_X1_98 dX1_layWithMarks_17 ?_
  rw [e42, e43]
  refine rr_callVV F (ci := 3) (mm_X3_findMarks hk (T := T) (n := s_sz σ b) (by omega) (by omega) (by omega) (by omega) (by omega) (by omega) l1 l3') mf_X3_findMarks ml_X1_101 ⟨by decide, by decide⟩ (by first | rfl | assumption) (by decide) rfl rfl (Nat.le_of_ble_eq_true rfl) dX1_layWithMarks_20 (fun I_20 L_20 h_20 => ?_)
  obtain ⟨f1, f2, f3, f4, f5, rfl⟩ := h_20
  refine rr_vret F dX1_layWithMarks_23 ?_
  refine ⟨rfl, ⟨?_, ?_, f1, l3', f3, f4, fun i a c => ?_⟩, fun q hq => ⟨?_, ?_⟩⟩
  · rw [f2 5 (by omega)]; exact l1
  · rw [f2 6 (by omega), l2, e3]
  · rw [f5 _ (by omega) (by omega) (by omega)]; exact l4 i a c
  · rw [f5 q (by omega) (by omega) (by omega), l5 q (by omega) (by omega)]
  · rw [l6 q (by omega)]
set_option maxHeartbeats 4000000 in
set_option maxRecDepth 100000 in
theorem mm_X1_asideLength {l : Launch} {g : gT} {σ : sT} {I : IM} {L : LM} (hR : CR σ I L) :
    Ct l yX1_asideLength cX1_asideLength 1 (some .int) 0 0 lyC g [.ref (g.2.1 4)] I L (pI (fun r I' L' => r = s_w σ + s_k σ - 1 ∧ I = I' ∧ L = L')) := by
  obtain ⟨h1, h2, h3, h4, h5, h6, h7, h8⟩ := id hR
  refine Ct.of RX1 (by decide +kernel) rfl (Nat.le_of_ble_eq_true rfl) (fun x hx F => ?_)
  refine rr_aload_n F dX1_asideLength_0 rfl ?_
  refine rg_Shelf_windowLength F (by first | rfl | assumption) fl_X1_98 dX1_asideLength_1 ?_
  refine rr_aload_n F dX1_asideLength_4 rfl ?_
  refine rg_Shelf_gramLength F (by first | rfl | assumption) fl_X1_91 dX1_asideLength_5 ?_
  refine rr_iadd F dX1_asideLength_8 ?_
  refine rr_iconst F dX1_asideLength_9 ?_
  refine rr_isub F dX1_asideLength_10 ?_
  refine rr_iret F dX1_asideLength_11 ?_
  exact ⟨_, rfl, by rw [h5, h6], rfl, rfl⟩
theorem fr_kC {k : Nat} {I I' : IM} {L L' : LM} (hk : 22 ≤ k) (h : ∀ q, q < k ∨ k + 4 < q → I' q = I q ∧ L' q = L q) : kC I L I' L' := fun q hq => h q (by omega)
set_option maxHeartbeats 4000000 in
set_option maxRecDepth 100000 in
theorem mm_X1_pageOf {l : Launch} {g : gT} {σ : sT} {b : Int} {I : IM} {L : LM} (hR : CR σ I L) (hW : WF σ) (hb0 : 0 ≤ b) (hb : b < 6) (hh : s_hd σ b = 1) :
    Ct l yX1_pageOf cX1_pageOf 3 (some (.object "BorrowedPages$Page")) 3 72 lyC g [.ref (g.2.1 18), .ref (g.2.1 4), .int (zI b)] I L (pR g (fun r I' L' => r = 22 ∧ PgS 22 I' L' (s_tk σ b) (s_sz σ b) (s_lg σ b) (s_k σ) (s_w σ) (aF σ b) ∧ kC I L I' L')) := by
  have P22 : isP 22 := Or.inl rfl
  have P34 : isP 34 := Or.inr (Or.inr rfl)
  have w4 := hW.2.2.2.1
  have w5 := hW.2.2.2.2.1
  have w7 := hW.2.2.2.2.2.2.1
  have w8 := hW.2.2.2.2.2.2.2.1
  have w11 := hW.2.2.2.2.2.2.2.2.2.2.1
  have w12 := hW.2.2.2.2.2.2.2.2.2.2.2
  refine Ct.of RX1 (by decide +kernel) rfl (Nat.le_of_ble_eq_true rfl) (fun x hx F => ?_)
  refine rr_aload_n F dX1_pageOf_0 rfl ?_
  refine rg_Comparison_left F (by first | rfl | assumption) fl_X1_28 dX1_pageOf_1 ?_
  refine rr_cell (k2 := 22) rfl ?_
  refine rr_aload_n F dX1_pageOf_4 rfl ?_
  refine rr_iload_n F dX1_pageOf_5 rfl ?_
  refine rr_iconst F dX1_pageOf_6 ?_
  refine rr_callSV F (mm_X1_layWithMarks P22 hR hW hb0 hb hh (by omega) (by omega) (T := s_tk σ b) (fun i a c => by rw [show i + 0 = i by omega, Int.emod_eq_of_lt a c])) mf_X1_layWithMarks ml_X1_44 ⟨by decide, by decide⟩ rfl (Nat.le_of_ble_eq_true rfl) dX1_pageOf_7 (fun I_7 L_7 h_7 => ?_)
  obtain ⟨g1, g2⟩ := h_7
  have k1 : kC I L I_7 L_7 := fr_kC (by omega) g2
  have R1 := hR.k k1
  have eg := R1.2.2.2.1
  refine rr_aload_n F dX1_pageOf_10 rfl ?_
  refine rr_aload_n F dX1_pageOf_11 rfl ?_
  refine rg_Shelf_givenNumber F (by first | rfl | assumption) fl_X1_48 dX1_pageOf_12 ?_
  rw [eg]
  refine rr_callVI F (ci := 5) (mm_X5_holds (σ := σ) ⟨by omega, by omega⟩ R1 hW) mf_X5_holds ml_X1_53 ⟨by decide, by decide⟩ (by first | rfl | assumption) (by decide) rfl rfl (Nat.le_of_ble_eq_true rfl) dX1_pageOf_15 (fun r_15 I_15 L_15 h_15 => ?_)
  obtain ⟨e15, rfl, rfl⟩ := h_15
  refine rr_if_eq F dX1_pageOf_18 (tgt := 61) (by decide) ⟨by omega, by omega⟩ (fun c_18 => ?_) (fun c_18 => ?_)
  · refine rr_aload_n F dX1_pageOf_61 rfl ?_
    refine rg_Comparison_left F (by first | rfl | assumption) fl_X1_28 dX1_pageOf_62 ?_
    refine rr_cell (k2 := 22) rfl ?_
    refine rr_aret F dX1_pageOf_65 ?_
    first
    | (refine ⟨22, rfl, rfl, g1'.as (s2 22 (by omega) (by omega)) rfl (s2 24 (by omega) (by omega)) (s2 25 (by omega) (by omega)) (fun i a c => ?_), k1.tr (k2.tr (fun q hq => ⟨s2 q (by omega) (by omega), rfl⟩))⟩
       rw [s1 i a c, aF, g1'.2.1, l2, eb3]
       exact bi_congr ⟨fun z => ⟨by omega, by omega, z.1, z.2⟩, fun z => z.2.2⟩)
    | (refine ⟨22, rfl, rfl, g1.as rfl rfl rfl rfl (fun i a c => ?_), k1⟩
       rw [g1.2.2.2.2.2.2 i a c, aF, bi_neg]
       intro z
       have z1 := z.1
       have z2 := z.2.1
       have z3 := w12 z1
       omega)
  · refine rr_aload_n F dX1_pageOf_21 rfl ?_
    refine rg_Shelf_givenNumber F (by first | rfl | assumption) fl_X1_48 dX1_pageOf_22 ?_
    refine rr_iload_n F dX1_pageOf_25 rfl ?_
    rw [eg]
    refine rr_icmp_eq F dX1_pageOf_26 (tgt := 61) (by decide) ⟨by omega, by omega⟩ ⟨by omega, by omega⟩ (fun c_26 => ?_) (fun c_26 => ?_)
    · refine rr_aload_n F dX1_pageOf_61 rfl ?_
      refine rg_Comparison_left F (by first | rfl | assumption) fl_X1_28 dX1_pageOf_62 ?_
      refine rr_cell (k2 := 22) rfl ?_
      refine rr_aret F dX1_pageOf_65 ?_
      first
      | (refine ⟨22, rfl, rfl, g1'.as (s2 22 (by omega) (by omega)) rfl (s2 24 (by omega) (by omega)) (s2 25 (by omega) (by omega)) (fun i a c => ?_), k1.tr (k2.tr (fun q hq => ⟨s2 q (by omega) (by omega), rfl⟩))⟩
         rw [s1 i a c, aF, g1'.2.1, l2, eb3]
         exact bi_congr ⟨fun z => ⟨by omega, by omega, z.1, z.2⟩, fun z => z.2.2⟩)
      | (refine ⟨22, rfl, rfl, g1.as rfl rfl rfl rfl (fun i a c => ?_), k1⟩
         rw [g1.2.2.2.2.2.2 i a c, aF, bi_neg]
         intro z
         have z1 := z.1
         have z2 := z.2.1
         have z3 := w12 z1
         omega)
    · refine rr_aload_n F dX1_pageOf_29 rfl ?_
      refine rg_Comparison_third F (by first | rfl | assumption) fl_X1_35 dX1_pageOf_30 ?_
      refine rr_cell (k2 := 34) rfl ?_
      refine rr_aload_n F dX1_pageOf_33 rfl ?_
      refine rg_Shelf_books F (by first | rfl | assumption) fl_X1_57 dX1_pageOf_34 ?_
      refine rr_cell (k2 := 5) rfl ?_
      refine rr_aload_n F dX1_pageOf_37 rfl ?_
      refine rg_Shelf_givenNumber F (by first | rfl | assumption) fl_X1_48 dX1_pageOf_38 ?_
      rw [eg]
      have w4b := w4 b
      have w4g := w4 (s_gv σ)
      have hB := bk_isB (b := s_gv σ) (by omega) (by omega)
      obtain ⟨eb1, eb2⟩ := R1.2.2.1 (s_gv σ) (by omega) (by omega)
      obtain ⟨eb2, eb3, eb4, eb5⟩ := eb2 (by omega)
      refine rr_aald F (N := 6) (by first | rfl | assumption) (by omega) (by first | rfl | assumption) (by omega) dX1_pageOf_41 ?_
      refine rr_bk ?_
      refine rr_iconst F dX1_pageOf_42 ?_
      refine rr_callVV F (ci := 3) (mm_X3_lay P34 hB (n := s_sz σ (s_gv σ)) (by omega) (by omega) (by omega) (by omega) eb2) mf_X3_lay ml_X1_61 ⟨by decide, by decide⟩ (by first | rfl | assumption) (by decide) rfl rfl (Nat.le_of_ble_eq_true rfl) dX1_pageOf_43 (fun I_43 L_43 h_43 => ?_)
      obtain ⟨l1, l2, l3, l4, l5, l6⟩ := h_43
      have k2 : kC I_7 L_7 I_43 L_43 := fun q hq => ⟨l5 q (by omega) (by omega), l6 q (by omega)⟩
      have R2 := R1.k k2
      refine rr_aload_n F dX1_pageOf_46 rfl ?_
      refine rg_Comparison_left F (by first | rfl | assumption) fl_X1_28 dX1_pageOf_47 ?_
      refine rr_cell (k2 := 22) rfl ?_
      refine rr_aload_n F dX1_pageOf_50 rfl ?_
      refine rg_Comparison_third F (by first | rfl | assumption) fl_X1_35 dX1_pageOf_51 ?_
      refine rr_cell (k2 := 34) rfl ?_
      refine rr_aload_n F dX1_pageOf_54 rfl ?_
      refine rr_callSI F (mm_X1_asideLength R2) mf_X1_asideLength ml_X1_65 ⟨by decide, by decide⟩ rfl (Nat.le_of_ble_eq_true rfl) dX1_pageOf_55 (fun r_55 I_55 L_55 h_55 => ?_)
      obtain ⟨rfl, rfl, rfl⟩ := h_55
      have g1' : PgS 22 I_43 L_43 (s_tk σ b) (s_sz σ b) (s_lg σ b) (s_k σ) (s_w σ) (fun _ => 0) := g1.fr (l5 22 (by omega) (by omega)) (l6 23 (by omega)) (l5 24 (by omega) (by omega)) (l5 25 (by omega) (by omega)) (l5 26 (by omega) (by omega))
      have wl1 := w5 b
      have wl2 := w5 (s_gv σ)
      refine rr_callVV F (ci := 3) (mm_X3_setAside P22 P34 (by decide) (n := s_sz σ b) (m := s_sz σ (s_gv σ)) (T := s_tk σ b) (G := s_tk σ (s_gv σ)) (by omega) (by omega) (by omega) (by omega) (by omega) (by omega) g1'.1 l1 (by rw [g1'.2.1]; exact ⟨by omega, by omega⟩) (by rw [l2, eb3]; exact ⟨by omega, by omega⟩) g1'.2.2.2.1 (fun j a c => by rw [l3 j a c, show j + 0 = j by omega, Int.emod_eq_of_lt a c]; exact eb5 j a c) g1'.2.2.2.2.2.2) mf_X3_setAside ml_X1_69 ⟨by decide, by decide⟩ (by first | rfl | assumption) (by decide) rfl rfl (Nat.le_of_ble_eq_true rfl) dX1_pageOf_58 (fun I_58 L_58 h_58 => ?_)
      obtain ⟨s1, s2, rfl⟩ := h_58
      refine rr_aload_n F dX1_pageOf_61 rfl ?_
      refine rg_Comparison_left F (by first | rfl | assumption) fl_X1_28 dX1_pageOf_62 ?_
      refine rr_cell (k2 := 22) rfl ?_
      refine rr_aret F dX1_pageOf_65 ?_
      first
      | (refine ⟨22, rfl, rfl, g1'.as (s2 22 (by omega) (by omega)) rfl (s2 24 (by omega) (by omega)) (s2 25 (by omega) (by omega)) (fun i a c => ?_), k1.tr (k2.tr (fun q hq => ⟨s2 q (by omega) (by omega), rfl⟩))⟩
         rw [s1 i a c, aF, g1'.2.1, l2, eb3]
         exact bi_congr ⟨fun z => ⟨by omega, by omega, z.1, z.2⟩, fun z => z.2.2⟩)
      | (refine ⟨22, rfl, rfl, g1.as rfl rfl rfl rfl (fun i a c => ?_), k1⟩
         rw [g1.2.2.2.2.2.2 i a c, aF, bi_neg]
         intro z
         have z1 := z.1
         have z2 := z.2.1
         have z3 := w12 z1
         omega)
end
section
/-! what stands in a given book, for two; hash, markAt, aside of the class -/
set_option maxHeartbeats 4000000 in
set_option maxRecDepth 100000 in
theorem mm_X1_setBothAside {l : Launch} {g : gT} {σ σ' : sT} {a b : Int} {I : IM} {L : LM} (hR : CR σ I L) (hW : WF σ) (ha0 : 0 ≤ a) (ha : a < 6) (hb0 : 0 ≤ b) (hb : b < 6) (hab : a ≠ b) (hs : σ'.2.2 = σ.2.2 ∧ s_sz σ' = s_sz σ ∧ s_lg σ' = s_lg σ ∧ ∀ c, c ≠ b → s_tk σ' c = s_tk σ c)
    (hA : PgS 22 I L (s_tk σ' a) (s_sz σ a) (s_lg σ a) (s_k σ) (s_w σ) (fun _ => 0)) (hB : PgS 28 I L (s_tk σ' b) (s_sz σ b) (s_lg σ b) (s_k σ) (s_w σ) (fun _ => 0)) :
    Ct l yX1_setBothAside cX1_setBothAside 5 none 2 49 lyC g [.ref (g.2.1 18), .ref (g.2.1 4), .int (zI a), .int (zI b)] I L (pV (fun I' L' => PgS 22 I' L' (s_tk σ' a) (s_sz σ a) (s_lg σ a) (s_k σ) (s_w σ) (aF σ' a) ∧ PgS 28 I' L' (s_tk σ' b) (s_sz σ b) (s_lg σ b) (s_k σ) (s_w σ) (aF σ' b) ∧ (∀ q, q < 22 → I' q = I q ∧ L' q = L q))) := by
  have P22 : isP 22 := Or.inl rfl
  have P28 : isP 28 := Or.inr (Or.inl rfl)
  have P34 : isP 34 := Or.inr (Or.inr rfl)
  have w4 := hW.2.2.2.1
  have w5 := hW.2.2.2.2.1
  have w7 := hW.2.2.2.2.2.2.1
  have w8 := hW.2.2.2.2.2.2.2.1
  have w11 := hW.2.2.2.2.2.2.2.2.2.2.1
  have w12 := hW.2.2.2.2.2.2.2.2.2.2.2
  have w4a := w4 a
  have w4b := w4 b
  have w4g := w4 (s_gv σ)
  have w5a := w5 a
  have w5b := w5 b
  have w5g := w5 (s_gv σ)
  have eg := hR.2.2.2.1
  obtain ⟨hs1, hs2, hs3, hs4⟩ := hs
  have haF : ∀ c i, aF σ' c i = bi (0 ≤ s_gv σ ∧ s_gv σ ≠ c ∧ s_lg σ c = s_lg σ (s_gv σ) ∧ AsP (s_tk σ' c) (s_sz σ c) (s_tk σ' (s_gv σ)) (s_sz σ (s_gv σ)) (s_w σ + s_k σ - 1) i) := by
    intro c i
    unfold aF s_gv s_w s_k
    rw [hs1, hs2, hs3]
  have zro : ∀ c, ¬ (0 ≤ s_gv σ ∧ s_gv σ ≠ c) → ∀ i, aF σ' c i = 0 := fun c hc i => by
    rw [haF, bi_neg]
    exact fun z => hc ⟨z.1, z.2.1⟩
  refine Ct.of RX1 (by decide +kernel) rfl (Nat.le_of_ble_eq_true rfl) (fun x hx F => ?_)
  refine rr_aload_n F dX1_setBothAside_0 rfl ?_
  refine rr_callSI F (mm_X1_asideLength hR) mf_X1_asideLength ml_X1_65 ⟨by decide, by decide⟩ rfl (Nat.le_of_ble_eq_true rfl) dX1_setBothAside_1 (fun r_1 I_1 L_1 h_1 => ?_)
  obtain ⟨rfl, rfl, rfl⟩ := h_1
  refine rr_istore F dX1_setBothAside_4 (Nat.le_of_ble_eq_true rfl) rfl ?_
  refine rr_aload_n F dX1_setBothAside_6 rfl ?_
  refine rg_Shelf_givenNumber F (by first | rfl | assumption) fl_X1_48 dX1_setBothAside_7 ?_
  refine rr_iload_n F dX1_setBothAside_10 rfl ?_
  rw [eg]
  refine rr_icmp_ne F dX1_setBothAside_11 (tgt := 30) (by decide) ⟨by omega, by omega⟩ ⟨by omega, by omega⟩ (fun c_11 => ?_) (fun c_11 => ?_)
  · refine rr_aload_n F dX1_setBothAside_30 rfl ?_
    refine rg_Shelf_givenNumber F (by first | rfl | assumption) fl_X1_48 dX1_setBothAside_31 ?_
    refine rr_iload_n F dX1_setBothAside_34 rfl ?_
    rw [eg]
    refine rr_icmp_ne F dX1_setBothAside_35 (tgt := 54) (by decide) ⟨by omega, by omega⟩ ⟨by omega, by omega⟩ (fun c_35 => ?_) (fun c_35 => ?_)
    · refine rr_aload_n F dX1_setBothAside_54 rfl ?_
      refine rr_aload_n F dX1_setBothAside_55 rfl ?_
      refine rg_Shelf_givenNumber F (by first | rfl | assumption) fl_X1_48 dX1_setBothAside_56 ?_
      rw [eg]
      refine rr_callVI F (ci := 5) (mm_X5_holds (σ := σ) ⟨by omega, by omega⟩ hR hW) mf_X5_holds ml_X1_53 ⟨by decide, by decide⟩ (by first | rfl | assumption) (by decide) rfl rfl (Nat.le_of_ble_eq_true rfl) dX1_setBothAside_59 (fun r_59 I_59 L_59 h_59 => ?_)
      obtain ⟨e59, rfl, rfl⟩ := h_59
      refine rr_if_eq F dX1_setBothAside_62 (tgt := 108) (by decide) ⟨by omega, by omega⟩ (fun c_62 => ?_) (fun c_62 => ?_)
      · refine rr_vret F dX1_setBothAside_108 ?_
        first
        | (refine ⟨rfl, hA1.as ((t2 22 (by omega) (by omega)).trans (s2 22 (by omega) (by omega))) rfl ((t2 24 (by omega) (by omega)).trans (s2 24 (by omega) (by omega))) ((t2 25 (by omega) (by omega)).trans (s2 25 (by omega) (by omega))) (fun i u v => ?_), hB2.as (t2 28 (by omega) (by omega)) rfl (t2 30 (by omega) (by omega)) (t2 31 (by omega) (by omega)) (fun i u v => ?_), fun q hq => ⟨by rw [t2 q (by omega) (by omega), s2 q (by omega) (by omega), l5 q (by omega) (by omega)], by rw [l6 q (by omega)]⟩⟩
           · rw [t2 26 (by omega) (by omega), s1 i u v, haF, hA1.2.1, l2, eb3]
             exact bi_congr ⟨fun z => ⟨by omega, by omega, z.1, z.2⟩, fun z => z.2.2⟩
           · rw [t1 i u v, haF, hB2.2.1, s2 34 (by omega) (by omega), l2, eb3]
             exact bi_congr ⟨fun z => ⟨by omega, by omega, z.1, z.2⟩, fun z => z.2.2⟩)
        | (refine ⟨rfl, hA.as (s2 22 (by omega) (by omega)) rfl (s2 24 (by omega) (by omega)) (s2 25 (by omega) (by omega)) (fun i u v => ?_), hB.as (s2 28 (by omega) (by omega)) rfl (s2 30 (by omega) (by omega)) (s2 31 (by omega) (by omega)) (fun i u v => ?_), fun q hq => ⟨s2 q (by omega) (by omega), rfl⟩⟩
           · rw [s2 26 (by omega) (by omega), zro a (by omega)]; exact hA.2.2.2.2.2.2 i u v
           · rw [s1 i u v, haF, hA.2.1, hB.2.1, c_11]
             exact bi_congr ⟨fun z => ⟨by omega, by omega, z.1, z.2⟩, fun z => z.2.2⟩)
        | (refine ⟨rfl, hA.as (s2 22 (by omega) (by omega)) rfl (s2 24 (by omega) (by omega)) (s2 25 (by omega) (by omega)) (fun i u v => ?_), hB.as (s2 28 (by omega) (by omega)) rfl (s2 30 (by omega) (by omega)) (s2 31 (by omega) (by omega)) (fun i u v => ?_), fun q hq => ⟨s2 q (by omega) (by omega), rfl⟩⟩
           · rw [s1 i u v, haF, hA.2.1, hB.2.1, c_35]
             exact bi_congr ⟨fun z => ⟨by omega, by omega, z.1, z.2⟩, fun z => z.2.2⟩
           · rw [s2 32 (by omega) (by omega), zro b (by omega)]; exact hB.2.2.2.2.2.2 i u v)
        | (have hgn : ¬ 0 ≤ s_gv σ := fun z => (by have := w12 z; omega)
           exact ⟨rfl, hA.as rfl rfl rfl rfl (fun i u v => by rw [zro a (fun z => hgn z.1)]; exact hA.2.2.2.2.2.2 i u v), hB.as rfl rfl rfl rfl (fun i u v => by rw [zro b (fun z => hgn z.1)]; exact hB.2.2.2.2.2.2 i u v), fun q hq => ⟨rfl, rfl⟩⟩)
      · refine rr_aload_n F dX1_setBothAside_65 rfl ?_
        refine rg_Comparison_third F (by first | rfl | assumption) fl_X1_35 dX1_setBothAside_66 ?_
        refine rr_cell (k2 := 34) rfl ?_
        refine rr_aload_n F dX1_setBothAside_69 rfl ?_
        refine rg_Shelf_books F (by first | rfl | assumption) fl_X1_57 dX1_setBothAside_70 ?_
        refine rr_cell (k2 := 5) rfl ?_
        refine rr_aload_n F dX1_setBothAside_73 rfl ?_
        refine rg_Shelf_givenNumber F (by first | rfl | assumption) fl_X1_48 dX1_setBothAside_74 ?_
        rw [eg]
        have hBk := bk_isB (b := s_gv σ) (by omega) (by omega)
        obtain ⟨eb1, eb2⟩ := hR.2.2.1 (s_gv σ) (by omega) (by omega)
        obtain ⟨eb2, eb3, eb4, eb5⟩ := eb2 (by omega)
        refine rr_aald F (N := 6) (by first | rfl | assumption) (by omega) (by first | rfl | assumption) (by omega) dX1_setBothAside_77 ?_
        refine rr_bk ?_
        refine rr_iconst F dX1_setBothAside_78 ?_
        refine rr_callVV F (ci := 3) (mm_X3_lay P34 hBk (n := s_sz σ (s_gv σ)) (by omega) (by omega) (by omega) (by omega) eb2) mf_X3_lay ml_X1_61 ⟨by decide, by decide⟩ (by first | rfl | assumption) (by decide) rfl rfl (Nat.le_of_ble_eq_true rfl) dX1_setBothAside_79 (fun I_79 L_79 h_79 => ?_)
        obtain ⟨l1, l2, l3, l4, l5, l6⟩ := h_79
        have hA1 := hA.fr (l5 22 (by omega) (by omega)) (l6 23 (by omega)) (l5 24 (by omega) (by omega)) (l5 25 (by omega) (by omega)) (l5 26 (by omega) (by omega))
        have hB1 := hB.fr (l5 28 (by omega) (by omega)) (l6 29 (by omega)) (l5 30 (by omega) (by omega)) (l5 31 (by omega) (by omega)) (l5 32 (by omega) (by omega))
        have lt : ∀ j, 0 ≤ j → j < s_sz σ (s_gv σ) → L_79 35 j = s_tk σ' (s_gv σ) j := fun j u v => by
          rw [l3 j u v, show j + 0 = j by omega, Int.emod_eq_of_lt u v, hs4 _ (by omega)]; exact eb5 j u v
        refine rr_aload_n F dX1_setBothAside_82 rfl ?_
        refine rg_Comparison_left F (by first | rfl | assumption) fl_X1_28 dX1_setBothAside_83 ?_
        refine rr_cell (k2 := 22) rfl ?_
        refine rr_aload_n F dX1_setBothAside_86 rfl ?_
        refine rg_Comparison_third F (by first | rfl | assumption) fl_X1_35 dX1_setBothAside_87 ?_
        refine rr_cell (k2 := 34) rfl ?_
        refine rr_iload F dX1_setBothAside_90 rfl ?_
        refine rr_callVV F (ci := 3) (mm_X3_setAside P22 P34 (by decide) (n := s_sz σ a) (m := s_sz σ (s_gv σ)) (T := s_tk σ' a) (G := s_tk σ' (s_gv σ)) (by omega) (by omega) (by omega) (by omega) (by omega) (by omega) hA1.1 l1 (by rw [hA1.2.1]; exact ⟨by omega, by omega⟩) (by rw [l2, eb3]; exact ⟨by omega, by omega⟩) hA1.2.2.2.1 lt hA1.2.2.2.2.2.2) mf_X3_setAside ml_X1_69 ⟨by decide, by decide⟩ (by first | rfl | assumption) (by decide) rfl rfl (Nat.le_of_ble_eq_true rfl) dX1_setBothAside_92 (fun I_92 L_92 h_92 => ?_)
        obtain ⟨s1, s2, rfl⟩ := h_92
        have hB2 := hB1.fr (s2 28 (by omega) (by omega)) rfl (s2 30 (by omega) (by omega)) (s2 31 (by omega) (by omega)) (s2 32 (by omega) (by omega))
        refine rr_aload_n F dX1_setBothAside_95 rfl ?_
        refine rg_Comparison_right F (by first | rfl | assumption) fl_X1_32 dX1_setBothAside_96 ?_
        refine rr_cell (k2 := 28) rfl ?_
        refine rr_aload_n F dX1_setBothAside_99 rfl ?_
        refine rg_Comparison_third F (by first | rfl | assumption) fl_X1_35 dX1_setBothAside_100 ?_
        refine rr_cell (k2 := 34) rfl ?_
        refine rr_iload F dX1_setBothAside_103 rfl ?_
        refine rr_callVV F (ci := 3) (mm_X3_setAside P28 P34 (by decide) (n := s_sz σ b) (m := s_sz σ (s_gv σ)) (T := s_tk σ' b) (G := s_tk σ' (s_gv σ)) (by omega) (by omega) (by omega) (by omega) (by omega) (by omega) hB2.1 (by rw [s2 34 (by omega) (by omega)]; exact l1) (by rw [hB2.2.1]; exact ⟨by omega, by omega⟩) (by rw [s2 34 (by omega) (by omega), l2, eb3]; exact ⟨by omega, by omega⟩) hB2.2.2.2.1 lt hB2.2.2.2.2.2.2) mf_X3_setAside ml_X1_69 ⟨by decide, by decide⟩ (by first | rfl | assumption) (by decide) rfl rfl (Nat.le_of_ble_eq_true rfl) dX1_setBothAside_105 (fun I_105 L_105 h_105 => ?_)
        obtain ⟨t1, t2, rfl⟩ := h_105
        refine rr_vret F dX1_setBothAside_108 ?_
        first
        | (refine ⟨rfl, hA1.as ((t2 22 (by omega) (by omega)).trans (s2 22 (by omega) (by omega))) rfl ((t2 24 (by omega) (by omega)).trans (s2 24 (by omega) (by omega))) ((t2 25 (by omega) (by omega)).trans (s2 25 (by omega) (by omega))) (fun i u v => ?_), hB2.as (t2 28 (by omega) (by omega)) rfl (t2 30 (by omega) (by omega)) (t2 31 (by omega) (by omega)) (fun i u v => ?_), fun q hq => ⟨by rw [t2 q (by omega) (by omega), s2 q (by omega) (by omega), l5 q (by omega) (by omega)], by rw [l6 q (by omega)]⟩⟩
           · rw [t2 26 (by omega) (by omega), s1 i u v, haF, hA1.2.1, l2, eb3]
             exact bi_congr ⟨fun z => ⟨by omega, by omega, z.1, z.2⟩, fun z => z.2.2⟩
           · rw [t1 i u v, haF, hB2.2.1, s2 34 (by omega) (by omega), l2, eb3]
             exact bi_congr ⟨fun z => ⟨by omega, by omega, z.1, z.2⟩, fun z => z.2.2⟩)
        | (refine ⟨rfl, hA.as (s2 22 (by omega) (by omega)) rfl (s2 24 (by omega) (by omega)) (s2 25 (by omega) (by omega)) (fun i u v => ?_), hB.as (s2 28 (by omega) (by omega)) rfl (s2 30 (by omega) (by omega)) (s2 31 (by omega) (by omega)) (fun i u v => ?_), fun q hq => ⟨s2 q (by omega) (by omega), rfl⟩⟩
           · rw [s2 26 (by omega) (by omega), zro a (by omega)]; exact hA.2.2.2.2.2.2 i u v
           · rw [s1 i u v, haF, hA.2.1, hB.2.1, c_11]
             exact bi_congr ⟨fun z => ⟨by omega, by omega, z.1, z.2⟩, fun z => z.2.2⟩)
        | (refine ⟨rfl, hA.as (s2 22 (by omega) (by omega)) rfl (s2 24 (by omega) (by omega)) (s2 25 (by omega) (by omega)) (fun i u v => ?_), hB.as (s2 28 (by omega) (by omega)) rfl (s2 30 (by omega) (by omega)) (s2 31 (by omega) (by omega)) (fun i u v => ?_), fun q hq => ⟨s2 q (by omega) (by omega), rfl⟩⟩
           · rw [s1 i u v, haF, hA.2.1, hB.2.1, c_35]
             exact bi_congr ⟨fun z => ⟨by omega, by omega, z.1, z.2⟩, fun z => z.2.2⟩
           · rw [s2 32 (by omega) (by omega), zro b (by omega)]; exact hB.2.2.2.2.2.2 i u v)
        | (have hgn : ¬ 0 ≤ s_gv σ := fun z => (by have := w12 z; omega)
           exact ⟨rfl, hA.as rfl rfl rfl rfl (fun i u v => by rw [zro a (fun z => hgn z.1)]; exact hA.2.2.2.2.2.2 i u v), hB.as rfl rfl rfl rfl (fun i u v => by rw [zro b (fun z => hgn z.1)]; exact hB.2.2.2.2.2.2 i u v), fun q hq => ⟨rfl, rfl⟩⟩)
    · refine rr_aload_n F dX1_setBothAside_38 rfl ?_
      refine rg_Comparison_left F (by first | rfl | assumption) fl_X1_28 dX1_setBothAside_39 ?_
      refine rr_cell (k2 := 22) rfl ?_
      refine rr_aload_n F dX1_setBothAside_42 rfl ?_
      refine rg_Comparison_right F (by first | rfl | assumption) fl_X1_32 dX1_setBothAside_43 ?_
      refine rr_cell (k2 := 28) rfl ?_
      refine rr_iload F dX1_setBothAside_46 rfl ?_
      refine rr_callVV F (ci := 3) (mm_X3_setAside P22 P28 (by decide) (n := s_sz σ a) (m := s_sz σ b) (T := s_tk σ' a) (G := s_tk σ' b) (by omega) (by omega) (by omega) (by omega) (by omega) (by omega) hA.1 hB.1 (by rw [hA.2.1]; exact ⟨by omega, by omega⟩) (by rw [hB.2.1]; exact ⟨by omega, by omega⟩) hA.2.2.2.1 hB.2.2.2.1 hA.2.2.2.2.2.2) mf_X3_setAside ml_X1_69 ⟨by decide, by decide⟩ (by first | rfl | assumption) (by decide) rfl rfl (Nat.le_of_ble_eq_true rfl) dX1_setBothAside_48 (fun I_48 L_48 h_48 => ?_)
      obtain ⟨s1, s2, rfl⟩ := h_48
      refine rr_goto F dX1_setBothAside_51 (tgt := 108) (by decide) ?_
      refine rr_vret F dX1_setBothAside_108 ?_
      first
      | (refine ⟨rfl, hA1.as ((t2 22 (by omega) (by omega)).trans (s2 22 (by omega) (by omega))) rfl ((t2 24 (by omega) (by omega)).trans (s2 24 (by omega) (by omega))) ((t2 25 (by omega) (by omega)).trans (s2 25 (by omega) (by omega))) (fun i u v => ?_), hB2.as (t2 28 (by omega) (by omega)) rfl (t2 30 (by omega) (by omega)) (t2 31 (by omega) (by omega)) (fun i u v => ?_), fun q hq => ⟨by rw [t2 q (by omega) (by omega), s2 q (by omega) (by omega), l5 q (by omega) (by omega)], by rw [l6 q (by omega)]⟩⟩
         · rw [t2 26 (by omega) (by omega), s1 i u v, haF, hA1.2.1, l2, eb3]
           exact bi_congr ⟨fun z => ⟨by omega, by omega, z.1, z.2⟩, fun z => z.2.2⟩
         · rw [t1 i u v, haF, hB2.2.1, s2 34 (by omega) (by omega), l2, eb3]
           exact bi_congr ⟨fun z => ⟨by omega, by omega, z.1, z.2⟩, fun z => z.2.2⟩)
      | (refine ⟨rfl, hA.as (s2 22 (by omega) (by omega)) rfl (s2 24 (by omega) (by omega)) (s2 25 (by omega) (by omega)) (fun i u v => ?_), hB.as (s2 28 (by omega) (by omega)) rfl (s2 30 (by omega) (by omega)) (s2 31 (by omega) (by omega)) (fun i u v => ?_), fun q hq => ⟨s2 q (by omega) (by omega), rfl⟩⟩
         · rw [s2 26 (by omega) (by omega), zro a (by omega)]; exact hA.2.2.2.2.2.2 i u v
         · rw [s1 i u v, haF, hA.2.1, hB.2.1, c_11]
           exact bi_congr ⟨fun z => ⟨by omega, by omega, z.1, z.2⟩, fun z => z.2.2⟩)
      | (refine ⟨rfl, hA.as (s2 22 (by omega) (by omega)) rfl (s2 24 (by omega) (by omega)) (s2 25 (by omega) (by omega)) (fun i u v => ?_), hB.as (s2 28 (by omega) (by omega)) rfl (s2 30 (by omega) (by omega)) (s2 31 (by omega) (by omega)) (fun i u v => ?_), fun q hq => ⟨s2 q (by omega) (by omega), rfl⟩⟩
         · rw [s1 i u v, haF, hA.2.1, hB.2.1, c_35]
           exact bi_congr ⟨fun z => ⟨by omega, by omega, z.1, z.2⟩, fun z => z.2.2⟩
         · rw [s2 32 (by omega) (by omega), zro b (by omega)]; exact hB.2.2.2.2.2.2 i u v)
      | (have hgn : ¬ 0 ≤ s_gv σ := fun z => (by have := w12 z; omega)
         exact ⟨rfl, hA.as rfl rfl rfl rfl (fun i u v => by rw [zro a (fun z => hgn z.1)]; exact hA.2.2.2.2.2.2 i u v), hB.as rfl rfl rfl rfl (fun i u v => by rw [zro b (fun z => hgn z.1)]; exact hB.2.2.2.2.2.2 i u v), fun q hq => ⟨rfl, rfl⟩⟩)
  · refine rr_aload_n F dX1_setBothAside_14 rfl ?_
    refine rg_Comparison_right F (by first | rfl | assumption) fl_X1_32 dX1_setBothAside_15 ?_
    refine rr_cell (k2 := 28) rfl ?_
    refine rr_aload_n F dX1_setBothAside_18 rfl ?_
    refine rg_Comparison_left F (by first | rfl | assumption) fl_X1_28 dX1_setBothAside_19 ?_
    refine rr_cell (k2 := 22) rfl ?_
    refine rr_iload F dX1_setBothAside_22 rfl ?_
    refine rr_callVV F (ci := 3) (mm_X3_setAside P28 P22 (by decide) (n := s_sz σ b) (m := s_sz σ a) (T := s_tk σ' b) (G := s_tk σ' a) (by omega) (by omega) (by omega) (by omega) (by omega) (by omega) hB.1 hA.1 (by rw [hB.2.1]; exact ⟨by omega, by omega⟩) (by rw [hA.2.1]; exact ⟨by omega, by omega⟩) hB.2.2.2.1 hA.2.2.2.1 hB.2.2.2.2.2.2) mf_X3_setAside ml_X1_69 ⟨by decide, by decide⟩ (by first | rfl | assumption) (by decide) rfl rfl (Nat.le_of_ble_eq_true rfl) dX1_setBothAside_24 (fun I_24 L_24 h_24 => ?_)
    obtain ⟨s1, s2, rfl⟩ := h_24
    refine rr_goto F dX1_setBothAside_27 (tgt := 108) (by decide) ?_
    refine rr_vret F dX1_setBothAside_108 ?_
    first
    | (refine ⟨rfl, hA1.as ((t2 22 (by omega) (by omega)).trans (s2 22 (by omega) (by omega))) rfl ((t2 24 (by omega) (by omega)).trans (s2 24 (by omega) (by omega))) ((t2 25 (by omega) (by omega)).trans (s2 25 (by omega) (by omega))) (fun i u v => ?_), hB2.as (t2 28 (by omega) (by omega)) rfl (t2 30 (by omega) (by omega)) (t2 31 (by omega) (by omega)) (fun i u v => ?_), fun q hq => ⟨by rw [t2 q (by omega) (by omega), s2 q (by omega) (by omega), l5 q (by omega) (by omega)], by rw [l6 q (by omega)]⟩⟩
       · rw [t2 26 (by omega) (by omega), s1 i u v, haF, hA1.2.1, l2, eb3]
         exact bi_congr ⟨fun z => ⟨by omega, by omega, z.1, z.2⟩, fun z => z.2.2⟩
       · rw [t1 i u v, haF, hB2.2.1, s2 34 (by omega) (by omega), l2, eb3]
         exact bi_congr ⟨fun z => ⟨by omega, by omega, z.1, z.2⟩, fun z => z.2.2⟩)
    | (refine ⟨rfl, hA.as (s2 22 (by omega) (by omega)) rfl (s2 24 (by omega) (by omega)) (s2 25 (by omega) (by omega)) (fun i u v => ?_), hB.as (s2 28 (by omega) (by omega)) rfl (s2 30 (by omega) (by omega)) (s2 31 (by omega) (by omega)) (fun i u v => ?_), fun q hq => ⟨s2 q (by omega) (by omega), rfl⟩⟩
       · rw [s2 26 (by omega) (by omega), zro a (by omega)]; exact hA.2.2.2.2.2.2 i u v
       · rw [s1 i u v, haF, hA.2.1, hB.2.1, c_11]
         exact bi_congr ⟨fun z => ⟨by omega, by omega, z.1, z.2⟩, fun z => z.2.2⟩)
    | (refine ⟨rfl, hA.as (s2 22 (by omega) (by omega)) rfl (s2 24 (by omega) (by omega)) (s2 25 (by omega) (by omega)) (fun i u v => ?_), hB.as (s2 28 (by omega) (by omega)) rfl (s2 30 (by omega) (by omega)) (s2 31 (by omega) (by omega)) (fun i u v => ?_), fun q hq => ⟨s2 q (by omega) (by omega), rfl⟩⟩
       · rw [s1 i u v, haF, hA.2.1, hB.2.1, c_35]
         exact bi_congr ⟨fun z => ⟨by omega, by omega, z.1, z.2⟩, fun z => z.2.2⟩
       · rw [s2 32 (by omega) (by omega), zro b (by omega)]; exact hB.2.2.2.2.2.2 i u v)
    | (have hgn : ¬ 0 ≤ s_gv σ := fun z => (by have := w12 z; omega)
       exact ⟨rfl, hA.as rfl rfl rfl rfl (fun i u v => by rw [zro a (fun z => hgn z.1)]; exact hA.2.2.2.2.2.2 i u v), hB.as rfl rfl rfl rfl (fun i u v => by rw [zro b (fun z => hgn z.1)]; exact hB.2.2.2.2.2.2 i u v), fun q hq => ⟨rfl, rfl⟩⟩)
def sp_hash (σ : sT) (b j : Int) : Int := if rB σ b = 0 then (if 0 ≤ j ∧ j < grm (s_sz σ b) (s_k σ) then hsh (s_tk σ b) (s_k σ) j else -4) else rB σ b
noncomputable def sp_markAt (σ : sT) (b i : Int) : Int := if i < -1 then -1 else if rB σ b = 0 then (if i = -1 then cntF (mF σ b) 40 0 0 else nthF (mF σ b) i 40 0 0) else rB σ b
noncomputable def sp_aside (σ : sT) (b i : Int) : Int := if i < 0 then -1 else if rB σ b = 0 then (if s_sz σ b ≤ i then -1 else aF σ b i) else rB σ b
set_option maxHeartbeats 4000000 in
set_option maxRecDepth 100000 in
theorem mm_X7_hash {l : Launch} {g : gT} {σ : sT} {b j : Int} {I : IM} {L : LM} (hb : rg b) (hj : rg j) (hR : CR σ I L) (hW : WF σ) :
    Ct l yX7_hash cX7_hash 5 (some .int) 4 94 lyC g [.ref (g.2.1 0), .int (zI b), .int (zI j)] I L (pS CR (sp_hash σ b j, σ)) := by
  have hc := rB_cases σ b
  have w4 := hW.2.2.2.1 b
  have w7 := hW.2.2.2.2.2.2.1
  have hj' := hj
  unfold rg at hj'
  have gb := grm_b w4.1 w4.2 w7.1
  refine Ct.of RX7 (by decide +kernel) rfl (Nat.le_of_ble_eq_true rfl) (fun x hx F => ?_)
  refine rr_aload_n F dX7_hash_0 rfl ?_
  refine rr_iload_n F dX7_hash_1 rfl ?_
  refine rr_callVI F (ci := 7) (mm_X7_refusalOfBook hb hR hW) mf_X7_refusalOfBook ml_X7_83 ⟨by decide, by decide⟩ (by first | rfl | assumption) (by decide) rfl rfl (Nat.le_of_ble_eq_true rfl) dX7_hash_2 (fun r_2 I_2 L_2 h_2 => ?_)
  obtain ⟨e2, rfl, rfl⟩ := h_2
  refine rr_istore_n F dX7_hash_5 (Nat.le_of_ble_eq_true rfl) rfl ?_
  refine rr_iload_n F dX7_hash_6 rfl ?_
  refine rr_if_eq F dX7_hash_7 (tgt := 12) (by decide) ⟨by omega, by omega⟩ (fun c_7 => ?_) (fun c_7 => ?_)
  · refine rr_aload_n F dX7_hash_12 rfl ?_
    refine rg_BP_comparison F (by first | rfl | assumption) fl_X7_33 dX7_hash_13 ?_
    refine rr_cell (k2 := 18) rfl ?_
    refine rr_aload_n F dX7_hash_16 rfl ?_
    refine rg_BP_shelf F (by first | rfl | assumption) fl_X7_26 dX7_hash_17 ?_
    refine rr_cell (k2 := 4) rfl ?_
    refine rr_iload_n F dX7_hash_20 rfl ?_
    refine rr_callVR F (ci := 1) (mm_X1_pageOf hR hW (by omega) (by omega) (by omega)) mf_X1_pageOf ml_X7_117 ⟨by decide, by decide⟩ (by first | rfl | assumption) (by decide) rfl rfl (Nat.le_of_ble_eq_true rfl) dX7_hash_21 (fun r_21 I_21 L_21 h_21 => ?_)
    obtain ⟨rfl, g1, g2⟩ := h_21
    have eG := g1.2.2.1
    refine rr_astore F dX7_hash_24 (Nat.le_of_ble_eq_true rfl) rfl ?_
    refine rr_iload_n F dX7_hash_26 rfl ?_
    refine rr_if_lt F dX7_hash_27 (tgt := 49) (by decide) ⟨by omega, by omega⟩ (fun c_27 => ?_) (fun c_27 => ?_)
    · refine rr_bipush F dX7_hash_49 (by decide) ?_
      refine rr_iret F dX7_hash_51 ?_
      refine ⟨_, rfl, ?_, hR.k g2⟩
      show _ = sp_hash σ b j
      rw [sp_hash, if_pos (by omega)]
      first | (rw [if_neg (by omega)]; done) | (rw [if_pos (by omega)]; exact g1.2.2.2.2.1 j (by omega) (by omega))
    · refine rr_iload_n F dX7_hash_30 rfl ?_
      refine rr_aload F dX7_hash_31 rfl ?_
      refine rg_Page_grams F (by first | rfl | assumption) fl_X7_121 dX7_hash_33 ?_
      refine rr_icmp_ge F dX7_hash_36 (tgt := 49) (by decide) ⟨by omega, by omega⟩ ⟨by omega, by omega⟩ (fun c_36 => ?_) (fun c_36 => ?_)
      · refine rr_bipush F dX7_hash_49 (by decide) ?_
        refine rr_iret F dX7_hash_51 ?_
        refine ⟨_, rfl, ?_, hR.k g2⟩
        show _ = sp_hash σ b j
        rw [sp_hash, if_pos (by omega)]
        first | (rw [if_neg (by omega)]; done) | (rw [if_pos (by omega)]; exact g1.2.2.2.2.1 j (by omega) (by omega))
      · refine rr_aload F dX7_hash_39 rfl ?_
        refine rg_Page_hashes F (by first | rfl | assumption) fl_X7_126 dX7_hash_41 ?_
        refine rr_iload_n F dX7_hash_44 rfl ?_
        refine rr_iald F (N := 40) (by first | rfl | assumption) (by omega) (by first | rfl | assumption) (by omega) dX7_hash_45 ?_
        refine rr_goto F dX7_hash_46 (tgt := 51) (by decide) ?_
        refine rr_iret F dX7_hash_51 ?_
        refine ⟨_, rfl, ?_, hR.k g2⟩
        show _ = sp_hash σ b j
        rw [sp_hash, if_pos (by omega)]
        first | (rw [if_neg (by omega)]; done) | (rw [if_pos (by omega)]; exact g1.2.2.2.2.1 j (by omega) (by omega))
  · refine rr_iload_n F dX7_hash_10 rfl ?_
    refine rr_iret F dX7_hash_11 ?_
    refine ⟨_, rfl, ?_, hR⟩
    show _ = sp_hash σ b j
    rw [sp_hash, if_neg (by omega)]; exact e2
set_option maxHeartbeats 4000000 in
set_option maxRecDepth 100000 in
theorem mm_X7_markAt {l : Launch} {g : gT} {σ : sT} {b j : Int} {I : IM} {L : LM} (hb : rg b) (hj : rg j) (hR : CR σ I L) (hW : WF σ) :
    Ct l yX7_markAt cX7_markAt 5 (some .int) 4 94 lyC g [.ref (g.2.1 0), .int (zI b), .int (zI j)] I L (pS CR (sp_markAt σ b j, σ)) := by
  have hc := rB_cases σ b
  have w4 := hW.2.2.2.1 b
  have w7 := hW.2.2.2.2.2.2.1
  have hj' := hj
  unfold rg at hj'
  have P22 : isP 22 := Or.inl rfl
  have gb := grm_b w4.1 w4.2 w7.1
  have e40 : (40 : Nat) = (grm (s_sz σ b) (s_k σ)).toNat + (40 - (grm (s_sz σ b) (s_k σ)).toNat) := by omega
  have hz : ∀ j, 0 + ((grm (s_sz σ b) (s_k σ)).toNat : Int) ≤ j → j < 0 + ((grm (s_sz σ b) (s_k σ)).toNat : Int) + ((40 - (grm (s_sz σ b) (s_k σ)).toNat : Nat) : Int) → mF σ b j = 0 := fun j a _ => by
    rw [mF, mkF, if_neg (by omega)]
  have hc1 : cntF (mF σ b) 40 0 0 = cntF (mF σ b) (grm (s_sz σ b) (s_k σ)).toNat 0 0 := by
    have := cntF_more (m := mF σ b) (40 - (grm (s_sz σ b) (s_k σ)).toNat) (grm (s_sz σ b) (s_k σ)).toNat 0 0 hz
    rwa [← e40] at this
  have hc2 : nthF (mF σ b) j 40 0 0 = nthF (mF σ b) j (grm (s_sz σ b) (s_k σ)).toNat 0 0 := by
    have := nthF_more (m := mF σ b) (t := j) (40 - (grm (s_sz σ b) (s_k σ)).toNat) (grm (s_sz σ b) (s_k σ)).toNat 0 0 hz
    rwa [← e40] at this
  refine Ct.of RX7 (by decide +kernel) rfl (Nat.le_of_ble_eq_true rfl) (fun x hx F => ?_)
  refine rr_iload_n F dX7_markAt_0 rfl ?_
  refine rr_iconst F dX7_markAt_1 ?_
  refine rr_icmp_ge F dX7_markAt_2 (tgt := 9) (by decide) ⟨by omega, by omega⟩ ⟨by omega, by omega⟩ (fun c_2 => ?_) (fun c_2 => ?_)
  · refine rr_aload_n F dX7_markAt_9 rfl ?_
    refine rr_iload_n F dX7_markAt_10 rfl ?_
    refine rr_callVI F (ci := 7) (mm_X7_refusalOfBook hb hR hW) mf_X7_refusalOfBook ml_X7_83 ⟨by decide, by decide⟩ (by first | rfl | assumption) (by decide) rfl rfl (Nat.le_of_ble_eq_true rfl) dX7_markAt_11 (fun r_11 I_11 L_11 h_11 => ?_)
    obtain ⟨e2, rfl, rfl⟩ := h_11
    refine rr_istore_n F dX7_markAt_14 (Nat.le_of_ble_eq_true rfl) rfl ?_
    refine rr_iload_n F dX7_markAt_15 rfl ?_
    refine rr_if_eq F dX7_markAt_16 (tgt := 21) (by decide) ⟨by omega, by omega⟩ (fun c_16 => ?_) (fun c_16 => ?_)
    · refine rr_aload_n F dX7_markAt_21 rfl ?_
      refine rg_BP_comparison F (by first | rfl | assumption) fl_X7_33 dX7_markAt_22 ?_
      refine rr_cell (k2 := 18) rfl ?_
      refine rr_aload_n F dX7_markAt_25 rfl ?_
      refine rg_BP_shelf F (by first | rfl | assumption) fl_X7_26 dX7_markAt_26 ?_
      refine rr_cell (k2 := 4) rfl ?_
      refine rr_iload_n F dX7_markAt_29 rfl ?_
      refine rr_callVR F (ci := 1) (mm_X1_pageOf hR hW (by omega) (by omega) (by omega)) mf_X1_pageOf ml_X7_117 ⟨by decide, by decide⟩ (by first | rfl | assumption) (by decide) rfl rfl (Nat.le_of_ble_eq_true rfl) dX7_markAt_30 (fun r_30 I_30 L_30 h_30 => ?_)
      obtain ⟨rfl, g1, g2⟩ := h_30
      refine rr_astore F dX7_markAt_33 (Nat.le_of_ble_eq_true rfl) rfl ?_
      refine rr_iload_n F dX7_markAt_35 rfl ?_
      refine rr_iconst F dX7_markAt_36 ?_
      refine rr_icmp_ne F dX7_markAt_37 (tgt := 48) (by decide) ⟨by omega, by omega⟩ ⟨by omega, by omega⟩ (fun c_37 => ?_) (fun c_37 => ?_)
      · refine rr_aload F dX7_markAt_48 rfl ?_
        refine rr_iload_n F dX7_markAt_50 rfl ?_
        refine rr_callVI F (ci := 3) (mm_X3_gramOfMark P22 (m := mF σ b) (by omega) gb.2.1 hj g1.2.2.1 g1.2.2.2.2.2.1 (fun j => mkF_01 _ _ _ _ j)) mf_X3_gramOfMark ml_X7_134 ⟨by decide, by decide⟩ (by first | rfl | assumption) (by decide) rfl rfl (Nat.le_of_ble_eq_true rfl) dX7_markAt_51 (fun r_51 I_51 L_51 h_51 => ?_)
        obtain ⟨e51, rfl, rfl⟩ := h_51
        refine rr_iret F dX7_markAt_54 ?_
        refine ⟨_, rfl, ?_, hR.k g2⟩
        show _ = sp_markAt σ b j
        rw [sp_markAt, if_neg (by omega), if_pos (by omega)]
        first | (rw [if_pos (by omega), hc1]; exact e42) | (rw [if_neg (by omega), hc2]; exact e51)
      · refine rr_aload F dX7_markAt_40 rfl ?_
        refine rr_callVI F (ci := 3) (mm_X3_howManyMarks P22 (m := mF σ b) (by omega) gb.2.1 g1.2.2.1 g1.2.2.2.2.2.1 (fun j => mkF_01 _ _ _ _ j)) mf_X3_howManyMarks ml_X7_130 ⟨by decide, by decide⟩ (by first | rfl | assumption) (by decide) rfl rfl (Nat.le_of_ble_eq_true rfl) dX7_markAt_42 (fun r_42 I_42 L_42 h_42 => ?_)
        obtain ⟨e42, rfl, rfl⟩ := h_42
        refine rr_goto F dX7_markAt_45 (tgt := 54) (by decide) ?_
        refine rr_iret F dX7_markAt_54 ?_
        refine ⟨_, rfl, ?_, hR.k g2⟩
        show _ = sp_markAt σ b j
        rw [sp_markAt, if_neg (by omega), if_pos (by omega)]
        first | (rw [if_pos (by omega), hc1]; exact e42) | (rw [if_neg (by omega), hc2]; exact e51)
    · refine rr_iload_n F dX7_markAt_19 rfl ?_
      refine rr_iret F dX7_markAt_20 ?_
      refine ⟨_, rfl, ?_, hR⟩
      show _ = sp_markAt σ b j
      first | (rw [sp_markAt, if_pos (by omega)]; done) | (rw [sp_markAt, if_neg (by omega), if_neg (by omega)]; exact e2)
  · refine rr_iconst F dX7_markAt_5 ?_
    refine rr_goto F dX7_markAt_6 (tgt := 14) (by decide) ?_
    refine rr_istore_n F dX7_markAt_14 (Nat.le_of_ble_eq_true rfl) rfl ?_
    refine rr_iload_n F dX7_markAt_15 rfl ?_
    refine rr_if_eq F dX7_markAt_16 (tgt := 21) (by decide) ⟨by omega, by omega⟩ (fun c_16 => ?_) (fun c_16 => ?_)
    · refine rr_aload_n F dX7_markAt_21 rfl ?_
      refine rg_BP_comparison F (by first | rfl | assumption) fl_X7_33 dX7_markAt_22 ?_
      refine rr_cell (k2 := 18) rfl ?_
      refine rr_aload_n F dX7_markAt_25 rfl ?_
      refine rg_BP_shelf F (by first | rfl | assumption) fl_X7_26 dX7_markAt_26 ?_
      refine rr_cell (k2 := 4) rfl ?_
      refine rr_iload_n F dX7_markAt_29 rfl ?_
      refine rr_callVR F (ci := 1) (mm_X1_pageOf hR hW (by omega) (by omega) (by omega)) mf_X1_pageOf ml_X7_117 ⟨by decide, by decide⟩ (by first | rfl | assumption) (by decide) rfl rfl (Nat.le_of_ble_eq_true rfl) dX7_markAt_30 (fun r_30 I_30 L_30 h_30 => ?_)
      obtain ⟨rfl, g1, g2⟩ := h_30
      refine rr_astore F dX7_markAt_33 (Nat.le_of_ble_eq_true rfl) rfl ?_
      refine rr_iload_n F dX7_markAt_35 rfl ?_
      refine rr_iconst F dX7_markAt_36 ?_
      refine rr_icmp_ne F dX7_markAt_37 (tgt := 48) (by decide) ⟨by omega, by omega⟩ ⟨by omega, by omega⟩ (fun c_37 => ?_) (fun c_37 => ?_)
      · refine rr_aload F dX7_markAt_48 rfl ?_
        refine rr_iload_n F dX7_markAt_50 rfl ?_
        refine rr_callVI F (ci := 3) (mm_X3_gramOfMark P22 (m := mF σ b) (by omega) gb.2.1 hj g1.2.2.1 g1.2.2.2.2.2.1 (fun j => mkF_01 _ _ _ _ j)) mf_X3_gramOfMark ml_X7_134 ⟨by decide, by decide⟩ (by first | rfl | assumption) (by decide) rfl rfl (Nat.le_of_ble_eq_true rfl) dX7_markAt_51 (fun r_51 I_51 L_51 h_51 => ?_)
        obtain ⟨e51, rfl, rfl⟩ := h_51
        refine rr_iret F dX7_markAt_54 ?_
        refine ⟨_, rfl, ?_, hR.k g2⟩
        show _ = sp_markAt σ b j
        rw [sp_markAt, if_neg (by omega), if_pos (by omega)]
        first | (rw [if_pos (by omega), hc1]; exact e42) | (rw [if_neg (by omega), hc2]; exact e51)
      · refine rr_aload F dX7_markAt_40 rfl ?_
        refine rr_callVI F (ci := 3) (mm_X3_howManyMarks P22 (m := mF σ b) (by omega) gb.2.1 g1.2.2.1 g1.2.2.2.2.2.1 (fun j => mkF_01 _ _ _ _ j)) mf_X3_howManyMarks ml_X7_130 ⟨by decide, by decide⟩ (by first | rfl | assumption) (by decide) rfl rfl (Nat.le_of_ble_eq_true rfl) dX7_markAt_42 (fun r_42 I_42 L_42 h_42 => ?_)
        obtain ⟨e42, rfl, rfl⟩ := h_42
        refine rr_goto F dX7_markAt_45 (tgt := 54) (by decide) ?_
        refine rr_iret F dX7_markAt_54 ?_
        refine ⟨_, rfl, ?_, hR.k g2⟩
        show _ = sp_markAt σ b j
        rw [sp_markAt, if_neg (by omega), if_pos (by omega)]
        first | (rw [if_pos (by omega), hc1]; exact e42) | (rw [if_neg (by omega), hc2]; exact e51)
    · refine rr_iload_n F dX7_markAt_19 rfl ?_
      refine rr_iret F dX7_markAt_20 ?_
      refine ⟨_, rfl, ?_, hR⟩
      show _ = sp_markAt σ b j
      first | (rw [sp_markAt, if_pos (by omega)]; done) | (rw [sp_markAt, if_neg (by omega), if_neg (by omega)]; exact e2)
set_option maxHeartbeats 4000000 in
set_option maxRecDepth 100000 in
theorem mm_X7_aside {l : Launch} {g : gT} {σ : sT} {b j : Int} {I : IM} {L : LM} (hb : rg b) (hj : rg j) (hR : CR σ I L) (hW : WF σ) :
    Ct l yX7_aside cX7_aside 5 (some .int) 4 94 lyC g [.ref (g.2.1 0), .int (zI b), .int (zI j)] I L (pS CR (sp_aside σ b j, σ)) := by
  have hc := rB_cases σ b
  have w4 := hW.2.2.2.1 b
  have hj' := hj
  unfold rg at hj'
  have h01 := bi_01 (0 ≤ s_gv σ ∧ s_gv σ ≠ b ∧ s_lg σ b = s_lg σ (s_gv σ) ∧ AsP (s_tk σ b) (s_sz σ b) (s_tk σ (s_gv σ)) (s_sz σ (s_gv σ)) (s_w σ + s_k σ - 1) j)
  have h01 : aF σ b j = 0 ∨ aF σ b j = 1 := h01
  refine Ct.of RX7 (by decide +kernel) rfl (Nat.le_of_ble_eq_true rfl) (fun x hx F => ?_)
  refine rr_iload_n F dX7_aside_0 rfl ?_
  refine rr_if_ge F dX7_aside_1 (tgt := 8) (by decide) ⟨by omega, by omega⟩ (fun c_1 => ?_) (fun c_1 => ?_)
  · refine rr_aload_n F dX7_aside_8 rfl ?_
    refine rr_iload_n F dX7_aside_9 rfl ?_
    refine rr_callVI F (ci := 7) (mm_X7_refusalOfBook hb hR hW) mf_X7_refusalOfBook ml_X7_83 ⟨by decide, by decide⟩ (by first | rfl | assumption) (by decide) rfl rfl (Nat.le_of_ble_eq_true rfl) dX7_aside_10 (fun r_10 I_10 L_10 h_10 => ?_)
    obtain ⟨e2, rfl, rfl⟩ := h_10
    refine rr_istore_n F dX7_aside_13 (Nat.le_of_ble_eq_true rfl) rfl ?_
    refine rr_iload_n F dX7_aside_14 rfl ?_
    refine rr_if_eq F dX7_aside_15 (tgt := 20) (by decide) ⟨by omega, by omega⟩ (fun c_15 => ?_) (fun c_15 => ?_)
    · refine rr_aload_n F dX7_aside_20 rfl ?_
      refine rg_BP_comparison F (by first | rfl | assumption) fl_X7_33 dX7_aside_21 ?_
      refine rr_cell (k2 := 18) rfl ?_
      refine rr_aload_n F dX7_aside_24 rfl ?_
      refine rg_BP_shelf F (by first | rfl | assumption) fl_X7_26 dX7_aside_25 ?_
      refine rr_cell (k2 := 4) rfl ?_
      refine rr_iload_n F dX7_aside_28 rfl ?_
      refine rr_callVR F (ci := 1) (mm_X1_pageOf hR hW (by omega) (by omega) (by omega)) mf_X1_pageOf ml_X7_117 ⟨by decide, by decide⟩ (by first | rfl | assumption) (by decide) rfl rfl (Nat.le_of_ble_eq_true rfl) dX7_aside_29 (fun r_29 I_29 L_29 h_29 => ?_)
      obtain ⟨rfl, g1, g2⟩ := h_29
      have eS := g1.1
      refine rr_astore F dX7_aside_32 (Nat.le_of_ble_eq_true rfl) rfl ?_
      refine rr_iload_n F dX7_aside_34 rfl ?_
      refine rr_aload F dX7_aside_35 rfl ?_
      refine rg_Page_size F (by first | rfl | assumption) fl_X7_137 dX7_aside_37 ?_
      refine rr_icmp_lt F dX7_aside_40 (tgt := 45) (by decide) ⟨by omega, by omega⟩ ⟨by omega, by omega⟩ (fun c_40 => ?_) (fun c_40 => ?_)
      · refine rr_aload F dX7_aside_45 rfl ?_
        refine rg_Page_isAside F (by first | rfl | assumption) fl_X7_138 dX7_aside_47 ?_
        refine rr_iload_n F dX7_aside_50 rfl ?_
        refine rr_zald F (N := 40) (by first | rfl | assumption) (by omega) (by first | rfl | assumption) (by omega) dX7_aside_51 ?_
        have eA := g1.2.2.2.2.2.2 j (by omega) (by omega)
        refine rr_if_eq F dX7_aside_52 (tgt := 59) (by decide) ⟨by omega, by omega⟩ (fun c_52 => ?_) (fun c_52 => ?_)
        · refine rr_iconst F dX7_aside_59 ?_
          refine rr_iret F dX7_aside_60 ?_
          refine ⟨_, rfl, ?_, hR.k g2⟩
          show _ = sp_aside σ b j
          rw [sp_aside, if_neg (by omega), if_pos (by omega), if_neg (by omega)]
          omega
        · refine rr_iconst F dX7_aside_55 ?_
          refine rr_goto F dX7_aside_56 (tgt := 60) (by decide) ?_
          refine rr_iret F dX7_aside_60 ?_
          refine ⟨_, rfl, ?_, hR.k g2⟩
          show _ = sp_aside σ b j
          rw [sp_aside, if_neg (by omega), if_pos (by omega), if_neg (by omega)]
          omega
      · refine rr_iconst F dX7_aside_43 ?_
        refine rr_iret F dX7_aside_44 ?_
        refine ⟨_, rfl, ?_, hR.k g2⟩
        show _ = sp_aside σ b j
        rw [sp_aside, if_neg (by omega), if_pos (by omega), if_pos (by omega)]
    · refine rr_iload_n F dX7_aside_18 rfl ?_
      refine rr_iret F dX7_aside_19 ?_
      refine ⟨_, rfl, ?_, hR⟩
      show _ = sp_aside σ b j
      first | (rw [sp_aside, if_pos (by omega)]; done) | (rw [sp_aside, if_neg (by omega), if_neg (by omega)]; exact e2)
  · refine rr_iconst F dX7_aside_4 ?_
    refine rr_goto F dX7_aside_5 (tgt := 13) (by decide) ?_
    refine rr_istore_n F dX7_aside_13 (Nat.le_of_ble_eq_true rfl) rfl ?_
    refine rr_iload_n F dX7_aside_14 rfl ?_
    refine rr_if_eq F dX7_aside_15 (tgt := 20) (by decide) ⟨by omega, by omega⟩ (fun c_15 => ?_) (fun c_15 => ?_)
    · refine rr_aload_n F dX7_aside_20 rfl ?_
      refine rg_BP_comparison F (by first | rfl | assumption) fl_X7_33 dX7_aside_21 ?_
      refine rr_cell (k2 := 18) rfl ?_
      refine rr_aload_n F dX7_aside_24 rfl ?_
      refine rg_BP_shelf F (by first | rfl | assumption) fl_X7_26 dX7_aside_25 ?_
      refine rr_cell (k2 := 4) rfl ?_
      refine rr_iload_n F dX7_aside_28 rfl ?_
      refine rr_callVR F (ci := 1) (mm_X1_pageOf hR hW (by omega) (by omega) (by omega)) mf_X1_pageOf ml_X7_117 ⟨by decide, by decide⟩ (by first | rfl | assumption) (by decide) rfl rfl (Nat.le_of_ble_eq_true rfl) dX7_aside_29 (fun r_29 I_29 L_29 h_29 => ?_)
      obtain ⟨rfl, g1, g2⟩ := h_29
      have eS := g1.1
      refine rr_astore F dX7_aside_32 (Nat.le_of_ble_eq_true rfl) rfl ?_
      refine rr_iload_n F dX7_aside_34 rfl ?_
      refine rr_aload F dX7_aside_35 rfl ?_
      refine rg_Page_size F (by first | rfl | assumption) fl_X7_137 dX7_aside_37 ?_
      refine rr_icmp_lt F dX7_aside_40 (tgt := 45) (by decide) ⟨by omega, by omega⟩ ⟨by omega, by omega⟩ (fun c_40 => ?_) (fun c_40 => ?_)
      · refine rr_aload F dX7_aside_45 rfl ?_
        refine rg_Page_isAside F (by first | rfl | assumption) fl_X7_138 dX7_aside_47 ?_
        refine rr_iload_n F dX7_aside_50 rfl ?_
        refine rr_zald F (N := 40) (by first | rfl | assumption) (by omega) (by first | rfl | assumption) (by omega) dX7_aside_51 ?_
        have eA := g1.2.2.2.2.2.2 j (by omega) (by omega)
        refine rr_if_eq F dX7_aside_52 (tgt := 59) (by decide) ⟨by omega, by omega⟩ (fun c_52 => ?_) (fun c_52 => ?_)
        · refine rr_iconst F dX7_aside_59 ?_
          refine rr_iret F dX7_aside_60 ?_
          refine ⟨_, rfl, ?_, hR.k g2⟩
          show _ = sp_aside σ b j
          rw [sp_aside, if_neg (by omega), if_pos (by omega), if_neg (by omega)]
          omega
        · refine rr_iconst F dX7_aside_55 ?_
          refine rr_goto F dX7_aside_56 (tgt := 60) (by decide) ?_
          refine rr_iret F dX7_aside_60 ?_
          refine ⟨_, rfl, ?_, hR.k g2⟩
          show _ = sp_aside σ b j
          rw [sp_aside, if_neg (by omega), if_pos (by omega), if_neg (by omega)]
          omega
      · refine rr_iconst F dX7_aside_43 ?_
        refine rr_iret F dX7_aside_44 ?_
        refine ⟨_, rfl, ?_, hR.k g2⟩
        show _ = sp_aside σ b j
        rw [sp_aside, if_neg (by omega), if_pos (by omega), if_pos (by omega)]
    · refine rr_iload_n F dX7_aside_18 rfl ?_
      refine rr_iret F dX7_aside_19 ?_
      refine ⟨_, rfl, ?_, hR⟩
      show _ = sp_aside σ b j
      first | (rw [sp_aside, if_pos (by omega)]; done) | (rw [sp_aside, if_neg (by omega), if_neg (by omega)]; exact e2)
end
section
/-! the model: hashes, marks -/
theorem MRb {σ : sT} {I : IM} {L : LM} (hR : MR σ I L) {b : Int} (h0 : 0 ≤ b) (h : b < 6) : I 2 b = s_hd σ b ∧ I 3 b = s_sz σ b ∧ I 4 b = s_lg σ b ∧ I 5 b = s_dy σ b ∧ ∀ i, 0 ≤ i → i < s_sz σ b → L 6 (40 * b + i) = s_tk σ b i := hR.2.2.1 b h0 h
set_option maxHeartbeats 4000000 in
set_option maxRecDepth 100000 in
theorem mm_X8_grams {l : Launch} {g : gT} {σ : sT} {b : Int} {I : IM} {L : LM} (hR : MR σ I L) (hW : WF σ) (hb0 : 0 ≤ b) (hb : b < 6) :
    Ct l yX8_grams cX8_grams 2 (some .int) 0 0 lyM g [.ref (g.2.1 0), .int (zI b)] I L (pI (fun r I' L' => r = grm (s_sz σ b) (s_k σ) ∧ I = I' ∧ L = L')) := by
  obtain ⟨e1, e2, e3, e4, e5⟩ := MRb hR hb0 hb
  obtain ⟨h1, h2, h3, h4, h5, h6, h7, h8, h9⟩ := id hR
  have w4 := hW.2.2.2.1 b
  have w7 := hW.2.2.2.2.2.2.1
  refine Ct.of RX8 (by decide +kernel) rfl (Nat.le_of_ble_eq_true rfl) (fun x hx F => ?_)
  refine rr_aload_n F dX8_grams_0 rfl ?_
  refine rg_Model_sizes F (by first | rfl | assumption) fl_X8_17 dX8_grams_1 ?_
  refine rr_cell (k2 := 3) rfl ?_
  refine rr_iload_n F dX8_grams_4 rfl ?_
  refine rr_iald F (N := 6) (by first | rfl | assumption) (by omega) (by first | rfl | assumption) (by omega) dX8_grams_5 ?_
  refine rr_aload_n F dX8_grams_6 rfl ?_
  refine rg_Model_k F (by first | rfl | assumption) fl_X8_30 dX8_grams_7 ?_
  refine rr_icmp_ge F dX8_grams_10 (tgt := 17) (by decide) ⟨by omega, by omega⟩ ⟨by omega, by omega⟩ (fun c_10 => ?_) (fun c_10 => ?_)
  · refine rr_aload_n F dX8_grams_17 rfl ?_
    refine rg_Model_sizes F (by first | rfl | assumption) fl_X8_17 dX8_grams_18 ?_
    refine rr_cell (k2 := 3) rfl ?_
    refine rr_iload_n F dX8_grams_21 rfl ?_
    refine rr_iald F (N := 6) (by first | rfl | assumption) (by omega) (by first | rfl | assumption) (by omega) dX8_grams_22 ?_
    refine rr_aload_n F dX8_grams_23 rfl ?_
    refine rg_Model_k F (by first | rfl | assumption) fl_X8_30 dX8_grams_24 ?_
    refine rr_isub F dX8_grams_27 ?_
    refine rr_iconst F dX8_grams_28 ?_
    refine rr_iadd F dX8_grams_29 ?_
    refine rr_iret F dX8_grams_30 ?_
    exact ⟨_, rfl, by unfold grm; omega, rfl, rfl⟩
  · refine rr_iconst F dX8_grams_13 ?_
    refine rr_goto F dX8_grams_14 (tgt := 30) (by decide) ?_
    refine rr_iret F dX8_grams_30 ?_
    exact ⟨_, rfl, by unfold grm; omega, rfl, rfl⟩
set_option maxHeartbeats 4000000 in
set_option maxRecDepth 100000 in
theorem mm_X8_hashOf {l : Launch} {g : gT} {σ : sT} {b s : Int} {I : IM} {L : LM} (hR : MR σ I L) (hW : WF σ) (hb0 : 0 ≤ b) (hb : b < 6) (hs : 0 ≤ s) (hsm : s + s_k σ ≤ s_sz σ b) :
    Ct l yX8_hashOf cX8_hashOf 6 (some .int) 0 0 lyM g [.ref (g.2.1 0), .int (zI b), .int (zI s)] I L (pI (fun r I' L' => r = hsh (s_tk σ b) (s_k σ) s ∧ I = I' ∧ L = L')) := by
  obtain ⟨e1, e2, e3, e4, e5⟩ := MRb hR hb0 hb
  obtain ⟨h1, h2, h3, h4, h5, h6, h7, h8, h9⟩ := id hR
  have w4 := hW.2.2.2.1 b
  have w7 := hW.2.2.2.2.2.2.1
  refine Ct.of RX8 (by decide +kernel) rfl (Nat.le_of_ble_eq_true rfl) (fun x hx F => ?_)
  have loop : ∀ (c : Nat) (i : Int) (h : Int64), c = (s + s_k σ - i).toNat → s ≤ i → i ≤ s + s_k σ → hshF (s_tk σ b) c i h = hshF (s_tk σ b) (s_k σ).toNat s 7 → Rn x lyM g (pI (fun r I' L' => r = hsh (s_tk σ b) (s_k σ) s ∧ I = I' ∧ L = L')) 7 [vr g 0, vn b, vn s, vl h, none, vn i] [] I L := by
    intro c
    induction c with
    | zero =>
      intro i h h1 h2 h3 h4
      refine rr_iload F dX8_hashOf_7 rfl ?_
      refine rr_iload_n F dX8_hashOf_9 rfl ?_
      refine rr_aload_n F dX8_hashOf_10 rfl ?_
      refine rg_Model_k F (by first | rfl | assumption) fl_X8_30 dX8_hashOf_11 ?_
      refine rr_iadd F dX8_hashOf_14 ?_
      refine rr_icmp_ge F dX8_hashOf_15 (tgt := 47) (by decide) ⟨by omega, by omega⟩ ⟨by omega, by omega⟩ (fun c_15 => ?_) (fun c_15 => ?_)
      · refine rr_lload_n F dX8_hashOf_47 rfl ?_
        refine rr_l2i F dX8_hashOf_48 ?_
        refine rr_iret F dX8_hashOf_49 ?_
        exact ⟨_, rfl, by rw [hsh, ← h4, hshF], rfl, rfl⟩
      · exact absurd c_15 (by omega)
    | succ c ih =>
      intro i h h1 h2 h3 h4
      refine rr_iload F dX8_hashOf_7 rfl ?_
      refine rr_iload_n F dX8_hashOf_9 rfl ?_
      refine rr_aload_n F dX8_hashOf_10 rfl ?_
      refine rg_Model_k F (by first | rfl | assumption) fl_X8_30 dX8_hashOf_11 ?_
      refine rr_iadd F dX8_hashOf_14 ?_
      refine rr_icmp_ge F dX8_hashOf_15 (tgt := 47) (by decide) ⟨by omega, by omega⟩ ⟨by omega, by omega⟩ (fun c_15 => ?_) (fun c_15 => ?_)
      · exact absurd c_15 (by omega)
      · refine rr_lload_n F dX8_hashOf_18 rfl ?_
        refine rr_ldc2 F dX8_hashOf_19 co_X8_135 ?_
        refine rr_lmul F dX8_hashOf_22 ?_
        refine rr_aload_n F dX8_hashOf_23 rfl ?_
        refine rg_Model_tokens F (by first | rfl | assumption) fl_X8_26 dX8_hashOf_24 ?_
        refine rr_cell (k2 := 6) rfl ?_
        refine rr_bipush F dX8_hashOf_27 (by decide) ?_
        refine rr_iload_n F dX8_hashOf_29 rfl ?_
        refine rr_imul F dX8_hashOf_30 ?_
        refine rr_iload F dX8_hashOf_31 rfl ?_
        refine rr_iadd F dX8_hashOf_33 ?_
        refine rr_lald F (N := 240) (by first | rfl | assumption) (by omega) (by first | rfl | assumption) (by omega) dX8_hashOf_34 ?_
        refine rr_ladd F dX8_hashOf_35 ?_
        refine rr_ldc2 F dX8_hashOf_36 co_X8_137 ?_
        refine rr_lrem F dX8_hashOf_39 (by decide) ?_
        refine rr_lstore_n F dX8_hashOf_40 (Nat.le_of_ble_eq_true rfl) rfl ?_
        refine rr_iinc F dX8_hashOf_41 rfl rfl ?_
        refine rr_goto F dX8_hashOf_44 (tgt := 7) (by decide) ?_
        rw [e5 i (by omega) (by omega)]
        exact ih (i + 1) _ (by omega) (by omega) (by omega) (by rw [← h4, hshF])
  refine rr_ldc2 F dX8_hashOf_0 co_X8_119 ?_
  refine rr_lstore_n F dX8_hashOf_3 (Nat.le_of_ble_eq_true rfl) rfl ?_
  refine rr_iload_n F dX8_hashOf_4 rfl ?_
  refine rr_istore F dX8_hashOf_5 (Nat.le_of_ble_eq_true rfl) rfl ?_
  exact loop _ s 7 rfl (by omega) (by omega) (by rw [show (s + s_k σ - s) = s_k σ by omega])
set_option maxHeartbeats 4000000 in
set_option maxRecDepth 100000 in
theorem mm_X8_hash {l : Launch} {g : gT} {σ : sT} {b j : Int} {I : IM} {L : LM} (hb : rg b) (hj : rg j) (hR : MR σ I L) (hW : WF σ) :
    Ct l yX8_hash cX8_hash 3 (some .int) 2 42 lyM g [.ref (g.2.1 0), .int (zI b), .int (zI j)] I L (pS MR (sp_hash σ b j, σ)) := by
  have hc := rB_cases σ b
  have w3 := hW.2.2.1 b
  have w4 := hW.2.2.2.1 b
  have w7 := hW.2.2.2.2.2.2.1
  have gb := grm_b w4.1 w4.2 w7.1
  have ge : grm (s_sz σ b) (s_k σ) = max 0 (s_sz σ b - s_k σ + 1) := rfl
  refine Ct.of RX8 (by decide +kernel) rfl (Nat.le_of_ble_eq_true rfl) (fun x hx F => ?_)
  refine rr_iload_n F dX8_hash_0 rfl ?_
  refine rr_callSI F (mm_X8_isNumber hb) mf_X8_isNumber ml_X8_123 ⟨by decide, by decide⟩ rfl (Nat.le_of_ble_eq_true rfl) dX8_hash_1 (fun r_1 I_1 L_1 h_1 => ?_)
  obtain ⟨e3, rfl, rfl⟩ := h_1
  refine rr_if_ne F dX8_hash_4 (tgt := 11) (by decide) ⟨by omega, by omega⟩ (fun c_4 => ?_) (fun c_4 => ?_)
  · refine rr_aload_n F dX8_hash_11 rfl ?_
    refine rg_Model_is F (by first | rfl | assumption) fl_X8_13 dX8_hash_12 ?_
    refine rr_cell (k2 := 2) rfl ?_
    refine rr_iload_n F dX8_hash_15 rfl ?_
    refine rr_zald F (N := 6) (by first | rfl | assumption) (by omega) (by first | rfl | assumption) (by omega) dX8_hash_16 ?_
    have e1 := (MRb hR (b := b) (by omega) (by omega)).1
    refine rr_if_ne F dX8_hash_17 (tgt := 25) (by decide) ⟨by omega, by omega⟩ (fun c_17 => ?_) (fun c_17 => ?_)
    · refine rr_iload_n F dX8_hash_25 rfl ?_
      refine rr_iconst F dX8_hash_26 ?_
      refine rr_aload_n F dX8_hash_27 rfl ?_
      refine rr_iload_n F dX8_hash_28 rfl ?_
      refine rr_callVI F (ci := 8) (mm_X8_grams hR hW (by omega) (by omega)) mf_X8_grams ml_X8_139 ⟨by decide, by decide⟩ (by first | rfl | assumption) (by decide) rfl rfl (Nat.le_of_ble_eq_true rfl) dX8_hash_29 (fun r_29 I_29 L_29 h_29 => ?_)
      obtain ⟨e29, rfl, rfl⟩ := h_29
      refine rr_iconst F dX8_hash_32 ?_
      refine rr_isub F dX8_hash_33 ?_
      refine rr_callSI F (mm_X8_in hj ⟨by omega, by omega⟩ ⟨by omega, by omega⟩) mf_X8_in ml_X8_86 ⟨by decide, by decide⟩ rfl (Nat.le_of_ble_eq_true rfl) dX8_hash_34 (fun r_34 I_34 L_34 h_34 => ?_)
      obtain ⟨e34, rfl, rfl⟩ := h_34
      refine rr_if_eq F dX8_hash_37 (tgt := 49) (by decide) ⟨by omega, by omega⟩ (fun c_37 => ?_) (fun c_37 => ?_)
      · refine rr_bipush F dX8_hash_49 (by decide) ?_
        refine rr_iret F dX8_hash_51 ?_
        refine ⟨_, rfl, ?_, hR⟩
        show _ = sp_hash σ b j
        first | (rw [sp_hash, if_neg (by omega)]; omega) | (rw [sp_hash, if_pos (by omega), if_neg (by omega)]; done) | (rw [sp_hash, if_pos (by omega), if_pos (by omega)]; exact e43)
      · refine rr_aload_n F dX8_hash_40 rfl ?_
        refine rr_iload_n F dX8_hash_41 rfl ?_
        refine rr_iload_n F dX8_hash_42 rfl ?_
        refine rr_callVI F (ci := 8) (mm_X8_hashOf hR hW (by omega) (by omega) (by omega) (by omega)) mf_X8_hashOf ml_X8_142 ⟨by decide, by decide⟩ (by first | rfl | assumption) (by decide) rfl rfl (Nat.le_of_ble_eq_true rfl) dX8_hash_43 (fun r_43 I_43 L_43 h_43 => ?_)
        obtain ⟨e43, rfl, rfl⟩ := h_43
        refine rr_goto F dX8_hash_46 (tgt := 51) (by decide) ?_
        refine rr_iret F dX8_hash_51 ?_
        refine ⟨_, rfl, ?_, hR⟩
        show _ = sp_hash σ b j
        first | (rw [sp_hash, if_neg (by omega)]; omega) | (rw [sp_hash, if_pos (by omega), if_neg (by omega)]; done) | (rw [sp_hash, if_pos (by omega), if_pos (by omega)]; exact e43)
    · refine rr_bipush F dX8_hash_20 (by decide) ?_
      refine rr_goto F dX8_hash_22 (tgt := 51) (by decide) ?_
      refine rr_iret F dX8_hash_51 ?_
      refine ⟨_, rfl, ?_, hR⟩
      show _ = sp_hash σ b j
      first | (rw [sp_hash, if_neg (by omega)]; omega) | (rw [sp_hash, if_pos (by omega), if_neg (by omega)]; done) | (rw [sp_hash, if_pos (by omega), if_pos (by omega)]; exact e43)
  · refine rr_iconst F dX8_hash_7 ?_
    refine rr_goto F dX8_hash_8 (tgt := 51) (by decide) ?_
    refine rr_iret F dX8_hash_51 ?_
    refine ⟨_, rfl, ?_, hR⟩
    show _ = sp_hash σ b j
    first | (rw [sp_hash, if_neg (by omega)]; omega) | (rw [sp_hash, if_pos (by omega), if_neg (by omega)]; done) | (rw [sp_hash, if_pos (by omega), if_pos (by omega)]; exact e43)
set_option maxHeartbeats 4000000 in
set_option maxRecDepth 100000 in
theorem mm_X8_findMarks {l : Launch} {g : gT} {σ : sT} {b : Int} {I : IM} {L : LM} (hR : MR σ I L) (hW : WF σ) (hb0 : 0 ≤ b) (hb : b < 6) :
    Ct l yX8_findMarks cX8_findMarks 6 none 1 25 lyM g [.ref (g.2.1 0), .int (zI b)] I L (pV (fun I' L' => (∀ j, 0 ≤ j → j < 40 → I' 8 (40 * b + j) = mF σ b j) ∧ (∀ j, j < 40 * b ∨ 40 * b + 40 ≤ j → I' 8 j = I 8 j) ∧ (∀ q, q ≠ 8 → q ≠ 9 → I' q = I q) ∧ L = L')) := by
  have w4 := hW.2.2.2.1 b
  have w7 := hW.2.2.2.2.2.2.1
  have w8 := hW.2.2.2.2.2.2.2.1
  have hw := hR.2.2.2.2.2.1
  have gb := grm_b w4.1 w4.2 w7.1
  have hG0 : grm (s_sz σ b) (s_k σ) = max 0 (s_sz σ b - s_k σ + 1) := rfl
  generalize hG : grm (s_sz σ b) (s_k σ) = G at *
  have hW0 : min (s_w σ) G = min (s_w σ) G := rfl
  generalize hWd : min (s_w σ) G = W at *
  refine Ct.of RX8 (by decide +kernel) rfl (Nat.le_of_ble_eq_true rfl) (fun x hx F => ?_)
  generalize hpost : (pV (fun (I' : IM) (L' : LM) => (∀ j, 0 ≤ j → j < 40 → I' 8 (40 * b + j) = mF σ b j) ∧ (∀ j, j < 40 * b ∨ 40 * b + 40 ≤ j → I' 8 j = I 8 j) ∧ (∀ q, q ≠ 8 → q ≠ 9 → I' q = I q) ∧ L = L')) = post
  have loopC : ∀ (c : Nat) (f : Int) (I1 : IM), c = (G + 1 - W - f).toNat → 0 ≤ f → f ≤ G - W + 1 → (f = 0 ∨ W ≤ G) → (∀ j, 0 ≤ j → j < G → I1 9 j = hsh (s_tk σ b) (s_k σ) j) → (∀ j, 0 ≤ j → j < 40 → I1 8 (40 * b + j) = if j < G then bi (MkU (hsh (s_tk σ b) (s_k σ)) W f j) else 0) → (∀ j, j < 40 * b ∨ 40 * b + 40 ≤ j → I1 8 j = I 8 j) → (∀ q, q ≠ 8 → q ≠ 9 → I1 q = I q) → Rn x lyM g post 59 [vr g 0, vn b, vn G, vn f, none, none] [] I1 L := by
    intro c
    induction c with
    | zero =>
      intro f I1 h1 h2 h3 h3' h4 h5 h6 h7
      have ew : I1 0 8 = s_w σ := by rw [h7 0 (by omega) (by omega)]; exact hw
      have hf : f = G - W + 1 := by omega
      refine rr_iload_n F dX8_findMarks_59 rfl ?_
      refine rr_if_ne F dX8_findMarks_60 (tgt := 67) (by decide) ⟨by omega, by omega⟩ (fun c_60 => ?_) (fun c_60 => ?_)
      · refine rr_iload_n F dX8_findMarks_67 rfl ?_
        refine rr_aload_n F dX8_findMarks_68 rfl ?_
        refine rg_Model_w F (by first | rfl | assumption) fl_X8_34 dX8_findMarks_69 ?_
        refine rr_iadd F dX8_findMarks_72 ?_
        refine rr_iload_n F dX8_findMarks_73 rfl ?_
        refine rr_icmp_gt F dX8_findMarks_74 (tgt := 153) (by decide) ⟨by omega, by omega⟩ ⟨by omega, by omega⟩ (fun c_74 => ?_) (fun c_74 => ?_)
        · refine rr_vret F dX8_findMarks_153 ?_
          rw [← hpost]
          refine ⟨rfl, fun j a d => ?_, h6, h7, rfl⟩
          rw [h5 j a d, mF, mkF, hG]
          by_cases y : j < G
          · rw [if_pos y, if_pos ⟨a, y⟩, hWd, hf]
          · rw [if_neg y, if_neg (fun z => y z.2)]
        · exfalso
          omega
      · refine rr_iload_n F dX8_findMarks_63 rfl ?_
        refine rr_if_gt F dX8_findMarks_64 (tgt := 77) (by decide) ⟨by omega, by omega⟩ (fun c_64 => ?_) (fun c_64 => ?_)
        · exfalso
          omega
        · refine rr_iload_n F dX8_findMarks_67 rfl ?_
          refine rr_aload_n F dX8_findMarks_68 rfl ?_
          refine rg_Model_w F (by first | rfl | assumption) fl_X8_34 dX8_findMarks_69 ?_
          refine rr_iadd F dX8_findMarks_72 ?_
          refine rr_iload_n F dX8_findMarks_73 rfl ?_
          refine rr_icmp_gt F dX8_findMarks_74 (tgt := 153) (by decide) ⟨by omega, by omega⟩ ⟨by omega, by omega⟩ (fun c_74 => ?_) (fun c_74 => ?_)
          · refine rr_vret F dX8_findMarks_153 ?_
            rw [← hpost]
            refine ⟨rfl, fun j a d => ?_, h6, h7, rfl⟩
            rw [h5 j a d, mF, mkF, hG]
            by_cases y : j < G
            · rw [if_pos y, if_pos ⟨a, y⟩, hWd, hf]
            · rw [if_neg y, if_neg (fun z => y z.2)]
          · exfalso
            omega
    | succ c ih =>
      intro f I1 h1 h2 h3 h3' h4 h5 h6 h7
      have ew : I1 0 8 = s_w σ := by rw [h7 0 (by omega) (by omega)]; exact hw
      have body : 0 < G → Rn x lyM g post 77 [vr g 0, vn b, vn G, vn f, none, none] [] I1 L := by
        intro hGp
        have after : ∀ r : Int, r = lolF (hsh (s_tk σ b) (s_k σ)) (W - 1).toNat (f + 1) f → Rn x lyM g post 134 [vr g 0, vn b, vn G, vn f, vn r, none] [] I1 L := by
          intro r hr
          have hin := lolF_in (hsh (s_tk σ b) (s_k σ)) (W - 1).toNat (f + 1) f f (f + W) (by omega) (by omega) (by omega) (by omega)
          rw [← hr] at hin
          refine rr_aload_n F dX8_findMarks_134 rfl ?_
          refine rg_Model_marks F (by first | rfl | assumption) fl_X8_59 dX8_findMarks_135 ?_
          refine rr_cell (k2 := 8) rfl ?_
          refine rr_bipush F dX8_findMarks_138 (by decide) ?_
          refine rr_iload_n F dX8_findMarks_140 rfl ?_
          refine rr_imul F dX8_findMarks_141 ?_
          refine rr_iload F dX8_findMarks_142 rfl ?_
          refine rr_iadd F dX8_findMarks_144 ?_
          refine rr_iconst F dX8_findMarks_145 ?_
          refine rr_zast F (N := 240) (by first | rfl | assumption) (by omega) (by first | rfl | assumption) (by omega) (by decide) dX8_findMarks_146 ?_
          refine rr_iinc F dX8_findMarks_147 rfl rfl ?_
          refine rr_goto F dX8_findMarks_150 (tgt := 59) (by decide) ?_
          refine rr_drop 4 ?_
          refine ih (f + 1) _ (by omega) (by omega) (by omega) (by omega) (fun j a d => ?_) (fun j a d => ?_) (fun j a => ?_) (fun q a d => ?_)
          · rw [up2_cell _ _ _ (by omega)]; exact h4 j a d
          · by_cases z : j = r
            · subst z
              rw [up2_same, if_pos (by omega), bi_pos ⟨f, by omega, by omega, hr⟩]
            · rw [up2_ne _ _ _ (by omega), h5 j a d]
              by_cases y : j < G
              · rw [if_pos y, if_pos y]
                refine bi_congr ⟨fun ⟨e, f1, f2, f3⟩ => ⟨e, f1, by omega, f3⟩, fun ⟨e, f1, f2, f3⟩ => ?_⟩
                by_cases y : e = f
                · exact absurd (f3.trans (by rw [y, hr])) z
                · exact ⟨e, f1, by omega, f3⟩
              · rw [if_neg y, if_neg y]
          · rw [up2_ne _ _ _ (by omega)]; exact h6 j a
          · rw [up2_cell _ _ _ a]; exact h7 q a d
        have loopD : ∀ (d : Nat) (i t : Int), d = (f + W - i).toNat → f < i → i ≤ f + W → f ≤ t → t < i → lolF (hsh (s_tk σ b) (s_k σ)) d i t = lolF (hsh (s_tk σ b) (s_k σ)) (W - 1).toNat (f + 1) f → Rn x lyM g post 85 [vr g 0, vn b, vn G, vn f, vn t, vn i] [] I1 L := by
          intro d
          induction d with
          | zero =>
            intro i t e1 e2 e3 e4 e5 e6
            refine rr_iload F dX8_findMarks_85 rfl ?_
            refine rr_iload_n F dX8_findMarks_87 rfl ?_
            refine rr_aload_n F dX8_findMarks_88 rfl ?_
            refine rg_Model_w F (by first | rfl | assumption) fl_X8_34 dX8_findMarks_89 ?_
            refine rr_iadd F dX8_findMarks_92 ?_
            refine rr_icmp_ge F dX8_findMarks_93 (tgt := 134) (by decide) ⟨by omega, by omega⟩ ⟨by omega, by omega⟩ (fun c_93 => ?_) (fun c_93 => ?_)
            · refine rr_drop 5 ?_
              exact after t (by rw [← e6, lolF])
            · refine rr_iload F dX8_findMarks_96 rfl ?_
              refine rr_iload_n F dX8_findMarks_98 rfl ?_
              refine rr_icmp_ge F dX8_findMarks_99 (tgt := 134) (by decide) ⟨by omega, by omega⟩ ⟨by omega, by omega⟩ (fun c_99 => ?_) (fun c_99 => ?_)
              · refine rr_drop 5 ?_
                exact after t (by rw [← e6, lolF])
              · exfalso
                omega
          | succ d ihd =>
            intro i t e1 e2 e3 e4 e5 e6
            rw [lolF] at e6
            have g1 := h4 t (by omega) (by omega)
            have g2 := h4 i (by omega) (by omega)
            have r1 := hsh_rg (s_tk σ b) (s_k σ) t
            have r2 := hsh_rg (s_tk σ b) (s_k σ) i
            refine rr_iload F dX8_findMarks_85 rfl ?_
            refine rr_iload_n F dX8_findMarks_87 rfl ?_
            refine rr_aload_n F dX8_findMarks_88 rfl ?_
            refine rg_Model_w F (by first | rfl | assumption) fl_X8_34 dX8_findMarks_89 ?_
            refine rr_iadd F dX8_findMarks_92 ?_
            refine rr_icmp_ge F dX8_findMarks_93 (tgt := 134) (by decide) ⟨by omega, by omega⟩ ⟨by omega, by omega⟩ (fun c_93 => ?_) (fun c_93 => ?_)
            · exfalso
              omega
            · refine rr_iload F dX8_findMarks_96 rfl ?_
              refine rr_iload_n F dX8_findMarks_98 rfl ?_
              refine rr_icmp_ge F dX8_findMarks_99 (tgt := 134) (by decide) ⟨by omega, by omega⟩ ⟨by omega, by omega⟩ (fun c_99 => ?_) (fun c_99 => ?_)
              · exfalso
                omega
              · refine rr_aload_n F dX8_findMarks_102 rfl ?_
                refine rg_Model_hashes F (by first | rfl | assumption) fl_X8_62 dX8_findMarks_103 ?_
                refine rr_cell (k2 := 9) rfl ?_
                refine rr_iload F dX8_findMarks_106 rfl ?_
                refine rr_iald F (N := 40) (by first | rfl | assumption) (by omega) (by first | rfl | assumption) (by omega) dX8_findMarks_108 ?_
                refine rr_aload_n F dX8_findMarks_109 rfl ?_
                refine rg_Model_hashes F (by first | rfl | assumption) fl_X8_62 dX8_findMarks_110 ?_
                refine rr_cell (k2 := 9) rfl ?_
                refine rr_iload F dX8_findMarks_113 rfl ?_
                refine rr_iald F (N := 40) (by first | rfl | assumption) (by omega) (by first | rfl | assumption) (by omega) dX8_findMarks_115 ?_
                rw [g1, g2]
                refine rr_icmp_gt F dX8_findMarks_116 (tgt := 124) (by decide) (by exact r2) (by exact r1) (fun c_116 => ?_) (fun c_116 => ?_)
                · refine rr_iload F dX8_findMarks_124 rfl ?_
                  refine rr_istore F dX8_findMarks_126 (Nat.le_of_ble_eq_true rfl) rfl ?_
                  refine rr_iinc F dX8_findMarks_128 rfl rfl ?_
                  refine rr_goto F dX8_findMarks_131 (tgt := 85) (by decide) ?_
                  first | exact ihd (i + 1) i (by omega) (by omega) (by omega) (by omega) (by omega) (by rw [← e6, if_pos c_116]) | exact ihd (i + 1) t (by omega) (by omega) (by omega) (by omega) (by omega) (by rw [← e6, if_neg (Int.not_le.mpr c_116)])
                · refine rr_iload F dX8_findMarks_119 rfl ?_
                  refine rr_goto F dX8_findMarks_121 (tgt := 126) (by decide) ?_
                  refine rr_istore F dX8_findMarks_126 (Nat.le_of_ble_eq_true rfl) rfl ?_
                  refine rr_iinc F dX8_findMarks_128 rfl rfl ?_
                  refine rr_goto F dX8_findMarks_131 (tgt := 85) (by decide) ?_
                  first | exact ihd (i + 1) i (by omega) (by omega) (by omega) (by omega) (by omega) (by rw [← e6, if_pos c_116]) | exact ihd (i + 1) t (by omega) (by omega) (by omega) (by omega) (by omega) (by rw [← e6, if_neg (Int.not_le.mpr c_116)])
        refine rr_iload_n F dX8_findMarks_77 rfl ?_
        refine rr_istore F dX8_findMarks_78 (Nat.le_of_ble_eq_true rfl) rfl ?_
        refine rr_iload_n F dX8_findMarks_80 rfl ?_
        refine rr_iconst F dX8_findMarks_81 ?_
        refine rr_iadd F dX8_findMarks_82 ?_
        refine rr_istore F dX8_findMarks_83 (Nat.le_of_ble_eq_true rfl) rfl ?_
        exact loopD _ (f + 1) f rfl (by omega) (by omega) (by omega) (by omega) (by rw [show f + W - (f + 1) = W - 1 by omega])
      refine rr_iload_n F dX8_findMarks_59 rfl ?_
      refine rr_if_ne F dX8_findMarks_60 (tgt := 67) (by decide) ⟨by omega, by omega⟩ (fun c_60 => ?_) (fun c_60 => ?_)
      · refine rr_iload_n F dX8_findMarks_67 rfl ?_
        refine rr_aload_n F dX8_findMarks_68 rfl ?_
        refine rg_Model_w F (by first | rfl | assumption) fl_X8_34 dX8_findMarks_69 ?_
        refine rr_iadd F dX8_findMarks_72 ?_
        refine rr_iload_n F dX8_findMarks_73 rfl ?_
        refine rr_icmp_gt F dX8_findMarks_74 (tgt := 153) (by decide) ⟨by omega, by omega⟩ ⟨by omega, by omega⟩ (fun c_74 => ?_) (fun c_74 => ?_)
        · first | (exfalso; omega) | (refine rr_vret F dX8_findMarks_153 ?_; rw [← hpost]; refine ⟨rfl, fun j a d => ?_, h6, h7, rfl⟩; rw [h5 j a d, mF, mkF, hG, if_neg (by omega), if_neg (by omega)])
        · exact body (by omega)
      · refine rr_iload_n F dX8_findMarks_63 rfl ?_
        refine rr_if_gt F dX8_findMarks_64 (tgt := 77) (by decide) ⟨by omega, by omega⟩ (fun c_64 => ?_) (fun c_64 => ?_)
        · exact body (by omega)
        · refine rr_iload_n F dX8_findMarks_67 rfl ?_
          refine rr_aload_n F dX8_findMarks_68 rfl ?_
          refine rg_Model_w F (by first | rfl | assumption) fl_X8_34 dX8_findMarks_69 ?_
          refine rr_iadd F dX8_findMarks_72 ?_
          refine rr_iload_n F dX8_findMarks_73 rfl ?_
          refine rr_icmp_gt F dX8_findMarks_74 (tgt := 153) (by decide) ⟨by omega, by omega⟩ ⟨by omega, by omega⟩ (fun c_74 => ?_) (fun c_74 => ?_)
          · first | (exfalso; omega) | (refine rr_vret F dX8_findMarks_153 ?_; rw [← hpost]; refine ⟨rfl, fun j a d => ?_, h6, h7, rfl⟩; rw [h5 j a d, mF, mkF, hG, if_neg (by omega), if_neg (by omega)])
          · exact body (by omega)
  have loopB : ∀ (c : Nat) (f : Int) (I1 : IM), c = (G - f).toNat → 0 ≤ f → f ≤ G → (∀ j, 0 ≤ j → j < f → I1 9 j = hsh (s_tk σ b) (s_k σ) j) → (∀ j, 0 ≤ j → j < 40 → I1 8 (40 * b + j) = 0) → (∀ j, j < 40 * b ∨ 40 * b + 40 ≤ j → I1 8 j = I 8 j) → (∀ q, q ≠ 8 → q ≠ 9 → I1 q = I q) → Rn x lyM g post 34 [vr g 0, vn b, vn G, vn f, none, none] [] I1 L := by
    intro c
    induction c with
    | zero =>
      intro f I1 h1 h2 h3 h4 h5 h6 h7
      refine rr_iload_n F dX8_findMarks_34 rfl ?_
      refine rr_iload_n F dX8_findMarks_35 rfl ?_
      refine rr_icmp_ge F dX8_findMarks_36 (tgt := 57) (by decide) ⟨by omega, by omega⟩ ⟨by omega, by omega⟩ (fun c_36 => ?_) (fun c_36 => ?_)
      · refine rr_iconst F dX8_findMarks_57 ?_
        refine rr_istore_n F dX8_findMarks_58 (Nat.le_of_ble_eq_true rfl) rfl ?_
        refine loopC _ 0 I1 rfl (by omega) (by omega) (Or.inl rfl) (fun j a d => h4 j a (by omega)) (fun j a d => ?_) h6 h7
        rw [h5 j a d]
        by_cases y : j < G
        · rw [if_pos y, bi_neg]
          exact fun ⟨e, f1, f2, f3⟩ => absurd f2 (by omega)
        · rw [if_neg y]
      · exact absurd c_36 (by omega)
    | succ c ih =>
      intro f I1 h1 h2 h3 h4 h5 h6 h7
      have R1 : MR σ I1 L := hR.k ⟨fun q a d => h7 q (by omega) (by omega), fun j hj => by rw [h7 0 (by omega) (by omega)], rfl⟩
      refine rr_iload_n F dX8_findMarks_34 rfl ?_
      refine rr_iload_n F dX8_findMarks_35 rfl ?_
      refine rr_icmp_ge F dX8_findMarks_36 (tgt := 57) (by decide) ⟨by omega, by omega⟩ ⟨by omega, by omega⟩ (fun c_36 => ?_) (fun c_36 => ?_)
      · exact absurd c_36 (by omega)
      · refine rr_aload_n F dX8_findMarks_39 rfl ?_
        refine rg_Model_hashes F (by first | rfl | assumption) fl_X8_62 dX8_findMarks_40 ?_
        refine rr_cell (k2 := 9) rfl ?_
        refine rr_iload_n F dX8_findMarks_43 rfl ?_
        refine rr_aload_n F dX8_findMarks_44 rfl ?_
        refine rr_iload_n F dX8_findMarks_45 rfl ?_
        refine rr_iload_n F dX8_findMarks_46 rfl ?_
        refine rr_callVI F (ci := 8) (mm_X8_hashOf R1 hW hb0 hb (by omega) (by omega)) mf_X8_hashOf ml_X8_142 ⟨by decide, by decide⟩ (by first | rfl | assumption) (by decide) rfl rfl (Nat.le_of_ble_eq_true rfl) dX8_findMarks_47 (fun r_47 I_47 L_47 h_47 => ?_)
        obtain ⟨e47, rfl, rfl⟩ := h_47
        refine rr_iast F (N := 40) (by first | rfl | assumption) (by omega) (by first | rfl | assumption) (by omega) dX8_findMarks_50 ?_
        refine rr_iinc F dX8_findMarks_51 rfl rfl ?_
        refine rr_goto F dX8_findMarks_54 (tgt := 34) (by decide) ?_
        refine ih (f + 1) _ (by omega) (by omega) (by omega) (fun j a d => ?_) (fun j a d => ?_) (fun j a => ?_) (fun q a d => ?_)
        · by_cases z : j = f
          · subst z; rw [up2_same, e47]
          · rw [up2_ne _ _ _ z]; exact h4 j a (by omega)
        · rw [up2_cell _ _ _ (by omega)]; exact h5 j a d
        · rw [up2_cell _ _ _ (by omega)]; exact h6 j a
        · rw [up2_cell _ _ _ d]; exact h7 q a d
  have loopA : ∀ (c : Nat) (f : Int) (I1 : IM), c = (40 - f).toNat → 0 ≤ f → f ≤ 40 → (∀ j, 0 ≤ j → j < f → I1 8 (40 * b + j) = 0) → (∀ j, j < 40 * b ∨ 40 * b + 40 ≤ j → I1 8 j = I 8 j) → (∀ q, q ≠ 8 → q ≠ 9 → I1 q = I q) → Rn x lyM g post 8 [vr g 0, vn b, vn G, vn f, none, none] [] I1 L := by
    intro c
    induction c with
    | zero =>
      intro f I1 h1 h2 h3 h5 h6 h7
      refine rr_iload_n F dX8_findMarks_8 rfl ?_
      refine rr_bipush F dX8_findMarks_9 (by decide) ?_
      refine rr_icmp_ge F dX8_findMarks_11 (tgt := 32) (by decide) ⟨by omega, by omega⟩ ⟨by omega, by omega⟩ (fun c_11 => ?_) (fun c_11 => ?_)
      · refine rr_iconst F dX8_findMarks_32 ?_
        refine rr_istore_n F dX8_findMarks_33 (Nat.le_of_ble_eq_true rfl) rfl ?_
        exact loopB _ 0 I1 rfl (by omega) (by omega) (fun j a d => absurd d (by omega)) (fun j a d => h5 j a (by omega)) h6 h7
      · exact absurd c_11 (by omega)
    | succ c ih =>
      intro f I1 h1 h2 h3 h5 h6 h7
      refine rr_iload_n F dX8_findMarks_8 rfl ?_
      refine rr_bipush F dX8_findMarks_9 (by decide) ?_
      refine rr_icmp_ge F dX8_findMarks_11 (tgt := 32) (by decide) ⟨by omega, by omega⟩ ⟨by omega, by omega⟩ (fun c_11 => ?_) (fun c_11 => ?_)
      · exact absurd c_11 (by omega)
      · refine rr_aload_n F dX8_findMarks_14 rfl ?_
        refine rg_Model_marks F (by first | rfl | assumption) fl_X8_59 dX8_findMarks_15 ?_
        refine rr_cell (k2 := 8) rfl ?_
        refine rr_bipush F dX8_findMarks_18 (by decide) ?_
        refine rr_iload_n F dX8_findMarks_20 rfl ?_
        refine rr_imul F dX8_findMarks_21 ?_
        refine rr_iload_n F dX8_findMarks_22 rfl ?_
        refine rr_iadd F dX8_findMarks_23 ?_
        refine rr_iconst F dX8_findMarks_24 ?_
        refine rr_zast F (N := 240) (by first | rfl | assumption) (by omega) (by first | rfl | assumption) (by omega) (by decide) dX8_findMarks_25 ?_
        refine rr_iinc F dX8_findMarks_26 rfl rfl ?_
        refine rr_goto F dX8_findMarks_29 (tgt := 8) (by decide) ?_
        refine ih (f + 1) _ (by omega) (by omega) (by omega) (fun j a d => ?_) (fun j a => ?_) (fun q a d => ?_)
        · by_cases z : j = f
          · subst z; rw [up2_same]
          · rw [up2_ne _ _ _ (by omega)]; exact h5 j a (by omega)
        · rw [up2_ne _ _ _ (by omega)]; exact h6 j a
        · rw [up2_cell _ _ _ a]; exact h7 q a d
  refine rr_aload_n F dX8_findMarks_0 rfl ?_
  refine rr_iload_n F dX8_findMarks_1 rfl ?_
  refine rr_callVI F (ci := 8) (mm_X8_grams hR hW hb0 hb) mf_X8_grams ml_X8_139 ⟨by decide, by decide⟩ (by first | rfl | assumption) (by decide) rfl rfl (Nat.le_of_ble_eq_true rfl) dX8_findMarks_2 (fun r_2 I_2 L_2 h_2 => ?_)
  obtain ⟨e2, rfl, rfl⟩ := h_2
  rw [hG] at e2
  subst e2
  refine rr_istore_n F dX8_findMarks_5 (Nat.le_of_ble_eq_true rfl) rfl ?_
  refine rr_iconst F dX8_findMarks_6 ?_
  refine rr_istore_n F dX8_findMarks_7 (Nat.le_of_ble_eq_true rfl) rfl ?_
  exact loopA _ 0 I rfl (by omega) (by omega) (fun j a d => absurd d (by omega)) (fun j a => rfl) (fun q a d => rfl)
set_option maxHeartbeats 4000000 in
set_option maxRecDepth 100000 in
theorem mm_X8_markAt {l : Launch} {g : gT} {σ : sT} {b t : Int} {I : IM} {L : LM} (hb : rg b) (ht : rg t) (hR : MR σ I L) (hW : WF σ) :
    Ct l yX8_markAt cX8_markAt 5 (some .int) 2 50 lyM g [.ref (g.2.1 0), .int (zI b), .int (zI t)] I L (pS MR (sp_markAt σ b t, σ)) := by
  have hc := rB_cases σ b
  have w3 := hW.2.2.1 b
  have ht' := ht
  unfold rg at ht'
  refine Ct.of RX8 (by decide +kernel) rfl (Nat.le_of_ble_eq_true rfl) (fun x hx F => ?_)
  have loop : ∀ I1 : IM, MR σ I1 L → (∀ j, 0 ≤ j → j < 40 → I1 8 (40 * b + j) = mF σ b j) → 0 ≤ b → b < 6 → -1 ≤ t → s_hd σ b = 1 → ∀ (c : Nat) (i a : Int), c = (40 - i).toNat → 0 ≤ i → i ≤ 40 → 0 ≤ a → a ≤ i → cntF (mF σ b) c i a = cntF (mF σ b) 40 0 0 → nthF (mF σ b) t c i a = nthF (mF σ b) t 40 0 0 → Rn x lyM g (pS MR (sp_markAt σ b t, σ)) 36 [vr g 0, vn b, vn t, vn a, vn i] [] I1 L := by
    intro I1 R1 hm hb0 hb6 ht1 hh c
    induction c with
    | zero =>
      intro i a h1 h2 h3 h4 h5 h6 h7
      refine rr_iload F dX8_markAt_36 rfl ?_
      refine rr_bipush F dX8_markAt_38 (by decide) ?_
      refine rr_icmp_ge F dX8_markAt_40 (tgt := 75) (by decide) ⟨by omega, by omega⟩ ⟨by omega, by omega⟩ (fun c_40 => ?_) (fun c_40 => ?_)
      · refine rr_iload_n F dX8_markAt_75 rfl ?_
        refine rr_if_ge F dX8_markAt_76 (tgt := 83) (by decide) ⟨by omega, by omega⟩ (fun c_76 => ?_) (fun c_76 => ?_)
        · refine rr_iconst F dX8_markAt_83 ?_
          refine rr_iret F dX8_markAt_84 ?_
          refine ⟨_, rfl, ?_, R1⟩
          show _ = sp_markAt σ b t
          rw [sp_markAt, if_neg (by omega), if_pos (by omega)]
          first | (rw [if_pos (by omega), ← h6, cntF]; done) | (rw [if_neg (by omega), ← h7, nthF]; done)
        · refine rr_iload_n F dX8_markAt_79 rfl ?_
          refine rr_goto F dX8_markAt_80 (tgt := 84) (by decide) ?_
          refine rr_iret F dX8_markAt_84 ?_
          refine ⟨_, rfl, ?_, R1⟩
          show _ = sp_markAt σ b t
          rw [sp_markAt, if_neg (by omega), if_pos (by omega)]
          first | (rw [if_pos (by omega), ← h6, cntF]; done) | (rw [if_neg (by omega), ← h7, nthF]; done)
      · exact absurd c_40 (by omega)
    | succ c ih =>
      intro i a h1 h2 h3 h4 h5 h6 h7
      rw [nthF] at h7
      rw [cntF] at h6
      have e := hm i (by omega) (by omega)
      have z : mF σ b i = 0 ∨ mF σ b i = 1 := mkF_01 _ _ _ _ _
      refine rr_iload F dX8_markAt_36 rfl ?_
      refine rr_bipush F dX8_markAt_38 (by decide) ?_
      refine rr_icmp_ge F dX8_markAt_40 (tgt := 75) (by decide) ⟨by omega, by omega⟩ ⟨by omega, by omega⟩ (fun c_40 => ?_) (fun c_40 => ?_)
      · exact absurd c_40 (by omega)
      · refine rr_aload_n F dX8_markAt_43 rfl ?_
        refine rg_Model_marks F (by first | rfl | assumption) fl_X8_59 dX8_markAt_44 ?_
        refine rr_cell (k2 := 8) rfl ?_
        refine rr_bipush F dX8_markAt_47 (by decide) ?_
        refine rr_iload_n F dX8_markAt_49 rfl ?_
        refine rr_imul F dX8_markAt_50 ?_
        refine rr_iload F dX8_markAt_51 rfl ?_
        refine rr_iadd F dX8_markAt_53 ?_
        refine rr_zald F (N := 240) (by first | rfl | assumption) (by omega) (by first | rfl | assumption) (by omega) dX8_markAt_54 ?_
        rw [e]
        refine rr_if_eq F dX8_markAt_55 (tgt := 69) (by decide) ⟨by omega, by omega⟩ (fun c_55 => ?_) (fun c_55 => ?_)
        · refine rr_iinc F dX8_markAt_69 rfl rfl ?_
          refine rr_goto F dX8_markAt_72 (tgt := 36) (by decide) ?_
          first | exact ih (i + 1) _ (by omega) (by omega) (by omega) (by omega) (by omega) (by rw [← h6, if_pos c_55]) (by rw [← h7, if_pos c_55]) | exact ih (i + 1) _ (by omega) (by omega) (by omega) (by omega) (by omega) (by rw [← h6, if_neg c_55]) (by rw [← h7, if_neg c_55, if_neg c_60])
        · refine rr_iload_n F dX8_markAt_58 rfl ?_
          refine rr_iload_n F dX8_markAt_59 rfl ?_
          refine rr_icmp_ne F dX8_markAt_60 (tgt := 66) (by decide) ⟨by omega, by omega⟩ ⟨by omega, by omega⟩ (fun c_60 => ?_) (fun c_60 => ?_)
          · refine rr_iinc F dX8_markAt_66 rfl rfl ?_
            refine rr_iinc F dX8_markAt_69 rfl rfl ?_
            refine rr_goto F dX8_markAt_72 (tgt := 36) (by decide) ?_
            first | exact ih (i + 1) _ (by omega) (by omega) (by omega) (by omega) (by omega) (by rw [← h6, if_pos c_55]) (by rw [← h7, if_pos c_55]) | exact ih (i + 1) _ (by omega) (by omega) (by omega) (by omega) (by omega) (by rw [← h6, if_neg c_55]) (by rw [← h7, if_neg c_55, if_neg c_60])
          · refine rr_iload F dX8_markAt_63 rfl ?_
            refine rr_iret F dX8_markAt_65 ?_
            refine ⟨_, rfl, ?_, R1⟩
            show _ = sp_markAt σ b t
            rw [sp_markAt, if_neg (by omega), if_pos (by omega), if_neg (by omega), ← h7, if_neg c_55, if_pos c_60]
  refine rr_iload_n F dX8_markAt_0 rfl ?_
  refine rr_callSI F (mm_X8_isNumber hb) mf_X8_isNumber ml_X8_123 ⟨by decide, by decide⟩ rfl (Nat.le_of_ble_eq_true rfl) dX8_markAt_1 (fun r_1 I_1 L_1 h_1 => ?_)
  obtain ⟨e3, rfl, rfl⟩ := h_1
  refine rr_if_eq F dX8_markAt_4 (tgt := 12) (by decide) ⟨by omega, by omega⟩ (fun c_4 => ?_) (fun c_4 => ?_)
  · refine rr_iconst F dX8_markAt_12 ?_
    refine rr_iret F dX8_markAt_13 ?_
    refine ⟨_, rfl, ?_, hR⟩
    show _ = sp_markAt σ b t
    first | (rw [sp_markAt, if_pos (by omega)]; done) | (rw [sp_markAt]; split; rfl; rw [if_neg (by omega)]; omega)
  · refine rr_iload_n F dX8_markAt_7 rfl ?_
    refine rr_iconst F dX8_markAt_8 ?_
    refine rr_icmp_ge F dX8_markAt_9 (tgt := 14) (by decide) ⟨by omega, by omega⟩ ⟨by omega, by omega⟩ (fun c_9 => ?_) (fun c_9 => ?_)
    · refine rr_aload_n F dX8_markAt_14 rfl ?_
      refine rg_Model_is F (by first | rfl | assumption) fl_X8_13 dX8_markAt_15 ?_
      refine rr_cell (k2 := 2) rfl ?_
      refine rr_iload_n F dX8_markAt_18 rfl ?_
      refine rr_zald F (N := 6) (by first | rfl | assumption) (by omega) (by first | rfl | assumption) (by omega) dX8_markAt_19 ?_
      have e1 := (MRb hR (b := b) (by omega) (by omega)).1
      refine rr_if_ne F dX8_markAt_20 (tgt := 26) (by decide) ⟨by omega, by omega⟩ (fun c_20 => ?_) (fun c_20 => ?_)
      · refine rr_aload_n F dX8_markAt_26 rfl ?_
        refine rr_iload_n F dX8_markAt_27 rfl ?_
        refine rr_callVV F (ci := 8) (mm_X8_findMarks hR hW (by omega) (by omega)) mf_X8_findMarks ml_X8_146 ⟨by decide, by decide⟩ (by first | rfl | assumption) (by decide) rfl rfl (Nat.le_of_ble_eq_true rfl) dX8_markAt_28 (fun I_28 L_28 h_28 => ?_)
        obtain ⟨f1, f2, f3, rfl⟩ := h_28
        refine rr_iconst F dX8_markAt_31 ?_
        refine rr_istore_n F dX8_markAt_32 (Nat.le_of_ble_eq_true rfl) rfl ?_
        refine rr_iconst F dX8_markAt_33 ?_
        refine rr_istore F dX8_markAt_34 (Nat.le_of_ble_eq_true rfl) rfl ?_
        exact loop I_28 (hR.k ⟨fun q a d => f3 q (by omega) (by omega), fun j hj => by rw [f3 0 (by omega) (by omega)], rfl⟩) f1 (by omega) (by omega) (by omega) (by omega) _ 0 0 rfl (by omega) (by omega) (by omega) (by omega) rfl rfl
      · refine rr_bipush F dX8_markAt_23 (by decide) ?_
        refine rr_iret F dX8_markAt_25 ?_
        refine ⟨_, rfl, ?_, hR⟩
        show _ = sp_markAt σ b t
        rw [sp_markAt, if_neg (by omega), if_neg (by omega)]; omega
    · refine rr_iconst F dX8_markAt_12 ?_
      refine rr_iret F dX8_markAt_13 ?_
      refine ⟨_, rfl, ?_, hR⟩
      show _ = sp_markAt σ b t
      first | (rw [sp_markAt, if_pos (by omega)]; done) | (rw [sp_markAt]; split; rfl; rw [if_neg (by omega)]; omega)
end
section
/-! the model: what is set aside -/
/-- token c is within a stretch, of those that begin ahead of (i, j) -/
def AsU (T : Int → Int64) (n : Int) (G : Int → Int64) (m len i j c : Int) : Prop := ∃ a b, (a < i ∨ (a = i ∧ b < j)) ∧ 0 ≤ a ∧ a + len ≤ n ∧ 0 ≤ b ∧ b + len ≤ m ∧ a ≤ c ∧ c < a + len ∧ ∀ t, 0 ≤ t → t < len → T (a + t) = G (b + t)
set_option maxHeartbeats 4000000 in
set_option maxRecDepth 100000 in
theorem mm_X8_findAside {l : Launch} {g : gT} {σ : sT} {b : Int} {I : IM} {L : LM} (hR : MR σ I L) (hW : WF σ) (hb0 : 0 ≤ b) (hb : b < 6) :
    Ct l yX8_findAside cX8_findAside 7 none 0 0 lyM g [.ref (g.2.1 0), .int (zI b)] I L (pV (fun I' L' => (∀ j, 0 ≤ j → j < s_sz σ b → I' 10 (40 * b + j) = aF σ b j) ∧ (∀ j, j < 40 * b ∨ 40 * b + 40 ≤ j → I' 10 j = I 10 j) ∧ (∀ q, q ≠ 10 → I' q = I q) ∧ L = L')) := by
  have w4 := hW.2.2.2.1 b
  have w4g := hW.2.2.2.1 (s_gv σ)
  have w5 := hW.2.2.2.2.1 b
  have w5g := hW.2.2.2.2.1 (s_gv σ)
  have w7 := hW.2.2.2.2.2.2.1
  have w8 := hW.2.2.2.2.2.2.2.1
  have w11 := hW.2.2.2.2.2.2.2.2.2.2.1
  obtain ⟨e1, e2, e3, e4, e5⟩ := MRb hR hb0 hb
  have eg := hR.2.2.2.1
  have ek := hR.2.2.2.2.1
  have ew := hR.2.2.2.2.2.1
  generalize hlen : s_w σ + s_k σ - 1 = len at *
  generalize hn : s_sz σ b = n at *
  generalize hm : s_sz σ (s_gv σ) = m at *
  generalize hT : s_tk σ b = T at *
  generalize hGt : s_tk σ (s_gv σ) = G at *
  refine Ct.of RX8 (by decide +kernel) rfl (Nat.le_of_ble_eq_true rfl) (fun x hx F => ?_)
  generalize hpost : (pV (fun (I' : IM) (L' : LM) => (∀ j, 0 ≤ j → j < n → I' 10 (40 * b + j) = aF σ b j) ∧ (∀ j, j < 40 * b ∨ 40 * b + 40 ≤ j → I' 10 j = I 10 j) ∧ (∀ q, q ≠ 10 → I' q = I q) ∧ L = L')) = post
  have main : 0 ≤ s_gv σ → s_gv σ ≠ b → s_lg σ b = s_lg σ (s_gv σ) → I 3 (s_gv σ) = m → (∀ i, 0 ≤ i → i < m → L 6 (40 * s_gv σ + i) = G i) → ∀ (c : Nat) (i : Int) (I1 : IM), c = (n + 1 - len - i).toNat → 0 ≤ i → (i = 0 ∨ i ≤ n + 1 - len) → (∀ j, 0 ≤ j → j < n → I1 10 (40 * b + j) = bi (AsU T n G m len i 0 j)) → (∀ j, j < 40 * b ∨ 40 * b + 40 ≤ j → I1 10 j = I 10 j) → (∀ q, q ≠ 10 → I1 q = I q) → Rn x lyM g post 74 [vr g 0, vn b, vn len, vn i, none, none, none] [] I1 L := by
    intro hg0 hgb hgl e3g e5g c
    induction c with
    | zero =>
      intro i I1 h1 h2 h3 h4 h5 h6
      have es : I1 3 b = n := by rw [h6 3 (by omega)]; exact e2
      refine rr_iload_n F dX8_findAside_74 rfl ?_
      refine rr_iload_n F dX8_findAside_75 rfl ?_
      refine rr_iadd F dX8_findAside_76 ?_
      refine rr_aload_n F dX8_findAside_77 rfl ?_
      refine rg_Model_sizes F (by first | rfl | assumption) fl_X8_17 dX8_findAside_78 ?_
      refine rr_cell (k2 := 3) rfl ?_
      refine rr_iload_n F dX8_findAside_81 rfl ?_
      refine rr_iald F (N := 6) (by first | rfl | assumption) (by omega) (by first | rfl | assumption) (by omega) dX8_findAside_82 ?_
      refine rr_icmp_gt F dX8_findAside_83 (tgt := 205) (by decide) ⟨by omega, by omega⟩ ⟨by omega, by omega⟩ (fun c_83 => ?_) (fun c_83 => ?_)
      · refine rr_vret F dX8_findAside_205 ?_
        rw [← hpost]
        refine ⟨rfl, fun j u v => ?_, h5, h6, rfl⟩
        rw [h4 j u v, aF, hn, hm, hT, hGt, hlen]
        refine bi_congr ⟨fun ⟨a, b', y0, y⟩ => ⟨hg0, hgb, hgl, a, b', y⟩, fun ⟨_, _, _, a, b', y1, y2, y⟩ => ⟨a, b', by omega, y1, y2, y⟩⟩
      · exfalso
        omega
    | succ c ih =>
      intro i I1 h1 h2 h3 h4 h5 h6
      have es : I1 3 b = n := by rw [h6 3 (by omega)]; exact e2
      have loopJ : ∀ (d : Nat) (j : Int) (I2 : IM), d = (m + 1 - len - j).toNat → 0 ≤ j → (j = 0 ∨ j ≤ m + 1 - len) → (∀ c, 0 ≤ c → c < n → I2 10 (40 * b + c) = bi (AsU T n G m len i j c)) → (∀ c, c < 40 * b ∨ 40 * b + 40 ≤ c → I2 10 c = I 10 c) → (∀ q, q ≠ 10 → I2 q = I q) → Rn x lyM g post 89 [vr g 0, vn b, vn len, vn i, vn j, none, none] [] I2 L := by
        intro d
        induction d with
        | zero =>
          intro j I2 g1 g2 g3 g4 g5 g6
          have es2 : I2 3 (s_gv σ) = m := by rw [g6 3 (by omega)]; exact e3g
          have eg2 : I2 0 11 = s_gv σ := by rw [g6 0 (by omega)]; exact eg
          refine rr_iload F dX8_findAside_89 rfl ?_
          refine rr_iload_n F dX8_findAside_91 rfl ?_
          refine rr_iadd F dX8_findAside_92 ?_
          refine rr_aload_n F dX8_findAside_93 rfl ?_
          refine rg_Model_sizes F (by first | rfl | assumption) fl_X8_17 dX8_findAside_94 ?_
          refine rr_cell (k2 := 3) rfl ?_
          refine rr_aload_n F dX8_findAside_97 rfl ?_
          refine rg_Model_given F (by first | rfl | assumption) fl_X8_43 dX8_findAside_98 ?_
          rw [eg2]
          refine rr_iald F (N := 6) (by first | rfl | assumption) (by omega) (by first | rfl | assumption) (by omega) dX8_findAside_101 ?_
          refine rr_icmp_gt F dX8_findAside_102 (tgt := 199) (by decide) ⟨by omega, by omega⟩ ⟨by omega, by omega⟩ (fun c_102 => ?_) (fun c_102 => ?_)
          · refine rr_iinc F dX8_findAside_199 rfl rfl ?_
            refine rr_goto F dX8_findAside_202 (tgt := 74) (by decide) ?_
            refine rr_drop 4 ?_
            refine ih (i + 1) I2 (by omega) (by omega) (by omega) (fun c u v => ?_) g5 g6
            rw [g4 c u v]
            refine bi_congr ⟨fun ⟨a, b', y0, y⟩ => ⟨a, b', by omega, y⟩, fun ⟨a, b', y0, y1, y2, y3, y4, y⟩ => ⟨a, b', ?_, y1, y2, y3, y4, y⟩⟩
            omega
          · exfalso
            omega
        | succ d ihd =>
          intro j I2 g1 g2 g3 g4 g5 g6
          have es2 : I2 3 (s_gv σ) = m := by rw [g6 3 (by omega)]; exact e3g
          have eg2 : I2 0 11 = s_gv σ := by rw [g6 0 (by omega)]; exact eg
          have loopM : (∀ t, 0 ≤ t → t < len → T (i + t) = G (j + t)) → ∀ (e : Nat) (u : Int) (I3 : IM), e = (i + len - u).toNat → i ≤ u → u ≤ i + len → (∀ c, 0 ≤ c → c < n → I3 10 (40 * b + c) = bi (AsU T n G m len i j c ∨ (i ≤ c ∧ c < u))) → (∀ c, c < 40 * b ∨ 40 * b + 40 ≤ c → I3 10 c = I 10 c) → (∀ q, q ≠ 10 → I3 q = I q) → Rn x lyM g post 159 [vr g 0, vn b, vn len, vn i, vn j, vn len, vn u] [] I3 L := by
            intro hall e
            induction e with
            | zero =>
              intro u I3 f1 f2 f3 f4 f5 f6
              refine rr_iload F dX8_findAside_159 rfl ?_
              refine rr_iload_n F dX8_findAside_161 rfl ?_
              refine rr_iload F dX8_findAside_162 rfl ?_
              refine rr_iadd F dX8_findAside_164 ?_
              refine rr_icmp_ge F dX8_findAside_165 (tgt := 193) (by decide) ⟨by omega, by omega⟩ ⟨by omega, by omega⟩ (fun c_165 => ?_) (fun c_165 => ?_)
              · refine rr_iinc F dX8_findAside_193 rfl rfl ?_
                refine rr_goto F dX8_findAside_196 (tgt := 89) (by decide) ?_
                refine rr_drop 5 ?_
                refine rr_drop 6 ?_
                refine ihd (j + 1) I3 (by omega) (by omega) (by omega) (fun c p q => ?_) f5 f6
                rw [f4 c p q]
                refine bi_congr ⟨fun z => ?_, fun ⟨a, b', y0, y1, y2, y3, y4, y⟩ => ?_⟩
                · rcases z with ⟨a, b', y0, y⟩ | z
                  · exact ⟨a, b', by omega, y⟩
                  · exact ⟨i, j, by omega, by omega, by omega, by omega, by omega, by omega, by omega, hall⟩
                · by_cases z : a = i ∧ b' = j
                  · right; have := y.1; have := y.2.1; omega
                  · left; exact ⟨a, b', by omega, y1, y2, y3, y4, y⟩
              · exfalso
                omega
            | succ e ihe =>
              intro u I3 f1 f2 f3 f4 f5 f6
              refine rr_iload F dX8_findAside_159 rfl ?_
              refine rr_iload_n F dX8_findAside_161 rfl ?_
              refine rr_iload F dX8_findAside_162 rfl ?_
              refine rr_iadd F dX8_findAside_164 ?_
              refine rr_icmp_ge F dX8_findAside_165 (tgt := 193) (by decide) ⟨by omega, by omega⟩ ⟨by omega, by omega⟩ (fun c_165 => ?_) (fun c_165 => ?_)
              · exfalso
                omega
              · refine rr_iload F dX8_findAside_168 rfl ?_
                refine rr_iload_n F dX8_findAside_170 rfl ?_
                refine rr_icmp_ne F dX8_findAside_171 (tgt := 193) (by decide) ⟨by omega, by omega⟩ ⟨by omega, by omega⟩ (fun c_171 => ?_) (fun c_171 => ?_)
                · exfalso
                  omega
                · refine rr_aload_n F dX8_findAside_174 rfl ?_
                  refine rg_Model_asides F (by first | rfl | assumption) fl_X8_65 dX8_findAside_175 ?_
                  refine rr_cell (k2 := 10) rfl ?_
                  refine rr_bipush F dX8_findAside_178 (by decide) ?_
                  refine rr_iload_n F dX8_findAside_180 rfl ?_
                  refine rr_imul F dX8_findAside_181 ?_
                  refine rr_iload F dX8_findAside_182 rfl ?_
                  refine rr_iadd F dX8_findAside_184 ?_
                  refine rr_iconst F dX8_findAside_185 ?_
                  refine rr_zast F (N := 240) (by first | rfl | assumption) (by omega) (by first | rfl | assumption) (by omega) (by decide) dX8_findAside_186 ?_
                  refine rr_iinc F dX8_findAside_187 rfl rfl ?_
                  refine rr_goto F dX8_findAside_190 (tgt := 159) (by decide) ?_
                  refine ihe (u + 1) _ (by omega) (by omega) (by omega) (fun c p q => ?_) (fun c p => ?_) (fun q p => ?_)
                  · by_cases z : c = u
                    · subst z; rw [up2_same, bi_pos (Or.inr ⟨by omega, by omega⟩)]
                    · rw [up2_ne _ _ _ (by omega), f4 c p q]
                      exact bi_congr ⟨fun y => y.elim Or.inl (fun y => Or.inr ⟨by omega, by omega⟩), fun y => y.elim Or.inl (fun y => Or.inr ⟨by omega, by omega⟩)⟩
                  · rw [up2_ne _ _ _ (by omega)]; exact f5 c p
                  · rw [up2_cell _ _ _ p]; exact f6 q p
          have miss : ∀ t : Int, 0 ≤ t → t < len → ¬ T (i + t) = G (j + t) → Rn x lyM g post 156 [vr g 0, vn b, vn len, vn i, vn j, vn t, none] [] I2 L := by
            intro t t1 t2 t3
            refine rr_iload_n F dX8_findAside_156 rfl ?_
            refine rr_istore F dX8_findAside_157 (Nat.le_of_ble_eq_true rfl) rfl ?_
            refine rr_iload F dX8_findAside_159 rfl ?_
            refine rr_iload_n F dX8_findAside_161 rfl ?_
            refine rr_iload F dX8_findAside_162 rfl ?_
            refine rr_iadd F dX8_findAside_164 ?_
            refine rr_icmp_ge F dX8_findAside_165 (tgt := 193) (by decide) ⟨by omega, by omega⟩ ⟨by omega, by omega⟩ (fun c_165 => ?_) (fun c_165 => ?_)
            · refine rr_iinc F dX8_findAside_193 rfl rfl ?_
              refine rr_goto F dX8_findAside_196 (tgt := 89) (by decide) ?_
              refine rr_drop 5 ?_
              refine rr_drop 6 ?_
              refine ihd (j + 1) I2 (by omega) (by omega) (by omega) (fun c p q => ?_) g5 g6
              rw [g4 c p q]
              refine bi_congr ⟨fun ⟨a, b', y0, y⟩ => ⟨a, b', by omega, y⟩, fun ⟨a, b', y0, y1, y2, y3, y4, y5, y6, y⟩ => ⟨a, b', ?_, y1, y2, y3, y4, y5, y6, y⟩⟩
              by_cases z : a = i ∧ b' = j
              · exact absurd (by have := y t t1 t2; rwa [z.1, z.2] at this) t3
              · omega
            · refine rr_iload F dX8_findAside_168 rfl ?_
              refine rr_iload_n F dX8_findAside_170 rfl ?_
              refine rr_icmp_ne F dX8_findAside_171 (tgt := 193) (by decide) ⟨by omega, by omega⟩ ⟨by omega, by omega⟩ (fun c_171 => ?_) (fun c_171 => ?_)
              · refine rr_iinc F dX8_findAside_193 rfl rfl ?_
                refine rr_goto F dX8_findAside_196 (tgt := 89) (by decide) ?_
                refine rr_drop 5 ?_
                refine rr_drop 6 ?_
                refine ihd (j + 1) I2 (by omega) (by omega) (by omega) (fun c p q => ?_) g5 g6
                rw [g4 c p q]
                refine bi_congr ⟨fun ⟨a, b', y0, y⟩ => ⟨a, b', by omega, y⟩, fun ⟨a, b', y0, y1, y2, y3, y4, y5, y6, y⟩ => ⟨a, b', ?_, y1, y2, y3, y4, y5, y6, y⟩⟩
                by_cases z : a = i ∧ b' = j
                · exact absurd (by have := y t t1 t2; rwa [z.1, z.2] at this) t3
                · omega
              · exfalso
                omega
          have loopN : ∀ (e : Nat) (t : Int), e = (len - t).toNat → 0 ≤ t → t ≤ len → (∀ u, 0 ≤ u → u < t → T (i + u) = G (j + u)) → Rn x lyM g post 108 [vr g 0, vn b, vn len, vn i, vn j, vn t, none] [] I2 L := by
            intro e
            induction e with
            | zero =>
              intro t f1 f2 f3 f4
              have ht : t = len := by omega
              refine rr_iload F dX8_findAside_108 rfl ?_
              refine rr_iload_n F dX8_findAside_110 rfl ?_
              refine rr_icmp_ge F dX8_findAside_111 (tgt := 156) (by decide) ⟨by omega, by omega⟩ ⟨by omega, by omega⟩ (fun c_111 => ?_) (fun c_111 => ?_)
              · refine rr_iload_n F dX8_findAside_156 rfl ?_
                refine rr_istore F dX8_findAside_157 (Nat.le_of_ble_eq_true rfl) rfl ?_
                rw [ht]
                refine loopM (fun u p q => f4 u p (by omega)) _ i I2 rfl (by omega) (by omega) (fun c p q => ?_) g5 g6
                rw [g4 c p q]
                exact bi_congr ⟨Or.inl, fun y => y.elim id (fun y => absurd y.1 (by omega))⟩
              · exfalso
                omega
            | succ e ihe =>
              intro t f1 f2 f3 f4
              have v1 := e5 (i + t) (by omega) (by omega)
              have v2 := e5g (j + t) (by omega) (by omega)
              refine rr_iload F dX8_findAside_108 rfl ?_
              refine rr_iload_n F dX8_findAside_110 rfl ?_
              refine rr_icmp_ge F dX8_findAside_111 (tgt := 156) (by decide) ⟨by omega, by omega⟩ ⟨by omega, by omega⟩ (fun c_111 => ?_) (fun c_111 => ?_)
              · first | (exfalso; omega) | exact miss t (by omega) (by omega) c_147
              · refine rr_aload_n F dX8_findAside_114 rfl ?_
                refine rg_Model_tokens F (by first | rfl | assumption) fl_X8_26 dX8_findAside_115 ?_
                refine rr_cell (k2 := 6) rfl ?_
                refine rr_bipush F dX8_findAside_118 (by decide) ?_
                refine rr_iload_n F dX8_findAside_120 rfl ?_
                refine rr_imul F dX8_findAside_121 ?_
                refine rr_iload_n F dX8_findAside_122 rfl ?_
                refine rr_iadd F dX8_findAside_123 ?_
                refine rr_iload F dX8_findAside_124 rfl ?_
                refine rr_iadd F dX8_findAside_126 ?_
                refine rr_lald F (N := 240) (by first | rfl | assumption) (by omega) (by first | rfl | assumption) (by omega) dX8_findAside_127 ?_
                refine rr_aload_n F dX8_findAside_128 rfl ?_
                refine rg_Model_tokens F (by first | rfl | assumption) fl_X8_26 dX8_findAside_129 ?_
                refine rr_cell (k2 := 6) rfl ?_
                refine rr_bipush F dX8_findAside_132 (by decide) ?_
                refine rr_aload_n F dX8_findAside_134 rfl ?_
                refine rg_Model_given F (by first | rfl | assumption) fl_X8_43 dX8_findAside_135 ?_
                rw [eg2]
                refine rr_imul F dX8_findAside_138 ?_
                refine rr_iload F dX8_findAside_139 rfl ?_
                refine rr_iadd F dX8_findAside_141 ?_
                refine rr_iload F dX8_findAside_142 rfl ?_
                refine rr_iadd F dX8_findAside_144 ?_
                refine rr_lald F (N := 240) (by first | rfl | assumption) (by omega) (by first | rfl | assumption) (by omega) dX8_findAside_145 ?_
                rw [show 40 * b + i + t = 40 * b + (i + t) by omega, v1, show 40 * s_gv σ + j + t = 40 * s_gv σ + (j + t) by omega, v2]
                refine rr_lcmp F dX8_findAside_146 ?_
                refine rr_lif_ne F dX8_findAside_147 (tgt := 156) (by decide) (fun c_147 => ?_) (fun c_147 => ?_)
                · first | (exfalso; omega) | exact miss t (by omega) (by omega) c_147
                · refine rr_iinc F dX8_findAside_150 rfl rfl ?_
                  refine rr_goto F dX8_findAside_153 (tgt := 108) (by decide) ?_
                  refine ihe (t + 1) (by omega) (by omega) (by omega) (fun u p q => ?_)
                  by_cases z : u = t
                  · subst z; exact c_147
                  · exact f4 u p (by omega)
          refine rr_iload F dX8_findAside_89 rfl ?_
          refine rr_iload_n F dX8_findAside_91 rfl ?_
          refine rr_iadd F dX8_findAside_92 ?_
          refine rr_aload_n F dX8_findAside_93 rfl ?_
          refine rg_Model_sizes F (by first | rfl | assumption) fl_X8_17 dX8_findAside_94 ?_
          refine rr_cell (k2 := 3) rfl ?_
          refine rr_aload_n F dX8_findAside_97 rfl ?_
          refine rg_Model_given F (by first | rfl | assumption) fl_X8_43 dX8_findAside_98 ?_
          rw [eg2]
          refine rr_iald F (N := 6) (by first | rfl | assumption) (by omega) (by first | rfl | assumption) (by omega) dX8_findAside_101 ?_
          refine rr_icmp_gt F dX8_findAside_102 (tgt := 199) (by decide) ⟨by omega, by omega⟩ ⟨by omega, by omega⟩ (fun c_102 => ?_) (fun c_102 => ?_)
          · first | (exfalso; omega) | (refine rr_iinc F dX8_findAside_199 rfl rfl ?_
                                           refine rr_goto F dX8_findAside_202 (tgt := 74) (by decide) ?_
                                           refine rr_drop 4 ?_
                                           refine ih (i + 1) I2 (by omega) (by omega) (by omega) (fun c u v => ?_) g5 g6
                                           rw [g4 c u v]
                                           refine bi_congr ⟨fun ⟨a, b', y0, y⟩ => ⟨a, b', by omega, y⟩, fun ⟨a, b', y0, y1, y2, y3, y4, y⟩ => ⟨a, b', ?_, y1, y2, y3, y4, y⟩⟩
                                           omega)
          · refine rr_iconst F dX8_findAside_105 ?_
            refine rr_istore F dX8_findAside_106 (Nat.le_of_ble_eq_true rfl) rfl ?_
            exact loopN _ 0 rfl (by omega) (by omega) (fun u p q => absurd q (by omega))
      refine rr_iload_n F dX8_findAside_74 rfl ?_
      refine rr_iload_n F dX8_findAside_75 rfl ?_
      refine rr_iadd F dX8_findAside_76 ?_
      refine rr_aload_n F dX8_findAside_77 rfl ?_
      refine rg_Model_sizes F (by first | rfl | assumption) fl_X8_17 dX8_findAside_78 ?_
      refine rr_cell (k2 := 3) rfl ?_
      refine rr_iload_n F dX8_findAside_81 rfl ?_
      refine rr_iald F (N := 6) (by first | rfl | assumption) (by omega) (by first | rfl | assumption) (by omega) dX8_findAside_82 ?_
      refine rr_icmp_gt F dX8_findAside_83 (tgt := 205) (by decide) ⟨by omega, by omega⟩ ⟨by omega, by omega⟩ (fun c_83 => ?_) (fun c_83 => ?_)
      · first | (exfalso; omega) | (refine rr_vret F dX8_findAside_205 ?_
                                        rw [← hpost]
                                        refine ⟨rfl, fun j u v => ?_, h5, h6, rfl⟩
                                        rw [h4 j u v, aF, hn, hm, hT, hGt, hlen]
                                        refine bi_congr ⟨fun ⟨a, b', y0, y⟩ => ⟨hg0, hgb, hgl, a, b', y⟩, fun ⟨_, _, _, a, b', y1, y2, y⟩ => ⟨a, b', by omega, y1, y2, y⟩⟩)
      · refine rr_iconst F dX8_findAside_86 ?_
        refine rr_istore F dX8_findAside_87 (Nat.le_of_ble_eq_true rfl) rfl ?_
        exact loopJ _ 0 I1 rfl (by omega) (Or.inl rfl) h4 h5 h6
  have none' : ∀ I1 : IM, ¬ (0 ≤ s_gv σ ∧ s_gv σ ≠ b ∧ s_lg σ b = s_lg σ (s_gv σ)) → (∀ j, 0 ≤ j → j < 40 → I1 10 (40 * b + j) = 0) → (∀ j, j < 40 * b ∨ 40 * b + 40 ≤ j → I1 10 j = I 10 j) → (∀ q, q ≠ 10 → I1 q = I q) → post none I1 L := by
    intro I1 hno h4 h5 h6
    rw [← hpost]
    refine ⟨rfl, fun j u v => ?_, h5, h6, rfl⟩
    rw [h4 j u (by omega), aF, bi_neg]
    exact fun z => hno ⟨z.1, z.2.1, z.2.2.1⟩
  have loopA : ∀ (c : Nat) (f : Int) (I1 : IM), c = (40 - f).toNat → 0 ≤ f → f ≤ 40 → (∀ j, 0 ≤ j → j < f → I1 10 (40 * b + j) = 0) → (∀ j, j < 40 * b ∨ 40 * b + 40 ≤ j → I1 10 j = I 10 j) → (∀ q, q ≠ 10 → I1 q = I q) → Rn x lyM g post 2 [vr g 0, vn b, vn f, none, none, none, none] [] I1 L := by
    intro c
    induction c with
    | zero =>
      intro f I1 h1 h2 h3 h4 h5 h6
      have eg1 : I1 0 11 = s_gv σ := by rw [h6 0 (by omega)]; exact eg
      have e3b : I1 4 b = s_lg σ b := by rw [h6 4 (by omega)]; exact e3
      have ek1 : I1 0 7 = s_k σ := by rw [h6 0 (by omega)]; exact ek
      have ew1 : I1 0 8 = s_w σ := by rw [h6 0 (by omega)]; exact ew
      refine rr_iload_n F dX8_findAside_2 rfl ?_
      refine rr_bipush F dX8_findAside_3 (by decide) ?_
      refine rr_icmp_ge F dX8_findAside_5 (tgt := 26) (by decide) ⟨by omega, by omega⟩ ⟨by omega, by omega⟩ (fun c_5 => ?_) (fun c_5 => ?_)
      · refine rr_aload_n F dX8_findAside_26 rfl ?_
        refine rg_Model_given F (by first | rfl | assumption) fl_X8_43 dX8_findAside_27 ?_
        refine rr_if_lt F dX8_findAside_30 (tgt := 59) (by decide) ⟨by omega, by omega⟩ (fun c_30 => ?_) (fun c_30 => ?_)
        · refine rr_vret F dX8_findAside_59 ?_
          exact none' I1 (by omega) (fun j u v => h4 j u (by omega)) h5 h6
        · refine rr_aload_n F dX8_findAside_33 rfl ?_
          refine rg_Model_given F (by first | rfl | assumption) fl_X8_43 dX8_findAside_34 ?_
          refine rr_iload_n F dX8_findAside_37 rfl ?_
          refine rr_icmp_eq F dX8_findAside_38 (tgt := 59) (by decide) ⟨by omega, by omega⟩ ⟨by omega, by omega⟩ (fun c_38 => ?_) (fun c_38 => ?_)
          · refine rr_vret F dX8_findAside_59 ?_
            exact none' I1 (by omega) (fun j u v => h4 j u (by omega)) h5 h6
          · refine rr_aload_n F dX8_findAside_41 rfl ?_
            refine rg_Model_languages F (by first | rfl | assumption) fl_X8_20 dX8_findAside_42 ?_
            refine rr_cell (k2 := 4) rfl ?_
            refine rr_aload_n F dX8_findAside_45 rfl ?_
            refine rg_Model_given F (by first | rfl | assumption) fl_X8_43 dX8_findAside_46 ?_
            rw [eg1]
            obtain ⟨y1, y2, y3, y4, y5⟩ := MRb hR (b := s_gv σ) (by omega) (by omega)
            rw [hm] at y2 y5
            rw [hGt] at y5
            have e3g : I1 4 (s_gv σ) = s_lg σ (s_gv σ) := by rw [h6 4 (by omega)]; exact y3
            refine rr_iald F (N := 6) (by first | rfl | assumption) (by omega) (by first | rfl | assumption) (by omega) dX8_findAside_49 ?_
            refine rr_aload_n F dX8_findAside_50 rfl ?_
            refine rg_Model_languages F (by first | rfl | assumption) fl_X8_20 dX8_findAside_51 ?_
            refine rr_cell (k2 := 4) rfl ?_
            refine rr_iload_n F dX8_findAside_54 rfl ?_
            refine rr_iald F (N := 6) (by first | rfl | assumption) (by omega) (by first | rfl | assumption) (by omega) dX8_findAside_55 ?_
            refine rr_icmp_eq F dX8_findAside_56 (tgt := 60) (by decide) ⟨by omega, by omega⟩ ⟨by omega, by omega⟩ (fun c_56 => ?_) (fun c_56 => ?_)
            · refine rr_aload_n F dX8_findAside_60 rfl ?_
              refine rg_Model_w F (by first | rfl | assumption) fl_X8_34 dX8_findAside_61 ?_
              refine rr_aload_n F dX8_findAside_64 rfl ?_
              refine rg_Model_k F (by first | rfl | assumption) fl_X8_30 dX8_findAside_65 ?_
              refine rr_iadd F dX8_findAside_68 ?_
              refine rr_iconst F dX8_findAside_69 ?_
              refine rr_isub F dX8_findAside_70 ?_
              refine rr_istore_n F dX8_findAside_71 (Nat.le_of_ble_eq_true rfl) rfl ?_
              refine rr_iconst F dX8_findAside_72 ?_
              refine rr_istore_n F dX8_findAside_73 (Nat.le_of_ble_eq_true rfl) rfl ?_
              rw [ew1, ek1, hlen]
              refine main (by omega) (by omega) (by omega) y2 y5 _ 0 I1 rfl (by omega) (Or.inl rfl) (fun j u v => ?_) h5 h6
              rw [h4 j u (by omega), bi_neg]
              exact fun ⟨a, b', y0, y1, y2, y3, y⟩ => by omega
            · refine rr_vret F dX8_findAside_59 ?_
              exact none' I1 (by omega) (fun j u v => h4 j u (by omega)) h5 h6
      · exact absurd c_5 (by omega)
    | succ c ih =>
      intro f I1 h1 h2 h3 h4 h5 h6
      refine rr_iload_n F dX8_findAside_2 rfl ?_
      refine rr_bipush F dX8_findAside_3 (by decide) ?_
      refine rr_icmp_ge F dX8_findAside_5 (tgt := 26) (by decide) ⟨by omega, by omega⟩ ⟨by omega, by omega⟩ (fun c_5 => ?_) (fun c_5 => ?_)
      · exact absurd c_5 (by omega)
      · refine rr_aload_n F dX8_findAside_8 rfl ?_
        refine rg_Model_asides F (by first | rfl | assumption) fl_X8_65 dX8_findAside_9 ?_
        refine rr_cell (k2 := 10) rfl ?_
        refine rr_bipush F dX8_findAside_12 (by decide) ?_
        refine rr_iload_n F dX8_findAside_14 rfl ?_
        refine rr_imul F dX8_findAside_15 ?_
        refine rr_iload_n F dX8_findAside_16 rfl ?_
        refine rr_iadd F dX8_findAside_17 ?_
        refine rr_iconst F dX8_findAside_18 ?_
        refine rr_zast F (N := 240) (by first | rfl | assumption) (by omega) (by first | rfl | assumption) (by omega) (by decide) dX8_findAside_19 ?_
        refine rr_iinc F dX8_findAside_20 rfl rfl ?_
        refine rr_goto F dX8_findAside_23 (tgt := 2) (by decide) ?_
        refine ih (f + 1) _ (by omega) (by omega) (by omega) (fun j u v => ?_) (fun j u => ?_) (fun q u => ?_)
        · by_cases z : j = f
          · subst z; rw [up2_same]
          · rw [up2_ne _ _ _ (by omega)]; exact h4 j u (by omega)
        · rw [up2_ne _ _ _ (by omega)]; exact h5 j u
        · rw [up2_cell _ _ _ u]; exact h6 q u
  refine rr_iconst F dX8_findAside_0 ?_
  refine rr_istore_n F dX8_findAside_1 (Nat.le_of_ble_eq_true rfl) rfl ?_
  exact loopA _ 0 I rfl (by omega) (by omega) (fun j a d => absurd d (by omega)) (fun j a => rfl) (fun q a => rfl)
set_option maxHeartbeats 4000000 in
set_option maxRecDepth 100000 in
theorem mm_X8_aside {l : Launch} {g : gT} {σ : sT} {b j : Int} {I : IM} {L : LM} (hb : rg b) (hj : rg j) (hR : MR σ I L) (hW : WF σ) :
    Ct l yX8_aside cX8_aside 3 (some .int) 2 42 lyM g [.ref (g.2.1 0), .int (zI b), .int (zI j)] I L (pS MR (sp_aside σ b j, σ)) := by
  have hc := rB_cases σ b
  have w3 := hW.2.2.1 b
  have w4 := hW.2.2.2.1 b
  have hj' := hj
  unfold rg at hj'
  have h01 := bi_01 (0 ≤ s_gv σ ∧ s_gv σ ≠ b ∧ s_lg σ b = s_lg σ (s_gv σ) ∧ AsP (s_tk σ b) (s_sz σ b) (s_tk σ (s_gv σ)) (s_sz σ (s_gv σ)) (s_w σ + s_k σ - 1) j)
  have h01 : aF σ b j = 0 ∨ aF σ b j = 1 := h01
  refine Ct.of RX8 (by decide +kernel) rfl (Nat.le_of_ble_eq_true rfl) (fun x hx F => ?_)
  refine rr_iload_n F dX8_aside_0 rfl ?_
  refine rr_callSI F (mm_X8_isNumber hb) mf_X8_isNumber ml_X8_123 ⟨by decide, by decide⟩ rfl (Nat.le_of_ble_eq_true rfl) dX8_aside_1 (fun r_1 I_1 L_1 h_1 => ?_)
  obtain ⟨e3, rfl, rfl⟩ := h_1
  refine rr_if_eq F dX8_aside_4 (tgt := 11) (by decide) ⟨by omega, by omega⟩ (fun c_4 => ?_) (fun c_4 => ?_)
  · refine rr_iconst F dX8_aside_11 ?_
    refine rr_iret F dX8_aside_12 ?_
    refine ⟨_, rfl, ?_, hR⟩
    show _ = sp_aside σ b j
    first | (rw [sp_aside, if_pos (by omega)]; done) | (rw [sp_aside]; split; rfl; rw [if_neg (by omega)]; omega)
  · refine rr_iload_n F dX8_aside_7 rfl ?_
    refine rr_if_ge F dX8_aside_8 (tgt := 13) (by decide) ⟨by omega, by omega⟩ (fun c_8 => ?_) (fun c_8 => ?_)
    · refine rr_aload_n F dX8_aside_13 rfl ?_
      refine rg_Model_is F (by first | rfl | assumption) fl_X8_13 dX8_aside_14 ?_
      refine rr_cell (k2 := 2) rfl ?_
      refine rr_iload_n F dX8_aside_17 rfl ?_
      refine rr_zald F (N := 6) (by first | rfl | assumption) (by omega) (by first | rfl | assumption) (by omega) dX8_aside_18 ?_
      obtain ⟨e1, e2, -, -, -⟩ := MRb hR (b := b) (by omega) (by omega)
      refine rr_if_ne F dX8_aside_19 (tgt := 25) (by decide) ⟨by omega, by omega⟩ (fun c_19 => ?_) (fun c_19 => ?_)
      · refine rr_iload_n F dX8_aside_25 rfl ?_
        refine rr_aload_n F dX8_aside_26 rfl ?_
        refine rg_Model_sizes F (by first | rfl | assumption) fl_X8_17 dX8_aside_27 ?_
        refine rr_cell (k2 := 3) rfl ?_
        refine rr_iload_n F dX8_aside_30 rfl ?_
        refine rr_iald F (N := 6) (by first | rfl | assumption) (by omega) (by first | rfl | assumption) (by omega) dX8_aside_31 ?_
        refine rr_icmp_lt F dX8_aside_32 (tgt := 37) (by decide) ⟨by omega, by omega⟩ ⟨by omega, by omega⟩ (fun c_32 => ?_) (fun c_32 => ?_)
        · refine rr_aload_n F dX8_aside_37 rfl ?_
          refine rr_iload_n F dX8_aside_38 rfl ?_
          refine rr_callVV F (ci := 8) (mm_X8_findAside hR hW (by omega) (by omega)) mf_X8_findAside ml_X8_150 ⟨by decide, by decide⟩ (by first | rfl | assumption) (by decide) rfl rfl (Nat.le_of_ble_eq_true rfl) dX8_aside_39 (fun I_39 L_39 h_39 => ?_)
          obtain ⟨f1, f2, f3, rfl⟩ := h_39
          have f1 := f1 j (by omega) (by omega)
          have R1 : MR σ I_39 L := hR.k ⟨fun q a d => f3 q (by omega), fun j hj => by rw [f3 0 (by omega)], rfl⟩
          refine rr_aload_n F dX8_aside_42 rfl ?_
          refine rg_Model_asides F (by first | rfl | assumption) fl_X8_65 dX8_aside_43 ?_
          refine rr_cell (k2 := 10) rfl ?_
          refine rr_bipush F dX8_aside_46 (by decide) ?_
          refine rr_iload_n F dX8_aside_48 rfl ?_
          refine rr_imul F dX8_aside_49 ?_
          refine rr_iload_n F dX8_aside_50 rfl ?_
          refine rr_iadd F dX8_aside_51 ?_
          refine rr_zald F (N := 240) (by first | rfl | assumption) (by omega) (by first | rfl | assumption) (by omega) dX8_aside_52 ?_
          refine rr_if_eq F dX8_aside_53 (tgt := 60) (by decide) ⟨by omega, by omega⟩ (fun c_53 => ?_) (fun c_53 => ?_)
          · refine rr_iconst F dX8_aside_60 ?_
            refine rr_iret F dX8_aside_61 ?_
            refine ⟨_, rfl, ?_, R1⟩
            show _ = sp_aside σ b j
            rw [sp_aside, if_neg (by omega), if_pos (by omega), if_neg (by omega)]
            omega
          · refine rr_iconst F dX8_aside_56 ?_
            refine rr_goto F dX8_aside_57 (tgt := 61) (by decide) ?_
            refine rr_iret F dX8_aside_61 ?_
            refine ⟨_, rfl, ?_, R1⟩
            show _ = sp_aside σ b j
            rw [sp_aside, if_neg (by omega), if_pos (by omega), if_neg (by omega)]
            omega
        · refine rr_iconst F dX8_aside_35 ?_
          refine rr_iret F dX8_aside_36 ?_
          refine ⟨_, rfl, ?_, hR⟩
          show _ = sp_aside σ b j
          rw [sp_aside, if_neg (by omega), if_pos (by omega), if_pos (by omega)]
      · refine rr_bipush F dX8_aside_22 (by decide) ?_
        refine rr_iret F dX8_aside_24 ?_
        refine ⟨_, rfl, ?_, hR⟩
        show _ = sp_aside σ b j
        rw [sp_aside, if_neg (by omega), if_neg (by omega)]; omega
    · refine rr_iconst F dX8_aside_11 ?_
      refine rr_iret F dX8_aside_12 ?_
      refine ⟨_, rfl, ?_, hR⟩
      show _ = sp_aside σ b j
      first | (rw [sp_aside, if_pos (by omega)]; done) | (rw [sp_aside]; split; rfl; rw [if_neg (by omega)]; omega)
end
section
/-! runs: what they are -/
def AL (σ : sT) (a b i j : Int) : Prop := (0 ≤ i ∧ i < s_sz σ a) ∧ (0 ≤ j ∧ j < s_sz σ b) ∧ s_tk σ a i = s_tk σ b j ∧ s_lg σ a = s_lg σ b ∧ aF σ a i = 0 ∧ aF σ b j = 0
noncomputable def exl (P : Int → Int → Prop) : Nat → Int → Int → Int
  | 0, _, _ => 0
  | n + 1, i, j => @ite Int (P i j) (Classical.propDecidable _) (1 + exl P n (i + 1) (j + 1)) 0
theorem exl_eq {P : Int → Int → Prop} : ∀ (f : Nat) (i j n : Int), 0 ≤ n → n < f → (∀ t, 0 ≤ t → t < n → P (i + t) (j + t)) → ¬ P (i + n) (j + n) → exl P f i j = n := by
  intro f
  induction f with
  | zero => intro i j n h1 h2 h3 h4; omega
  | succ f ih =>
    intro i j n h1 h2 h3 h4
    rw [exl]
    by_cases z : n = 0
    · subst z
      rw [if_neg (by rw [Int.add_zero, Int.add_zero] at h4; exact h4)]
    · have h0 := h3 0 (by omega) (by omega)
      rw [Int.add_zero, Int.add_zero] at h0
      rw [if_pos h0, ih (i + 1) (j + 1) (n - 1) (by omega) (by omega) (fun t u v => by have := h3 (t + 1) (by omega) (by omega); rwa [show i + (t + 1) = i + 1 + t by omega, show j + (t + 1) = j + 1 + t by omega] at this) (by rwa [show i + 1 + (n - 1) = i + n by omega, show j + 1 + (n - 1) = j + n by omega])]
      omega
theorem exl_all {P : Int → Int → Prop} : ∀ (f : Nat) (i j : Int), 0 ≤ exl P f i j ∧ ∀ t, 0 ≤ t → t < exl P f i j → P (i + t) (j + t) := by
  intro f
  induction f with
  | zero => intro i j; rw [exl]; exact ⟨by omega, fun t u v => by omega⟩
  | succ f ih =>
    intro i j
    rw [exl]
    by_cases z : P i j
    · rw [if_pos z]
      obtain ⟨y1, y2⟩ := ih (i + 1) (j + 1)
      refine ⟨by omega, fun t u v => ?_⟩
      by_cases e : t = 0
      · subst e; rw [Int.add_zero, Int.add_zero]; exact z
      · have := y2 (t - 1) (by omega) (by omega)
        rwa [show i + 1 + (t - 1) = i + t by omega, show j + 1 + (t - 1) = j + t by omega] at this
    · rw [if_neg z]; exact ⟨by omega, fun t u v => by omega⟩
/-- a shared mark within n tokens from (i, j) on -/
def MkS (σ : sT) (a b i j n : Int) : Prop := ∃ o, 0 ≤ o ∧ o + s_k σ ≤ n ∧ mF σ a (i + o) = 1 ∧ mF σ b (j + o) = 1
/-- the length of the run that begins at (i, j), 0 where none does -/
noncomputable def rln (σ : sT) (a b i j : Int) : Int := @ite Int (AL σ a b i j ∧ ¬ AL σ a b (i - 1) (j - 1) ∧ MkS σ a b i j (exl (AL σ a b) 41 i j)) (Classical.propDecidable _) (exl (AL σ a b) 41 i j) 0
theorem rln_no1 {σ : sT} {a b i j : Int} (h : ¬ AL σ a b i j) : rln σ a b i j = 0 := by unfold rln; exact if_neg (fun z => h z.1)
theorem rln_no2 {σ : sT} {a b i j : Int} (h : AL σ a b (i - 1) (j - 1)) : rln σ a b i j = 0 := by unfold rln; exact if_neg (fun z => z.2.1 h)
theorem rln_n {σ : sT} {a b i j n : Int} (h2 : ¬ AL σ a b (i - 1) (j - 1)) (h3 : 1 ≤ n) (h4 : n ≤ 40) (h5 : ∀ t, 0 ≤ t → t < n → AL σ a b (i + t) (j + t)) (h6 : ¬ AL σ a b (i + n) (j + n)) : (MkS σ a b i j n → rln σ a b i j = n) ∧ (¬ MkS σ a b i j n → rln σ a b i j = 0) := by
  have h1 := h5 0 (by omega) (by omega)
  rw [Int.add_zero, Int.add_zero] at h1
  have e : exl (AL σ a b) 41 i j = n := exl_eq 41 i j n (by omega) (by omega) h5 h6
  unfold rln
  rw [e]
  exact ⟨fun z => if_pos ⟨h1, h2, z⟩, fun z => if_neg (fun y => z y.2.2)⟩
theorem rln_b {σ : sT} (hW : WF σ) (a b i j : Int) : 0 ≤ rln σ a b i j ∧ rln σ a b i j ≤ 40 ∧ (0 < rln σ a b i j → (0 ≤ i ∧ 0 ≤ j) ∧ i + rln σ a b i j ≤ s_sz σ a ∧ j + rln σ a b i j ≤ s_sz σ b) := by
  have w1 := hW.2.2.2.1 a
  have w2 := hW.2.2.2.1 b
  obtain ⟨y1, y2⟩ := exl_all (P := AL σ a b) 41 i j
  unfold rln
  by_cases z : AL σ a b i j ∧ ¬ AL σ a b (i - 1) (j - 1) ∧ MkS σ a b i j (exl (AL σ a b) 41 i j)
  · rw [if_pos z]
    have z1 := z.1.1
    have z2 := z.1.2.1
    by_cases e : exl (AL σ a b) 41 i j = 0
    · exact ⟨by omega, by omega, fun _ => by omega⟩
    · have := y2 (exl (AL σ a b) 41 i j - 1) (by omega) (by omega)
      have t1 := this.1
      have t2 := this.2.1
      exact ⟨by omega, by omega, fun _ => ⟨⟨by omega, by omega⟩, by omega, by omega⟩⟩
  · rw [if_neg z]; exact ⟨by omega, by omega, fun y => by omega⟩
/-- the pages left and right hold book a and book b -/
def CmpS (σ : sT) (a b : Int) (I : IM) (L : LM) : Prop := PgS 22 I L (s_tk σ a) (s_sz σ a) (s_lg σ a) (s_k σ) (s_w σ) (aF σ a) ∧ PgS 28 I L (s_tk σ b) (s_sz σ b) (s_lg σ b) (s_k σ) (s_w σ) (aF σ b)
theorem CmpS.fr {σ : sT} {a b : Int} {I I' : IM} {L : LM} (h : CmpS σ a b I L) (hq : ∀ q, 22 ≤ q → q < 33 → I' q = I q) : CmpS σ a b I' L := ⟨h.1.fr (hq 22 (by omega) (by omega)) rfl (hq 24 (by omega) (by omega)) (hq 25 (by omega) (by omega)) (hq 26 (by omega) (by omega)), h.2.fr (hq 28 (by omega) (by omega)) rfl (hq 30 (by omega) (by omega)) (hq 31 (by omega) (by omega)) (hq 32 (by omega) (by omega))⟩
theorem aF_01 (σ : sT) (c i : Int) : aF σ c i = 0 ∨ aF σ c i = 1 := bi_01 _
theorem mF_01 (σ : sT) (c i : Int) : mF σ c i = 0 ∨ mF σ c i = 1 := mkF_01 _ _ _ _ _
set_option maxHeartbeats 4000000 in
set_option maxRecDepth 100000 in
theorem mm_X1_agree {l : Launch} {g : gT} {σ : sT} {a b i j : Int} {I : IM} {L : LM} (hC : CmpS σ a b I L) (hW : WF σ) (hi0 : -1 ≤ i) (hi : i < s_sz σ a) (hj0 : -1 ≤ j) (hj : j < s_sz σ b) :
    Ct l yX1_agree cX1_agree 3 (some .boolean) 0 0 lyC g [.ref (g.2.1 18), .int (zI i), .int (zI j)] I L (pI (fun r I' L' => ((r = 1 ∧ AL σ a b i j) ∨ (r = 0 ∧ ¬ AL σ a b i j)) ∧ I = I' ∧ L = L')) := by
  have w4a := hW.2.2.2.1 a
  have w4b := hW.2.2.2.1 b
  have w5a := hW.2.2.2.2.1 a
  have w5b := hW.2.2.2.2.1 b
  obtain ⟨hA, hB⟩ := hC
  have za := aF_01 σ a i
  have zb := aF_01 σ b j
  refine Ct.of RX1 (by decide +kernel) rfl (Nat.le_of_ble_eq_true rfl) (fun x hx F => ?_)
  refine rr_iload_n F dX1_agree_0 rfl ?_
  refine rr_if_lt F dX1_agree_1 (tgt := 75) (by decide) ⟨by omega, by omega⟩ (fun c_1 => ?_) (fun c_1 => ?_)
  · refine rr_iconst F dX1_agree_75 ?_
    refine rr_zret F dX1_agree_76 (by decide) ?_
    first
    | exact ⟨_, rfl, Or.inl ⟨rfl, ⟨by omega, by omega⟩, ⟨by omega, by omega⟩, c_27, c_44, c_56, c_68⟩, rfl, rfl⟩
    | exact ⟨_, rfl, Or.inr ⟨rfl, fun z => by have := z.1; have := z.2.1; omega⟩, rfl, rfl⟩
    | exact ⟨_, rfl, Or.inr ⟨rfl, fun z => c_27 z.2.2.1⟩, rfl, rfl⟩
    | exact ⟨_, rfl, Or.inr ⟨rfl, fun z => c_44 z.2.2.2.1⟩, rfl, rfl⟩
    | exact ⟨_, rfl, Or.inr ⟨rfl, fun z => c_56 z.2.2.2.2.1⟩, rfl, rfl⟩
    | exact ⟨_, rfl, Or.inr ⟨rfl, fun z => c_68 z.2.2.2.2.2⟩, rfl, rfl⟩
  · refine rr_iload_n F dX1_agree_4 rfl ?_
    refine rr_if_lt F dX1_agree_5 (tgt := 75) (by decide) ⟨by omega, by omega⟩ (fun c_5 => ?_) (fun c_5 => ?_)
    · refine rr_iconst F dX1_agree_75 ?_
      refine rr_zret F dX1_agree_76 (by decide) ?_
      first
      | exact ⟨_, rfl, Or.inl ⟨rfl, ⟨by omega, by omega⟩, ⟨by omega, by omega⟩, c_27, c_44, c_56, c_68⟩, rfl, rfl⟩
      | exact ⟨_, rfl, Or.inr ⟨rfl, fun z => by have := z.1; have := z.2.1; omega⟩, rfl, rfl⟩
      | exact ⟨_, rfl, Or.inr ⟨rfl, fun z => c_27 z.2.2.1⟩, rfl, rfl⟩
      | exact ⟨_, rfl, Or.inr ⟨rfl, fun z => c_44 z.2.2.2.1⟩, rfl, rfl⟩
      | exact ⟨_, rfl, Or.inr ⟨rfl, fun z => c_56 z.2.2.2.2.1⟩, rfl, rfl⟩
      | exact ⟨_, rfl, Or.inr ⟨rfl, fun z => c_68 z.2.2.2.2.2⟩, rfl, rfl⟩
    · refine rr_aload_n F dX1_agree_8 rfl ?_
      refine rg_Comparison_left F (by first | rfl | assumption) fl_X1_28 dX1_agree_9 ?_
      refine rr_cell (k2 := 22) rfl ?_
      refine rg_Page_tokens F (by first | rfl | assumption) fl_X1_119 dX1_agree_12 ?_
      refine rr_cell (k2 := 23) rfl ?_
      refine rr_iload_n F dX1_agree_15 rfl ?_
      refine rr_lald F (N := 40) (by first | rfl | assumption) (by omega) (by first | rfl | assumption) (by omega) dX1_agree_16 ?_
      refine rr_aload_n F dX1_agree_17 rfl ?_
      refine rg_Comparison_right F (by first | rfl | assumption) fl_X1_32 dX1_agree_18 ?_
      refine rr_cell (k2 := 28) rfl ?_
      refine rg_Page_tokens F (by first | rfl | assumption) fl_X1_119 dX1_agree_21 ?_
      refine rr_cell (k2 := 29) rfl ?_
      refine rr_iload_n F dX1_agree_24 rfl ?_
      refine rr_lald F (N := 40) (by first | rfl | assumption) (by omega) (by first | rfl | assumption) (by omega) dX1_agree_25 ?_
      have t1 := hA.2.2.2.1 i (by omega) (by omega)
      have t2 := hB.2.2.2.1 j (by omega) (by omega)
      rw [t1, t2]
      refine rr_lcmp F dX1_agree_26 ?_
      refine rr_lif_ne F dX1_agree_27 (tgt := 75) (by decide) (fun c_27 => ?_) (fun c_27 => ?_)
      · refine rr_iconst F dX1_agree_75 ?_
        refine rr_zret F dX1_agree_76 (by decide) ?_
        first
        | exact ⟨_, rfl, Or.inl ⟨rfl, ⟨by omega, by omega⟩, ⟨by omega, by omega⟩, c_27, c_44, c_56, c_68⟩, rfl, rfl⟩
        | exact ⟨_, rfl, Or.inr ⟨rfl, fun z => by have := z.1; have := z.2.1; omega⟩, rfl, rfl⟩
        | exact ⟨_, rfl, Or.inr ⟨rfl, fun z => c_27 z.2.2.1⟩, rfl, rfl⟩
        | exact ⟨_, rfl, Or.inr ⟨rfl, fun z => c_44 z.2.2.2.1⟩, rfl, rfl⟩
        | exact ⟨_, rfl, Or.inr ⟨rfl, fun z => c_56 z.2.2.2.2.1⟩, rfl, rfl⟩
        | exact ⟨_, rfl, Or.inr ⟨rfl, fun z => c_68 z.2.2.2.2.2⟩, rfl, rfl⟩
      · refine rr_aload_n F dX1_agree_30 rfl ?_
        refine rg_Comparison_left F (by first | rfl | assumption) fl_X1_28 dX1_agree_31 ?_
        refine rr_cell (k2 := 22) rfl ?_
        refine rg_Page_language F (by first | rfl | assumption) fl_X1_123 dX1_agree_34 ?_
        refine rr_aload_n F dX1_agree_37 rfl ?_
        refine rg_Comparison_right F (by first | rfl | assumption) fl_X1_32 dX1_agree_38 ?_
        refine rr_cell (k2 := 28) rfl ?_
        refine rg_Page_language F (by first | rfl | assumption) fl_X1_123 dX1_agree_41 ?_
        rw [hA.2.1, hB.2.1]
        refine rr_icmp_ne F dX1_agree_44 (tgt := 75) (by decide) ⟨by omega, by omega⟩ ⟨by omega, by omega⟩ (fun c_44 => ?_) (fun c_44 => ?_)
        · refine rr_iconst F dX1_agree_75 ?_
          refine rr_zret F dX1_agree_76 (by decide) ?_
          first
          | exact ⟨_, rfl, Or.inl ⟨rfl, ⟨by omega, by omega⟩, ⟨by omega, by omega⟩, c_27, c_44, c_56, c_68⟩, rfl, rfl⟩
          | exact ⟨_, rfl, Or.inr ⟨rfl, fun z => by have := z.1; have := z.2.1; omega⟩, rfl, rfl⟩
          | exact ⟨_, rfl, Or.inr ⟨rfl, fun z => c_27 z.2.2.1⟩, rfl, rfl⟩
          | exact ⟨_, rfl, Or.inr ⟨rfl, fun z => c_44 z.2.2.2.1⟩, rfl, rfl⟩
          | exact ⟨_, rfl, Or.inr ⟨rfl, fun z => c_56 z.2.2.2.2.1⟩, rfl, rfl⟩
          | exact ⟨_, rfl, Or.inr ⟨rfl, fun z => c_68 z.2.2.2.2.2⟩, rfl, rfl⟩
        · refine rr_aload_n F dX1_agree_47 rfl ?_
          refine rg_Comparison_left F (by first | rfl | assumption) fl_X1_28 dX1_agree_48 ?_
          refine rr_cell (k2 := 22) rfl ?_
          refine rg_Page_isAside F (by first | rfl | assumption) fl_X1_126 dX1_agree_51 ?_
          refine rr_cell (k2 := 26) rfl ?_
          refine rr_iload_n F dX1_agree_54 rfl ?_
          refine rr_zald F (N := 40) (by first | rfl | assumption) (by omega) (by first | rfl | assumption) (by omega) dX1_agree_55 ?_
          rw [hA.2.2.2.2.2.2 i (by omega) (by omega)]
          refine rr_if_ne F dX1_agree_56 (tgt := 75) (by decide) ⟨by omega, by omega⟩ (fun c_56 => ?_) (fun c_56 => ?_)
          · refine rr_iconst F dX1_agree_75 ?_
            refine rr_zret F dX1_agree_76 (by decide) ?_
            first
            | exact ⟨_, rfl, Or.inl ⟨rfl, ⟨by omega, by omega⟩, ⟨by omega, by omega⟩, c_27, c_44, c_56, c_68⟩, rfl, rfl⟩
            | exact ⟨_, rfl, Or.inr ⟨rfl, fun z => by have := z.1; have := z.2.1; omega⟩, rfl, rfl⟩
            | exact ⟨_, rfl, Or.inr ⟨rfl, fun z => c_27 z.2.2.1⟩, rfl, rfl⟩
            | exact ⟨_, rfl, Or.inr ⟨rfl, fun z => c_44 z.2.2.2.1⟩, rfl, rfl⟩
            | exact ⟨_, rfl, Or.inr ⟨rfl, fun z => c_56 z.2.2.2.2.1⟩, rfl, rfl⟩
            | exact ⟨_, rfl, Or.inr ⟨rfl, fun z => c_68 z.2.2.2.2.2⟩, rfl, rfl⟩
          · refine rr_aload_n F dX1_agree_59 rfl ?_
            refine rg_Comparison_right F (by first | rfl | assumption) fl_X1_32 dX1_agree_60 ?_
            refine rr_cell (k2 := 28) rfl ?_
            refine rg_Page_isAside F (by first | rfl | assumption) fl_X1_126 dX1_agree_63 ?_
            refine rr_cell (k2 := 32) rfl ?_
            refine rr_iload_n F dX1_agree_66 rfl ?_
            refine rr_zald F (N := 40) (by first | rfl | assumption) (by omega) (by first | rfl | assumption) (by omega) dX1_agree_67 ?_
            rw [hB.2.2.2.2.2.2 j (by omega) (by omega)]
            refine rr_if_ne F dX1_agree_68 (tgt := 75) (by decide) ⟨by omega, by omega⟩ (fun c_68 => ?_) (fun c_68 => ?_)
            · refine rr_iconst F dX1_agree_75 ?_
              refine rr_zret F dX1_agree_76 (by decide) ?_
              first
              | exact ⟨_, rfl, Or.inl ⟨rfl, ⟨by omega, by omega⟩, ⟨by omega, by omega⟩, c_27, c_44, c_56, c_68⟩, rfl, rfl⟩
              | exact ⟨_, rfl, Or.inr ⟨rfl, fun z => by have := z.1; have := z.2.1; omega⟩, rfl, rfl⟩
              | exact ⟨_, rfl, Or.inr ⟨rfl, fun z => c_27 z.2.2.1⟩, rfl, rfl⟩
              | exact ⟨_, rfl, Or.inr ⟨rfl, fun z => c_44 z.2.2.2.1⟩, rfl, rfl⟩
              | exact ⟨_, rfl, Or.inr ⟨rfl, fun z => c_56 z.2.2.2.2.1⟩, rfl, rfl⟩
              | exact ⟨_, rfl, Or.inr ⟨rfl, fun z => c_68 z.2.2.2.2.2⟩, rfl, rfl⟩
            · refine rr_iconst F dX1_agree_71 ?_
              refine rr_goto F dX1_agree_72 (tgt := 76) (by decide) ?_
              refine rr_zret F dX1_agree_76 (by decide) ?_
              first
              | exact ⟨_, rfl, Or.inl ⟨rfl, ⟨by omega, by omega⟩, ⟨by omega, by omega⟩, c_27, c_44, c_56, c_68⟩, rfl, rfl⟩
              | exact ⟨_, rfl, Or.inr ⟨rfl, fun z => by have := z.1; have := z.2.1; omega⟩, rfl, rfl⟩
              | exact ⟨_, rfl, Or.inr ⟨rfl, fun z => c_27 z.2.2.1⟩, rfl, rfl⟩
              | exact ⟨_, rfl, Or.inr ⟨rfl, fun z => c_44 z.2.2.2.1⟩, rfl, rfl⟩
              | exact ⟨_, rfl, Or.inr ⟨rfl, fun z => c_56 z.2.2.2.2.1⟩, rfl, rfl⟩
              | exact ⟨_, rfl, Or.inr ⟨rfl, fun z => c_68 z.2.2.2.2.2⟩, rfl, rfl⟩
set_option maxHeartbeats 4000000 in
set_option maxRecDepth 100000 in
theorem mm_X1_sharesMark {l : Launch} {g : gT} {σ : sT} {a b i j n : Int} {I : IM} {L : LM} (hC : CmpS σ a b I L) (hW : WF σ) (hi0 : 0 ≤ i) (hj0 : 0 ≤ j) (hn : 1 ≤ n) (hi : i + n ≤ s_sz σ a) (hj : j + n ≤ s_sz σ b) :
    Ct l yX1_sharesMark cX1_sharesMark 5 (some .boolean) 0 0 lyC g [.ref (g.2.1 18), .int (zI i), .int (zI j), .int (zI (n - s_k σ))] I L (pI (fun r I' L' => ((r = 1 ∧ MkS σ a b i j n) ∨ (r = 0 ∧ ¬ MkS σ a b i j n)) ∧ I = I' ∧ L = L')) := by
  have w4a := hW.2.2.2.1 a
  have w4b := hW.2.2.2.1 b
  have w7 := hW.2.2.2.2.2.2.1
  obtain ⟨hA, hB⟩ := hC
  have ga : grm (s_sz σ a) (s_k σ) = max 0 (s_sz σ a - s_k σ + 1) := rfl
  have gb : grm (s_sz σ b) (s_k σ) = max 0 (s_sz σ b - s_k σ + 1) := rfl
  refine Ct.of RX1 (by decide +kernel) rfl (Nat.le_of_ble_eq_true rfl) (fun x hx F => ?_)
  have loop : ∀ (c : Nat) (o : Int), c = (n - s_k σ + 1 - o).toNat → 0 ≤ o → (o = 0 ∨ o ≤ n - s_k σ + 1) → (∀ u, 0 ≤ u → u < o → ¬ (mF σ a (i + u) = 1 ∧ mF σ b (j + u) = 1)) → Rn x lyC g (pI (fun r I' L' => ((r = 1 ∧ MkS σ a b i j n) ∨ (r = 0 ∧ ¬ MkS σ a b i j n)) ∧ I = I' ∧ L = L')) 3 [vr g 18, vn i, vn j, vn (n - s_k σ), vn o] [] I L := by
    intro c
    induction c with
    | zero =>
      intro o h1 h2 h3 h4
      refine rr_iload F dX1_sharesMark_3 rfl ?_
      refine rr_iload_n F dX1_sharesMark_5 rfl ?_
      refine rr_icmp_gt F dX1_sharesMark_6 (tgt := 47) (by decide) ⟨by omega, by omega⟩ ⟨by omega, by omega⟩ (fun c_6 => ?_) (fun c_6 => ?_)
      · refine rr_iconst F dX1_sharesMark_47 ?_
        refine rr_zret F dX1_sharesMark_48 (by decide) ?_
        exact ⟨_, rfl, Or.inr ⟨rfl, fun ⟨u, y1, y2, y3⟩ => h4 u y1 (by omega) y3⟩, rfl, rfl⟩
      · exfalso
        omega
    | succ c ih =>
      intro o h1 h2 h3 h4
      have z1 := mF_01 σ a (i + o)
      have z2 := mF_01 σ b (j + o)
      refine rr_iload F dX1_sharesMark_3 rfl ?_
      refine rr_iload_n F dX1_sharesMark_5 rfl ?_
      refine rr_icmp_gt F dX1_sharesMark_6 (tgt := 47) (by decide) ⟨by omega, by omega⟩ ⟨by omega, by omega⟩ (fun c_6 => ?_) (fun c_6 => ?_)
      · exfalso
        omega
      · refine rr_aload_n F dX1_sharesMark_9 rfl ?_
        refine rg_Comparison_left F (by first | rfl | assumption) fl_X1_28 dX1_sharesMark_10 ?_
        refine rr_cell (k2 := 22) rfl ?_
        refine rg_Page_isMark F (by first | rfl | assumption) fl_X1_130 dX1_sharesMark_13 ?_
        refine rr_cell (k2 := 25) rfl ?_
        refine rr_iload_n F dX1_sharesMark_16 rfl ?_
        refine rr_iload F dX1_sharesMark_17 rfl ?_
        refine rr_iadd F dX1_sharesMark_19 ?_
        refine rr_zald F (N := 40) (by first | rfl | assumption) (by omega) (by first | rfl | assumption) (by omega) dX1_sharesMark_20 ?_
        rw [hA.2.2.2.2.2.1 (i + o) (by omega) (by omega)]
        refine rr_if_eq F dX1_sharesMark_21 (tgt := 41) (by decide) (by exact show rg (mF σ a (i + o)) from ⟨by omega, by omega⟩) (fun c_21 => ?_) (fun c_21 => ?_)
        · refine rr_iinc F dX1_sharesMark_41 rfl rfl ?_
          refine rr_goto F dX1_sharesMark_44 (tgt := 3) (by decide) ?_
          refine ih (o + 1) (by omega) (by omega) (by omega) (fun u y1 y2 => ?_)
          by_cases e : u = o
          · subst e
            first | (have c1 : mF σ a (i + u) = 0 := c_21; omega) | (have c1 : mF σ b (j + u) = 0 := c_36; omega)
          · exact h4 u y1 (by omega)
        · refine rr_aload_n F dX1_sharesMark_24 rfl ?_
          refine rg_Comparison_right F (by first | rfl | assumption) fl_X1_32 dX1_sharesMark_25 ?_
          refine rr_cell (k2 := 28) rfl ?_
          refine rg_Page_isMark F (by first | rfl | assumption) fl_X1_130 dX1_sharesMark_28 ?_
          refine rr_cell (k2 := 31) rfl ?_
          refine rr_iload_n F dX1_sharesMark_31 rfl ?_
          refine rr_iload F dX1_sharesMark_32 rfl ?_
          refine rr_iadd F dX1_sharesMark_34 ?_
          refine rr_zald F (N := 40) (by first | rfl | assumption) (by omega) (by first | rfl | assumption) (by omega) dX1_sharesMark_35 ?_
          rw [hB.2.2.2.2.2.1 (j + o) (by omega) (by omega)]
          refine rr_if_eq F dX1_sharesMark_36 (tgt := 41) (by decide) (by exact show rg (mF σ b (j + o)) from ⟨by omega, by omega⟩) (fun c_36 => ?_) (fun c_36 => ?_)
          · refine rr_iinc F dX1_sharesMark_41 rfl rfl ?_
            refine rr_goto F dX1_sharesMark_44 (tgt := 3) (by decide) ?_
            refine ih (o + 1) (by omega) (by omega) (by omega) (fun u y1 y2 => ?_)
            by_cases e : u = o
            · subst e
              first | (have c1 : mF σ a (i + u) = 0 := c_21; omega) | (have c1 : mF σ b (j + u) = 0 := c_36; omega)
            · exact h4 u y1 (by omega)
          · refine rr_iconst F dX1_sharesMark_39 ?_
            refine rr_zret F dX1_sharesMark_40 (by decide) ?_
            have c1 : ¬ mF σ a (i + o) = 0 := c_21
            have c2 : ¬ mF σ b (j + o) = 0 := c_36
            exact ⟨_, rfl, Or.inl ⟨rfl, o, h2, by omega, by omega, by omega⟩, rfl, rfl⟩
  refine rr_iconst F dX1_sharesMark_0 ?_
  refine rr_istore F dX1_sharesMark_1 (Nat.le_of_ble_eq_true rfl) rfl ?_
  exact loop _ 0 rfl (by omega) (Or.inl rfl) (fun u y1 y2 => absurd y2 (by omega))
set_option maxHeartbeats 4000000 in
set_option maxRecDepth 100000 in
theorem mm_X1_runLengthAt {l : Launch} {g : gT} {σ : sT} {a b i j : Int} {I : IM} {L : LM} (hC : CmpS σ a b I L) (hW : WF σ) (hi0 : 0 ≤ i) (hi : i < s_sz σ a) (hj0 : 0 ≤ j) (hj : j < s_sz σ b) :
    Ct l yX1_runLengthAt cX1_runLengthAt 6 (some .int) 1 24 lyC g [.ref (g.2.1 18), .int (zI i), .int (zI j), .int (zI (s_k σ))] I L (pI (fun r I' L' => r = rln σ a b i j ∧ I = I' ∧ L = L')) := by
  have w4a := hW.2.2.2.1 a
  have w4b := hW.2.2.2.1 b
  have w7 := hW.2.2.2.2.2.2.1
  have sA := hC.1.1
  have sB := hC.2.1
  refine Ct.of RX1 (by decide +kernel) rfl (Nat.le_of_ble_eq_true rfl) (fun x hx F => ?_)
  have after : ∀ n : Int, ¬ AL σ a b (i - 1) (j - 1) → 1 ≤ n → i + n ≤ s_sz σ a → j + n ≤ s_sz σ b → (∀ t, 0 ≤ t → t < n → AL σ a b (i + t) (j + t)) → ¬ AL σ a b (i + n) (j + n) → Rn x lyC g (pI (fun r I' L' => r = rln σ a b i j ∧ I = I' ∧ L = L')) 78 [vr g 18, vn i, vn j, vn (s_k σ), vn (min (s_sz σ a - i) (s_sz σ b - j)), vn n] [] I L := by
    intro n h0 h1 h2 h3 h4 h5
    have key := rln_n h0 h1 (by omega) h4 h5
    refine rr_aload_n F dX1_runLengthAt_78 rfl ?_
    refine rr_iload_n F dX1_runLengthAt_79 rfl ?_
    refine rr_iload_n F dX1_runLengthAt_80 rfl ?_
    refine rr_iload F dX1_runLengthAt_81 rfl ?_
    refine rr_iload_n F dX1_runLengthAt_83 rfl ?_
    refine rr_isub F dX1_runLengthAt_84 ?_
    refine rr_callVI F (ci := 1) (mm_X1_sharesMark hC hW hi0 hj0 h1 h2 h3) mf_X1_sharesMark ml_X1_115 ⟨by decide, by decide⟩ (by first | rfl | assumption) (by decide) rfl rfl (Nat.le_of_ble_eq_true rfl) dX1_runLengthAt_85 (fun r_85 I_85 L_85 h_85 => ?_)
    obtain ⟨e85, rfl, rfl⟩ := h_85
    refine rr_if_eq F dX1_runLengthAt_88 (tgt := 96) (by decide) ⟨by omega, by omega⟩ (fun c_88 => ?_) (fun c_88 => ?_)
    · refine rr_iconst F dX1_runLengthAt_96 ?_
      refine rr_iret F dX1_runLengthAt_97 ?_
      refine ⟨_, rfl, ?_, rfl, rfl⟩
      rcases e85 with ⟨y1, y2⟩ | ⟨y1, y2⟩
      · first | exact (key.1 y2).symm | (exfalso; omega)
      · first | exact (key.2 y2).symm | (exfalso; omega)
    · refine rr_iload F dX1_runLengthAt_91 rfl ?_
      refine rr_goto F dX1_runLengthAt_93 (tgt := 97) (by decide) ?_
      refine rr_iret F dX1_runLengthAt_97 ?_
      refine ⟨_, rfl, ?_, rfl, rfl⟩
      rcases e85 with ⟨y1, y2⟩ | ⟨y1, y2⟩
      · first | exact (key.1 y2).symm | (exfalso; omega)
      · first | exact (key.2 y2).symm | (exfalso; omega)
  have loop : ¬ AL σ a b (i - 1) (j - 1) → ∀ (c : Nat) (n : Int), c = (min (s_sz σ a - i) (s_sz σ b - j) - n).toNat → 1 ≤ n → n ≤ min (s_sz σ a - i) (s_sz σ b - j) → (∀ t, 0 ≤ t → t < n → AL σ a b (i + t) (j + t)) → Rn x lyC g (pI (fun r I' L' => r = rln σ a b i j ∧ I = I' ∧ L = L')) 50 [vr g 18, vn i, vn j, vn (s_k σ), vn (min (s_sz σ a - i) (s_sz σ b - j)), vn n] [] I L := by
    intro h0 c
    induction c with
    | zero =>
      intro n h1 h2 h3 h4
      refine rr_iload F dX1_runLengthAt_50 rfl ?_
      refine rr_iload F dX1_runLengthAt_52 rfl ?_
      refine rr_icmp_ge F dX1_runLengthAt_54 (tgt := 78) (by decide) ⟨by omega, by omega⟩ ⟨by omega, by omega⟩ (fun c_54 => ?_) (fun c_54 => ?_)
      · exact after n h0 h2 (by omega) (by omega) h4 (fun z => by have := z.1; have := z.2.1; omega)
      · exfalso
        omega
    | succ c ih =>
      intro n h1 h2 h3 h4
      refine rr_iload F dX1_runLengthAt_50 rfl ?_
      refine rr_iload F dX1_runLengthAt_52 rfl ?_
      refine rr_icmp_ge F dX1_runLengthAt_54 (tgt := 78) (by decide) ⟨by omega, by omega⟩ ⟨by omega, by omega⟩ (fun c_54 => ?_) (fun c_54 => ?_)
      · first | (exfalso; omega) | exact after n h0 h2 (by omega) (by omega) h4 (e66.elim (fun z => absurd z.1 (by omega)) (fun z => z.2))
      · refine rr_aload_n F dX1_runLengthAt_57 rfl ?_
        refine rr_iload_n F dX1_runLengthAt_58 rfl ?_
        refine rr_iload F dX1_runLengthAt_59 rfl ?_
        refine rr_iadd F dX1_runLengthAt_61 ?_
        refine rr_iload_n F dX1_runLengthAt_62 rfl ?_
        refine rr_iload F dX1_runLengthAt_63 rfl ?_
        refine rr_iadd F dX1_runLengthAt_65 ?_
        refine rr_callVI F (ci := 1) (mm_X1_agree hC hW (by omega) (by omega) (by omega) (by omega)) mf_X1_agree ml_X1_105 ⟨by decide, by decide⟩ (by first | rfl | assumption) (by decide) rfl rfl (Nat.le_of_ble_eq_true rfl) dX1_runLengthAt_66 (fun r_66 I_66 L_66 h_66 => ?_)
        obtain ⟨e66, rfl, rfl⟩ := h_66
        refine rr_if_eq F dX1_runLengthAt_69 (tgt := 78) (by decide) ⟨by omega, by omega⟩ (fun c_69 => ?_) (fun c_69 => ?_)
        · first | (exfalso; omega) | exact after n h0 h2 (by omega) (by omega) h4 (e66.elim (fun z => absurd z.1 (by omega)) (fun z => z.2))
        · refine rr_iinc F dX1_runLengthAt_72 rfl rfl ?_
          refine rr_goto F dX1_runLengthAt_75 (tgt := 50) (by decide) ?_
          refine ih (n + 1) (by omega) (by omega) (by omega) (fun t u v => ?_)
          by_cases e : t = n
          · subst e; exact e66.elim (fun z => z.2) (fun z => absurd z.1 c_69)
          · exact h4 t u (by omega)
  refine rr_aload_n F dX1_runLengthAt_0 rfl ?_
  refine rr_iload_n F dX1_runLengthAt_1 rfl ?_
  refine rr_iload_n F dX1_runLengthAt_2 rfl ?_
  refine rr_callVI F (ci := 1) (mm_X1_agree hC hW (by omega) (by omega) (by omega) (by omega)) mf_X1_agree ml_X1_105 ⟨by decide, by decide⟩ (by first | rfl | assumption) (by decide) rfl rfl (Nat.le_of_ble_eq_true rfl) dX1_runLengthAt_3 (fun r_3 I_3 L_3 h_3 => ?_)
  obtain ⟨e3, rfl, rfl⟩ := h_3
  refine rr_if_eq F dX1_runLengthAt_6 (tgt := 22) (by decide) ⟨by omega, by omega⟩ (fun c_6 => ?_) (fun c_6 => ?_)
  · refine rr_iconst F dX1_runLengthAt_22 ?_
    refine rr_iret F dX1_runLengthAt_23 ?_
    refine ⟨_, rfl, ?_, rfl, rfl⟩
    first | exact (rln_no1 (e3.elim (fun z => absurd z.1 (by omega)) (fun z => z.2))).symm | exact (rln_no2 (e16.elim (fun z => z.2) (fun z => absurd z.1 (by omega)))).symm
  · refine rr_aload_n F dX1_runLengthAt_9 rfl ?_
    refine rr_iload_n F dX1_runLengthAt_10 rfl ?_
    refine rr_iconst F dX1_runLengthAt_11 ?_
    refine rr_isub F dX1_runLengthAt_12 ?_
    refine rr_iload_n F dX1_runLengthAt_13 rfl ?_
    refine rr_iconst F dX1_runLengthAt_14 ?_
    refine rr_isub F dX1_runLengthAt_15 ?_
    refine rr_callVI F (ci := 1) (mm_X1_agree hC hW (by omega) (by omega) (by omega) (by omega)) mf_X1_agree ml_X1_105 ⟨by decide, by decide⟩ (by first | rfl | assumption) (by decide) rfl rfl (Nat.le_of_ble_eq_true rfl) dX1_runLengthAt_16 (fun r_16 I_16 L_16 h_16 => ?_)
    obtain ⟨e16, rfl, rfl⟩ := h_16
    refine rr_if_eq F dX1_runLengthAt_19 (tgt := 24) (by decide) ⟨by omega, by omega⟩ (fun c_19 => ?_) (fun c_19 => ?_)
    · refine rr_aload_n F dX1_runLengthAt_24 rfl ?_
      refine rg_Comparison_left F (by first | rfl | assumption) fl_X1_28 dX1_runLengthAt_25 ?_
      refine rr_cell (k2 := 22) rfl ?_
      refine rg_Page_size F (by first | rfl | assumption) fl_X1_88 dX1_runLengthAt_28 ?_
      refine rr_iload_n F dX1_runLengthAt_31 rfl ?_
      refine rr_isub F dX1_runLengthAt_32 ?_
      refine rr_aload_n F dX1_runLengthAt_33 rfl ?_
      refine rg_Comparison_right F (by first | rfl | assumption) fl_X1_32 dX1_runLengthAt_34 ?_
      refine rr_cell (k2 := 28) rfl ?_
      refine rg_Page_size F (by first | rfl | assumption) fl_X1_88 dX1_runLengthAt_37 ?_
      refine rr_iload_n F dX1_runLengthAt_40 rfl ?_
      refine rr_isub F dX1_runLengthAt_41 ?_
      refine rr_min F ml_X1_109 ⟨by omega, by omega⟩ ⟨by omega, by omega⟩ (by decide) (Nat.le_of_ble_eq_true rfl) dX1_runLengthAt_42 ?_
      refine rr_istore F dX1_runLengthAt_45 (Nat.le_of_ble_eq_true rfl) rfl ?_
      refine rr_iconst F dX1_runLengthAt_47 ?_
      refine rr_istore F dX1_runLengthAt_48 (Nat.le_of_ble_eq_true rfl) rfl ?_
      rw [sA, sB]
      refine loop (e16.elim (fun z => absurd z.1 (by omega)) (fun z => z.2)) _ 1 rfl (by omega) (by omega) (fun t u v => ?_)
      have e : t = 0 := by omega
      subst e
      rw [Int.add_zero, Int.add_zero]
      exact e3.elim (fun z => z.2) (fun z => absurd z.1 (by omega))
    · refine rr_iconst F dX1_runLengthAt_22 ?_
      refine rr_iret F dX1_runLengthAt_23 ?_
      refine ⟨_, rfl, ?_, rfl, rfl⟩
      first | exact (rln_no1 (e3.elim (fun z => absurd z.1 (by omega)) (fun z => z.2))).symm | exact (rln_no2 (e16.elim (fun z => z.2) (fun z => absurd z.1 (by omega)))).symm
end
section
/-! the list of runs; compare, partOfRun, runs, run of the class -/
abbrev rT : Type := Int × Int × Int
def rowR (f : Int → Int → Int) (i : Int) : Nat → List rT
  | 0 => []
  | n + 1 => rowR f i n ++ (if 0 < f i n then [(i, (n : Int), f i n)] else [])
def matR (f : Int → Int → Int) (m : Nat) : Nat → List rT
  | 0 => []
  | n + 1 => matR f m n ++ rowR f n m
/-- the runs ahead of (i, j), row by row -/
def preR (f : Int → Int → Int) (m i j : Int) : List rT := matR f m.toNat i.toNat ++ rowR f i j.toNat
theorem preR_0 (f : Int → Int → Int) (m : Int) : preR f m 0 0 = [] := rfl
theorem preR_j (f : Int → Int → Int) (m i j : Int) (h : 0 ≤ j) : preR f m i (j + 1) = preR f m i j ++ (if 0 < f i j then [(i, j, f i j)] else []) := by
  unfold preR
  rw [show (j + 1).toNat = j.toNat + 1 by omega, rowR, show ((j.toNat : Nat) : Int) = j by omega, List.append_assoc]
theorem preR_i (f : Int → Int → Int) (m i : Int) (h : 0 ≤ i) : preR f m (i + 1) 0 = preR f m i m := by
  unfold preR
  rw [show (i + 1).toNat = i.toNat + 1 by omega, matR, show ((i.toNat : Nat) : Int) = i by omega]
  show _ ++ rowR f (i + 1) 0 = _
  rw [rowR, List.append_nil]
theorem rowR_len (f : Int → Int → Int) (i : Int) : ∀ n : Nat, (rowR f i n).length ≤ n := by
  intro n
  induction n with
  | zero => exact Nat.le_refl _
  | succ n ih =>
    rw [rowR, List.length_append]
    split <;> simp <;> omega
theorem matR_len (f : Int → Int → Int) (m : Nat) (hm : m ≤ 40) : ∀ n : Nat, (matR f m n).length ≤ 40 * n := by
  intro n
  induction n with
  | zero => exact Nat.le_refl _
  | succ n ih =>
    rw [matR, List.length_append]
    have := rowR_len f n m
    omega
theorem preR_len (f : Int → Int → Int) {m i j : Int} (hm : m ≤ 40) (hi : 0 ≤ i) (hj : 0 ≤ j) : ((preR f m i j).length : Int) ≤ 40 * i + j := by
  unfold preR
  rw [List.length_append]
  have := rowR_len f i j.toNat
  have := matR_len f m.toNat (by omega) i.toNat
  omega
theorem preR_up (f : Int → Int → Int) (m i : Int) : ∀ (c : Nat) (j : Int), 0 ≤ j → preR f m i j <+: preR f m i (j + c) := by
  intro c
  induction c with
  | zero => intro j hj; rw [show j + ((0 : Nat) : Int) = j by omega]; exact List.prefix_rfl
  | succ c ih =>
    intro j hj
    refine (ih j hj).trans ?_
    rw [show j + ((c + 1 : Nat) : Int) = j + c + 1 by omega, preR_j f m i (j + c) (by omega)]
    exact List.prefix_append _ _
theorem preR_full (f : Int → Int → Int) {m : Int} (hm : 0 ≤ m) : ∀ (c : Nat) (i j : Int), 0 ≤ i → 0 ≤ j → j ≤ m → preR f m i j <+: preR f m (i + c) m := by
  intro c
  induction c with
  | zero => intro i j hi hj hjm; rw [show i + ((0 : Nat) : Int) = i by omega]; have := preR_up f m i (m - j).toNat j hj; rwa [show j + (((m - j).toNat : Nat) : Int) = m by omega] at this
  | succ c ih =>
    intro i j hi hj hjm
    refine (ih i j hi hj hjm).trans ?_
    rw [← preR_i f m (i + c) (by omega), show i + ((c + 1 : Nat) : Int) = i + c + 1 by omega]
    have := preR_up f m (i + c + 1) m.toNat 0 (by omega)
    rwa [show (0 : Int) + ((m.toNat : Nat) : Int) = m by omega] at this
/-- all runs of two books -/
noncomputable def runsL (σ : sT) (a b : Int) : List rT := preR (rln σ a b) (s_sz σ b) (s_sz σ a) 0
theorem preR_all (f : Int → Int → Int) {n m i j : Int} (hm : 0 ≤ m) (hi : 0 ≤ i) (hin : i < n) (hj : 0 ≤ j) (hjm : j ≤ m) : preR f m i j <+: preR f m n 0 := by
  rw [show n = (n - 1) + 1 by omega, preR_i f m (n - 1) (by omega)]
  have := preR_full f hm (n - 1 - i).toNat i j hi hj hjm
  rwa [show i + (((n - 1 - i).toNat : Nat) : Int) = n - 1 by omega] at this
/-- at a run, the list of runs has it at the place that tells how many are ahead -/
theorem preR_at (f : Int → Int → Int) {n m i j : Int} (hm : 0 ≤ m) (hi : 0 ≤ i) (hin : i < n) (hj : 0 ≤ j) (hjm : j < m) (hf : 0 < f i j) : (preR f m n 0)[(preR f m i j).length]? = some (i, j, f i j) := by
  have h := preR_all f (n := n) hm hi hin (show 0 ≤ j + 1 by omega) (show j + 1 ≤ m by omega)
  rw [preR_j f m i j hj, if_pos hf] at h
  obtain ⟨t, ht⟩ := h
  rw [← ht, List.append_assoc, List.getElem?_append_right (Nat.le_refl _), Nat.sub_self]
  rfl
theorem preR_mem (f : Int → Int → Int) (m i : Int) (hi : 0 ≤ i) {r : Nat} {q : rT} : ∀ (c : Nat) (j : Int), j = c → (rowR f i j.toNat)[r]? = some q → q.1 = i ∧ (0 ≤ q.2.1 ∧ q.2.1 < j) ∧ q.2.2 = f q.1 q.2.1 ∧ 0 < q.2.2 := by
  intro c
  induction c with
  | zero => intro j hj h; subst hj; simp [rowR] at h
  | succ c ih =>
    intro j hj h
    rw [show j.toNat = c + 1 by omega, rowR] at h
    rcases List.mem_append.mp (List.mem_of_getElem? h) with h1 | h1
    · obtain ⟨r', hr'⟩ := List.getElem?_of_mem h1
      have ih' : ∀ r : Nat, (rowR f i c)[r]? = some q → q.1 = i ∧ (0 ≤ q.2.1 ∧ q.2.1 < (c : Int)) ∧ q.2.2 = f q.1 q.2.1 ∧ 0 < q.2.2 := by
        clear ih h hr' h1
        intro r hr
        have key : ∀ (d : Nat) (r : Nat), (rowR f i d)[r]? = some q → q.1 = i ∧ (0 ≤ q.2.1 ∧ q.2.1 < (d : Int)) ∧ q.2.2 = f q.1 q.2.1 ∧ 0 < q.2.2 := by
          intro d
          induction d with
          | zero => intro r hr; simp [rowR] at hr
          | succ d ihd =>
            intro r hr
            rw [rowR] at hr
            rcases List.mem_append.mp (List.mem_of_getElem? hr) with h1 | h1
            · obtain ⟨r', hr'⟩ := List.getElem?_of_mem h1
              have := ihd r' hr'
              exact ⟨this.1, ⟨this.2.1.1, by omega⟩, this.2.2⟩
            · split at h1
              · next hp =>
                rcases List.mem_cons.mp h1 with e | e
                · subst e; exact ⟨rfl, ⟨by show (0 : Int) ≤ d; omega, by show (d : Int) < _; omega⟩, rfl, hp⟩
                · cases e
              · cases h1
        exact key c r hr
      have := ih' r' hr'
      exact ⟨this.1, ⟨this.2.1.1, by omega⟩, this.2.2⟩
    · split at h1
      · next hp =>
        rcases List.mem_cons.mp h1 with e | e
        · subst e; exact ⟨rfl, ⟨by show (0 : Int) ≤ c; omega, by show (c : Int) < _; omega⟩, rfl, hp⟩
        · cases e
      · cases h1
set_option maxHeartbeats 4000000 in
set_option maxRecDepth 100000 in
/-- compare: the matrix of run lengths of a and of b turned, and how many runs -/
theorem mm_X1_compare {l : Launch} {g : gT} {σ σ' : sT} {a b t : Int} {I : IM} {L : LM} (hR : CR σ I L) (hW : WF σ) (ha0 : 0 ≤ a) (ha : a < 6) (hb0 : 0 ≤ b) (hb : b < 6) (hab : a ≠ b) (hha : s_hd σ a = 1) (hhb : s_hd σ b = 1) (ht0 : 0 ≤ t) (ht : t ≤ 40)
    (hs : σ'.2.2 = σ.2.2 ∧ s_sz σ' = s_sz σ ∧ s_lg σ' = s_lg σ ∧ ∀ c, c ≠ b → s_tk σ' c = s_tk σ c) (hst : ∀ i, 0 ≤ i → i < s_sz σ b → s_tk σ b ((i + t) % s_sz σ b) = s_tk σ' b i) (hW' : WF σ') :
    Ct l yX1_compare cX1_compare 8 none 3 73 lyC g [.ref (g.2.1 18), .ref (g.2.1 4), .int (zI a), .int (zI b), .int (zI t)] I L (pV (fun I' L' => CmpS σ' a b I' L' ∧ (∀ i j, 0 ≤ i → i < s_sz σ a → 0 ≤ j → j < s_sz σ b → I' 20 (i * 41 + j) = rln σ' a b i j) ∧ I' 18 3 = (runsL σ' a b).length ∧ kC I L I' L')) := by
  have P22 : isP 22 := Or.inl rfl
  have P28 : isP 28 := Or.inr (Or.inl rfl)
  have w4a := hW.2.2.2.1 a
  have w4b := hW.2.2.2.1 b
  have w7 := hW.2.2.2.2.2.2.1
  have e1 : s_sz σ' = s_sz σ := hs.2.1
  have ek : s_k σ' = s_k σ := by show σ'.2.2.1 = σ.2.2.1; rw [hs.1]
  have ew : s_w σ' = s_w σ := by show σ'.2.2.2.1 = σ.2.2.2.1; rw [hs.1]
  have rb := fun i j => rln_b hW' a b i j
  have eR : runsL σ' a b = preR (rln σ' a b) (s_sz σ b) (s_sz σ a) 0 := by rw [runsL, e1]
  generalize hf : rln σ' a b = f at *
  refine Ct.of RX1 (by decide +kernel) rfl (Nat.le_of_ble_eq_true rfl) (fun x hx F => ?_)
  generalize hpost : (pV (fun (I' : IM) (L' : LM) => CmpS σ' a b I' L' ∧ (∀ i j, 0 ≤ i → i < s_sz σ a → 0 ≤ j → j < s_sz σ b → I' 20 (i * 41 + j) = f i j) ∧ I' 18 3 = (runsL σ' a b).length ∧ kC I L I' L')) = post
  have loop : ∀ L1 : LM, ∀ (c : Nat) (i : Int) (I1 : IM), c = (s_sz σ a - i).toNat → 0 ≤ i → i ≤ s_sz σ a → CmpS σ' a b I1 L1 → (∀ i' j, 0 ≤ i' → i' < i → 0 ≤ j → j < s_sz σ b → I1 20 (i' * 41 + j) = f i' j) → I1 18 3 = (preR f (s_sz σ b) i 0).length → kC I L I1 L1 → Rn x lyC g post 36 [vr g 18, vr g 4, vn a, vn b, vn t, vn i, none, none] [] I1 L1 := by
    intro L1 c
    induction c with
    | zero =>
      intro i I1 h1 h2 h3 h4 h5 h6 h7
      have sA := h4.1.1
      rw [e1] at sA
      have ei : i = s_sz σ a := by omega
      refine rr_iload F dX1_compare_36 rfl ?_
      refine rr_aload_n F dX1_compare_38 rfl ?_
      refine rg_Comparison_left F (by first | rfl | assumption) fl_X1_28 dX1_compare_39 ?_
      refine rr_cell (k2 := 22) rfl ?_
      refine rg_Page_size F (by first | rfl | assumption) fl_X1_88 dX1_compare_42 ?_
      refine rr_icmp_ge F dX1_compare_45 (tgt := 119) (by decide) ⟨by omega, by omega⟩ ⟨by omega, by omega⟩ (fun c_45 => ?_) (fun c_45 => ?_)
      · refine rr_vret F dX1_compare_119 ?_
        rw [← hpost]
        exact ⟨rfl, h4, fun i' j u v p q => h5 i' j u (by omega) p q, by rw [h6, eR, ei], h7⟩
      · exfalso
        omega
    | succ c ih =>
      intro i I1 h1 h2 h3 h4 h5 h6 h7
      have sA := h4.1.1
      rw [e1] at sA
      have inner : ∀ (d : Nat) (j : Int) (I2 : IM), d = (s_sz σ b - j).toNat → 0 ≤ j → j ≤ s_sz σ b → CmpS σ' a b I2 L1 → (∀ i' j', 0 ≤ i' → (i' < i ∨ (i' = i ∧ j' < j)) → 0 ≤ j' → j' < s_sz σ b → I2 20 (i' * 41 + j') = f i' j') → I2 18 3 = (preR f (s_sz σ b) i j).length → kC I L I2 L1 → Rn x lyC g post 51 [vr g 18, vr g 4, vn a, vn b, vn t, vn i, vn j, none] [] I2 L1 := by
        intro d
        induction d with
        | zero =>
          intro j I2 g1 g2 g3 g4 g5 g6 g7
          have sB := g4.2.1
          rw [e1] at sB
          have ej : j = s_sz σ b := by omega
          refine rr_iload F dX1_compare_51 rfl ?_
          refine rr_aload_n F dX1_compare_53 rfl ?_
          refine rg_Comparison_right F (by first | rfl | assumption) fl_X1_32 dX1_compare_54 ?_
          refine rr_cell (k2 := 28) rfl ?_
          refine rg_Page_size F (by first | rfl | assumption) fl_X1_88 dX1_compare_57 ?_
          refine rr_icmp_ge F dX1_compare_60 (tgt := 113) (by decide) ⟨by omega, by omega⟩ ⟨by omega, by omega⟩ (fun c_60 => ?_) (fun c_60 => ?_)
          · refine rr_iinc F dX1_compare_113 rfl rfl ?_
            refine rr_goto F dX1_compare_116 (tgt := 36) (by decide) ?_
            refine rr_drop 6 ?_
            exact ih (i + 1) I2 (by omega) (by omega) (by omega) g4 (fun i' j' u v p q => g5 i' j' u (by omega) p q) (by rw [g6, preR_i f _ i h2, ej]) g7
          · exfalso
            omega
        | succ d ihd =>
          intro j I2 g1 g2 g3 g4 g5 g6 g7
          have sB := g4.2.1
          rw [e1] at sB
          have ekk : I2 4 2 = s_k σ' := by rw [(g7 4 (by omega)).1, ek]; exact hR.2.2.2.2.1
          have rbij := rb i j
          have pl := preR_len f (m := s_sz σ b) w4b.2 h2 g2
          have upd20 : ∀ I3 : IM, (∀ q, q ≠ 20 → q ≠ 18 → I3 q = I2 q) → (I3 20 = up2 I2 20 (i * 41 + j) (f i j) 20) → ∀ i' j', 0 ≤ i' → (i' < i ∨ (i' = i ∧ j' < j + 1)) → 0 ≤ j' → j' < s_sz σ b → I3 20 (i' * 41 + j') = f i' j' := by
            intro I3 z1 z2 i' j' u v p q
            rw [z2]
            by_cases e : i' = i ∧ j' = j
            · rw [e.1, e.2, up2_same]
            · rw [up2_ne _ _ _ (by omega)]; exact g5 i' j' u (by omega) p q
          refine rr_iload F dX1_compare_51 rfl ?_
          refine rr_aload_n F dX1_compare_53 rfl ?_
          refine rg_Comparison_right F (by first | rfl | assumption) fl_X1_32 dX1_compare_54 ?_
          refine rr_cell (k2 := 28) rfl ?_
          refine rg_Page_size F (by first | rfl | assumption) fl_X1_88 dX1_compare_57 ?_
          refine rr_icmp_ge F dX1_compare_60 (tgt := 113) (by decide) ⟨by omega, by omega⟩ ⟨by omega, by omega⟩ (fun c_60 => ?_) (fun c_60 => ?_)
          · exfalso
            omega
          · refine rr_aload_n F dX1_compare_63 rfl ?_
            refine rr_iload F dX1_compare_64 rfl ?_
            refine rr_iload F dX1_compare_66 rfl ?_
            refine rr_aload_n F dX1_compare_68 rfl ?_
            refine rg_Shelf_gramLength F (by first | rfl | assumption) fl_X1_91 dX1_compare_69 ?_
            rw [ekk]
            refine rr_callVI F (ci := 1) (mm_X1_runLengthAt g4 hW' h2 (by rw [e1]; omega) g2 (by rw [e1]; omega)) mf_X1_runLengthAt ml_X1_94 ⟨by decide, by decide⟩ (by first | rfl | assumption) (by decide) rfl rfl (Nat.le_of_ble_eq_true rfl) dX1_compare_72 (fun r_72 I_72 L_72 h_72 => ?_)
            obtain ⟨e72, rfl, rfl⟩ := h_72
            rw [hf] at e72
            subst e72
            refine rr_istore F dX1_compare_75 (Nat.le_of_ble_eq_true rfl) rfl ?_
            refine rr_aload_n F dX1_compare_77 rfl ?_
            refine rg_Comparison_runLengths F (by first | rfl | assumption) fl_X1_38 dX1_compare_78 ?_
            refine rr_cell (k2 := 20) rfl ?_
            refine rr_iload F dX1_compare_81 rfl ?_
            refine rr_bipush F dX1_compare_83 (by decide) ?_
            refine rr_imul F dX1_compare_85 ?_
            refine rr_iload F dX1_compare_86 rfl ?_
            refine rr_iadd F dX1_compare_88 ?_
            refine rr_iload F dX1_compare_89 rfl ?_
            refine rr_iast F (N := 1681) (by first | rfl | assumption) (by omega) (by first | rfl | assumption) (by omega) dX1_compare_91 ?_
            refine rr_iload F dX1_compare_92 rfl ?_
            refine rr_if_le F dX1_compare_94 (tgt := 107) (by decide) ⟨by omega, by omega⟩ (fun c_94 => ?_) (fun c_94 => ?_)
            · refine rr_iinc F dX1_compare_107 rfl rfl ?_
              refine rr_goto F dX1_compare_110 (tgt := 51) (by decide) ?_
              refine rr_drop 7 ?_
              first
              | exact ihd (j + 1) _ (by omega) (by omega) (by omega) (g4.fr (fun q u v => by rw [up2_cell _ _ _ (by omega), up2_cell _ _ _ (by omega)])) (upd20 _ (fun q u v => by rw [up2_cell _ _ _ v, up2_cell _ _ _ u]) (by rw [up2_cell _ _ _ (by omega)])) (by rw [up2_same, e3, preR_j f _ i j g2, if_pos c_94, List.length_append]; simp) (g7.tr (fun q u => ⟨by rw [up2_cell _ _ _ (by omega), up2_cell _ _ _ (by omega)], rfl⟩))
              | exact ihd (j + 1) _ (by omega) (by omega) (by omega) (g4.fr (fun q u v => by rw [up2_cell _ _ _ (by omega)])) (upd20 _ (fun q u v => by rw [up2_cell _ _ _ u]) rfl) (by rw [up2_cell _ _ _ (by omega), g6, preR_j f _ i j g2, if_neg (Int.not_lt.mpr c_94), List.append_nil]) (g7.tr (fun q u => ⟨by rw [up2_cell _ _ _ (by omega)], rfl⟩))
            · refine rr_aload_n F dX1_compare_97 rfl ?_
              refine rr_dup F dX1_compare_98 rfl ?_
              have e3 : up2 I2 20 (i * 41 + j) (f i j) 18 3 = (preR f (s_sz σ b) i j).length := by rw [up2_cell _ _ _ (by omega)]; exact g6
              refine rg_Comparison_runCount F (by first | rfl | assumption) fl_X1_22 dX1_compare_99 ?_
              refine rr_iconst F dX1_compare_102 ?_
              refine rr_iadd F dX1_compare_103 ?_
              refine rp_Comparison_runCount F (by first | rfl | assumption) fl_X1_22 dX1_compare_104 ?_
              refine rr_iinc F dX1_compare_107 rfl rfl ?_
              refine rr_goto F dX1_compare_110 (tgt := 51) (by decide) ?_
              refine rr_drop 7 ?_
              first
              | exact ihd (j + 1) _ (by omega) (by omega) (by omega) (g4.fr (fun q u v => by rw [up2_cell _ _ _ (by omega), up2_cell _ _ _ (by omega)])) (upd20 _ (fun q u v => by rw [up2_cell _ _ _ v, up2_cell _ _ _ u]) (by rw [up2_cell _ _ _ (by omega)])) (by rw [up2_same, e3, preR_j f _ i j g2, if_pos c_94, List.length_append]; simp) (g7.tr (fun q u => ⟨by rw [up2_cell _ _ _ (by omega), up2_cell _ _ _ (by omega)], rfl⟩))
              | exact ihd (j + 1) _ (by omega) (by omega) (by omega) (g4.fr (fun q u v => by rw [up2_cell _ _ _ (by omega)])) (upd20 _ (fun q u v => by rw [up2_cell _ _ _ u]) rfl) (by rw [up2_cell _ _ _ (by omega), g6, preR_j f _ i j g2, if_neg (Int.not_lt.mpr c_94), List.append_nil]) (g7.tr (fun q u => ⟨by rw [up2_cell _ _ _ (by omega)], rfl⟩))
      refine rr_iload F dX1_compare_36 rfl ?_
      refine rr_aload_n F dX1_compare_38 rfl ?_
      refine rg_Comparison_left F (by first | rfl | assumption) fl_X1_28 dX1_compare_39 ?_
      refine rr_cell (k2 := 22) rfl ?_
      refine rg_Page_size F (by first | rfl | assumption) fl_X1_88 dX1_compare_42 ?_
      refine rr_icmp_ge F dX1_compare_45 (tgt := 119) (by decide) ⟨by omega, by omega⟩ ⟨by omega, by omega⟩ (fun c_45 => ?_) (fun c_45 => ?_)
      · exfalso
        omega
      · refine rr_iconst F dX1_compare_48 ?_
        refine rr_istore F dX1_compare_49 (Nat.le_of_ble_eq_true rfl) rfl ?_
        exact inner _ 0 I1 rfl (by omega) (by omega) h4 (fun i' j' u v p q => h5 i' j' u (by omega) p q) h6 h7
  refine rr_aload_n F dX1_compare_0 rfl ?_
  refine rg_Comparison_left F (by first | rfl | assumption) fl_X1_28 dX1_compare_1 ?_
  refine rr_cell (k2 := 22) rfl ?_
  refine rr_aload_n F dX1_compare_4 rfl ?_
  refine rr_iload_n F dX1_compare_5 rfl ?_
  refine rr_iconst F dX1_compare_6 ?_
  refine rr_callSV F (mm_X1_layWithMarks P22 hR hW ha0 ha hha (by omega) (by omega) (T := s_tk σ' a) (fun i u v => by rw [show i + 0 = i by omega, Int.emod_eq_of_lt u v, hs.2.2.2 a hab])) mf_X1_layWithMarks ml_X1_44 ⟨by decide, by decide⟩ rfl (Nat.le_of_ble_eq_true rfl) dX1_compare_7 (fun I_7 L_7 h_7 => ?_)
  obtain ⟨g1, g2⟩ := h_7
  have k1 : kC I L I_7 L_7 := fr_kC (by omega) g2
  have R1 := hR.k k1
  refine rr_aload_n F dX1_compare_10 rfl ?_
  refine rg_Comparison_right F (by first | rfl | assumption) fl_X1_32 dX1_compare_11 ?_
  refine rr_cell (k2 := 28) rfl ?_
  refine rr_aload_n F dX1_compare_14 rfl ?_
  refine rr_iload_n F dX1_compare_15 rfl ?_
  refine rr_iload F dX1_compare_16 rfl ?_
  refine rr_callSV F (mm_X1_layWithMarks P28 R1 hW hb0 hb hhb ht0 ht (T := s_tk σ' b) hst) mf_X1_layWithMarks ml_X1_44 ⟨by decide, by decide⟩ rfl (Nat.le_of_ble_eq_true rfl) dX1_compare_18 (fun I_18 L_18 h_18 => ?_)
  obtain ⟨g3, g4⟩ := h_18
  have k2 : kC I_7 L_7 I_18 L_18 := fr_kC (by omega) g4
  have R2 := R1.k k2
  have g1' := g1.fr (g4 22 (by omega)).1 (g4 23 (by omega)).2 (g4 24 (by omega)).1 (g4 25 (by omega)).1 (g4 26 (by omega)).1
  refine rr_aload_n F dX1_compare_21 rfl ?_
  refine rr_aload_n F dX1_compare_22 rfl ?_
  refine rr_iload_n F dX1_compare_23 rfl ?_
  refine rr_iload_n F dX1_compare_24 rfl ?_
  refine rr_callVV F (ci := 1) (mm_X1_setBothAside R2 hW ha0 ha hb0 hb hab hs g1' g3) mf_X1_setBothAside ml_X1_84 ⟨by decide, by decide⟩ (by first | rfl | assumption) (by decide) rfl rfl (Nat.le_of_ble_eq_true rfl) dX1_compare_25 (fun I_25 L_25 h_25 => ?_)
  obtain ⟨g5, g6, g7⟩ := h_25
  have hC : CmpS σ' a b I_25 L_25 := by
    unfold CmpS
    rw [e1, hs.2.2.1, ek, ew]
    exact ⟨g5, g6⟩
  have k3 : kC I_18 L_18 I_25 L_25 := fun q hq => g7 q (by omega)
  refine rr_aload_n F dX1_compare_28 rfl ?_
  refine rr_iconst F dX1_compare_29 ?_
  refine rp_Comparison_runCount F (by first | rfl | assumption) fl_X1_22 dX1_compare_30 ?_
  refine rr_iconst F dX1_compare_33 ?_
  refine rr_istore F dX1_compare_34 (Nat.le_of_ble_eq_true rfl) rfl ?_
  refine loop _ _ 0 _ rfl (by omega) (by omega) (hC.fr (fun q u v => by rw [up2_cell _ _ _ (by omega)])) (fun i' j u v p q => absurd v (by omega)) (by rw [up2_same, preR_0]; rfl) (k1.tr (k2.tr (k3.tr (fun q u => ⟨by rw [up2_cell _ _ _ (by omega)], rfl⟩))))
end
section
theorem zz_end : True := trivial
end
