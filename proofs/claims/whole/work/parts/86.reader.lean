/-! reading a tape into tokens: what it is -/
abbrev psT : Type := Int × Int × Int64 × Int × (Int → Int64)
def vlF (c : Int) : Int := if 97 ≤ c ∧ c ≤ 122 then c - 97 + 1 else if 65 ≤ c ∧ c ≤ 90 then c - 65 + 1 else if 48 ≤ c ∧ c ≤ 57 then c - 48 + 27 else 0
theorem vlF_b (c : Int) : 0 ≤ vlF c ∧ vlF c ≤ 36 := by unfold vlF; split; omega; split; omega; split <;> omega
def cdF (v : Int64) : Int := if v = 339 then 1 else if v = 8787 then 2 else if v = 236 then 3 else if v = 16633 then 4 else if v = 7367 then 5 else 6
def adP (s : psT) (t : Int64) : psT := if s.2.2.2.1 < 40 then (s.1, s.2.1, s.2.2.1, s.2.2.2.1 + 1, u1 s.2.2.2.2 s.2.2.2.1 t) else s
def lnP (s : psT) (v : Int) : psT := if s.2.1 < 6 then (s.1, s.2.1 + 1, s.2.2.1 * 37 + (zI v).toInt64, s.2.2.2) else s
def enA (lg : Int) (s : psT) : psT := if s.1 = 1 then adP s (if lg = 1 then (zI (cdF s.2.2.1)).toInt64 else s.2.2.1) else if s.1 = 2 ∧ lg = 1 then adP s 7 else s
def enP (lg : Int) (s : psT) : psT := (0, (enA lg s).2)
def bgP (lg : Int) (s : psT) (c v : Int) : psT := if 26 < v then (2, s.2) else if 0 < v then lnP (1, 0, 0, s.2.2.2) v else if ¬ c = 32 ∧ lg = 1 then adP s (zI (100 + c)).toInt64 else s
def tkP (lg : Int) (s : psT) (c : Int) : psT := if s.1 = 1 ∧ 0 < vlF c then lnP s (vlF c) else if ¬ s.1 = 2 ∨ vlF c ≤ 26 then bgP lg (enP lg s) c (vlF c) else s
def fdP (lg : Int) (tb : Int → Int) : Nat → Int → psT → psT
  | 0, _, s => s
  | n + 1, i, s => fdP lg tb n (i + 1) (tkP lg s (tb i))
/-- what is read of a tape -/
def rdP (lg : Int) (tb : Int → Int) (tl : Int) : psT := enP lg (fdP lg tb tl.toNat 0 (0, 0, 0, 0, fun _ => 0))
def okP (s : psT) : Prop := (0 ≤ s.1 ∧ s.1 ≤ 2) ∧ (s.1 = 1 → 0 ≤ s.2.1 ∧ s.2.1 ≤ 6) ∧ (0 ≤ s.2.2.2.1 ∧ s.2.2.2.1 ≤ 40)
theorem adP_ok {s : psT} (h : okP s) (t : Int64) : okP (adP s t) := by
  unfold adP
  split
  · obtain ⟨h1, h2, h3⟩ := h
    exact ⟨h1, h2, by show 0 ≤ s.2.2.2.1 + 1 ∧ s.2.2.2.1 + 1 ≤ 40; omega⟩
  · exact h
theorem okP_c (pc wl : Int) (wn : Int64) (q : Int × (Int → Int64)) (h1 : 0 ≤ pc ∧ pc ≤ 2) (h2 : pc = 1 → 0 ≤ wl ∧ wl ≤ 6) (h3 : 0 ≤ q.1 ∧ q.1 ≤ 40) : okP (pc, wl, wn, q) := ⟨h1, h2, h3⟩
theorem lnP_ok {s : psT} (h : okP s) (v : Int) : okP (lnP s v) := by
  unfold lnP
  split
  · next hc =>
    obtain ⟨h1, h2, h3⟩ := h
    refine ⟨h1, fun e => ?_, h3⟩
    have := h2 e
    show 0 ≤ s.2.1 + 1 ∧ s.2.1 + 1 ≤ 6
    omega
  · exact h
theorem enA_ok {s : psT} (h : okP s) (lg : Int) : okP (enA lg s) := by
  unfold enA
  split
  · exact adP_ok h _
  · split
    · exact adP_ok h _
    · exact h
theorem enP_ok {s : psT} (h : okP s) (lg : Int) : okP (enP lg s) := okP_c 0 _ _ _ (by omega) (fun e => absurd e (by omega)) (enA_ok h lg).2.2
theorem bgP_ok {s : psT} (h : okP s) (lg c v : Int) : okP (bgP lg s c v) := by
  unfold bgP
  split
  · exact okP_c 2 _ _ _ (by omega) (fun e => absurd e (by omega)) h.2.2
  · split
    · exact lnP_ok (okP_c 1 0 0 s.2.2.2 (by omega) (fun _ => by omega) h.2.2) v
    · split
      · exact adP_ok h _
      · exact h
theorem tkP_ok {s : psT} (h : okP s) (lg c : Int) : okP (tkP lg s c) := by
  unfold tkP
  split
  · exact lnP_ok h _
  · split
    · exact bgP_ok (enP_ok h lg) lg c _
    · exact h
theorem fdP_ok (lg : Int) (tb : Int → Int) : ∀ (n : Nat) (i : Int) (s : psT), okP s → okP (fdP lg tb n i s) := by
  intro n
  induction n with
  | zero => intro i s h; exact h
  | succ n ih => intro i s h; rw [fdP]; exact ih _ _ (tkP_ok h lg _)
theorem rdP_ok (lg : Int) (tb : Int → Int) (tl : Int) : okP (rdP lg tb tl) := enP_ok (fdP_ok lg tb _ _ _ (okP_c 0 0 0 (0, fun _ => 0) (by omega) (fun e => absurd e (by omega)) ⟨by show (0 : Int) ≤ 0; omega, by show (0 : Int) ≤ 40; omega⟩)) lg
/-! the class's reader -/
/-- the reader and book k hold the state of the reading -/
def PsS (k : Nat) (lg : Int) (s : psT) (I : IM) (L : LM) : Prop := (I 3 0 = s.1 ∧ I 3 1 = s.2.1 ∧ L 3 2 = s.2.2.1) ∧ (I k 1 = s.2.2.2.1 ∧ I k 2 = lg) ∧ (∀ i, 0 ≤ i → i < s.2.2.2.1 → L (k + 1) i = s.2.2.2.2 i)
def FrR (k : Nat) (I : IM) (L : LM) (I' : IM) (L' : LM) : Prop := (∀ q, q ≠ 3 → q ≠ k → I' q = I q) ∧ (∀ j, j ≠ 1 → I' k j = I k j) ∧ ∀ q, q ≠ 3 → q ≠ k + 1 → L' q = L q
theorem FrR.rf {k : Nat} {I : IM} {L : LM} : FrR k I L I L := ⟨fun _ _ _ => rfl, fun _ _ => rfl, fun _ _ _ => rfl⟩
theorem FrR.tr {k : Nat} {I I1 I2 : IM} {L L1 L2 : LM} (h : FrR k I L I1 L1) (h2 : FrR k I1 L1 I2 L2) : FrR k I L I2 L2 := ⟨fun q a b => (h2.1 q a b).trans (h.1 q a b), fun j a => (h2.2.1 j a).trans (h.2.1 j a), fun q a b => (h2.2.2 q a b).trans (h.2.2 q a b)⟩
theorem isB3 {k : Nat} (h : isB k) : k ≠ 3 ∧ k + 1 ≠ 3 ∧ k ≠ 1 ∧ k ≠ 2 ∧ k ≠ 4 := by rcases h with rfl | rfl | rfl | rfl | rfl | rfl <;> decide
set_option maxHeartbeats 4000000 in
set_option maxRecDepth 100000 in
theorem mm_X4_valueOf {l : Launch} {g : gT} {c : Int} {I : IM} {L : LM} (hc : rg c) :
    Ct l yX4_valueOf cX4_valueOf 1 (some .int) 0 0 lyC g [.int (zI c)] I L (pI (fun r I' L' => r = vlF c ∧ I = I' ∧ L = L')) := by
  unfold rg at hc
  refine Ct.of RX4 (by decide +kernel) rfl (Nat.le_of_ble_eq_true rfl) (fun x hx F => ?_)
  refine rr_iload_n F dX4_valueOf_0 rfl ?_
  refine rr_bipush F dX4_valueOf_1 (by decide) ?_
  refine rr_icmp_lt F dX4_valueOf_3 (tgt := 19) (by decide) ⟨by omega, by omega⟩ ⟨by omega, by omega⟩ (fun c_3 => ?_) (fun c_3 => ?_)
  · refine rr_iload_n F dX4_valueOf_19 rfl ?_
    refine rr_bipush F dX4_valueOf_20 (by decide) ?_
    refine rr_icmp_lt F dX4_valueOf_22 (tgt := 38) (by decide) ⟨by omega, by omega⟩ ⟨by omega, by omega⟩ (fun c_22 => ?_) (fun c_22 => ?_)
    · refine rr_iload_n F dX4_valueOf_38 rfl ?_
      refine rr_bipush F dX4_valueOf_39 (by decide) ?_
      refine rr_icmp_lt F dX4_valueOf_41 (tgt := 60) (by decide) ⟨by omega, by omega⟩ ⟨by omega, by omega⟩ (fun c_41 => ?_) (fun c_41 => ?_)
      · refine rr_iconst F dX4_valueOf_60 ?_
        refine rr_iret F dX4_valueOf_61 ?_
        refine ⟨_, rfl, ?_, rfl, rfl⟩
        unfold vlF
        first | (rw [if_pos (by omega)]; done) | (rw [if_neg (by omega), if_pos (by omega)]; done) | (rw [if_neg (by omega), if_neg (by omega), if_pos (by omega)]; omega) | (rw [if_neg (by omega), if_neg (by omega), if_neg (by omega)]; done)
      · refine rr_iload_n F dX4_valueOf_44 rfl ?_
        refine rr_bipush F dX4_valueOf_45 (by decide) ?_
        refine rr_icmp_gt F dX4_valueOf_47 (tgt := 60) (by decide) ⟨by omega, by omega⟩ ⟨by omega, by omega⟩ (fun c_47 => ?_) (fun c_47 => ?_)
        · refine rr_iconst F dX4_valueOf_60 ?_
          refine rr_iret F dX4_valueOf_61 ?_
          refine ⟨_, rfl, ?_, rfl, rfl⟩
          unfold vlF
          first | (rw [if_pos (by omega)]; done) | (rw [if_neg (by omega), if_pos (by omega)]; done) | (rw [if_neg (by omega), if_neg (by omega), if_pos (by omega)]; omega) | (rw [if_neg (by omega), if_neg (by omega), if_neg (by omega)]; done)
        · refine rr_iload_n F dX4_valueOf_50 rfl ?_
          refine rr_bipush F dX4_valueOf_51 (by decide) ?_
          refine rr_isub F dX4_valueOf_53 ?_
          refine rr_bipush F dX4_valueOf_54 (by decide) ?_
          refine rr_iadd F dX4_valueOf_56 ?_
          refine rr_iconst F dX4_valueOf_57 ?_
          refine rr_iadd F dX4_valueOf_58 ?_
          refine rr_iret F dX4_valueOf_59 ?_
          refine ⟨_, rfl, ?_, rfl, rfl⟩
          unfold vlF
          first | (rw [if_pos (by omega)]; done) | (rw [if_neg (by omega), if_pos (by omega)]; done) | (rw [if_neg (by omega), if_neg (by omega), if_pos (by omega)]; omega) | (rw [if_neg (by omega), if_neg (by omega), if_neg (by omega)]; done)
    · refine rr_iload_n F dX4_valueOf_25 rfl ?_
      refine rr_bipush F dX4_valueOf_26 (by decide) ?_
      refine rr_icmp_gt F dX4_valueOf_28 (tgt := 38) (by decide) ⟨by omega, by omega⟩ ⟨by omega, by omega⟩ (fun c_28 => ?_) (fun c_28 => ?_)
      · refine rr_iload_n F dX4_valueOf_38 rfl ?_
        refine rr_bipush F dX4_valueOf_39 (by decide) ?_
        refine rr_icmp_lt F dX4_valueOf_41 (tgt := 60) (by decide) ⟨by omega, by omega⟩ ⟨by omega, by omega⟩ (fun c_41 => ?_) (fun c_41 => ?_)
        · refine rr_iconst F dX4_valueOf_60 ?_
          refine rr_iret F dX4_valueOf_61 ?_
          refine ⟨_, rfl, ?_, rfl, rfl⟩
          unfold vlF
          first | (rw [if_pos (by omega)]; done) | (rw [if_neg (by omega), if_pos (by omega)]; done) | (rw [if_neg (by omega), if_neg (by omega), if_pos (by omega)]; omega) | (rw [if_neg (by omega), if_neg (by omega), if_neg (by omega)]; done)
        · refine rr_iload_n F dX4_valueOf_44 rfl ?_
          refine rr_bipush F dX4_valueOf_45 (by decide) ?_
          refine rr_icmp_gt F dX4_valueOf_47 (tgt := 60) (by decide) ⟨by omega, by omega⟩ ⟨by omega, by omega⟩ (fun c_47 => ?_) (fun c_47 => ?_)
          · refine rr_iconst F dX4_valueOf_60 ?_
            refine rr_iret F dX4_valueOf_61 ?_
            refine ⟨_, rfl, ?_, rfl, rfl⟩
            unfold vlF
            first | (rw [if_pos (by omega)]; done) | (rw [if_neg (by omega), if_pos (by omega)]; done) | (rw [if_neg (by omega), if_neg (by omega), if_pos (by omega)]; omega) | (rw [if_neg (by omega), if_neg (by omega), if_neg (by omega)]; done)
          · refine rr_iload_n F dX4_valueOf_50 rfl ?_
            refine rr_bipush F dX4_valueOf_51 (by decide) ?_
            refine rr_isub F dX4_valueOf_53 ?_
            refine rr_bipush F dX4_valueOf_54 (by decide) ?_
            refine rr_iadd F dX4_valueOf_56 ?_
            refine rr_iconst F dX4_valueOf_57 ?_
            refine rr_iadd F dX4_valueOf_58 ?_
            refine rr_iret F dX4_valueOf_59 ?_
            refine ⟨_, rfl, ?_, rfl, rfl⟩
            unfold vlF
            first | (rw [if_pos (by omega)]; done) | (rw [if_neg (by omega), if_pos (by omega)]; done) | (rw [if_neg (by omega), if_neg (by omega), if_pos (by omega)]; omega) | (rw [if_neg (by omega), if_neg (by omega), if_neg (by omega)]; done)
      · refine rr_iload_n F dX4_valueOf_31 rfl ?_
        refine rr_bipush F dX4_valueOf_32 (by decide) ?_
        refine rr_isub F dX4_valueOf_34 ?_
        refine rr_iconst F dX4_valueOf_35 ?_
        refine rr_iadd F dX4_valueOf_36 ?_
        refine rr_iret F dX4_valueOf_37 ?_
        refine ⟨_, rfl, ?_, rfl, rfl⟩
        unfold vlF
        first | (rw [if_pos (by omega)]; done) | (rw [if_neg (by omega), if_pos (by omega)]; done) | (rw [if_neg (by omega), if_neg (by omega), if_pos (by omega)]; omega) | (rw [if_neg (by omega), if_neg (by omega), if_neg (by omega)]; done)
  · refine rr_iload_n F dX4_valueOf_6 rfl ?_
    refine rr_bipush F dX4_valueOf_7 (by decide) ?_
    refine rr_icmp_gt F dX4_valueOf_9 (tgt := 19) (by decide) ⟨by omega, by omega⟩ ⟨by omega, by omega⟩ (fun c_9 => ?_) (fun c_9 => ?_)
    · refine rr_iload_n F dX4_valueOf_19 rfl ?_
      refine rr_bipush F dX4_valueOf_20 (by decide) ?_
      refine rr_icmp_lt F dX4_valueOf_22 (tgt := 38) (by decide) ⟨by omega, by omega⟩ ⟨by omega, by omega⟩ (fun c_22 => ?_) (fun c_22 => ?_)
      · refine rr_iload_n F dX4_valueOf_38 rfl ?_
        refine rr_bipush F dX4_valueOf_39 (by decide) ?_
        refine rr_icmp_lt F dX4_valueOf_41 (tgt := 60) (by decide) ⟨by omega, by omega⟩ ⟨by omega, by omega⟩ (fun c_41 => ?_) (fun c_41 => ?_)
        · refine rr_iconst F dX4_valueOf_60 ?_
          refine rr_iret F dX4_valueOf_61 ?_
          refine ⟨_, rfl, ?_, rfl, rfl⟩
          unfold vlF
          first | (rw [if_pos (by omega)]; done) | (rw [if_neg (by omega), if_pos (by omega)]; done) | (rw [if_neg (by omega), if_neg (by omega), if_pos (by omega)]; omega) | (rw [if_neg (by omega), if_neg (by omega), if_neg (by omega)]; done)
        · refine rr_iload_n F dX4_valueOf_44 rfl ?_
          refine rr_bipush F dX4_valueOf_45 (by decide) ?_
          refine rr_icmp_gt F dX4_valueOf_47 (tgt := 60) (by decide) ⟨by omega, by omega⟩ ⟨by omega, by omega⟩ (fun c_47 => ?_) (fun c_47 => ?_)
          · refine rr_iconst F dX4_valueOf_60 ?_
            refine rr_iret F dX4_valueOf_61 ?_
            refine ⟨_, rfl, ?_, rfl, rfl⟩
            unfold vlF
            first | (rw [if_pos (by omega)]; done) | (rw [if_neg (by omega), if_pos (by omega)]; done) | (rw [if_neg (by omega), if_neg (by omega), if_pos (by omega)]; omega) | (rw [if_neg (by omega), if_neg (by omega), if_neg (by omega)]; done)
          · refine rr_iload_n F dX4_valueOf_50 rfl ?_
            refine rr_bipush F dX4_valueOf_51 (by decide) ?_
            refine rr_isub F dX4_valueOf_53 ?_
            refine rr_bipush F dX4_valueOf_54 (by decide) ?_
            refine rr_iadd F dX4_valueOf_56 ?_
            refine rr_iconst F dX4_valueOf_57 ?_
            refine rr_iadd F dX4_valueOf_58 ?_
            refine rr_iret F dX4_valueOf_59 ?_
            refine ⟨_, rfl, ?_, rfl, rfl⟩
            unfold vlF
            first | (rw [if_pos (by omega)]; done) | (rw [if_neg (by omega), if_pos (by omega)]; done) | (rw [if_neg (by omega), if_neg (by omega), if_pos (by omega)]; omega) | (rw [if_neg (by omega), if_neg (by omega), if_neg (by omega)]; done)
      · refine rr_iload_n F dX4_valueOf_25 rfl ?_
        refine rr_bipush F dX4_valueOf_26 (by decide) ?_
        refine rr_icmp_gt F dX4_valueOf_28 (tgt := 38) (by decide) ⟨by omega, by omega⟩ ⟨by omega, by omega⟩ (fun c_28 => ?_) (fun c_28 => ?_)
        · refine rr_iload_n F dX4_valueOf_38 rfl ?_
          refine rr_bipush F dX4_valueOf_39 (by decide) ?_
          refine rr_icmp_lt F dX4_valueOf_41 (tgt := 60) (by decide) ⟨by omega, by omega⟩ ⟨by omega, by omega⟩ (fun c_41 => ?_) (fun c_41 => ?_)
          · refine rr_iconst F dX4_valueOf_60 ?_
            refine rr_iret F dX4_valueOf_61 ?_
            refine ⟨_, rfl, ?_, rfl, rfl⟩
            unfold vlF
            first | (rw [if_pos (by omega)]; done) | (rw [if_neg (by omega), if_pos (by omega)]; done) | (rw [if_neg (by omega), if_neg (by omega), if_pos (by omega)]; omega) | (rw [if_neg (by omega), if_neg (by omega), if_neg (by omega)]; done)
          · refine rr_iload_n F dX4_valueOf_44 rfl ?_
            refine rr_bipush F dX4_valueOf_45 (by decide) ?_
            refine rr_icmp_gt F dX4_valueOf_47 (tgt := 60) (by decide) ⟨by omega, by omega⟩ ⟨by omega, by omega⟩ (fun c_47 => ?_) (fun c_47 => ?_)
            · refine rr_iconst F dX4_valueOf_60 ?_
              refine rr_iret F dX4_valueOf_61 ?_
              refine ⟨_, rfl, ?_, rfl, rfl⟩
              unfold vlF
              first | (rw [if_pos (by omega)]; done) | (rw [if_neg (by omega), if_pos (by omega)]; done) | (rw [if_neg (by omega), if_neg (by omega), if_pos (by omega)]; omega) | (rw [if_neg (by omega), if_neg (by omega), if_neg (by omega)]; done)
            · refine rr_iload_n F dX4_valueOf_50 rfl ?_
              refine rr_bipush F dX4_valueOf_51 (by decide) ?_
              refine rr_isub F dX4_valueOf_53 ?_
              refine rr_bipush F dX4_valueOf_54 (by decide) ?_
              refine rr_iadd F dX4_valueOf_56 ?_
              refine rr_iconst F dX4_valueOf_57 ?_
              refine rr_iadd F dX4_valueOf_58 ?_
              refine rr_iret F dX4_valueOf_59 ?_
              refine ⟨_, rfl, ?_, rfl, rfl⟩
              unfold vlF
              first | (rw [if_pos (by omega)]; done) | (rw [if_neg (by omega), if_pos (by omega)]; done) | (rw [if_neg (by omega), if_neg (by omega), if_pos (by omega)]; omega) | (rw [if_neg (by omega), if_neg (by omega), if_neg (by omega)]; done)
        · refine rr_iload_n F dX4_valueOf_31 rfl ?_
          refine rr_bipush F dX4_valueOf_32 (by decide) ?_
          refine rr_isub F dX4_valueOf_34 ?_
          refine rr_iconst F dX4_valueOf_35 ?_
          refine rr_iadd F dX4_valueOf_36 ?_
          refine rr_iret F dX4_valueOf_37 ?_
          refine ⟨_, rfl, ?_, rfl, rfl⟩
          unfold vlF
          first | (rw [if_pos (by omega)]; done) | (rw [if_neg (by omega), if_pos (by omega)]; done) | (rw [if_neg (by omega), if_neg (by omega), if_pos (by omega)]; omega) | (rw [if_neg (by omega), if_neg (by omega), if_neg (by omega)]; done)
    · refine rr_iload_n F dX4_valueOf_12 rfl ?_
      refine rr_bipush F dX4_valueOf_13 (by decide) ?_
      refine rr_isub F dX4_valueOf_15 ?_
      refine rr_iconst F dX4_valueOf_16 ?_
      refine rr_iadd F dX4_valueOf_17 ?_
      refine rr_iret F dX4_valueOf_18 ?_
      refine ⟨_, rfl, ?_, rfl, rfl⟩
      unfold vlF
      first | (rw [if_pos (by omega)]; done) | (rw [if_neg (by omega), if_pos (by omega)]; done) | (rw [if_neg (by omega), if_neg (by omega), if_pos (by omega)]; omega) | (rw [if_neg (by omega), if_neg (by omega), if_neg (by omega)]; done)
set_option maxHeartbeats 4000000 in
set_option maxRecDepth 100000 in
theorem mm_X0_add {l : Launch} {g : gT} {k : Nat} {lg : Int} {s : psT} {t : Int64} {I : IM} {L : LM} (hk : isB k) (hs : PsS k lg s I L) (ho : okP s) :
    Ct l yX0_add cX0_add 3 none 0 0 lyC g [.ref (g.2.1 k), .long t] I L (pV (fun I' L' => PsS k lg (adP s t) I' L' ∧ FrR k I L I' L')) := by
  obtain ⟨q1, q2, q3⟩ := hk.f
  have hne := isB3 hk
  obtain ⟨⟨h1, h2, h3⟩, ⟨h4, h5⟩, h6⟩ := id hs
  obtain ⟨o1, o2, o3⟩ := ho
  refine Ct.of RX0 (by decide +kernel) rfl (Nat.le_of_ble_eq_true rfl) (fun x hx F => ?_)
  refine rr_aload_n F dX0_add_0 rfl ?_
  refine rg_Book_size F (by first | rfl | assumption) fl_X0_15 dX0_add_1 ?_
  refine rr_bipush F dX0_add_4 (by decide) ?_
  refine rr_icmp_ge F dX0_add_6 (tgt := 29) (by decide) ⟨by omega, by omega⟩ ⟨by omega, by omega⟩ (fun c_6 => ?_) (fun c_6 => ?_)
  · refine rr_vret F dX0_add_29 ?_
    first
    | (refine ⟨rfl, ?_, FrR.rf⟩
       rw [adP, if_neg (by omega)]; exact hs)
    | (refine ⟨rfl, ?_, fun q a b => by rw [up2_cell _ _ _ b], fun j a => by rw [up2_ne _ _ _ a], fun q a b => by rw [up2_cell _ _ _ b]⟩
       rw [adP, if_pos (by omega)]
       refine ⟨⟨by rw [up2_cell _ _ _ hne.1.symm]; exact h1, by rw [up2_cell _ _ _ hne.1.symm]; exact h2, by rw [up2_cell _ _ _ hne.2.1.symm]; exact h3⟩, ⟨by rw [up2_same, h4], by rw [up2_ne _ _ _ (by decide)]; exact h5⟩, fun i u v => ?_⟩
       have v : i < s.2.2.2.1 + 1 := v
       show up2 L (k + 1) (I k 1) t (k + 1) i = u1 s.2.2.2.2 s.2.2.2.1 t i
       rw [h4]
       by_cases e : i = s.2.2.2.1
       · rw [e, up2_same, u1_same]
       · rw [up2_ne _ _ _ e, u1_ne _ _ e]; exact h6 i u (by omega))
  · refine rr_aload_n F dX0_add_9 rfl ?_
    refine rg_Book_tokens F (by first | rfl | assumption) fl_X0_9 dX0_add_10 ?_
    refine rr_aload_n F dX0_add_13 rfl ?_
    refine rg_Book_size F (by first | rfl | assumption) fl_X0_15 dX0_add_14 ?_
    refine rr_lload_n F dX0_add_17 rfl ?_
    refine rr_last F (N := 40) (by first | rfl | assumption) (by omega) (by first | rfl | assumption) (by omega) dX0_add_18 ?_
    refine rr_aload_n F dX0_add_19 rfl ?_
    refine rr_dup F dX0_add_20 rfl ?_
    refine rg_Book_size F (by first | rfl | assumption) fl_X0_15 dX0_add_21 ?_
    refine rr_iconst F dX0_add_24 ?_
    refine rr_iadd F dX0_add_25 ?_
    refine rp_Book_size F (by first | rfl | assumption) fl_X0_15 dX0_add_26 ?_
    refine rr_vret F dX0_add_29 ?_
    first
    | (refine ⟨rfl, ?_, FrR.rf⟩
       rw [adP, if_neg (by omega)]; exact hs)
    | (refine ⟨rfl, ?_, fun q a b => by rw [up2_cell _ _ _ b], fun j a => by rw [up2_ne _ _ _ a], fun q a b => by rw [up2_cell _ _ _ b]⟩
       rw [adP, if_pos (by omega)]
       refine ⟨⟨by rw [up2_cell _ _ _ hne.1.symm]; exact h1, by rw [up2_cell _ _ _ hne.1.symm]; exact h2, by rw [up2_cell _ _ _ hne.2.1.symm]; exact h3⟩, ⟨by rw [up2_same, h4], by rw [up2_ne _ _ _ (by decide)]; exact h5⟩, fun i u v => ?_⟩
       have v : i < s.2.2.2.1 + 1 := v
       show up2 L (k + 1) (I k 1) t (k + 1) i = u1 s.2.2.2.2 s.2.2.2.1 t i
       rw [h4]
       by_cases e : i = s.2.2.2.1
       · rw [e, up2_same, u1_same]
       · rw [up2_ne _ _ _ e, u1_ne _ _ e]; exact h6 i u (by omega))
set_option maxHeartbeats 4000000 in
set_option maxRecDepth 100000 in
theorem mm_X4_lengthenWord {l : Launch} {g : gT} {k : Nat} {lg v : Int} {s : psT} {I : IM} {L : LM} (hk : isB k) (hs : PsS k lg s I L) (ho : okP s) (hp : s.1 = 1) :
    Ct l yX4_lengthenWord cX4_lengthenWord 2 none 0 0 lyC g [.ref (g.2.1 3), .int (zI v)] I L (pV (fun I' L' => PsS k lg (lnP s v) I' L' ∧ FrR k I L I' L')) := by
  have hne := isB3 hk
  obtain ⟨⟨h1, h2, h3⟩, ⟨h4, h5⟩, h6⟩ := id hs
  obtain ⟨o1, o2, o3⟩ := ho
  have o2 := o2 hp
  refine Ct.of RX4 (by decide +kernel) rfl (Nat.le_of_ble_eq_true rfl) (fun x hx F => ?_)
  refine rr_aload_n F dX4_lengthenWord_0 rfl ?_
  refine rg_Reader_wordLength F (by first | rfl | assumption) fl_X4_15 dX4_lengthenWord_1 ?_
  refine rr_bipush F dX4_lengthenWord_4 (by decide) ?_
  refine rr_icmp_ge F dX4_lengthenWord_6 (tgt := 34) (by decide) ⟨by omega, by omega⟩ ⟨by omega, by omega⟩ (fun c_6 => ?_) (fun c_6 => ?_)
  · refine rr_vret F dX4_lengthenWord_34 ?_
    first
    | (refine ⟨rfl, ?_, FrR.rf⟩
       rw [lnP, if_neg (by omega)]; exact hs)
    | (refine ⟨rfl, ?_, fun q a b => by rw [up2_cell _ _ _ a], fun j a => by rw [up2_cell _ _ _ hne.1], fun q a b => by rw [up2_cell _ _ _ a]⟩
       rw [lnP, if_pos (by omega)]
       refine ⟨⟨by rw [up2_ne _ _ _ (by decide)]; exact h1, by rw [up2_same, h2], by rw [up2_same, h3]⟩, ⟨by rw [up2_cell _ _ _ hne.1]; exact h4, by rw [up2_cell _ _ _ hne.1]; exact h5⟩, fun i u v => ?_⟩
       rw [up2_cell _ _ _ hne.2.1]; exact h6 i u v)
  · refine rr_aload_n F dX4_lengthenWord_9 rfl ?_
    refine rr_aload_n F dX4_lengthenWord_10 rfl ?_
    refine rg_Reader_wordNumber F (by first | rfl | assumption) fl_X4_18 dX4_lengthenWord_11 ?_
    refine rr_ldc2 F dX4_lengthenWord_14 co_X4_66 ?_
    refine rr_lmul F dX4_lengthenWord_17 ?_
    refine rr_iload_n F dX4_lengthenWord_18 rfl ?_
    refine rr_i2l F dX4_lengthenWord_19 ?_
    refine rr_ladd F dX4_lengthenWord_20 ?_
    refine rp_Reader_wordNumber F (by first | rfl | assumption) fl_X4_18 dX4_lengthenWord_21 ?_
    refine rr_aload_n F dX4_lengthenWord_24 rfl ?_
    refine rr_dup F dX4_lengthenWord_25 rfl ?_
    refine rg_Reader_wordLength F (by first | rfl | assumption) fl_X4_15 dX4_lengthenWord_26 ?_
    refine rr_iconst F dX4_lengthenWord_29 ?_
    refine rr_iadd F dX4_lengthenWord_30 ?_
    refine rp_Reader_wordLength F (by first | rfl | assumption) fl_X4_15 dX4_lengthenWord_31 ?_
    refine rr_vret F dX4_lengthenWord_34 ?_
    first
    | (refine ⟨rfl, ?_, FrR.rf⟩
       rw [lnP, if_neg (by omega)]; exact hs)
    | (refine ⟨rfl, ?_, fun q a b => by rw [up2_cell _ _ _ a], fun j a => by rw [up2_cell _ _ _ hne.1], fun q a b => by rw [up2_cell _ _ _ a]⟩
       rw [lnP, if_pos (by omega)]
       refine ⟨⟨by rw [up2_ne _ _ _ (by decide)]; exact h1, by rw [up2_same, h2], by rw [up2_same, h3]⟩, ⟨by rw [up2_cell _ _ _ hne.1]; exact h4, by rw [up2_cell _ _ _ hne.1]; exact h5⟩, fun i u v => ?_⟩
       rw [up2_cell _ _ _ hne.2.1]; exact h6 i u v)
set_option maxHeartbeats 4000000 in
set_option maxRecDepth 100000 in
theorem mm_X4_codeOfWord {l : Launch} {g : gT} {I : IM} {L : LM} :
    Ct l yX4_codeOfWord cX4_codeOfWord 2 (some .int) 0 0 lyC g [.ref (g.2.1 3)] I L (pI (fun r I' L' => r = cdF (L 3 2) ∧ I = I' ∧ L = L')) := by
  refine Ct.of RX4 (by decide +kernel) rfl (Nat.le_of_ble_eq_true rfl) (fun x hx F => ?_)
  have loop : ∀ (n : Nat) (i : Int), n = (5 - i).toNat → 0 ≤ i → i ≤ 5 → (0 < i → ¬ L 3 2 = 339) → (1 < i → ¬ L 3 2 = 8787) → (2 < i → ¬ L 3 2 = 236) → (3 < i → ¬ L 3 2 = 16633) → (4 < i → ¬ L 3 2 = 7367) → Rn x lyC g (pI (fun r I' L' => r = cdF (L 3 2) ∧ I = I' ∧ L = L')) 2 [vr g 3, vn i] [] I L := by
    intro n
    induction n with
    | zero =>
      intro i h1 h2 h3 g1 g2 g3 g4 g5
      refine rr_iload_n F dX4_codeOfWord_2 rfl ?_
      refine rr_kw F fl_X4_68 dX4_codeOfWord_3 (fun t_3 hT_3 => ?_)
      refine rr_kwlen F (by assumption) dX4_codeOfWord_6 ?_
      refine rr_icmp_ge F dX4_codeOfWord_7 (tgt := 34) (by decide) ⟨by omega, by omega⟩ ⟨by omega, by omega⟩ (fun c_7 => ?_) (fun c_7 => ?_)
      · refine rr_bipush F dX4_codeOfWord_34 (by decide) ?_
        refine rr_iret F dX4_codeOfWord_36 ?_
        exact ⟨_, rfl, by rw [cdF, if_neg (g1 (by omega)), if_neg (g2 (by omega)), if_neg (g3 (by omega)), if_neg (g4 (by omega)), if_neg (g5 (by omega))], rfl, rfl⟩
      · exfalso
        omega
    | succ n ih =>
      intro i h1 h2 h3 g1 g2 g3 g4 g5
      have hv : ∃ z : Int, kwv i.toNat = .int (zI z) ∧ ((i = 0 ∧ z = 339) ∨ (i = 1 ∧ z = 8787) ∨ (i = 2 ∧ z = 236) ∨ (i = 3 ∧ z = 16633) ∨ (i = 4 ∧ z = 7367)) := by
        have : i = 0 ∨ i = 1 ∨ i = 2 ∨ i = 3 ∨ i = 4 := by omega
        rcases this with rfl | rfl | rfl | rfl | rfl
        · exact ⟨339, rfl, by omega⟩
        · exact ⟨8787, rfl, by omega⟩
        · exact ⟨236, rfl, by omega⟩
        · exact ⟨16633, rfl, by omega⟩
        · exact ⟨7367, rfl, by omega⟩
      obtain ⟨z, hz, hzz⟩ := hv
      have yes : L 3 2 = (zI z).toInt64 → i + 1 = cdF (L 3 2) := by
        intro e
        rcases hzz with ⟨rfl, rfl⟩ | ⟨rfl, rfl⟩ | ⟨rfl, rfl⟩ | ⟨rfl, rfl⟩ | ⟨rfl, rfl⟩ <;> rw [e] <;> decide
      have no : ¬ L 3 2 = (zI z).toInt64 → Rn x lyC g (pI (fun r I' L' => r = cdF (L 3 2) ∧ I = I' ∧ L = L')) 2 [vr g 3, vn (i + 1)] [] I L := by
        intro e
        rcases hzz with ⟨rfl, rfl⟩ | ⟨rfl, rfl⟩ | ⟨rfl, rfl⟩ | ⟨rfl, rfl⟩ | ⟨rfl, rfl⟩
        · exact ih _ (by omega) (by omega) (by omega) (fun _ => e) (fun z => absurd z (by omega)) (fun z => absurd z (by omega)) (fun z => absurd z (by omega)) (fun z => absurd z (by omega))
        · exact ih _ (by omega) (by omega) (by omega) (fun _ => g1 (by omega)) (fun _ => e) (fun z => absurd z (by omega)) (fun z => absurd z (by omega)) (fun z => absurd z (by omega))
        · exact ih _ (by omega) (by omega) (by omega) (fun _ => g1 (by omega)) (fun _ => g2 (by omega)) (fun _ => e) (fun z => absurd z (by omega)) (fun z => absurd z (by omega))
        · exact ih _ (by omega) (by omega) (by omega) (fun _ => g1 (by omega)) (fun _ => g2 (by omega)) (fun _ => g3 (by omega)) (fun _ => e) (fun z => absurd z (by omega))
        · exact ih _ (by omega) (by omega) (by omega) (fun _ => g1 (by omega)) (fun _ => g2 (by omega)) (fun _ => g3 (by omega)) (fun _ => g4 (by omega)) (fun _ => e)
      refine rr_iload_n F dX4_codeOfWord_2 rfl ?_
      refine rr_kw F fl_X4_68 dX4_codeOfWord_3 (fun t_3 hT_3 => ?_)
      refine rr_kwlen F (by assumption) dX4_codeOfWord_6 ?_
      refine rr_icmp_ge F dX4_codeOfWord_7 (tgt := 34) (by decide) ⟨by omega, by omega⟩ ⟨by omega, by omega⟩ (fun c_7 => ?_) (fun c_7 => ?_)
      · exfalso
        omega
      · refine rr_aload_n F dX4_codeOfWord_10 rfl ?_
        refine rg_Reader_wordNumber F (by first | rfl | assumption) fl_X4_18 dX4_codeOfWord_11 ?_
        refine rr_kw F fl_X4_68 dX4_codeOfWord_14 (fun t_14 hT_14 => ?_)
        refine rr_iload_n F dX4_codeOfWord_17 rfl ?_
        refine rr_kwld F (by assumption) (by omega) (by omega) rfl dX4_codeOfWord_18 ?_
        refine rr_top hz ?_
        refine rr_i2l F dX4_codeOfWord_19 ?_
        refine rr_lcmp F dX4_codeOfWord_20 ?_
        refine rr_lif_ne F dX4_codeOfWord_21 (tgt := 28) (by decide) (fun c_21 => ?_) (fun c_21 => ?_)
        · refine rr_iinc F dX4_codeOfWord_28 rfl rfl ?_
          refine rr_goto F dX4_codeOfWord_31 (tgt := 2) (by decide) ?_
          exact no c_21
        · refine rr_iload_n F dX4_codeOfWord_24 rfl ?_
          refine rr_iconst F dX4_codeOfWord_25 ?_
          refine rr_iadd F dX4_codeOfWord_26 ?_
          refine rr_iret F dX4_codeOfWord_27 ?_
          exact ⟨_, rfl, yes c_21, rfl, rfl⟩
  refine rr_iconst F dX4_codeOfWord_0 ?_
  refine rr_istore_n F dX4_codeOfWord_1 (Nat.le_of_ble_eq_true rfl) rfl ?_
  exact loop _ 0 rfl (by omega) (by omega) (fun z => absurd z (by omega)) (fun z => absurd z (by omega)) (fun z => absurd z (by omega)) (fun z => absurd z (by omega)) (fun z => absurd z (by omega))
set_option maxHeartbeats 4000000 in
set_option maxRecDepth 100000 in
theorem mm_X4_endPiece {l : Launch} {g : gT} {k : Nat} {lg : Int} {s : psT} {I : IM} {L : LM} (hk : isB k) (hs : PsS k lg s I L) (ho : okP s) (hl0 : 0 ≤ lg) (hl : lg ≤ 1) :
    Ct l yX4_endPiece cX4_endPiece 2 none 1 22 lyC g [.ref (g.2.1 3), .ref (g.2.1 k)] I L (pV (fun I' L' => PsS k lg (enP lg s) I' L' ∧ FrR k I L I' L')) := by
  obtain ⟨q1, q2, q3⟩ := hk.f
  have hne := isB3 hk
  obtain ⟨⟨h1, h2, h3⟩, ⟨h4, h5⟩, h6⟩ := id hs
  obtain ⟨o1, o2, o3⟩ := id ho
  refine Ct.of RX4 (by decide +kernel) rfl (Nat.le_of_ble_eq_true rfl) (fun x hx F => ?_)
  have fin : ∀ (I1 : IM) (L1 : LM), PsS k lg (enA lg s) I1 L1 → FrR k I L I1 L1 → Rn x lyC g (pV (fun I' L' => PsS k lg (enP lg s) I' L' ∧ FrR k I L I' L')) 58 [vr g 3, vr g k] [] I1 L1 := by
    intro I1 L1 p1 f1
    obtain ⟨⟨g1, g2, g3⟩, ⟨g4, g5⟩, g6⟩ := p1
    refine rr_aload_n F dX4_endPiece_58 rfl ?_
    refine rr_iconst F dX4_endPiece_59 ?_
    refine rp_Reader_piece F (by first | rfl | assumption) fl_X4_11 dX4_endPiece_60 ?_
    refine rr_vret F dX4_endPiece_63 ?_
    exact ⟨rfl, ⟨⟨up2_same _ _ _ _, by rw [up2_ne _ _ _ (by decide)]; exact g2, g3⟩, ⟨by rw [up2_cell _ _ _ hne.1]; exact g4, by rw [up2_cell _ _ _ hne.1]; exact g5⟩, g6⟩, f1.tr ⟨fun q a b => by rw [up2_cell _ _ _ a], fun j a => by rw [up2_cell _ _ _ hne.1], fun q a b => rfl⟩⟩
  refine rr_aload_n F dX4_endPiece_0 rfl ?_
  refine rg_Reader_piece F (by first | rfl | assumption) fl_X4_11 dX4_endPiece_1 ?_
  refine rr_iconst F dX4_endPiece_4 ?_
  refine rr_icmp_ne F dX4_endPiece_5 (tgt := 35) (by decide) ⟨by omega, by omega⟩ ⟨by omega, by omega⟩ (fun c_5 => ?_) (fun c_5 => ?_)
  · refine rr_aload_n F dX4_endPiece_35 rfl ?_
    refine rg_Reader_piece F (by first | rfl | assumption) fl_X4_11 dX4_endPiece_36 ?_
    refine rr_iconst F dX4_endPiece_39 ?_
    refine rr_icmp_ne F dX4_endPiece_40 (tgt := 58) (by decide) ⟨by omega, by omega⟩ ⟨by omega, by omega⟩ (fun c_40 => ?_) (fun c_40 => ?_)
    · first
      | exact fin _ _ (by rw [enA, if_pos (by omega), if_pos (by omega)]; rw [e18] at p1; exact p1) f1
      | exact fin _ _ (by rw [enA, if_pos (by omega), if_neg (by omega), ← h3]; exact p1) f1
      | exact fin _ _ (by rw [enA, if_neg (by omega), if_pos (by omega)]; exact p1) f1
      | exact fin _ _ (by rw [enA, if_neg (by omega), if_neg (by omega)]; exact hs) FrR.rf
    · refine rr_aload_n F dX4_endPiece_43 rfl ?_
      refine rg_Book_language F (by first | rfl | assumption) fl_X4_51 dX4_endPiece_44 ?_
      refine rr_iconst F dX4_endPiece_47 ?_
      refine rr_icmp_ne F dX4_endPiece_48 (tgt := 58) (by decide) ⟨by omega, by omega⟩ ⟨by omega, by omega⟩ (fun c_48 => ?_) (fun c_48 => ?_)
      · first
        | exact fin _ _ (by rw [enA, if_pos (by omega), if_pos (by omega)]; rw [e18] at p1; exact p1) f1
        | exact fin _ _ (by rw [enA, if_pos (by omega), if_neg (by omega), ← h3]; exact p1) f1
        | exact fin _ _ (by rw [enA, if_neg (by omega), if_pos (by omega)]; exact p1) f1
        | exact fin _ _ (by rw [enA, if_neg (by omega), if_neg (by omega)]; exact hs) FrR.rf
      · refine rr_aload_n F dX4_endPiece_51 rfl ?_
        refine rr_ldc2 F dX4_endPiece_52 co_X4_64 ?_
        refine rr_callVV F (ci := 0) (mm_X0_add hk hs ho) mf_X0_add ml_X4_56 ⟨by decide, by decide⟩ (by first | rfl | assumption) (by decide) rfl rfl (Nat.le_of_ble_eq_true rfl) dX4_endPiece_55 (fun I_55 L_55 h_55 => ?_)
        obtain ⟨p1, f1⟩ := h_55
        first
        | exact fin _ _ (by rw [enA, if_pos (by omega), if_pos (by omega)]; rw [e18] at p1; exact p1) f1
        | exact fin _ _ (by rw [enA, if_pos (by omega), if_neg (by omega), ← h3]; exact p1) f1
        | exact fin _ _ (by rw [enA, if_neg (by omega), if_pos (by omega)]; exact p1) f1
        | exact fin _ _ (by rw [enA, if_neg (by omega), if_neg (by omega)]; exact hs) FrR.rf
  · refine rr_aload_n F dX4_endPiece_8 rfl ?_
    refine rr_aload_n F dX4_endPiece_9 rfl ?_
    refine rg_Book_language F (by first | rfl | assumption) fl_X4_51 dX4_endPiece_10 ?_
    refine rr_iconst F dX4_endPiece_13 ?_
    refine rr_icmp_ne F dX4_endPiece_14 (tgt := 25) (by decide) ⟨by omega, by omega⟩ ⟨by omega, by omega⟩ (fun c_14 => ?_) (fun c_14 => ?_)
    · refine rr_aload_n F dX4_endPiece_25 rfl ?_
      refine rg_Reader_wordNumber F (by first | rfl | assumption) fl_X4_18 dX4_endPiece_26 ?_
      refine rr_callVV F (ci := 0) (mm_X0_add hk hs ho) mf_X0_add ml_X4_56 ⟨by decide, by decide⟩ (by first | rfl | assumption) (by decide) rfl rfl (Nat.le_of_ble_eq_true rfl) dX4_endPiece_29 (fun I_29 L_29 h_29 => ?_)
      obtain ⟨p1, f1⟩ := h_29
      refine rr_goto F dX4_endPiece_32 (tgt := 58) (by decide) ?_
      first
      | exact fin _ _ (by rw [enA, if_pos (by omega), if_pos (by omega)]; rw [e18] at p1; exact p1) f1
      | exact fin _ _ (by rw [enA, if_pos (by omega), if_neg (by omega), ← h3]; exact p1) f1
      | exact fin _ _ (by rw [enA, if_neg (by omega), if_pos (by omega)]; exact p1) f1
      | exact fin _ _ (by rw [enA, if_neg (by omega), if_neg (by omega)]; exact hs) FrR.rf
    · refine rr_aload_n F dX4_endPiece_17 rfl ?_
      refine rr_callVI F (ci := 4) (mm_X4_codeOfWord) mf_X4_codeOfWord ml_X4_60 ⟨by decide, by decide⟩ (by first | rfl | assumption) (by decide) rfl rfl (Nat.le_of_ble_eq_true rfl) dX4_endPiece_18 (fun r_18 I_18 L_18 h_18 => ?_)
      obtain ⟨e18, rfl, rfl⟩ := h_18
      rw [h3] at e18
      refine rr_i2l F dX4_endPiece_21 ?_
      refine rr_goto F dX4_endPiece_22 (tgt := 29) (by decide) ?_
      refine rr_callVV F (ci := 0) (mm_X0_add hk hs ho) mf_X0_add ml_X4_56 ⟨by decide, by decide⟩ (by first | rfl | assumption) (by decide) rfl rfl (Nat.le_of_ble_eq_true rfl) dX4_endPiece_29 (fun I_29 L_29 h_29 => ?_)
      obtain ⟨p1, f1⟩ := h_29
      refine rr_goto F dX4_endPiece_32 (tgt := 58) (by decide) ?_
      first
      | exact fin _ _ (by rw [enA, if_pos (by omega), if_pos (by omega)]; rw [e18] at p1; exact p1) f1
      | exact fin _ _ (by rw [enA, if_pos (by omega), if_neg (by omega), ← h3]; exact p1) f1
      | exact fin _ _ (by rw [enA, if_neg (by omega), if_pos (by omega)]; exact p1) f1
      | exact fin _ _ (by rw [enA, if_neg (by omega), if_neg (by omega)]; exact hs) FrR.rf
set_option maxHeartbeats 4000000 in
set_option maxRecDepth 100000 in
theorem mm_X4_beginPiece {l : Launch} {g : gT} {k : Nat} {lg c v : Int} {s : psT} {I : IM} {L : LM} (hk : isB k) (hs : PsS k lg s I L) (ho : okP s) (hl0 : 0 ≤ lg) (hl : lg ≤ 1) (hc0 : 0 ≤ c) (hc : c ≤ 200) (hv0 : 0 ≤ v) (hv : v ≤ 36) :
    Ct l yX4_beginPiece cX4_beginPiece 4 none 1 22 lyC g [.ref (g.2.1 3), .int (zI c), .int (zI v), .ref (g.2.1 k)] I L (pV (fun I' L' => PsS k lg (bgP lg s c v) I' L' ∧ FrR k I L I' L')) := by
  obtain ⟨q1, q2, q3⟩ := hk.f
  have hne := isB3 hk
  obtain ⟨⟨h1, h2, h3⟩, ⟨h4, h5⟩, h6⟩ := id hs
  have ho2 : okP (1, 0, 0, s.2.2.2) := okP_c 1 0 0 s.2.2.2 (by omega) (fun _ => by omega) ho.2.2
  refine Ct.of RX4 (by decide +kernel) rfl (Nat.le_of_ble_eq_true rfl) (fun x hx F => ?_)
  refine rr_iload_n F dX4_beginPiece_0 rfl ?_
  refine rr_bipush F dX4_beginPiece_1 (by decide) ?_
  refine rr_icmp_le F dX4_beginPiece_3 (tgt := 14) (by decide) ⟨by omega, by omega⟩ ⟨by omega, by omega⟩ (fun c_3 => ?_) (fun c_3 => ?_)
  · refine rr_iload_n F dX4_beginPiece_14 rfl ?_
    refine rr_if_le F dX4_beginPiece_15 (tgt := 41) (by decide) ⟨by omega, by omega⟩ (fun c_15 => ?_) (fun c_15 => ?_)
    · refine rr_iload_n F dX4_beginPiece_41 rfl ?_
      refine rr_bipush F dX4_beginPiece_42 (by decide) ?_
      refine rr_icmp_eq F dX4_beginPiece_44 (tgt := 64) (by decide) ⟨by omega, by omega⟩ ⟨by omega, by omega⟩ (fun c_44 => ?_) (fun c_44 => ?_)
      · refine rr_vret F dX4_beginPiece_64 ?_
        first
        | (refine ⟨rfl, ?_, f2.tr f1⟩
           rw [bgP, if_neg (by omega), if_pos (by omega)]; exact p1)
        | (refine ⟨rfl, ?_, f1⟩
           rw [bgP, if_neg (by omega), if_neg (by omega), if_pos (by omega)]; exact p1)
        | (refine ⟨rfl, ?_, fun q a b => by rw [up2_cell _ _ _ a], fun j a => by rw [up2_cell _ _ _ hne.1], fun q a b => rfl⟩
           rw [bgP, if_pos (by omega)]
           exact ⟨⟨up2_same _ _ _ _, by rw [up2_ne _ _ _ (by decide)]; exact h2, h3⟩, ⟨by rw [up2_cell _ _ _ hne.1]; exact h4, by rw [up2_cell _ _ _ hne.1]; exact h5⟩, h6⟩)
        | (refine ⟨rfl, ?_, FrR.rf⟩
           rw [bgP, if_neg (by omega), if_neg (by omega), if_neg (by omega)]; exact hs)
      · refine rr_aload_n F dX4_beginPiece_47 rfl ?_
        refine rg_Book_language F (by first | rfl | assumption) fl_X4_51 dX4_beginPiece_48 ?_
        refine rr_iconst F dX4_beginPiece_51 ?_
        refine rr_icmp_ne F dX4_beginPiece_52 (tgt := 64) (by decide) ⟨by omega, by omega⟩ ⟨by omega, by omega⟩ (fun c_52 => ?_) (fun c_52 => ?_)
        · refine rr_vret F dX4_beginPiece_64 ?_
          first
          | (refine ⟨rfl, ?_, f2.tr f1⟩
             rw [bgP, if_neg (by omega), if_pos (by omega)]; exact p1)
          | (refine ⟨rfl, ?_, f1⟩
             rw [bgP, if_neg (by omega), if_neg (by omega), if_pos (by omega)]; exact p1)
          | (refine ⟨rfl, ?_, fun q a b => by rw [up2_cell _ _ _ a], fun j a => by rw [up2_cell _ _ _ hne.1], fun q a b => rfl⟩
             rw [bgP, if_pos (by omega)]
             exact ⟨⟨up2_same _ _ _ _, by rw [up2_ne _ _ _ (by decide)]; exact h2, h3⟩, ⟨by rw [up2_cell _ _ _ hne.1]; exact h4, by rw [up2_cell _ _ _ hne.1]; exact h5⟩, h6⟩)
          | (refine ⟨rfl, ?_, FrR.rf⟩
             rw [bgP, if_neg (by omega), if_neg (by omega), if_neg (by omega)]; exact hs)
        · refine rr_aload_n F dX4_beginPiece_55 rfl ?_
          refine rr_bipush F dX4_beginPiece_56 (by decide) ?_
          refine rr_iload_n F dX4_beginPiece_58 rfl ?_
          refine rr_iadd F dX4_beginPiece_59 ?_
          refine rr_i2l F dX4_beginPiece_60 ?_
          refine rr_callVV F (ci := 0) (mm_X0_add hk hs ho) mf_X0_add ml_X4_56 ⟨by decide, by decide⟩ (by first | rfl | assumption) (by decide) rfl rfl (Nat.le_of_ble_eq_true rfl) dX4_beginPiece_61 (fun I_61 L_61 h_61 => ?_)
          obtain ⟨p1, f1⟩ := h_61
          refine rr_vret F dX4_beginPiece_64 ?_
          first
          | (refine ⟨rfl, ?_, f2.tr f1⟩
             rw [bgP, if_neg (by omega), if_pos (by omega)]; exact p1)
          | (refine ⟨rfl, ?_, f1⟩
             rw [bgP, if_neg (by omega), if_neg (by omega), if_pos (by omega)]; exact p1)
          | (refine ⟨rfl, ?_, fun q a b => by rw [up2_cell _ _ _ a], fun j a => by rw [up2_cell _ _ _ hne.1], fun q a b => rfl⟩
             rw [bgP, if_pos (by omega)]
             exact ⟨⟨up2_same _ _ _ _, by rw [up2_ne _ _ _ (by decide)]; exact h2, h3⟩, ⟨by rw [up2_cell _ _ _ hne.1]; exact h4, by rw [up2_cell _ _ _ hne.1]; exact h5⟩, h6⟩)
          | (refine ⟨rfl, ?_, FrR.rf⟩
             rw [bgP, if_neg (by omega), if_neg (by omega), if_neg (by omega)]; exact hs)
    · refine rr_aload_n F dX4_beginPiece_18 rfl ?_
      refine rr_iconst F dX4_beginPiece_19 ?_
      refine rp_Reader_piece F (by first | rfl | assumption) fl_X4_11 dX4_beginPiece_20 ?_
      refine rr_aload_n F dX4_beginPiece_23 rfl ?_
      refine rr_iconst F dX4_beginPiece_24 ?_
      refine rp_Reader_wordLength F (by first | rfl | assumption) fl_X4_15 dX4_beginPiece_25 ?_
      refine rr_aload_n F dX4_beginPiece_28 rfl ?_
      refine rr_lconst F dX4_beginPiece_29 ?_
      refine rp_Reader_wordNumber F (by first | rfl | assumption) fl_X4_18 dX4_beginPiece_30 ?_
      have hs2 : PsS k lg (1, 0, 0, s.2.2.2) (up2 (up2 I 3 0 1) 3 1 0) (up2 L 3 2 (Int64.ofNat ((0 : Fin 2) : Nat))) := ⟨⟨by rw [up2_ne _ _ _ (by decide), up2_same], up2_same _ _ _ _, by rw [up2_same]; rfl⟩, ⟨by rw [up2_cell _ _ _ hne.1, up2_cell _ _ _ hne.1]; exact h4, by rw [up2_cell _ _ _ hne.1, up2_cell _ _ _ hne.1]; exact h5⟩, fun i u w => by rw [up2_cell _ _ _ hne.2.1]; exact h6 i u w⟩
      have f2 : FrR k I L (up2 (up2 I 3 0 1) 3 1 0) (up2 L 3 2 (Int64.ofNat ((0 : Fin 2) : Nat))) := ⟨fun q a b => by rw [up2_cell _ _ _ a, up2_cell _ _ _ a], fun j a => by rw [up2_cell _ _ _ hne.1, up2_cell _ _ _ hne.1], fun q a b => by rw [up2_cell _ _ _ a]⟩
      refine rr_aload_n F dX4_beginPiece_33 rfl ?_
      refine rr_iload_n F dX4_beginPiece_34 rfl ?_
      refine rr_callVV F (ci := 4) (mm_X4_lengthenWord hk hs2 ho2 rfl) mf_X4_lengthenWord ml_X4_43 ⟨by decide, by decide⟩ (by first | rfl | assumption) (by decide) rfl rfl (Nat.le_of_ble_eq_true rfl) dX4_beginPiece_35 (fun I_35 L_35 h_35 => ?_)
      obtain ⟨p1, f1⟩ := h_35
      refine rr_goto F dX4_beginPiece_38 (tgt := 64) (by decide) ?_
      refine rr_vret F dX4_beginPiece_64 ?_
      first
      | (refine ⟨rfl, ?_, f2.tr f1⟩
         rw [bgP, if_neg (by omega), if_pos (by omega)]; exact p1)
      | (refine ⟨rfl, ?_, f1⟩
         rw [bgP, if_neg (by omega), if_neg (by omega), if_pos (by omega)]; exact p1)
      | (refine ⟨rfl, ?_, fun q a b => by rw [up2_cell _ _ _ a], fun j a => by rw [up2_cell _ _ _ hne.1], fun q a b => rfl⟩
         rw [bgP, if_pos (by omega)]
         exact ⟨⟨up2_same _ _ _ _, by rw [up2_ne _ _ _ (by decide)]; exact h2, h3⟩, ⟨by rw [up2_cell _ _ _ hne.1]; exact h4, by rw [up2_cell _ _ _ hne.1]; exact h5⟩, h6⟩)
      | (refine ⟨rfl, ?_, FrR.rf⟩
         rw [bgP, if_neg (by omega), if_neg (by omega), if_neg (by omega)]; exact hs)
  · refine rr_aload_n F dX4_beginPiece_6 rfl ?_
    refine rr_iconst F dX4_beginPiece_7 ?_
    refine rp_Reader_piece F (by first | rfl | assumption) fl_X4_11 dX4_beginPiece_8 ?_
    refine rr_goto F dX4_beginPiece_11 (tgt := 64) (by decide) ?_
    refine rr_vret F dX4_beginPiece_64 ?_
    first
    | (refine ⟨rfl, ?_, f2.tr f1⟩
       rw [bgP, if_neg (by omega), if_pos (by omega)]; exact p1)
    | (refine ⟨rfl, ?_, f1⟩
       rw [bgP, if_neg (by omega), if_neg (by omega), if_pos (by omega)]; exact p1)
    | (refine ⟨rfl, ?_, fun q a b => by rw [up2_cell _ _ _ a], fun j a => by rw [up2_cell _ _ _ hne.1], fun q a b => rfl⟩
       rw [bgP, if_pos (by omega)]
       exact ⟨⟨up2_same _ _ _ _, by rw [up2_ne _ _ _ (by decide)]; exact h2, h3⟩, ⟨by rw [up2_cell _ _ _ hne.1]; exact h4, by rw [up2_cell _ _ _ hne.1]; exact h5⟩, h6⟩)
    | (refine ⟨rfl, ?_, FrR.rf⟩
       rw [bgP, if_neg (by omega), if_neg (by omega), if_neg (by omega)]; exact hs)
set_option maxHeartbeats 4000000 in
set_option maxRecDepth 100000 in
theorem mm_X4_takeByte {l : Launch} {g : gT} {k : Nat} {lg c : Int} {s : psT} {I : IM} {L : LM} (hk : isB k) (hs : PsS k lg s I L) (ho : okP s) (hl0 : 0 ≤ lg) (hl : lg ≤ 1) (hc0 : 0 ≤ c) (hc : c ≤ 200) :
    Ct l yX4_takeByte cX4_takeByte 4 none 2 45 lyC g [.ref (g.2.1 3), .int (zI c), .ref (g.2.1 k)] I L (pV (fun I' L' => PsS k lg (tkP lg s c) I' L' ∧ FrR k I L I' L')) := by
  have h1 := hs.1.1
  have o1 := ho.1
  have vb := vlF_b c
  refine Ct.of RX4 (by decide +kernel) rfl (Nat.le_of_ble_eq_true rfl) (fun x hx F => ?_)
  refine rr_iload_n F dX4_takeByte_0 rfl ?_
  refine rr_callSI F (mm_X4_valueOf ⟨by omega, by omega⟩) mf_X4_valueOf ml_X4_39 ⟨by decide, by decide⟩ rfl (Nat.le_of_ble_eq_true rfl) dX4_takeByte_1 (fun r_1 I_1 L_1 h_1 => ?_)
  obtain ⟨rfl, rfl, rfl⟩ := h_1
  refine rr_istore_n F dX4_takeByte_4 (Nat.le_of_ble_eq_true rfl) rfl ?_
  refine rr_aload_n F dX4_takeByte_5 rfl ?_
  refine rg_Reader_piece F (by first | rfl | assumption) fl_X4_11 dX4_takeByte_6 ?_
  refine rr_iconst F dX4_takeByte_9 ?_
  refine rr_icmp_ne F dX4_takeByte_10 (tgt := 25) (by decide) ⟨by omega, by omega⟩ ⟨by omega, by omega⟩ (fun c_10 => ?_) (fun c_10 => ?_)
  · refine rr_aload_n F dX4_takeByte_25 rfl ?_
    refine rg_Reader_piece F (by first | rfl | assumption) fl_X4_11 dX4_takeByte_26 ?_
    refine rr_iconst F dX4_takeByte_29 ?_
    refine rr_icmp_ne F dX4_takeByte_30 (tgt := 39) (by decide) ⟨by omega, by omega⟩ ⟨by omega, by omega⟩ (fun c_30 => ?_) (fun c_30 => ?_)
    · refine rr_aload_n F dX4_takeByte_39 rfl ?_
      refine rr_aload_n F dX4_takeByte_40 rfl ?_
      refine rr_callVV F (ci := 4) (mm_X4_endPiece hk hs ho hl0 hl) mf_X4_endPiece ml_X4_35 ⟨by decide, by decide⟩ (by first | rfl | assumption) (by decide) rfl rfl (Nat.le_of_ble_eq_true rfl) dX4_takeByte_41 (fun I_41 L_41 h_41 => ?_)
      obtain ⟨p1, f1⟩ := h_41
      refine rr_aload_n F dX4_takeByte_44 rfl ?_
      refine rr_iload_n F dX4_takeByte_45 rfl ?_
      refine rr_iload_n F dX4_takeByte_46 rfl ?_
      refine rr_aload_n F dX4_takeByte_47 rfl ?_
      refine rr_callVV F (ci := 4) (mm_X4_beginPiece hk p1 (enP_ok ho lg) hl0 hl hc0 hc vb.1 vb.2) mf_X4_beginPiece ml_X4_47 ⟨by decide, by decide⟩ (by first | rfl | assumption) (by decide) rfl rfl (Nat.le_of_ble_eq_true rfl) dX4_takeByte_48 (fun I_48 L_48 h_48 => ?_)
      obtain ⟨p2, f2⟩ := h_48
      refine rr_vret F dX4_takeByte_51 ?_
      first
      | (refine ⟨rfl, ?_, f1.tr f2⟩
         rw [tkP, if_neg (by omega), if_pos (by omega)]; exact p2)
      | (refine ⟨rfl, ?_, f1⟩
         rw [tkP, if_pos (by omega)]; exact p1)
      | (refine ⟨rfl, ?_, FrR.rf⟩
         rw [tkP, if_neg (by omega), if_neg (by omega)]; exact hs)
    · refine rr_iload_n F dX4_takeByte_33 rfl ?_
      refine rr_bipush F dX4_takeByte_34 (by decide) ?_
      refine rr_icmp_gt F dX4_takeByte_36 (tgt := 51) (by decide) ⟨by omega, by omega⟩ ⟨by omega, by omega⟩ (fun c_36 => ?_) (fun c_36 => ?_)
      · refine rr_vret F dX4_takeByte_51 ?_
        first
        | (refine ⟨rfl, ?_, f1.tr f2⟩
           rw [tkP, if_neg (by omega), if_pos (by omega)]; exact p2)
        | (refine ⟨rfl, ?_, f1⟩
           rw [tkP, if_pos (by omega)]; exact p1)
        | (refine ⟨rfl, ?_, FrR.rf⟩
           rw [tkP, if_neg (by omega), if_neg (by omega)]; exact hs)
      · refine rr_aload_n F dX4_takeByte_39 rfl ?_
        refine rr_aload_n F dX4_takeByte_40 rfl ?_
        refine rr_callVV F (ci := 4) (mm_X4_endPiece hk hs ho hl0 hl) mf_X4_endPiece ml_X4_35 ⟨by decide, by decide⟩ (by first | rfl | assumption) (by decide) rfl rfl (Nat.le_of_ble_eq_true rfl) dX4_takeByte_41 (fun I_41 L_41 h_41 => ?_)
        obtain ⟨p1, f1⟩ := h_41
        refine rr_aload_n F dX4_takeByte_44 rfl ?_
        refine rr_iload_n F dX4_takeByte_45 rfl ?_
        refine rr_iload_n F dX4_takeByte_46 rfl ?_
        refine rr_aload_n F dX4_takeByte_47 rfl ?_
        refine rr_callVV F (ci := 4) (mm_X4_beginPiece hk p1 (enP_ok ho lg) hl0 hl hc0 hc vb.1 vb.2) mf_X4_beginPiece ml_X4_47 ⟨by decide, by decide⟩ (by first | rfl | assumption) (by decide) rfl rfl (Nat.le_of_ble_eq_true rfl) dX4_takeByte_48 (fun I_48 L_48 h_48 => ?_)
        obtain ⟨p2, f2⟩ := h_48
        refine rr_vret F dX4_takeByte_51 ?_
        first
        | (refine ⟨rfl, ?_, f1.tr f2⟩
           rw [tkP, if_neg (by omega), if_pos (by omega)]; exact p2)
        | (refine ⟨rfl, ?_, f1⟩
           rw [tkP, if_pos (by omega)]; exact p1)
        | (refine ⟨rfl, ?_, FrR.rf⟩
           rw [tkP, if_neg (by omega), if_neg (by omega)]; exact hs)
  · refine rr_iload_n F dX4_takeByte_13 rfl ?_
    refine rr_if_le F dX4_takeByte_14 (tgt := 25) (by decide) ⟨by omega, by omega⟩ (fun c_14 => ?_) (fun c_14 => ?_)
    · refine rr_aload_n F dX4_takeByte_25 rfl ?_
      refine rg_Reader_piece F (by first | rfl | assumption) fl_X4_11 dX4_takeByte_26 ?_
      refine rr_iconst F dX4_takeByte_29 ?_
      refine rr_icmp_ne F dX4_takeByte_30 (tgt := 39) (by decide) ⟨by omega, by omega⟩ ⟨by omega, by omega⟩ (fun c_30 => ?_) (fun c_30 => ?_)
      · refine rr_aload_n F dX4_takeByte_39 rfl ?_
        refine rr_aload_n F dX4_takeByte_40 rfl ?_
        refine rr_callVV F (ci := 4) (mm_X4_endPiece hk hs ho hl0 hl) mf_X4_endPiece ml_X4_35 ⟨by decide, by decide⟩ (by first | rfl | assumption) (by decide) rfl rfl (Nat.le_of_ble_eq_true rfl) dX4_takeByte_41 (fun I_41 L_41 h_41 => ?_)
        obtain ⟨p1, f1⟩ := h_41
        refine rr_aload_n F dX4_takeByte_44 rfl ?_
        refine rr_iload_n F dX4_takeByte_45 rfl ?_
        refine rr_iload_n F dX4_takeByte_46 rfl ?_
        refine rr_aload_n F dX4_takeByte_47 rfl ?_
        refine rr_callVV F (ci := 4) (mm_X4_beginPiece hk p1 (enP_ok ho lg) hl0 hl hc0 hc vb.1 vb.2) mf_X4_beginPiece ml_X4_47 ⟨by decide, by decide⟩ (by first | rfl | assumption) (by decide) rfl rfl (Nat.le_of_ble_eq_true rfl) dX4_takeByte_48 (fun I_48 L_48 h_48 => ?_)
        obtain ⟨p2, f2⟩ := h_48
        refine rr_vret F dX4_takeByte_51 ?_
        first
        | (refine ⟨rfl, ?_, f1.tr f2⟩
           rw [tkP, if_neg (by omega), if_pos (by omega)]; exact p2)
        | (refine ⟨rfl, ?_, f1⟩
           rw [tkP, if_pos (by omega)]; exact p1)
        | (refine ⟨rfl, ?_, FrR.rf⟩
           rw [tkP, if_neg (by omega), if_neg (by omega)]; exact hs)
      · refine rr_iload_n F dX4_takeByte_33 rfl ?_
        refine rr_bipush F dX4_takeByte_34 (by decide) ?_
        refine rr_icmp_gt F dX4_takeByte_36 (tgt := 51) (by decide) ⟨by omega, by omega⟩ ⟨by omega, by omega⟩ (fun c_36 => ?_) (fun c_36 => ?_)
        · refine rr_vret F dX4_takeByte_51 ?_
          first
          | (refine ⟨rfl, ?_, f1.tr f2⟩
             rw [tkP, if_neg (by omega), if_pos (by omega)]; exact p2)
          | (refine ⟨rfl, ?_, f1⟩
             rw [tkP, if_pos (by omega)]; exact p1)
          | (refine ⟨rfl, ?_, FrR.rf⟩
             rw [tkP, if_neg (by omega), if_neg (by omega)]; exact hs)
        · refine rr_aload_n F dX4_takeByte_39 rfl ?_
          refine rr_aload_n F dX4_takeByte_40 rfl ?_
          refine rr_callVV F (ci := 4) (mm_X4_endPiece hk hs ho hl0 hl) mf_X4_endPiece ml_X4_35 ⟨by decide, by decide⟩ (by first | rfl | assumption) (by decide) rfl rfl (Nat.le_of_ble_eq_true rfl) dX4_takeByte_41 (fun I_41 L_41 h_41 => ?_)
          obtain ⟨p1, f1⟩ := h_41
          refine rr_aload_n F dX4_takeByte_44 rfl ?_
          refine rr_iload_n F dX4_takeByte_45 rfl ?_
          refine rr_iload_n F dX4_takeByte_46 rfl ?_
          refine rr_aload_n F dX4_takeByte_47 rfl ?_
          refine rr_callVV F (ci := 4) (mm_X4_beginPiece hk p1 (enP_ok ho lg) hl0 hl hc0 hc vb.1 vb.2) mf_X4_beginPiece ml_X4_47 ⟨by decide, by decide⟩ (by first | rfl | assumption) (by decide) rfl rfl (Nat.le_of_ble_eq_true rfl) dX4_takeByte_48 (fun I_48 L_48 h_48 => ?_)
          obtain ⟨p2, f2⟩ := h_48
          refine rr_vret F dX4_takeByte_51 ?_
          first
          | (refine ⟨rfl, ?_, f1.tr f2⟩
             rw [tkP, if_neg (by omega), if_pos (by omega)]; exact p2)
          | (refine ⟨rfl, ?_, f1⟩
             rw [tkP, if_pos (by omega)]; exact p1)
          | (refine ⟨rfl, ?_, FrR.rf⟩
             rw [tkP, if_neg (by omega), if_neg (by omega)]; exact hs)
    · refine rr_aload_n F dX4_takeByte_17 rfl ?_
      refine rr_iload_n F dX4_takeByte_18 rfl ?_
      refine rr_callVV F (ci := 4) (mm_X4_lengthenWord hk hs ho (by omega)) mf_X4_lengthenWord ml_X4_43 ⟨by decide, by decide⟩ (by first | rfl | assumption) (by decide) rfl rfl (Nat.le_of_ble_eq_true rfl) dX4_takeByte_19 (fun I_19 L_19 h_19 => ?_)
      obtain ⟨p1, f1⟩ := h_19
      refine rr_goto F dX4_takeByte_22 (tgt := 51) (by decide) ?_
      refine rr_vret F dX4_takeByte_51 ?_
      first
      | (refine ⟨rfl, ?_, f1.tr f2⟩
         rw [tkP, if_neg (by omega), if_pos (by omega)]; exact p2)
      | (refine ⟨rfl, ?_, f1⟩
         rw [tkP, if_pos (by omega)]; exact p1)
      | (refine ⟨rfl, ?_, FrR.rf⟩
         rw [tkP, if_neg (by omega), if_neg (by omega)]; exact hs)
/-- what a begun word doesn't need is of no account -/
def EqP (s s' : psT) : Prop := s.1 = s'.1 ∧ s.2.2.2 = s'.2.2.2 ∧ (s.1 = 1 → s.2.1 = s'.2.1 ∧ s.2.2.1 = s'.2.2.1)
theorem EqP_1 {s s' : psT} (h : EqP s s') (h1 : s.1 = 1) : s = s' := by
  obtain ⟨a, b, c, d⟩ := s
  obtain ⟨a', b', c', d'⟩ := s'
  obtain ⟨e1, e2, e3⟩ := h
  have e4 := e3 h1
  simp only at e1 e2 e4
  rw [e1, e2, e4.1, e4.2]
theorem adP_q (s s' : psT) (t : Int64) (h : s.2.2.2 = s'.2.2.2) : (adP s t).2.2.2 = (adP s' t).2.2.2 ∧ (adP s t).1 = s.1 := by
  unfold adP
  rw [← h]
  split
  · exact ⟨rfl, rfl⟩
  · exact ⟨h, rfl⟩
theorem enP_q {s s' : psT} (lg : Int) (h : EqP s s') : (enP lg s).2.2.2 = (enP lg s').2.2.2 := by
  by_cases h1 : s.1 = 1
  · rw [EqP_1 h h1]
  · show (enA lg s).2.2.2 = (enA lg s').2.2.2
    unfold enA
    rw [← h.1, if_neg h1, if_neg h1]
    split
    · exact (adP_q s s' 7 h.2.1).1
    · exact h.2.1
theorem tkP_q {s s' : psT} (lg c : Int) (h : EqP s s') : EqP (tkP lg s c) (tkP lg s' c) := by
  by_cases h1 : s.1 = 1
  · rw [EqP_1 h h1]
    exact ⟨rfl, rfl, fun _ => ⟨rfl, rfl⟩⟩
  · have hq := enP_q lg h
    have hA : ¬ (s.1 = 1 ∧ 0 < vlF c) := fun z => h1 z.1
    unfold tkP
    rw [← h.1]
    simp only [if_neg hA]
    split
    · unfold bgP
      split
      · exact ⟨rfl, hq, fun z => absurd (show (2 : Int) = 1 from z) (by omega)⟩
      · split
        · rw [hq]
          exact ⟨rfl, rfl, fun _ => ⟨rfl, rfl⟩⟩
        · split
          · have a1 := adP_q (enP lg s) (enP lg s') (zI (100 + c)).toInt64 hq
            have a2 := adP_q (enP lg s') (enP lg s) (zI (100 + c)).toInt64 hq.symm
            refine ⟨by rw [a1.2, a2.2]; rfl, a1.1, fun z => ?_⟩
            rw [a1.2] at z
            exact absurd (show (0 : Int) = 1 from z) (by omega)
          · exact ⟨rfl, hq, fun z => absurd (show (0 : Int) = 1 from z) (by omega)⟩
    · exact h
theorem fdP_q (lg : Int) (tb : Int → Int) : ∀ (n : Nat) (i : Int) (s s' : psT), EqP s s' → EqP (fdP lg tb n i s) (fdP lg tb n i s') := by
  intro n
  induction n with
  | zero => intro i s s' h; exact h
  | succ n ih => intro i s s' h; rw [fdP, fdP]; exact ih _ _ _ (tkP_q lg _ h)
set_option maxHeartbeats 4000000 in
set_option maxRecDepth 100000 in
theorem mm_X4_read {l : Launch} {g : gT} {k : Nat} {lg tl : Int} {tb : Int → Int} {I : IM} {L : LM} (hk : isB k) (h1 : I k 1 = 0) (h2 : I k 2 = lg) (hl0 : 0 ≤ lg) (hl : lg ≤ 1) (ht0 : 0 ≤ tl) (ht : tl ≤ 240) (hI : I 1 1 = tl) (hb : ∀ i, 0 ≤ i → i < tl → I 2 i = tb i) (hbr : ∀ i, 0 ≤ i → i < tl → 32 ≤ tb i ∧ tb i ≤ 126) :
    Ct l yX4_read cX4_read 4 none 3 68 lyC g [.ref (g.2.1 3), .ref (g.2.1 1), .ref (g.2.1 k)] I L (pV (fun I' L' => (I' k 1 = (rdP lg tb tl).2.2.2.1 ∧ ∀ i, 0 ≤ i → i < (rdP lg tb tl).2.2.2.1 → L' (k + 1) i = (rdP lg tb tl).2.2.2.2 i) ∧ FrR k I L I' L')) := by
  have hne := isB3 hk
  refine Ct.of RX4 (by decide +kernel) rfl (Nat.le_of_ble_eq_true rfl) (fun x hx F => ?_)
  generalize hpost : (pV (fun (I' : IM) (L' : LM) => (I' k 1 = (rdP lg tb tl).2.2.2.1 ∧ ∀ i, 0 ≤ i → i < (rdP lg tb tl).2.2.2.1 → L' (k + 1) i = (rdP lg tb tl).2.2.2.2 i) ∧ FrR k I L I' L')) = post
  have loop : ∀ (n : Nat) (i : Int) (s : psT) (I1 : IM) (L1 : LM), n = (tl - i).toNat → 0 ≤ i → i ≤ tl → PsS k lg s I1 L1 → okP s → FrR k I L I1 L1 → EqP (fdP lg tb n i s) (fdP lg tb tl.toNat 0 (0, 0, 0, 0, fun _ => 0)) → Rn x lyC g post 7 [vr g 3, vr g 1, vr g k, vn i] [] I1 L1 := by
    intro n
    induction n with
    | zero =>
      intro i s I1 L1 g1 g2 g3 g4 g5 g6 g7
      have el : I1 1 1 = tl := by rw [g6.1 1 (by omega) hne.2.2.1.symm]; exact hI
      refine rr_iload_n F dX4_read_7 rfl ?_
      refine rr_aload_n F dX4_read_8 rfl ?_
      refine rg_Tape_length F (by first | rfl | assumption) fl_X4_22 dX4_read_9 ?_
      refine rr_icmp_ge F dX4_read_12 (tgt := 32) (by decide) ⟨by omega, by omega⟩ ⟨by omega, by omega⟩ (fun c_12 => ?_) (fun c_12 => ?_)
      · refine rr_aload_n F dX4_read_32 rfl ?_
        refine rr_aload_n F dX4_read_33 rfl ?_
        refine rr_callVV F (ci := 4) (mm_X4_endPiece hk g4 g5 hl0 hl) mf_X4_endPiece ml_X4_35 ⟨by decide, by decide⟩ (by first | rfl | assumption) (by decide) rfl rfl (Nat.le_of_ble_eq_true rfl) dX4_read_34 (fun I_34 L_34 h_34 => ?_)
        obtain ⟨p1, f1⟩ := h_34
        refine rr_vret F dX4_read_37 ?_
        rw [← hpost]
        have e := enP_q lg g7
        have e2 : (enP lg s).2.2.2 = (rdP lg tb tl).2.2.2 := e
        refine ⟨rfl, ⟨by rw [← e2]; exact p1.2.1.1, ?_⟩, g6.tr f1⟩
        rw [← e2]
        exact p1.2.2
      · exfalso
        omega
    | succ n ih =>
      intro i s I1 L1 g1 g2 g3 g4 g5 g6 g7
      rw [fdP] at g7
      have el : I1 1 1 = tl := by rw [g6.1 1 (by omega) hne.2.2.1.symm]; exact hI
      have eb : I1 2 i = tb i := by rw [g6.1 2 (by omega) hne.2.2.2.1.symm]; exact hb i g2 (by omega)
      have br := hbr i g2 (by omega)
      refine rr_iload_n F dX4_read_7 rfl ?_
      refine rr_aload_n F dX4_read_8 rfl ?_
      refine rg_Tape_length F (by first | rfl | assumption) fl_X4_22 dX4_read_9 ?_
      refine rr_icmp_ge F dX4_read_12 (tgt := 32) (by decide) ⟨by omega, by omega⟩ ⟨by omega, by omega⟩ (fun c_12 => ?_) (fun c_12 => ?_)
      · exfalso
        omega
      · refine rr_aload_n F dX4_read_15 rfl ?_
        refine rr_aload_n F dX4_read_16 rfl ?_
        refine rg_Tape_bytes F (by first | rfl | assumption) fl_X4_27 dX4_read_17 ?_
        refine rr_cell (k2 := 2) rfl ?_
        refine rr_iload_n F dX4_read_20 rfl ?_
        refine rr_bald F (N := 240) (by first | rfl | assumption) (by omega) (by first | rfl | assumption) (by omega) dX4_read_21 ?_
        rw [eb]
        refine rr_aload_n F dX4_read_22 rfl ?_
        refine rr_callVV F (ci := 4) (mm_X4_takeByte hk g4 g5 hl0 hl (by omega) (by omega)) mf_X4_takeByte ml_X4_31 ⟨by decide, by decide⟩ (by first | rfl | assumption) (by decide) rfl rfl (Nat.le_of_ble_eq_true rfl) dX4_read_23 (fun I_23 L_23 h_23 => ?_)
        obtain ⟨p1, f1⟩ := h_23
        refine rr_iinc F dX4_read_26 rfl rfl ?_
        refine rr_goto F dX4_read_29 (tgt := 7) (by decide) ?_
        exact ih (i + 1) _ _ _ (by omega) (by omega) (by omega) p1 (tkP_ok g5 lg _) (g6.tr f1) g7
  refine rr_aload_n F dX4_read_0 rfl ?_
  refine rr_iconst F dX4_read_1 ?_
  refine rp_Reader_piece F (by first | rfl | assumption) fl_X4_11 dX4_read_2 ?_
  refine rr_iconst F dX4_read_5 ?_
  refine rr_istore_n F dX4_read_6 (Nat.le_of_ble_eq_true rfl) rfl ?_
  refine loop _ 0 (0, I 3 1, L 3 2, 0, fun _ => 0) _ _ rfl (by omega) (by omega) ⟨⟨up2_same _ _ _ _, by rw [up2_ne _ _ _ (by decide)], rfl⟩, ⟨by rw [up2_cell _ _ _ hne.1]; exact h1, by rw [up2_cell _ _ _ hne.1]; exact h2⟩, fun i u v => absurd (show i < 0 from v) (by omega)⟩ (okP_c 0 _ _ (0, fun _ => 0) (by omega) (fun e => absurd e (by omega)) ⟨by show (0 : Int) ≤ 0; omega, by show (0 : Int) ≤ 40; omega⟩) ⟨fun q a b => by rw [up2_cell _ _ _ a], fun j a => by rw [up2_cell _ _ _ hne.1], fun q a b => rfl⟩ ?_
  rw [show tl - 0 = tl by omega]
  exact fdP_q lg tb _ _ _ _ ⟨rfl, rfl, fun z => absurd (show (0 : Int) = 1 from z) (by omega)⟩
set_option maxHeartbeats 4000000 in
set_option maxRecDepth 100000 in
theorem mm_X0_open {l : Launch} {g : gT} {k : Nat} {a d : Int} {I : IM} {L : LM} (hk : isB k) :
    Ct l yX0_open cX0_open 3 none 0 0 lyC g [.ref (g.2.1 k), .int (zI a), .int (zI d)] I L (pV (fun I' L' => I' = up2 (up2 (up2 (up2 I k 1 0) k 2 a) k 3 d) k 4 1 ∧ L = L')) := by
  obtain ⟨q1, q2, q3⟩ := hk.f
  refine Ct.of RX0 (by decide +kernel) rfl (Nat.le_of_ble_eq_true rfl) (fun x hx F => ?_)
  refine rr_aload_n F dX0_open_0 rfl ?_
  refine rr_iconst F dX0_open_1 ?_
  refine rp_Book_size F (by first | rfl | assumption) fl_X0_15 dX0_open_2 ?_
  refine rr_aload_n F dX0_open_5 rfl ?_
  refine rr_iload_n F dX0_open_6 rfl ?_
  refine rp_Book_language F (by first | rfl | assumption) fl_X0_19 dX0_open_7 ?_
  refine rr_aload_n F dX0_open_10 rfl ?_
  refine rr_iload_n F dX0_open_11 rfl ?_
  refine rp_Book_day F (by first | rfl | assumption) fl_X0_22 dX0_open_12 ?_
  refine rr_aload_n F dX0_open_15 rfl ?_
  refine rr_iconst F dX0_open_16 ?_
  refine rp_Book_held F (by first | rfl | assumption) fl_X0_25 (by decide) (by decide) dX0_open_17 ?_
  refine rr_vret F dX0_open_20 ?_
  exact ⟨rfl, rfl, rfl⟩
def sp_book (σ : sT) (b lg dy : Int) : Int × sT := if (0 ≤ b ∧ b < 6) ∧ (0 ≤ lg ∧ lg ≤ 1) ∧ (0 ≤ dy ∧ dy ≤ 9999) then ((rdP lg (s_tb σ) (s_tl σ)).2.2.2.1, ((0, s_tb σ), (u1 (s_hd σ) b 1, u1 (s_sz σ) b (rdP lg (s_tb σ) (s_tl σ)).2.2.2.1, u1 (s_lg σ) b lg, u1 (s_dy σ) b dy, u1 (s_tk σ) b (rdP lg (s_tb σ) (s_tl σ)).2.2.2.2), σ.2.2)) else (-1, σ)
theorem WF_book {σ : sT} (h : WF σ) (b lg dy : Int) : WF (sp_book σ b lg dy).2 := by
  unfold sp_book
  split
  · next c =>
    obtain ⟨h1, h2, h3, h4, h5, h6, h7⟩ := h
    obtain ⟨k1, k2, k3, k4, k5, k6⟩ := h7
    have ok := (rdP_ok lg (s_tb σ) (s_tl σ)).2.2
    refine ⟨⟨by show (0 : Int) ≤ 0; omega, by show (0 : Int) ≤ 240; omega⟩, fun i u v => absurd (show i < 0 from v) (by omega), fun d => ?_, fun d => ?_, fun d => ?_, fun d => ?_, k1, k2, k3, k4, k5, fun z => ?_⟩
    · show 0 ≤ u1 (s_hd σ) b 1 d ∧ u1 (s_hd σ) b 1 d ≤ 1
      unfold u1; split; omega; exact h3 d
    · show 0 ≤ u1 (s_sz σ) b _ d ∧ u1 (s_sz σ) b _ d ≤ 40
      unfold u1; split; exact ok; exact h4 d
    · show 0 ≤ u1 (s_lg σ) b lg d ∧ u1 (s_lg σ) b lg d ≤ 1
      unfold u1; split; omega; exact h5 d
    · show 0 ≤ u1 (s_dy σ) b dy d ∧ u1 (s_dy σ) b dy d ≤ 9999
      unfold u1; split; omega; exact h6 d
    · show u1 (s_hd σ) b 1 (s_gv σ) = 1
      unfold u1; split; rfl; exact k6 z
  · exact h
set_option maxHeartbeats 4000000 in
set_option maxRecDepth 100000 in
theorem mm_X7_book {l : Launch} {g : gT} {σ : sT} {b a d : Int} {I : IM} {L : LM} (hb : rg b) (ha : rg a) (hd : rg d) (hR : CR σ I L) (hW : WF σ) :
    Ct l yX7_book cX7_book 5 (some .int) 4 91 lyC g [.ref (g.2.1 0), .int (zI b), .int (zI a), .int (zI d)] I L (pS CR (sp_book σ b a d)) := by
  have ha' := ha
  have hd' := hd
  unfold rg at ha' hd'
  have w1 := hW.1
  have w2 := hW.2.1
  obtain ⟨h1, h2, h3, h4⟩ := id hR
  refine Ct.of RX7 (by decide +kernel) rfl (Nat.le_of_ble_eq_true rfl) (fun x hx F => ?_)
  refine rr_aload_n F dX7_book_0 rfl ?_
  refine rg_BP_shelf F (by first | rfl | assumption) fl_X7_26 dX7_book_1 ?_
  refine rr_cell (k2 := 4) rfl ?_
  refine rr_iload_n F dX7_book_4 rfl ?_
  refine rr_callVI F (ci := 5) (mm_X5_names hb) mf_X5_names ml_X7_60 ⟨by decide, by decide⟩ (by first | rfl | assumption) (by decide) rfl rfl (Nat.le_of_ble_eq_true rfl) dX7_book_5 (fun r_5 I_5 L_5 h_5 => ?_)
  obtain ⟨e5, rfl, rfl⟩ := h_5
  refine rr_if_eq F dX7_book_8 (tgt := 31) (by decide) ⟨by omega, by omega⟩ (fun c_8 => ?_) (fun c_8 => ?_)
  · refine rr_iconst F dX7_book_31 ?_
    refine rr_iret F dX7_book_32 ?_
    refine ⟨_, rfl, ?_⟩
    rw [sp_book, if_neg (by omega)]
    exact ⟨rfl, hR⟩
  · refine rr_iload_n F dX7_book_11 rfl ?_
    refine rr_if_lt F dX7_book_12 (tgt := 31) (by decide) ⟨by omega, by omega⟩ (fun c_12 => ?_) (fun c_12 => ?_)
    · refine rr_iconst F dX7_book_31 ?_
      refine rr_iret F dX7_book_32 ?_
      refine ⟨_, rfl, ?_⟩
      rw [sp_book, if_neg (by omega)]
      exact ⟨rfl, hR⟩
    · refine rr_iload_n F dX7_book_15 rfl ?_
      refine rr_iconst F dX7_book_16 ?_
      refine rr_icmp_gt F dX7_book_17 (tgt := 31) (by decide) ⟨by omega, by omega⟩ ⟨by omega, by omega⟩ (fun c_17 => ?_) (fun c_17 => ?_)
      · refine rr_iconst F dX7_book_31 ?_
        refine rr_iret F dX7_book_32 ?_
        refine ⟨_, rfl, ?_⟩
        rw [sp_book, if_neg (by omega)]
        exact ⟨rfl, hR⟩
      · refine rr_iload_n F dX7_book_20 rfl ?_
        refine rr_if_lt F dX7_book_21 (tgt := 31) (by decide) ⟨by omega, by omega⟩ (fun c_21 => ?_) (fun c_21 => ?_)
        · refine rr_iconst F dX7_book_31 ?_
          refine rr_iret F dX7_book_32 ?_
          refine ⟨_, rfl, ?_⟩
          rw [sp_book, if_neg (by omega)]
          exact ⟨rfl, hR⟩
        · refine rr_iload_n F dX7_book_24 rfl ?_
          refine rr_sipush F dX7_book_25 (by decide) ?_
          refine rr_icmp_le F dX7_book_28 (tgt := 33) (by decide) ⟨by omega, by omega⟩ ⟨by omega, by omega⟩ (fun c_28 => ?_) (fun c_28 => ?_)
          · refine rr_aload_n F dX7_book_33 rfl ?_
            refine rg_BP_shelf F (by first | rfl | assumption) fl_X7_26 dX7_book_34 ?_
            refine rr_cell (k2 := 4) rfl ?_
            refine rg_Shelf_books F (by first | rfl | assumption) fl_X7_63 dX7_book_37 ?_
            refine rr_cell (k2 := 5) rfl ?_
            refine rr_iload_n F dX7_book_40 rfl ?_
            refine rr_aald F (N := 6) (by first | rfl | assumption) (by omega) (by first | rfl | assumption) (by omega) dX7_book_41 ?_
            refine rr_bk ?_
            refine rr_astore F dX7_book_42 (Nat.le_of_ble_eq_true rfl) rfl ?_
            refine rr_aload F dX7_book_44 rfl ?_
            refine rr_iload_n F dX7_book_46 rfl ?_
            refine rr_iload_n F dX7_book_47 rfl ?_
            have hB := bk_isB (b := b) (by omega) (by omega)
            have hne := isB3 hB
            obtain ⟨q1, q2, q3⟩ := hB.f
            refine rr_callVV F (ci := 0) (mm_X0_open hB) mf_X0_open ml_X7_67 ⟨by decide, by decide⟩ (by first | rfl | assumption) (by decide) rfl rfl (Nat.le_of_ble_eq_true rfl) dX7_book_48 (fun I_48 L_48 h_48 => ?_)
            obtain ⟨e48, rfl⟩ := h_48
            have o1 : ∀ q, q ≠ bk b → I_48 q = I q := fun q z => by rw [e48, up2_cell _ _ _ z, up2_cell _ _ _ z, up2_cell _ _ _ z, up2_cell _ _ _ z]
            have o2 : I_48 (bk b) 1 = 0 := by rw [e48, up2_ne _ _ _ (by decide), up2_ne _ _ _ (by decide), up2_ne _ _ _ (by decide), up2_same]
            have o3 : I_48 (bk b) 2 = a := by rw [e48, up2_ne _ _ _ (by decide), up2_ne _ _ _ (by decide), up2_same]
            have o4 : I_48 (bk b) 3 = d := by rw [e48, up2_ne _ _ _ (by decide), up2_same]
            have o5 : I_48 (bk b) 4 = 1 := by rw [e48, up2_same]
            refine rr_aload_n F dX7_book_51 rfl ?_
            refine rg_BP_reader F (by first | rfl | assumption) fl_X7_19 dX7_book_52 ?_
            refine rr_cell (k2 := 3) rfl ?_
            refine rr_aload_n F dX7_book_55 rfl ?_
            refine rg_BP_tape F (by first | rfl | assumption) fl_X7_10 dX7_book_56 ?_
            refine rr_cell (k2 := 1) rfl ?_
            refine rr_aload F dX7_book_59 rfl ?_
            refine rr_callVV F (ci := 4) (mm_X4_read (tb := s_tb σ) (tl := s_tl σ) hB o2 o3 (by omega) (by omega) w1.1 w1.2 (by rw [o1 1 hne.2.2.1.symm]; exact h1) (fun i u v => by rw [o1 2 hne.2.2.2.1.symm]; exact h2 i u v) w2) mf_X4_read ml_X7_73 ⟨by decide, by decide⟩ (by first | rfl | assumption) (by decide) rfl rfl (Nat.le_of_ble_eq_true rfl) dX7_book_61 (fun I_61 L_61 h_61 => ?_)
            obtain ⟨⟨r1, r2⟩, r3, r4, r5⟩ := h_61
            refine rr_aload_n F dX7_book_64 rfl ?_
            refine rg_BP_tape F (by first | rfl | assumption) fl_X7_10 dX7_book_65 ?_
            refine rr_cell (k2 := 1) rfl ?_
            refine rr_callVV F (ci := 6) (mm_X6_clear) mf_X6_clear ml_X7_77 ⟨by decide, by decide⟩ (by first | rfl | assumption) (by decide) rfl rfl (Nat.le_of_ble_eq_true rfl) dX7_book_68 (fun I_68 L_68 h_68 => ?_)
            obtain ⟨e68, rfl⟩ := h_68
            have c1 : ∀ q, q ≠ 1 → I_68 q = I_61 q := fun q z => by rw [e68, up2_cell _ _ _ z]
            refine rr_aload F dX7_book_71 rfl ?_
            refine rg_Book_size F (by first | rfl | assumption) fl_X7_80 dX7_book_73 ?_
            refine rr_iret F dX7_book_76 ?_
            refine ⟨_, rfl, ?_⟩
            rw [sp_book, if_pos (by omega)]
            refine ⟨by rw [c1 _ hne.2.2.1]; exact r1, by rw [e68, up2_same], fun i u v => absurd (show i < 0 from v) (by omega), fun c u v => ?_, ?_⟩
            · by_cases z : c = b
              · subst z
                rw [c1 _ hne.2.2.1, r4 4 (by decide), r4 2 (by decide), r4 3 (by decide), r1, o5, o3, o4]
                show 1 = u1 (s_hd σ) c 1 c ∧ (u1 (s_hd σ) c 1 c = 1 → _ = u1 (s_sz σ) c _ c ∧ a = u1 (s_lg σ) c a c ∧ d = u1 (s_dy σ) c d c ∧ ∀ i, 0 ≤ i → i < u1 (s_sz σ) c _ c → _ = u1 (s_tk σ) c _ c i)
                rw [u1_same, u1_same, u1_same, u1_same, u1_same]
                exact ⟨rfl, fun _ => ⟨rfl, rfl, rfl, r2⟩⟩
              · have n1 : bk c ≠ bk b := fun y => z (bk_inj u (by omega) y)
                have n2 : bk c ≠ 1 ∧ bk c ≠ 3 ∧ bk c + 1 ≠ 3 := by unfold bk; omega
                rw [c1 _ n2.1, r3 _ n2.2.1 n1, o1 _ n1, r5 _ n2.2.2 (by omega)]
                show I (bk c) 4 = u1 (s_hd σ) b 1 c ∧ (u1 (s_hd σ) b 1 c = 1 → I (bk c) 1 = u1 (s_sz σ) b _ c ∧ I (bk c) 2 = u1 (s_lg σ) b a c ∧ I (bk c) 3 = u1 (s_dy σ) b d c ∧ ∀ i, 0 ≤ i → i < u1 (s_sz σ) b _ c → L (bk c + 1) i = u1 (s_tk σ) b _ c i)
                rw [u1_ne _ _ z, u1_ne _ _ z, u1_ne _ _ z, u1_ne _ _ z, u1_ne _ _ z]
                exact h3 c u v
            · rw [c1 4 (by omega), r3 4 (by omega) hne.2.2.2.2.symm, o1 4 hne.2.2.2.2.symm]; exact h4
          · refine rr_iconst F dX7_book_31 ?_
            refine rr_iret F dX7_book_32 ?_
            refine ⟨_, rfl, ?_⟩
            rw [sp_book, if_neg (by omega)]
            exact ⟨rfl, hR⟩
