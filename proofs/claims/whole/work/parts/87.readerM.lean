/-! the model's reader -/
def fnQ (lg : Int) (tb : Int → Int) (tl i : Int) (s : psT) : Int × (Int → Int64) := (enP lg (fdP lg tb (tl - i).toNat i s)).2.2.2
def adQ (q : Int × (Int → Int64)) (t : Int64) : Int × (Int → Int64) := if q.1 < 40 then (q.1 + 1, u1 q.2 q.1 t) else q
theorem adP_Q (s : psT) (t : Int64) : (adP s t).2.2.2 = adQ s.2.2.2 t ∧ (adP s t).1 = s.1 := by
  unfold adP adQ
  split
  · exact ⟨rfl, rfl⟩
  · exact ⟨rfl, rfl⟩
theorem fnQ_q {lg : Int} {tb : Int → Int} {tl i : Int} {s s' : psT} (h : EqP s s') : fnQ lg tb tl i s = fnQ lg tb tl i s' := enP_q lg (fdP_q lg tb _ _ _ _ h)
theorem fnQ_st {lg : Int} {tb : Int → Int} {tl i : Int} {s : psT} (h : i < tl) : fnQ lg tb tl i s = fnQ lg tb tl (i + 1) (tkP lg s (tb i)) := by
  unfold fnQ
  rw [show (tl - i).toNat = (tl - (i + 1)).toNat + 1 by omega, fdP]
theorem enP_0 (lg : Int) (s : psT) (h : s.1 = 0) : enP lg s = s := by
  obtain ⟨a, b⟩ := s
  have h : a = 0 := h
  subst h
  unfold enP enA
  rw [if_neg (show ¬ (0 : Int) = 1 by omega), if_neg (show ¬ ((0 : Int) = 2 ∧ lg = 1) from fun z => absurd z.1 (by omega))]
theorem enP_2 (lg : Int) (s : psT) : enP lg (enP lg s) = enP lg s := enP_0 lg _ rfl
/-- a piece ends where the next byte is no part of it -/
theorem fnQ_en {lg : Int} {tb : Int → Int} {tl i : Int} {s : psT} (hi : i ≤ tl) (h : i < tl → (s.1 = 1 ∧ vlF (tb i) = 0) ∨ (s.1 = 2 ∧ vlF (tb i) ≤ 26)) : fnQ lg tb tl i s = fnQ lg tb tl i (enP lg s) := by
  by_cases e : i < tl
  · rw [fnQ_st e, fnQ_st e]
    have h2 : tkP lg s (tb i) = bgP lg (enP lg s) (tb i) (vlF (tb i)) := by
      unfold tkP
      rcases h e with ⟨h1, h2⟩ | ⟨h1, h2⟩
      · rw [if_neg (by omega), if_pos (Or.inl (by omega))]
      · rw [if_neg (by omega), if_pos (Or.inr h2)]
    have h3 : tkP lg (enP lg s) (tb i) = bgP lg (enP lg s) (tb i) (vlF (tb i)) := by
      have e0 : (enP lg s).1 = 0 := rfl
      unfold tkP
      rw [e0, if_neg (show ¬ ((0 : Int) = 1 ∧ 0 < vlF (tb i)) from fun z => absurd z.1 (by omega)), if_pos (Or.inl (show ¬ (0 : Int) = 2 by omega)), enP_2]
    rw [h2, h3]
  · unfold fnQ
    rw [show (tl - i).toNat = 0 by omega, fdP, fdP, enP_2]
theorem fnQ_w {lg : Int} {tb : Int → Int} {tl i wl : Int} {wn : Int64} {q : Int × (Int → Int64)} (hi : i < tl) (h1 : 1 ≤ vlF (tb i)) (h2 : vlF (tb i) ≤ 26) : fnQ lg tb tl i (0, wl, wn, q) = fnQ lg tb tl i (1, 0, 0, q) := by
  rw [fnQ_st hi, fnQ_st hi]
  congr 1
  unfold tkP
  rw [if_neg (show ¬ ((0 : Int) = 1 ∧ 0 < vlF (tb i)) from fun z => absurd z.1 (by omega)), if_pos (Or.inl (show ¬ (0 : Int) = 2 by omega)), if_pos (show ((1 : Int) = 1 ∧ 0 < vlF (tb i)) from ⟨rfl, by omega⟩), enP_0 _ _ rfl]
  unfold bgP
  rw [if_neg (by omega), if_pos (by omega)]
theorem fnQ_n {lg : Int} {tb : Int → Int} {tl i wl : Int} {wn : Int64} {q : Int × (Int → Int64)} (hi : i < tl) (h1 : 26 < vlF (tb i)) : fnQ lg tb tl i (0, wl, wn, q) = fnQ lg tb tl (i + 1) (2, wl, wn, q) := by
  rw [fnQ_st hi]
  congr 1
  unfold tkP
  rw [if_neg (show ¬ ((0 : Int) = 1 ∧ 0 < vlF (tb i)) from fun z => absurd z.1 (by omega)), if_pos (Or.inl (show ¬ (0 : Int) = 2 by omega)), enP_0 _ _ rfl]
  unfold bgP
  rw [if_pos h1]
theorem fnQ_n2 {lg : Int} {tb : Int → Int} {tl i wl : Int} {wn : Int64} {q : Int × (Int → Int64)} (hi : i < tl) (h1 : 26 < vlF (tb i)) : fnQ lg tb tl i (2, wl, wn, q) = fnQ lg tb tl (i + 1) (2, wl, wn, q) := by
  rw [fnQ_st hi]
  congr 1
  unfold tkP
  rw [if_neg (show ¬ ((2 : Int) = 1 ∧ 0 < vlF (tb i)) from fun z => absurd z.1 (by omega)), if_neg (show ¬ (¬ (2 : Int) = 2 ∨ vlF (tb i) ≤ 26) from fun z => z.elim (fun y => y rfl) (fun y => by omega))]
theorem fnQ_l {lg : Int} {tb : Int → Int} {tl i : Int} {s : psT} (hi : i < tl) (hs : s.1 = 1) (h1 : 0 < vlF (tb i)) : fnQ lg tb tl i s = fnQ lg tb tl (i + 1) (lnP s (vlF (tb i))) := by
  rw [fnQ_st hi]
  congr 1
  unfold tkP
  rw [if_pos ⟨hs, h1⟩]
theorem fnQ_s {lg : Int} {tb : Int → Int} {tl i wl : Int} {wn : Int64} {q : Int × (Int → Int64)} (hi : i < tl) (h1 : vlF (tb i) = 0) : fnQ lg tb tl i (0, wl, wn, q) = fnQ lg tb tl (i + 1) (0, wl, wn, if ¬ tb i = 32 ∧ lg = 1 then adQ q (zI (100 + tb i)).toInt64 else q) := by
  rw [fnQ_st hi]
  apply fnQ_q
  unfold tkP
  rw [if_neg (show ¬ ((0 : Int) = 1 ∧ 0 < vlF (tb i)) from fun z => absurd z.1 (by omega)), if_pos (Or.inl (show ¬ (0 : Int) = 2 by omega)), enP_0 _ _ rfl]
  unfold bgP
  rw [if_neg (by omega), if_neg (by omega)]
  by_cases c : ¬ tb i = 32 ∧ lg = 1
  · rw [if_pos c, if_pos c]
    have := adP_Q (0, wl, wn, q) (zI (100 + tb i)).toInt64
    refine ⟨this.2, this.1, fun z => ?_⟩
    rw [this.2] at z
    exact absurd (show (0 : Int) = 1 from z) (by omega)
  · rw [if_neg c, if_neg c]
    exact ⟨rfl, rfl, fun _ => ⟨rfl, rfl⟩⟩
/-- the number of a word of n letters -/
def WdB (n : Int) (v : Int64) : Prop := ∃ z : Int, v = Int64.ofInt z ∧ (0 ≤ z ∧ z < 2565726409) ∧ (n = 0 → z = 0) ∧ (n = 1 → 1 ≤ z ∧ z < 37) ∧ (n = 2 → 37 ≤ z ∧ z < 1369) ∧ (n = 3 → 1369 ≤ z ∧ z < 50653) ∧ (n = 4 → 50653 ≤ z ∧ z < 1874161) ∧ (n = 5 → 1874161 ≤ z ∧ z < 69343957) ∧ (6 ≤ n → 69343957 ≤ z)
theorem i64_of {z : Int} (h : rg z) : (zI z).toInt64 = Int64.ofInt z := by
  rw [← Int64.ofInt_int32ToInt, zI_toInt h]
theorem WdB_up {n l : Int} {v : Int64} (h : WdB n v) (hn0 : 0 ≤ n) (hn : n < 6) (hl0 : 1 ≤ l) (hl : l ≤ 36) : WdB (n + 1) (37 * v + (zI l).toInt64) := by
  obtain ⟨z, h1, h2, h3⟩ := h
  refine ⟨37 * z + l, ?_, by omega, by omega, by omega, by omega, by omega, by omega, by omega, by omega⟩
  rw [i64_of ⟨by omega, by omega⟩, h1, show (37 : Int64) = Int64.ofInt 37 from rfl, ← Int64.ofInt_mul, ← Int64.ofInt_add]
theorem WdB_kw {n : Int} {v : Int64} (h : WdB n v) (c : Int) (hc0 : 0 ≤ c) (hc : c < 50653) (e : v = Int64.ofInt c) : n < 4 := by
  obtain ⟨z, h1, h2, h3, h4, h5, h6, h7, h8, h9⟩ := h
  have : z = c := by
    have e2 : Int64.ofInt z = Int64.ofInt c := h1.symm.trans e
    have := congrArg Int64.toInt e2
    rwa [Int64.toInt_ofInt_of_le (by omega) (by omega), Int64.toInt_ofInt_of_le (by omega) (by omega)] at this
  omega
def FrM (b : Int) (I : IM) (L : LM) (I' : IM) (L' : LM) : Prop := (∀ q, q ≠ 0 → q ≠ 3 → I' q = I q) ∧ (∀ j, j ≠ 12 → j ≠ 13 → I' 0 j = I 0 j) ∧ (∀ j, j ≠ b → I' 3 j = I 3 j) ∧ (∀ q, q ≠ 6 → L' q = L q) ∧ (∀ j, j < 40 * b ∨ 40 * b + 40 ≤ j → L' 6 j = L 6 j)
theorem FrM.rf {b : Int} {I : IM} {L : LM} : FrM b I L I L := ⟨fun _ _ _ => rfl, fun _ _ _ => rfl, fun _ _ => rfl, fun _ _ => rfl, fun _ _ => rfl⟩
theorem FrM.tr {b : Int} {I I1 I2 : IM} {L L1 L2 : LM} (h : FrM b I L I1 L1) (h2 : FrM b I1 L1 I2 L2) : FrM b I L I2 L2 := ⟨fun q u v => (h2.1 q u v).trans (h.1 q u v), fun j u v => (h2.2.1 j u v).trans (h.2.1 j u v), fun j u => (h2.2.2.1 j u).trans (h.2.2.1 j u), fun q u => (h2.2.2.2.1 q u).trans (h.2.2.2.1 q u), fun j u => (h2.2.2.2.2 j u).trans (h.2.2.2.2 j u)⟩
/-- the model's tokens of book b -/
def TkS (b : Int) (q : Int × (Int → Int64)) (I : IM) (L : LM) : Prop := I 3 b = q.1 ∧ (0 ≤ q.1 ∧ q.1 ≤ 40) ∧ ∀ i, 0 ≤ i → i < q.1 → L 6 (40 * b + i) = q.2 i
set_option maxHeartbeats 4000000 in
set_option maxRecDepth 100000 in
theorem mm_X8_letter {l : Launch} {g : gT} {c : Int} {I : IM} {L : LM} (hc : rg c) :
    Ct l yX8_letter cX8_letter 1 (some .int) 1 22 lyM g [.int (zI c)] I L (pI (fun r I' L' => r = vlF c ∧ I = I' ∧ L = L')) := by
  refine Ct.of RX8 (by decide +kernel) rfl (Nat.le_of_ble_eq_true rfl) (fun x hx F => ?_)
  refine rr_iload_n F dX8_letter_0 rfl ?_
  refine rr_bipush F dX8_letter_1 (by decide) ?_
  refine rr_bipush F dX8_letter_3 (by decide) ?_
  refine rr_callSI F (mm_X8_in hc ⟨by omega, by omega⟩ ⟨by omega, by omega⟩) mf_X8_in ml_X8_86 ⟨by decide, by decide⟩ rfl (Nat.le_of_ble_eq_true rfl) dX8_letter_5 (fun r_5 I_5 L_5 h_5 => ?_)
  obtain ⟨e5, rfl, rfl⟩ := h_5
  refine rr_if_eq F dX8_letter_8 (tgt := 20) (by decide) ⟨by omega, by omega⟩ (fun c_8 => ?_) (fun c_8 => ?_)
  · refine rr_iload_n F dX8_letter_20 rfl ?_
    refine rr_bipush F dX8_letter_21 (by decide) ?_
    refine rr_bipush F dX8_letter_23 (by decide) ?_
    refine rr_callSI F (mm_X8_in hc ⟨by omega, by omega⟩ ⟨by omega, by omega⟩) mf_X8_in ml_X8_86 ⟨by decide, by decide⟩ rfl (Nat.le_of_ble_eq_true rfl) dX8_letter_25 (fun r_25 I_25 L_25 h_25 => ?_)
    obtain ⟨e25, rfl, rfl⟩ := h_25
    refine rr_if_eq F dX8_letter_28 (tgt := 40) (by decide) ⟨by omega, by omega⟩ (fun c_28 => ?_) (fun c_28 => ?_)
    · refine rr_iload_n F dX8_letter_40 rfl ?_
      refine rr_bipush F dX8_letter_41 (by decide) ?_
      refine rr_bipush F dX8_letter_43 (by decide) ?_
      refine rr_callSI F (mm_X8_in hc ⟨by omega, by omega⟩ ⟨by omega, by omega⟩) mf_X8_in ml_X8_86 ⟨by decide, by decide⟩ rfl (Nat.le_of_ble_eq_true rfl) dX8_letter_45 (fun r_45 I_45 L_45 h_45 => ?_)
      obtain ⟨e45, rfl, rfl⟩ := h_45
      refine rr_if_eq F dX8_letter_48 (tgt := 61) (by decide) ⟨by omega, by omega⟩ (fun c_48 => ?_) (fun c_48 => ?_)
      · refine rr_iconst F dX8_letter_61 ?_
        refine rr_iret F dX8_letter_62 ?_
        refine ⟨_, rfl, ?_, rfl, rfl⟩
        unfold vlF
        first | (rw [if_pos (by omega)]; done) | (rw [if_neg (by omega), if_pos (by omega)]; done) | (rw [if_neg (by omega), if_neg (by omega), if_pos (by omega)]; done) | (rw [if_neg (by omega), if_neg (by omega), if_neg (by omega)]; done)
      · refine rr_iload_n F dX8_letter_51 rfl ?_
        refine rr_bipush F dX8_letter_52 (by decide) ?_
        refine rr_isub F dX8_letter_54 ?_
        refine rr_bipush F dX8_letter_55 (by decide) ?_
        refine rr_iadd F dX8_letter_57 ?_
        refine rr_goto F dX8_letter_58 (tgt := 62) (by decide) ?_
        refine rr_iret F dX8_letter_62 ?_
        refine ⟨_, rfl, ?_, rfl, rfl⟩
        unfold vlF
        first | (rw [if_pos (by omega)]; done) | (rw [if_neg (by omega), if_pos (by omega)]; done) | (rw [if_neg (by omega), if_neg (by omega), if_pos (by omega)]; done) | (rw [if_neg (by omega), if_neg (by omega), if_neg (by omega)]; done)
    · refine rr_iload_n F dX8_letter_31 rfl ?_
      refine rr_bipush F dX8_letter_32 (by decide) ?_
      refine rr_isub F dX8_letter_34 ?_
      refine rr_iconst F dX8_letter_35 ?_
      refine rr_iadd F dX8_letter_36 ?_
      refine rr_goto F dX8_letter_37 (tgt := 62) (by decide) ?_
      refine rr_iret F dX8_letter_62 ?_
      refine ⟨_, rfl, ?_, rfl, rfl⟩
      unfold vlF
      first | (rw [if_pos (by omega)]; done) | (rw [if_neg (by omega), if_pos (by omega)]; done) | (rw [if_neg (by omega), if_neg (by omega), if_pos (by omega)]; done) | (rw [if_neg (by omega), if_neg (by omega), if_neg (by omega)]; done)
  · refine rr_iload_n F dX8_letter_11 rfl ?_
    refine rr_bipush F dX8_letter_12 (by decide) ?_
    refine rr_isub F dX8_letter_14 ?_
    refine rr_iconst F dX8_letter_15 ?_
    refine rr_iadd F dX8_letter_16 ?_
    refine rr_goto F dX8_letter_17 (tgt := 62) (by decide) ?_
    refine rr_iret F dX8_letter_62 ?_
    refine ⟨_, rfl, ?_, rfl, rfl⟩
    unfold vlF
    first | (rw [if_pos (by omega)]; done) | (rw [if_neg (by omega), if_pos (by omega)]; done) | (rw [if_neg (by omega), if_neg (by omega), if_pos (by omega)]; done) | (rw [if_neg (by omega), if_neg (by omega), if_neg (by omega)]; done)
set_option maxHeartbeats 4000000 in
set_option maxRecDepth 100000 in
theorem mm_X8_add {l : Launch} {g : gT} {b : Int} {q : Int × (Int → Int64)} {t : Int64} {I : IM} {L : LM} (hb0 : 0 ≤ b) (hb : b < 6) (hs : TkS b q I L) :
    Ct l yX8_add cX8_add 4 none 0 0 lyM g [.ref (g.2.1 0), .int (zI b), .long t] I L (pV (fun I' L' => TkS b (adQ q t) I' L' ∧ FrM b I L I' L' ∧ I' 0 = I 0)) := by
  obtain ⟨h1, h2, h3⟩ := id hs
  refine Ct.of RX8 (by decide +kernel) rfl (Nat.le_of_ble_eq_true rfl) (fun x hx F => ?_)
  refine rr_aload_n F dX8_add_0 rfl ?_
  refine rg_Model_sizes F (by first | rfl | assumption) fl_X8_17 dX8_add_1 ?_
  refine rr_cell (k2 := 3) rfl ?_
  refine rr_iload_n F dX8_add_4 rfl ?_
  refine rr_iald F (N := 6) (by first | rfl | assumption) (by omega) (by first | rfl | assumption) (by omega) dX8_add_5 ?_
  refine rr_bipush F dX8_add_6 (by decide) ?_
  refine rr_icmp_ge F dX8_add_8 (tgt := 38) (by decide) ⟨by omega, by omega⟩ ⟨by omega, by omega⟩ (fun c_8 => ?_) (fun c_8 => ?_)
  · refine rr_vret F dX8_add_38 ?_
    first
    | (refine ⟨rfl, ?_, FrM.rf, rfl⟩
       rw [adQ, if_neg (by omega)]; exact hs)
    | (refine ⟨rfl, ?_, ⟨fun q u v => by rw [up2_cell _ _ _ v], fun j u v => by rw [up2_cell _ _ _ (by omega)], fun j u => by rw [up2_ne _ _ _ u], fun q u => by rw [up2_cell _ _ _ u], fun j u => by rw [up2_ne _ _ _ (by omega)]⟩, by rw [up2_cell _ _ _ (by omega)]⟩
       rw [adQ, if_pos (by omega)]
       refine ⟨by rw [up2_same, h1], by show 0 ≤ q.1 + 1 ∧ q.1 + 1 ≤ 40; omega, fun i u v => ?_⟩
       have v : i < q.1 + 1 := v
       show up2 L 6 (40 * b + I 3 b) t 6 (40 * b + i) = u1 q.2 q.1 t i
       rw [h1]
       by_cases e : i = q.1
       · rw [e, up2_same, u1_same]
       · rw [up2_ne _ _ _ (by omega), u1_ne _ _ e]; exact h3 i u (by omega))
  · refine rr_aload_n F dX8_add_11 rfl ?_
    refine rg_Model_tokens F (by first | rfl | assumption) fl_X8_26 dX8_add_12 ?_
    refine rr_cell (k2 := 6) rfl ?_
    refine rr_bipush F dX8_add_15 (by decide) ?_
    refine rr_iload_n F dX8_add_17 rfl ?_
    refine rr_imul F dX8_add_18 ?_
    refine rr_aload_n F dX8_add_19 rfl ?_
    refine rg_Model_sizes F (by first | rfl | assumption) fl_X8_17 dX8_add_20 ?_
    refine rr_cell (k2 := 3) rfl ?_
    refine rr_iload_n F dX8_add_23 rfl ?_
    refine rr_iald F (N := 6) (by first | rfl | assumption) (by omega) (by first | rfl | assumption) (by omega) dX8_add_24 ?_
    refine rr_iadd F dX8_add_25 ?_
    refine rr_lload_n F dX8_add_26 rfl ?_
    refine rr_last F (N := 240) (by first | rfl | assumption) (by omega) (by first | rfl | assumption) (by omega) dX8_add_27 ?_
    refine rr_aload_n F dX8_add_28 rfl ?_
    refine rg_Model_sizes F (by first | rfl | assumption) fl_X8_17 dX8_add_29 ?_
    refine rr_cell (k2 := 3) rfl ?_
    refine rr_iload_n F dX8_add_32 rfl ?_
    refine rr_dup2 F dX8_add_33 rfl rfl ?_
    refine rr_iald F (N := 6) (by first | rfl | assumption) (by omega) (by first | rfl | assumption) (by omega) dX8_add_34 ?_
    refine rr_iconst F dX8_add_35 ?_
    refine rr_iadd F dX8_add_36 ?_
    refine rr_iast F (N := 6) (by first | rfl | assumption) (by omega) (by first | rfl | assumption) (by omega) dX8_add_37 ?_
    refine rr_vret F dX8_add_38 ?_
    first
    | (refine ⟨rfl, ?_, FrM.rf, rfl⟩
       rw [adQ, if_neg (by omega)]; exact hs)
    | (refine ⟨rfl, ?_, ⟨fun q u v => by rw [up2_cell _ _ _ v], fun j u v => by rw [up2_cell _ _ _ (by omega)], fun j u => by rw [up2_ne _ _ _ u], fun q u => by rw [up2_cell _ _ _ u], fun j u => by rw [up2_ne _ _ _ (by omega)]⟩, by rw [up2_cell _ _ _ (by omega)]⟩
       rw [adQ, if_pos (by omega)]
       refine ⟨by rw [up2_same, h1], by show 0 ≤ q.1 + 1 ∧ q.1 + 1 ≤ 40; omega, fun i u v => ?_⟩
       have v : i < q.1 + 1 := v
       show up2 L 6 (40 * b + I 3 b) t 6 (40 * b + i) = u1 q.2 q.1 t i
       rw [h1]
       by_cases e : i = q.1
       · rw [e, up2_same, u1_same]
       · rw [up2_ne _ _ _ (by omega), u1_ne _ _ e]; exact h3 i u (by omega))
set_option maxHeartbeats 4000000 in
set_option maxRecDepth 100000 in
theorem mm_X8_codeOf {l : Launch} {g : gT} {v : Int64} {n : Int} {I : IM} {L : LM} (hw : L 7 0 = 339 ∧ L 7 1 = 8787 ∧ L 7 2 = 236 ∧ L 7 3 = 16633 ∧ L 7 4 = 7367) (hn0 : 0 ≤ n) (hn : n ≤ 300) (hI : I 0 13 = n) (hB : WdB n v) :
    Ct l yX8_codeOf cX8_codeOf 5 (some .int) 0 0 lyM g [.ref (g.2.1 0), .long v] I L (pI (fun r I' L' => r = cdF v ∧ I = I' ∧ L = L')) := by
  obtain ⟨w0, w1, w2, w3, w4⟩ := hw
  refine Ct.of RX8 (by decide +kernel) rfl (Nat.le_of_ble_eq_true rfl) (fun x hx F => ?_)
  have loop : ∀ (m : Nat) (i : Int), m = (5 - i).toNat → 0 ≤ i → i ≤ 5 → (0 < i → ¬ v = 339) → (1 < i → ¬ v = 8787) → (2 < i → ¬ v = 236) → (3 < i → ¬ v = 16633) → (4 < i → ¬ v = 7367) → Rn x lyM g (pI (fun r I' L' => r = cdF v ∧ I = I' ∧ L = L')) 8 [vr g 0, vl v, none, vr g 7, vn i] [] I L := by
    intro m
    induction m with
    | zero =>
      intro i h1 h2 h3 g1 g2 g3 g4 g5
      refine rr_iload F dX8_codeOf_8 rfl ?_
      refine rr_iconst F dX8_codeOf_10 ?_
      refine rr_icmp_ge F dX8_codeOf_11 (tgt := 42) (by decide) ⟨by omega, by omega⟩ ⟨by omega, by omega⟩ (fun c_11 => ?_) (fun c_11 => ?_)
      · refine rr_bipush F dX8_codeOf_42 (by decide) ?_
        refine rr_iret F dX8_codeOf_44 ?_
        exact ⟨_, rfl, by rw [cdF, if_neg (g1 (by omega)), if_neg (g2 (by omega)), if_neg (g3 (by omega)), if_neg (g4 (by omega)), if_neg (g5 (by omega))], rfl, rfl⟩
      · exfalso
        omega
    | succ m ih =>
      intro i h1 h2 h3 g1 g2 g3 g4 g5
      have hv : ∃ z : Int, L 7 i = Int64.ofInt z ∧ (0 ≤ z ∧ z < 50653) ∧ ((i = 0 ∧ z = 339) ∨ (i = 1 ∧ z = 8787) ∨ (i = 2 ∧ z = 236) ∨ (i = 3 ∧ z = 16633) ∨ (i = 4 ∧ z = 7367)) := by
        have : i = 0 ∨ i = 1 ∨ i = 2 ∨ i = 3 ∨ i = 4 := by omega
        rcases this with rfl | rfl | rfl | rfl | rfl
        · exact ⟨339, w0, by omega, by omega⟩
        · exact ⟨8787, w1, by omega, by omega⟩
        · exact ⟨236, w2, by omega, by omega⟩
        · exact ⟨16633, w3, by omega, by omega⟩
        · exact ⟨7367, w4, by omega, by omega⟩
      obtain ⟨z, hz, hzb, hzz⟩ := hv
      have yes : Int64.ofInt z = v → i + 1 = cdF v := by
        intro e
        rw [← e]
        rcases hzz with ⟨rfl, rfl⟩ | ⟨rfl, rfl⟩ | ⟨rfl, rfl⟩ | ⟨rfl, rfl⟩ | ⟨rfl, rfl⟩ <;> decide
      have no : ¬ Int64.ofInt z = v → Rn x lyM g (pI (fun r I' L' => r = cdF v ∧ I = I' ∧ L = L')) 8 [vr g 0, vl v, none, vr g 7, vn (i + 1)] [] I L := by
        intro e
        have e : ¬ v = Int64.ofInt z := fun y => e y.symm
        rcases hzz with ⟨rfl, rfl⟩ | ⟨rfl, rfl⟩ | ⟨rfl, rfl⟩ | ⟨rfl, rfl⟩ | ⟨rfl, rfl⟩
        · exact ih _ (by omega) (by omega) (by omega) (fun _ => e) (fun z => absurd z (by omega)) (fun z => absurd z (by omega)) (fun z => absurd z (by omega)) (fun z => absurd z (by omega))
        · exact ih _ (by omega) (by omega) (by omega) (fun _ => g1 (by omega)) (fun _ => e) (fun z => absurd z (by omega)) (fun z => absurd z (by omega)) (fun z => absurd z (by omega))
        · exact ih _ (by omega) (by omega) (by omega) (fun _ => g1 (by omega)) (fun _ => g2 (by omega)) (fun _ => e) (fun z => absurd z (by omega)) (fun z => absurd z (by omega))
        · exact ih _ (by omega) (by omega) (by omega) (fun _ => g1 (by omega)) (fun _ => g2 (by omega)) (fun _ => g3 (by omega)) (fun _ => e) (fun z => absurd z (by omega))
        · exact ih _ (by omega) (by omega) (by omega) (fun _ => g1 (by omega)) (fun _ => g2 (by omega)) (fun _ => g3 (by omega)) (fun _ => g4 (by omega)) (fun _ => e)
      refine rr_iload F dX8_codeOf_8 rfl ?_
      refine rr_iconst F dX8_codeOf_10 ?_
      refine rr_icmp_ge F dX8_codeOf_11 (tgt := 42) (by decide) ⟨by omega, by omega⟩ ⟨by omega, by omega⟩ (fun c_11 => ?_) (fun c_11 => ?_)
      · exfalso
        omega
      · refine rr_aload_n F dX8_codeOf_14 rfl ?_
        refine rr_iload F dX8_codeOf_15 rfl ?_
        refine rr_lald F (N := 5) (by first | rfl | assumption) (by omega) (by first | rfl | assumption) (by omega) dX8_codeOf_17 ?_
        rw [hz]
        refine rr_lload_n F dX8_codeOf_18 rfl ?_
        refine rr_lcmp F dX8_codeOf_19 ?_
        refine rr_lif_ne F dX8_codeOf_20 (tgt := 36) (by decide) (fun c_20 => ?_) (fun c_20 => ?_)
        · refine rr_iinc F dX8_codeOf_36 rfl rfl ?_
          refine rr_goto F dX8_codeOf_39 (tgt := 8) (by decide) ?_
          first | exact no c_20 | (have := WdB_kw hB z hzb.1 hzb.2 c_20.symm; exfalso; omega)
        · refine rr_aload_n F dX8_codeOf_23 rfl ?_
          refine rg_Model_wordSize F (by first | rfl | assumption) fl_X8_104 dX8_codeOf_24 ?_
          refine rr_iconst F dX8_codeOf_27 ?_
          refine rr_icmp_ge F dX8_codeOf_28 (tgt := 36) (by decide) ⟨by omega, by omega⟩ ⟨by omega, by omega⟩ (fun c_28 => ?_) (fun c_28 => ?_)
          · refine rr_iinc F dX8_codeOf_36 rfl rfl ?_
            refine rr_goto F dX8_codeOf_39 (tgt := 8) (by decide) ?_
            first | exact no c_20 | (have := WdB_kw hB z hzb.1 hzb.2 c_20.symm; exfalso; omega)
          · refine rr_iload F dX8_codeOf_31 rfl ?_
            refine rr_iconst F dX8_codeOf_33 ?_
            refine rr_iadd F dX8_codeOf_34 ?_
            refine rr_iret F dX8_codeOf_35 ?_
            exact ⟨_, rfl, yes c_20, rfl, rfl⟩
  refine rr_aload_n F dX8_codeOf_0 rfl ?_
  refine rg_Model_words F (by first | rfl | assumption) fl_X8_56 dX8_codeOf_1 ?_
  refine rr_cell (k2 := 7) rfl ?_
  refine rr_astore_n F dX8_codeOf_4 (Nat.le_of_ble_eq_true rfl) rfl ?_
  refine rr_iconst F dX8_codeOf_5 ?_
  refine rr_istore F dX8_codeOf_6 (Nat.le_of_ble_eq_true rfl) rfl ?_
  exact loop _ 0 rfl (by omega) (by omega) (fun z => absurd z (by omega)) (fun z => absurd z (by omega)) (fun z => absurd z (by omega)) (fun z => absurd z (by omega)) (fun z => absurd z (by omega))
theorem fnQ_z {lg : Int} {tb : Int → Int} {tl i : Int} {s : psT} {q : Int × (Int → Int64)} (hq : (enP lg s).2.2.2 = q) : fnQ lg tb tl i (enP lg s) = fnQ lg tb tl i (0, 0, 0, q) := fnQ_q ⟨rfl, hq, fun z => absurd (show (0 : Int) = 1 from z) (by omega)⟩
theorem en1 (lg wl : Int) (wn : Int64) (q : Int × (Int → Int64)) : (enP lg (1, wl, wn, q)).2.2.2 = adQ q (if lg = 1 then (zI (cdF wn)).toInt64 else wn) := by
  show (enA lg (1, wl, wn, q)).2.2.2 = _
  unfold enA
  rw [if_pos rfl]
  exact (adP_Q _ _).1
theorem en2 (lg wl : Int) (wn : Int64) (q : Int × (Int → Int64)) : (enP lg (2, wl, wn, q)).2.2.2 = if lg = 1 then adQ q 7 else q := by
  show (enA lg (2, wl, wn, q)).2.2.2 = _
  unfold enA
  rw [if_neg (show ¬ (2 : Int) = 1 by omega)]
  by_cases c : lg = 1
  · rw [if_pos (show (2 : Int) = 2 ∧ lg = 1 from ⟨rfl, c⟩), if_pos c]
    exact (adP_Q _ _).1
  · rw [if_neg (show ¬ ((2 : Int) = 2 ∧ lg = 1) from fun z => c z.2), if_neg c]
set_option maxHeartbeats 4000000 in
set_option maxRecDepth 100000 in
theorem mm_X8_readWord {l : Launch} {g : gT} {b lg tl i : Int} {tb : Int → Int} {q : Int × (Int → Int64)} {I : IM} {L : LM} (ht0 : 0 ≤ tl) (ht : tl ≤ 240) (hI : I 0 1 = tl) (hb : ∀ i, 0 ≤ i → i < tl → I 1 i = tb i) (hbr : ∀ i, 0 ≤ i → i < tl → 32 ≤ tb i ∧ tb i ≤ 126) (hi0 : 0 ≤ i) (hi : i < tl) (hat : I 0 12 = i) (hv : 1 ≤ vlF (tb i)) :
    Ct l yX8_readWord cX8_readWord 4 (some .long) 2 42 lyM g [.ref (g.2.1 0)] I L (pJ (fun r I' L' => (I' 0 13 = I' 0 12 - i ∧ i < I' 0 12 ∧ I' 0 12 ≤ tl) ∧ WdB (I' 0 13) r ∧ fnQ lg tb tl i (1, 0, 0, q) = fnQ lg tb tl (I' 0 12) (1, min (I' 0 13) 6, r, q) ∧ (I' 0 12 < tl → vlF (tb (I' 0 12)) = 0) ∧ FrM b I L I' L' ∧ I' 3 = I 3 ∧ L = L')) := by
  refine Ct.of RX8 (by decide +kernel) rfl (Nat.le_of_ble_eq_true rfl) (fun x hx F => ?_)
  generalize hpost : (pJ (fun (r : Int64) (I' : IM) (L' : LM) => (I' 0 13 = I' 0 12 - i ∧ i < I' 0 12 ∧ I' 0 12 ≤ tl) ∧ WdB (I' 0 13) r ∧ fnQ lg tb tl i (1, 0, 0, q) = fnQ lg tb tl (I' 0 12) (1, min (I' 0 13) 6, r, q) ∧ (I' 0 12 < tl → vlF (tb (I' 0 12)) = 0) ∧ FrM b I L I' L' ∧ I' 3 = I 3 ∧ L = L')) = post
  have loop : ∀ (c : Nat) (j n : Int) (v : Int64) (I1 : IM), c = (tl - j).toNat → i ≤ j → j ≤ tl → n = j - i → I1 0 12 = j → (∀ q, q ≠ 0 → I1 q = I q) → (∀ k, k ≠ 12 → I1 0 k = I 0 k) → WdB n v → fnQ lg tb tl i (1, 0, 0, q) = fnQ lg tb tl j (1, min n 6, v, q) → Rn x lyM g post 4 [vr g 0, vl v, none, vn n] [] I1 L := by
    intro c
    induction c with
    | zero =>
      intro j n v I1 g1 g2 g3 g4 g5 g6 g7 g8 g9
      have el : I1 0 1 = tl := by rw [g7 1 (by omega)]; exact hI
      have ej : j = tl := by omega
      refine rr_aload_n F dX8_readWord_4 rfl ?_
      refine rg_Model_at F (by first | rfl | assumption) fl_X8_95 dX8_readWord_5 ?_
      refine rr_aload_n F dX8_readWord_8 rfl ?_
      refine rg_Model_taped F (by first | rfl | assumption) fl_X8_92 dX8_readWord_9 ?_
      refine rr_icmp_ge F dX8_readWord_12 (tgt := 76) (by decide) ⟨by omega, by omega⟩ ⟨by omega, by omega⟩ (fun c_12 => ?_) (fun c_12 => ?_)
      · refine rr_aload_n F dX8_readWord_76 rfl ?_
        refine rr_iload_n F dX8_readWord_77 rfl ?_
        refine rp_Model_wordSize F (by first | rfl | assumption) fl_X8_104 dX8_readWord_78 ?_
        refine rr_lload_n F dX8_readWord_81 rfl ?_
        refine rr_lret F dX8_readWord_82 ?_
        rw [← hpost]
        have e12 : up2 I1 0 13 n 0 12 = j := by rw [up2_ne _ _ _ (by decide)]; exact g5
        have e13 : up2 I1 0 13 n 0 13 = n := up2_same _ _ _ _
        refine ⟨_, rfl, ?_⟩
        dsimp only
        rw [e12, e13]
        exact ⟨⟨g4, by omega, g3⟩, g8, g9, fun z => absurd z (by omega), ⟨fun q u v => by rw [up2_cell _ _ _ u]; exact g6 q u, fun k u v => by rw [up2_ne _ _ _ v]; exact g7 k u, fun k u => by rw [up2_cell _ _ _ (by omega), g6 3 (by omega)], fun _ _ => rfl, fun _ _ => rfl⟩, by rw [up2_cell _ _ _ (by omega)]; exact g6 3 (by omega), rfl⟩
      · exfalso
        omega
    | succ c ih =>
      intro j n v I1 g1 g2 g3 g4 g5 g6 g7 g8 g9
      have el : I1 0 1 = tl := by rw [g7 1 (by omega)]; exact hI
      have eb : I1 1 j = tb j := by rw [g6 1 (by omega)]; exact hb j (by omega) (by omega)
      have br := hbr j (by omega) (by omega)
      have vb := vlF_b (tb j)
      have go : ∀ v' : Int64, 0 < vlF (tb j) → WdB (n + 1) v' → fnQ lg tb tl i (1, 0, 0, q) = fnQ lg tb tl (j + 1) (1, min (n + 1) 6, v', q) → Rn x lyM g post 60 [vr g 0, vl v', none, vn n] [] I1 L := by
        intro v' z1 z2 z3
        refine rr_iinc F dX8_readWord_60 rfl rfl ?_
        refine rr_aload_n F dX8_readWord_63 rfl ?_
        refine rr_dup F dX8_readWord_64 rfl ?_
        refine rg_Model_at F (by first | rfl | assumption) fl_X8_95 dX8_readWord_65 ?_
        rw [g5]
        refine rr_iconst F dX8_readWord_68 ?_
        refine rr_iadd F dX8_readWord_69 ?_
        refine rp_Model_at F (by first | rfl | assumption) fl_X8_95 dX8_readWord_70 ?_
        refine rr_goto F dX8_readWord_73 (tgt := 4) (by decide) ?_
        exact ih (j + 1) (n + 1) v' _ (by omega) (by omega) (by omega) (by omega) (up2_same _ _ _ _) (fun q u => by rw [up2_cell _ _ _ u]; exact g6 q u) (fun k u => by rw [up2_ne _ _ _ u]; exact g7 k u) z2 z3
      have fin : vlF (tb j) = 0 → Rn x lyM g post 76 [vr g 0, vl v, none, vn n] [] I1 L := by
        intro hz
        have hij : j ≠ i := fun e => by rw [e] at hz; omega
        refine rr_aload_n F dX8_readWord_76 rfl ?_
        refine rr_iload_n F dX8_readWord_77 rfl ?_
        refine rp_Model_wordSize F (by first | rfl | assumption) fl_X8_104 dX8_readWord_78 ?_
        refine rr_lload_n F dX8_readWord_81 rfl ?_
        refine rr_lret F dX8_readWord_82 ?_
        rw [← hpost]
        have e12 : up2 I1 0 13 n 0 12 = j := by rw [up2_ne _ _ _ (by decide)]; exact g5
        have e13 : up2 I1 0 13 n 0 13 = n := up2_same _ _ _ _
        refine ⟨_, rfl, ?_⟩
        dsimp only
        rw [e12, e13]
        exact ⟨⟨g4, by omega, g3⟩, g8, g9, fun z => hz, ⟨fun q u v => by rw [up2_cell _ _ _ u]; exact g6 q u, fun k u v => by rw [up2_ne _ _ _ v]; exact g7 k u, fun k u => by rw [up2_cell _ _ _ (by omega), g6 3 (by omega)], fun _ _ => rfl, fun _ _ => rfl⟩, by rw [up2_cell _ _ _ (by omega)]; exact g6 3 (by omega), rfl⟩
      refine rr_aload_n F dX8_readWord_4 rfl ?_
      refine rg_Model_at F (by first | rfl | assumption) fl_X8_95 dX8_readWord_5 ?_
      refine rr_aload_n F dX8_readWord_8 rfl ?_
      refine rg_Model_taped F (by first | rfl | assumption) fl_X8_92 dX8_readWord_9 ?_
      refine rr_icmp_ge F dX8_readWord_12 (tgt := 76) (by decide) ⟨by omega, by omega⟩ ⟨by omega, by omega⟩ (fun c_12 => ?_) (fun c_12 => ?_)
      · first | (exfalso; omega) | exact fin (by omega)
      · refine rr_aload_n F dX8_readWord_15 rfl ?_
        refine rg_Model_tape F (by first | rfl | assumption) fl_X8_7 dX8_readWord_16 ?_
        refine rr_cell (k2 := 1) rfl ?_
        refine rr_aload_n F dX8_readWord_19 rfl ?_
        refine rg_Model_at F (by first | rfl | assumption) fl_X8_95 dX8_readWord_20 ?_
        rw [g5]
        refine rr_iald F (N := 240) (by first | rfl | assumption) (by omega) (by first | rfl | assumption) (by omega) dX8_readWord_23 ?_
        rw [eb]
        refine rr_callSI F (mm_X8_letter ⟨by omega, by omega⟩) mf_X8_letter ml_X8_98 ⟨by decide, by decide⟩ rfl (Nat.le_of_ble_eq_true rfl) dX8_readWord_24 (fun r_24 I_24 L_24 h_24 => ?_)
        obtain ⟨rfl, rfl, rfl⟩ := h_24
        refine rr_if_le F dX8_readWord_27 (tgt := 76) (by decide) ⟨by omega, by omega⟩ (fun c_27 => ?_) (fun c_27 => ?_)
        · first | (exfalso; omega) | exact fin (by omega)
        · refine rr_iload_n F dX8_readWord_30 rfl ?_
          refine rr_bipush F dX8_readWord_31 (by decide) ?_
          refine rr_icmp_ge F dX8_readWord_33 (tgt := 58) (by decide) ⟨by omega, by omega⟩ ⟨by omega, by omega⟩ (fun c_33 => ?_) (fun c_33 => ?_)
          · refine rr_lload_n F dX8_readWord_58 rfl ?_
            refine rr_lstore_n F dX8_readWord_59 (Nat.le_of_ble_eq_true rfl) rfl ?_
            have st := fnQ_l (lg := lg) (s := (1, min n 6, v, q)) (tb := tb) (tl := tl) (i := j) (by omega) rfl (by omega)
            first
            | (refine go _ (by omega) (WdB_up g8 (by omega) (by omega) (by omega) (by omega)) ?_
               rw [g9, st, lnP, if_pos (show min n 6 < 6 by omega), show min (n + 1) 6 = min n 6 + 1 by omega, Int64.mul_comm])
            | (refine go _ (by omega) ?_ ?_
               · obtain ⟨z, y1, y2, y3, y4, y5, y6, y7, y8, y9⟩ := g8
                 exact ⟨z, y1, y2, by omega, by omega, by omega, by omega, by omega, by omega, fun _ => y9 (by omega)⟩
               · rw [g9, st, lnP, if_neg (show ¬ min n 6 < 6 by omega), show min (n + 1) 6 = min n 6 by omega])
          · refine rr_ldc2 F dX8_readWord_36 co_X8_102 ?_
            refine rr_lload_n F dX8_readWord_39 rfl ?_
            refine rr_lmul F dX8_readWord_40 ?_
            refine rr_aload_n F dX8_readWord_41 rfl ?_
            refine rg_Model_tape F (by first | rfl | assumption) fl_X8_7 dX8_readWord_42 ?_
            refine rr_cell (k2 := 1) rfl ?_
            refine rr_aload_n F dX8_readWord_45 rfl ?_
            refine rg_Model_at F (by first | rfl | assumption) fl_X8_95 dX8_readWord_46 ?_
            rw [g5]
            refine rr_iald F (N := 240) (by first | rfl | assumption) (by omega) (by first | rfl | assumption) (by omega) dX8_readWord_49 ?_
            rw [eb]
            refine rr_callSI F (mm_X8_letter ⟨by omega, by omega⟩) mf_X8_letter ml_X8_98 ⟨by decide, by decide⟩ rfl (Nat.le_of_ble_eq_true rfl) dX8_readWord_50 (fun r_50 I_50 L_50 h_50 => ?_)
            obtain ⟨rfl, rfl, rfl⟩ := h_50
            refine rr_i2l F dX8_readWord_53 ?_
            refine rr_ladd F dX8_readWord_54 ?_
            refine rr_goto F dX8_readWord_55 (tgt := 59) (by decide) ?_
            refine rr_lstore_n F dX8_readWord_59 (Nat.le_of_ble_eq_true rfl) rfl ?_
            have st := fnQ_l (lg := lg) (s := (1, min n 6, v, q)) (tb := tb) (tl := tl) (i := j) (by omega) rfl (by omega)
            first
            | (refine go _ (by omega) (WdB_up g8 (by omega) (by omega) (by omega) (by omega)) ?_
               rw [g9, st, lnP, if_pos (show min n 6 < 6 by omega), show min (n + 1) 6 = min n 6 + 1 by omega, Int64.mul_comm])
            | (refine go _ (by omega) ?_ ?_
               · obtain ⟨z, y1, y2, y3, y4, y5, y6, y7, y8, y9⟩ := g8
                 exact ⟨z, y1, y2, by omega, by omega, by omega, by omega, by omega, by omega, fun _ => y9 (by omega)⟩
               · rw [g9, st, lnP, if_neg (show ¬ min n 6 < 6 by omega), show min (n + 1) 6 = min n 6 by omega])
  refine rr_lconst F dX8_readWord_0 ?_
  refine rr_lstore_n F dX8_readWord_1 (Nat.le_of_ble_eq_true rfl) rfl ?_
  refine rr_iconst F dX8_readWord_2 ?_
  refine rr_istore_n F dX8_readWord_3 (Nat.le_of_ble_eq_true rfl) rfl ?_
  refine loop _ i 0 _ I rfl (by omega) (by omega) (by omega) hat (fun _ _ => rfl) (fun _ _ => rfl) ⟨0, rfl, by omega, by omega, by omega, by omega, by omega, by omega, by omega, by omega⟩ rfl
set_option maxHeartbeats 4000000 in
set_option maxRecDepth 100000 in
theorem mm_X8_read {l : Launch} {g : gT} {b lg tl : Int} {tb : Int → Int} {I : IM} {L : LM} (hb0 : 0 ≤ b) (hb6 : b < 6) (hl0 : 0 ≤ lg) (hl : lg ≤ 1) (ht0 : 0 ≤ tl) (ht : tl ≤ 240) (hI : I 0 1 = tl) (hb : ∀ i, 0 ≤ i → i < tl → I 1 i = tb i) (hbr : ∀ i, 0 ≤ i → i < tl → 32 ≤ tb i ∧ tb i ≤ 126) (hw : L 7 0 = 339 ∧ L 7 1 = 8787 ∧ L 7 2 = 236 ∧ L 7 3 = 16633 ∧ L 7 4 = 7367) (hs : I 3 b = 0) :
    Ct l yX8_read cX8_read 7 none 3 65 lyM g [.ref (g.2.1 0), .int (zI b), .int (zI lg)] I L (pV (fun I' L' => TkS b (rdP lg tb tl).2.2.2 I' L' ∧ FrM b I L I' L')) := by
  refine Ct.of RX8 (by decide +kernel) rfl (Nat.le_of_ble_eq_true rfl) (fun x hx F => ?_)
  generalize hpost : (pV (fun (I' : IM) (L' : LM) => TkS b (rdP lg tb tl).2.2.2 I' L' ∧ FrM b I L I' L')) = post
  have loop : ∀ (c : Nat) (i : Int) (q : Int × (Int → Int64)) (I1 : IM) (L1 : LM), (tl - i).toNat ≤ c → 0 ≤ i → i ≤ tl → I1 0 12 = i → TkS b q I1 L1 → FrM b I L I1 L1 → fnQ lg tb tl i (0, 0, 0, q) = (rdP lg tb tl).2.2.2 → Rn x lyM g post 5 [vr g 0, vn b, vn lg, none, none, none, none] [] I1 L1 := by
    intro c
    induction c with
    | zero =>
      intro i q I1 L1 g1 g2 g3 g4 g5 g6 g7
      have el : I1 0 1 = tl := by rw [g6.2.1 1 (by omega) (by omega)]; exact hI
      have ei : i = tl := by omega
      have hq : q = (rdP lg tb tl).2.2.2 := by
        rw [← g7, fnQ, ei, show (tl - tl).toNat = 0 by omega, fdP, enP_0 _ _ rfl]
      refine rr_aload_n F dX8_read_5 rfl ?_
      refine rg_Model_at F (by first | rfl | assumption) fl_X8_95 dX8_read_6 ?_
      refine rr_aload_n F dX8_read_9 rfl ?_
      refine rg_Model_taped F (by first | rfl | assumption) fl_X8_92 dX8_read_10 ?_
      refine rr_icmp_ge F dX8_read_13 (tgt := 172) (by decide) ⟨by omega, by omega⟩ ⟨by omega, by omega⟩ (fun c_13 => ?_) (fun c_13 => ?_)
      · refine rr_vret F dX8_read_172 ?_
        rw [← hpost]
        exact ⟨rfl, by rw [← hq]; exact g5, g6⟩
      · exfalso
        omega
    | succ c ih =>
      intro i q I1 L1 g1 g2 g3 g4 g5 g6 g7
      have el : I1 0 1 = tl := by rw [g6.2.1 1 (by omega) (by omega)]; exact hI
      have eb : ∀ j, 0 ≤ j → j < tl → I1 1 j = tb j := fun j u v => by rw [g6.1 1 (by omega) (by omega)]; exact hb j u v
      have hw1 : L1 7 0 = 339 ∧ L1 7 1 = 8787 ∧ L1 7 2 = 236 ∧ L1 7 3 = 16633 ∧ L1 7 4 = 7367 := by rw [g6.2.2.2.1 7 (by omega)]; exact hw
      have vb := vlF_b (tb i)
      have next : ∀ (j : Int) (q2 : Int × (Int → Int64)) (I2 : IM) (L2 : LM) (w3 w4 : Int) (o5 : Option Value), i < j → j ≤ tl → I2 0 12 = j → TkS b q2 I2 L2 → FrM b I L I2 L2 → fnQ lg tb tl j (0, 0, 0, q2) = (rdP lg tb tl).2.2.2 → Rn x lyM g post 169 [vr g 0, vn b, vn lg, vn w3, vn w4, o5, none] [] I2 L2 := by
        intro j q2 I2 L2 w3 w4 o5 y1 y2 y3 y4 y5 y6
        refine rr_goto F dX8_read_169 (tgt := 5) (by decide) ?_
        refine rr_drop 3 ?_
        refine rr_drop 4 ?_
        refine rr_drop 5 ?_
        exact ih j q2 I2 L2 (by omega) (by omega) y2 y3 y4 y5 y6
      have word : i < tl → 1 ≤ vlF (tb i) → vlF (tb i) ≤ 26 → Rn x lyM g post 43 [vr g 0, vn b, vn lg, vn (tb i), vn (vlF (tb i)), none, none] [] I1 L1 := by
        intro z1 z2 z3
        rw [fnQ_w z1 z2 z3] at g7
        have fin : ∀ (I2 : IM) (v : Int64) (t : Int64), t = (if lg = 1 then (zI (cdF v)).toInt64 else v) → (I2 0 13 = I2 0 12 - i ∧ i < I2 0 12 ∧ I2 0 12 ≤ tl) → fnQ lg tb tl i (1, 0, 0, q) = fnQ lg tb tl (I2 0 12) (1, min (I2 0 13) 6, v, q) → (I2 0 12 < tl → vlF (tb (I2 0 12)) = 0) → FrM b I1 L1 I2 L1 → I2 3 = I1 3 → Rn x lyM g post 67 [vr g 0, vn b, vn lg, vn (tb i), vn (vlF (tb i)), vl v, none] [.long t, .int (zI b), .ref (g.2.1 0)] I2 L1 := by
          intro I2 v t y1 y2 y3 y4 y5 y6
          rw [fnQ_en y2.2.2 (fun z => Or.inl ⟨rfl, y4 z⟩), fnQ_z (en1 lg _ v q), ← y1] at y3
          refine rr_callVV F (ci := 8) (mm_X8_add (q := q) hb0 hb6 ⟨by rw [y6]; exact g5.1, g5.2⟩) mf_X8_add ml_X8_115 ⟨by decide, by decide⟩ (by first | rfl | assumption) (by decide) rfl rfl (Nat.le_of_ble_eq_true rfl) dX8_read_67 (fun I_67 L_67 h_67 => ?_)
          obtain ⟨p1, p2, p3⟩ := h_67
          refine rr_goto F dX8_read_70 (tgt := 169) (by decide) ?_
          exact next (I2 0 12) _ _ _ _ _ _ y2.2.1 y2.2.2 (by rw [p3]) p1 (g6.tr (y5.tr p2)) (by rw [← y3]; exact g7)
        refine rr_aload_n F dX8_read_43 rfl ?_
        refine rr_callVJ F (ci := 8) (mm_X8_readWord (b := b) (lg := lg) (q := q) ht0 ht el eb hbr g2 z1 g4 z2) mf_X8_readWord ml_X8_107 ⟨by decide, by decide⟩ (by first | rfl | assumption) (by decide) rfl rfl (Nat.le_of_ble_eq_true rfl) dX8_read_44 (fun r_44 I_44 L_44 h_44 => ?_)
        obtain ⟨y1, y2, y3, y4, y5, y6, y7⟩ := h_44
        subst y7
        refine rr_lstore F dX8_read_47 (Nat.le_of_ble_eq_true rfl) rfl ?_
        refine rr_aload_n F dX8_read_49 rfl ?_
        refine rr_iload_n F dX8_read_50 rfl ?_
        refine rr_iload_n F dX8_read_51 rfl ?_
        refine rr_if_ne F dX8_read_52 (tgt := 60) (by decide) ⟨by omega, by omega⟩ (fun c_52 => ?_) (fun c_52 => ?_)
        · refine rr_aload_n F dX8_read_60 rfl ?_
          refine rr_lload F dX8_read_61 rfl ?_
          refine rr_callVI F (ci := 8) (mm_X8_codeOf hw1 (n := I_44 0 13) (by omega) (by omega) rfl y2) mf_X8_codeOf ml_X8_111 ⟨by decide, by decide⟩ (by first | rfl | assumption) (by decide) rfl rfl (Nat.le_of_ble_eq_true rfl) dX8_read_63 (fun r_63 I_63 L_63 h_63 => ?_)
          obtain ⟨e63, rfl, rfl⟩ := h_63
          refine rr_i2l F dX8_read_66 ?_
          first | exact fin _ _ _ (by rw [if_neg (by omega)]) y1 y3 y4 y5 y6 | exact fin _ _ _ (by rw [if_pos (by omega), e63]) y1 y3 y4 y5 y6
        · refine rr_lload F dX8_read_55 rfl ?_
          refine rr_goto F dX8_read_57 (tgt := 67) (by decide) ?_
          first | exact fin _ _ _ (by rw [if_neg (by omega)]) y1 y3 y4 y5 y6 | exact fin _ _ _ (by rw [if_pos (by omega), e63]) y1 y3 y4 y5 y6
      have numb : i < tl → 26 < vlF (tb i) → ∀ (d : Nat) (j : Int) (I2 : IM), d = (tl - j).toNat → i ≤ j → j ≤ tl → I2 0 12 = j → (∀ q, q ≠ 0 → I2 q = I1 q) → (∀ k, k ≠ 12 → I2 0 k = I1 0 k) → fnQ lg tb tl j (2, 0, 0, q) = (rdP lg tb tl).2.2.2 → Rn x lyM g post 80 [vr g 0, vn b, vn lg, vn (tb i), vn (vlF (tb i)), none, none] [] I2 L1 := by
        intro z1 z2 d
        have ends : ∀ (j : Int) (I2 : IM), i < j → j ≤ tl → I2 0 12 = j → (∀ q, q ≠ 0 → I2 q = I1 q) → (∀ k, k ≠ 12 → I2 0 k = I1 0 k) → (j < tl → vlF (tb j) ≤ 26) → fnQ lg tb tl j (2, 0, 0, q) = (rdP lg tb tl).2.2.2 → Rn x lyM g post 121 [vr g 0, vn b, vn lg, vn (tb i), vn (vlF (tb i)), none, none] [] I2 L1 := by
          intro j I2 y1 y2 y3 y4 y5 y6 y7
          rw [fnQ_en y2 (fun z => Or.inr ⟨rfl, y6 z⟩), fnQ_z (en2 lg 0 0 q)] at y7
          have f2 : FrM b I1 L1 I2 L1 := ⟨fun q u v => y4 q u, fun k u v => y5 k u, fun k u => by rw [y4 3 (by omega)], fun _ _ => rfl, fun _ _ => rfl⟩
          have t2 : TkS b q I2 L1 := ⟨by rw [y4 3 (by omega)]; exact g5.1, g5.2⟩
          refine rr_iload_n F dX8_read_121 rfl ?_
          refine rr_iconst F dX8_read_122 ?_
          refine rr_icmp_ne F dX8_read_123 (tgt := 169) (by decide) ⟨by omega, by omega⟩ ⟨by omega, by omega⟩ (fun c_123 => ?_) (fun c_123 => ?_)
          · first
            | exact next j _ _ _ _ _ _ y1 y2 (by rw [p3]; exact y3) p1 (g6.tr (f2.tr p2)) (by rw [if_pos (by omega)] at y7; exact y7)
            | exact next j _ _ _ _ _ _ y1 y2 y3 t2 (g6.tr f2) (by rw [if_neg (by omega)] at y7; exact y7)
          · refine rr_aload_n F dX8_read_126 rfl ?_
            refine rr_iload_n F dX8_read_127 rfl ?_
            refine rr_ldc2 F dX8_read_128 co_X8_119 ?_
            refine rr_callVV F (ci := 8) (mm_X8_add (q := q) hb0 hb6 t2) mf_X8_add ml_X8_115 ⟨by decide, by decide⟩ (by first | rfl | assumption) (by decide) rfl rfl (Nat.le_of_ble_eq_true rfl) dX8_read_131 (fun I_131 L_131 h_131 => ?_)
            obtain ⟨p1, p2, p3⟩ := h_131
            refine rr_goto F dX8_read_134 (tgt := 169) (by decide) ?_
            first
            | exact next j _ _ _ _ _ _ y1 y2 (by rw [p3]; exact y3) p1 (g6.tr (f2.tr p2)) (by rw [if_pos (by omega)] at y7; exact y7)
            | exact next j _ _ _ _ _ _ y1 y2 y3 t2 (g6.tr f2) (by rw [if_neg (by omega)] at y7; exact y7)
        induction d with
        | zero =>
          intro j I2 y1 y2 y3 y4 y5 y6 y7
          have el2 : I2 0 1 = tl := by rw [y6 1 (by omega)]; exact el
          refine rr_aload_n F dX8_read_80 rfl ?_
          refine rg_Model_at F (by first | rfl | assumption) fl_X8_95 dX8_read_81 ?_
          refine rr_aload_n F dX8_read_84 rfl ?_
          refine rg_Model_taped F (by first | rfl | assumption) fl_X8_92 dX8_read_85 ?_
          refine rr_icmp_ge F dX8_read_88 (tgt := 121) (by decide) ⟨by omega, by omega⟩ ⟨by omega, by omega⟩ (fun c_88 => ?_) (fun c_88 => ?_)
          · exact ends j I2 (by omega) y3 y4 y5 y6 (fun z => absurd z (by omega)) y7
          · exfalso
            omega
        | succ d ihd =>
          intro j I2 y1 y2 y3 y4 y5 y6 y7
          have el2 : I2 0 1 = tl := by rw [y6 1 (by omega)]; exact el
          have eb2 : I2 1 j = tb j := by rw [y5 1 (by omega)]; exact eb j (by omega) (by omega)
          have br := hbr j (by omega) (by omega)
          have vb2 := vlF_b (tb j)
          refine rr_aload_n F dX8_read_80 rfl ?_
          refine rg_Model_at F (by first | rfl | assumption) fl_X8_95 dX8_read_81 ?_
          refine rr_aload_n F dX8_read_84 rfl ?_
          refine rg_Model_taped F (by first | rfl | assumption) fl_X8_92 dX8_read_85 ?_
          refine rr_icmp_ge F dX8_read_88 (tgt := 121) (by decide) ⟨by omega, by omega⟩ ⟨by omega, by omega⟩ (fun c_88 => ?_) (fun c_88 => ?_)
          · first
            | (exfalso; omega)
            | (have hji : j ≠ i := fun e => by rw [e] at c_105; omega
               exact ends j I2 (by omega) y3 y4 y5 y6 (fun _ => c_105) y7)
          · refine rr_aload_n F dX8_read_91 rfl ?_
            refine rg_Model_tape F (by first | rfl | assumption) fl_X8_7 dX8_read_92 ?_
            refine rr_cell (k2 := 1) rfl ?_
            refine rr_aload_n F dX8_read_95 rfl ?_
            refine rg_Model_at F (by first | rfl | assumption) fl_X8_95 dX8_read_96 ?_
            rw [y4]
            refine rr_iald F (N := 240) (by first | rfl | assumption) (by omega) (by first | rfl | assumption) (by omega) dX8_read_99 ?_
            rw [eb2]
            refine rr_callSI F (mm_X8_letter ⟨by omega, by omega⟩) mf_X8_letter ml_X8_98 ⟨by decide, by decide⟩ rfl (Nat.le_of_ble_eq_true rfl) dX8_read_100 (fun r_100 I_100 L_100 h_100 => ?_)
            obtain ⟨rfl, rfl, rfl⟩ := h_100
            refine rr_bipush F dX8_read_103 (by decide) ?_
            refine rr_icmp_le F dX8_read_105 (tgt := 121) (by decide) ⟨by omega, by omega⟩ ⟨by omega, by omega⟩ (fun c_105 => ?_) (fun c_105 => ?_)
            · first
              | (exfalso; omega)
              | (have hji : j ≠ i := fun e => by rw [e] at c_105; omega
                 exact ends j I2 (by omega) y3 y4 y5 y6 (fun _ => c_105) y7)
            · refine rr_aload_n F dX8_read_108 rfl ?_
              refine rr_dup F dX8_read_109 rfl ?_
              refine rg_Model_at F (by first | rfl | assumption) fl_X8_95 dX8_read_110 ?_
              rw [y4]
              refine rr_iconst F dX8_read_113 ?_
              refine rr_iadd F dX8_read_114 ?_
              refine rp_Model_at F (by first | rfl | assumption) fl_X8_95 dX8_read_115 ?_
              refine rr_goto F dX8_read_118 (tgt := 80) (by decide) ?_
              exact ihd (j + 1) _ (by omega) (by omega) (by omega) (up2_same _ _ _ _) (fun q u => by rw [up2_cell _ _ _ u]; exact y5 q u) (fun k u => by rw [up2_ne _ _ _ u]; exact y6 k u) (by rw [← fnQ_n2 (by omega) c_105]; exact y7)
      have sign : i < tl → vlF (tb i) = 0 → Rn x lyM g post 137 [vr g 0, vn b, vn lg, vn (tb i), vn (vlF (tb i)), none, none] [] I1 L1 := by
        intro z1 z2
        have br := hbr i g2 z1
        rw [fnQ_s z1 z2] at g7
        have t2 : TkS b q (up2 I1 0 12 (i + 1)) L1 := ⟨by rw [up2_cell _ _ _ (by omega)]; exact g5.1, g5.2⟩
        have f2 : FrM b I1 L1 (up2 I1 0 12 (i + 1)) L1 := ⟨fun q u v => by rw [up2_cell _ _ _ u], fun k u v => by rw [up2_ne _ _ _ u], fun k u => by rw [up2_cell _ _ _ (by omega)], fun _ _ => rfl, fun _ _ => rfl⟩
        have ev : (100 : Int64) + (zI (tb i)).toInt64 = (zI (100 + tb i)).toInt64 := by
          rw [i64_of ⟨by omega, by omega⟩, i64_of ⟨by omega, by omega⟩, show (100 : Int64) = Int64.ofInt 100 from rfl, ← Int64.ofInt_add]
        refine rr_aload_n F dX8_read_137 rfl ?_
        refine rr_dup F dX8_read_138 rfl ?_
        refine rg_Model_at F (by first | rfl | assumption) fl_X8_95 dX8_read_139 ?_
        rw [g4]
        refine rr_iconst F dX8_read_142 ?_
        refine rr_iadd F dX8_read_143 ?_
        refine rp_Model_at F (by first | rfl | assumption) fl_X8_95 dX8_read_144 ?_
        refine rr_iload_n F dX8_read_147 rfl ?_
        refine rr_iconst F dX8_read_148 ?_
        refine rr_icmp_ne F dX8_read_149 (tgt := 169) (by decide) ⟨by omega, by omega⟩ ⟨by omega, by omega⟩ (fun c_149 => ?_) (fun c_149 => ?_)
        · first
          | exact next (i + 1) _ _ _ _ _ _ (by omega) (by omega) (by rw [p3, up2_same]) p1 (g6.tr (f2.tr p2)) (by rw [if_pos (by omega)] at g7; exact g7)
          | exact next (i + 1) _ _ _ _ _ _ (by omega) (by omega) (up2_same _ _ _ _) t2 (g6.tr f2) (by rw [if_neg (by omega)] at g7; exact g7)
        · refine rr_iload_n F dX8_read_152 rfl ?_
          refine rr_bipush F dX8_read_153 (by decide) ?_
          refine rr_icmp_eq F dX8_read_155 (tgt := 169) (by decide) ⟨by omega, by omega⟩ ⟨by omega, by omega⟩ (fun c_155 => ?_) (fun c_155 => ?_)
          · first
            | exact next (i + 1) _ _ _ _ _ _ (by omega) (by omega) (by rw [p3, up2_same]) p1 (g6.tr (f2.tr p2)) (by rw [if_pos (by omega)] at g7; exact g7)
            | exact next (i + 1) _ _ _ _ _ _ (by omega) (by omega) (up2_same _ _ _ _) t2 (g6.tr f2) (by rw [if_neg (by omega)] at g7; exact g7)
          · refine rr_aload_n F dX8_read_158 rfl ?_
            refine rr_iload_n F dX8_read_159 rfl ?_
            refine rr_ldc2 F dX8_read_160 co_X8_121 ?_
            refine rr_iload_n F dX8_read_163 rfl ?_
            refine rr_i2l F dX8_read_164 ?_
            refine rr_ladd F dX8_read_165 ?_
            rw [ev]
            refine rr_callVV F (ci := 8) (mm_X8_add (q := q) hb0 hb6 t2) mf_X8_add ml_X8_115 ⟨by decide, by decide⟩ (by first | rfl | assumption) (by decide) rfl rfl (Nat.le_of_ble_eq_true rfl) dX8_read_166 (fun I_166 L_166 h_166 => ?_)
            obtain ⟨p1, p2, p3⟩ := h_166
            first
            | exact next (i + 1) _ _ _ _ _ _ (by omega) (by omega) (by rw [p3, up2_same]) p1 (g6.tr (f2.tr p2)) (by rw [if_pos (by omega)] at g7; exact g7)
            | exact next (i + 1) _ _ _ _ _ _ (by omega) (by omega) (up2_same _ _ _ _) t2 (g6.tr f2) (by rw [if_neg (by omega)] at g7; exact g7)
      refine rr_aload_n F dX8_read_5 rfl ?_
      refine rg_Model_at F (by first | rfl | assumption) fl_X8_95 dX8_read_6 ?_
      refine rr_aload_n F dX8_read_9 rfl ?_
      refine rg_Model_taped F (by first | rfl | assumption) fl_X8_92 dX8_read_10 ?_
      refine rr_icmp_ge F dX8_read_13 (tgt := 172) (by decide) ⟨by omega, by omega⟩ ⟨by omega, by omega⟩ (fun c_13 => ?_) (fun c_13 => ?_)
      · first
        | (have ei : i = tl := (by omega)
           have hq : q = (rdP lg tb tl).2.2.2 := (by rw [← g7, fnQ, ei, show (tl - tl).toNat = 0 by omega, fdP, enP_0 _ _ rfl])
           refine rr_vret F dX8_read_172 ?_
           rw [← hpost]
           exact ⟨rfl, by rw [← hq]; exact g5, g6⟩)
      · refine rr_aload_n F dX8_read_16 rfl ?_
        refine rg_Model_tape F (by first | rfl | assumption) fl_X8_7 dX8_read_17 ?_
        refine rr_cell (k2 := 1) rfl ?_
        refine rr_aload_n F dX8_read_20 rfl ?_
        refine rg_Model_at F (by first | rfl | assumption) fl_X8_95 dX8_read_21 ?_
        rw [g4]
        refine rr_iald F (N := 240) (by first | rfl | assumption) (by omega) (by first | rfl | assumption) (by omega) dX8_read_24 ?_
        rw [eb i g2 (by omega)]
        refine rr_istore_n F dX8_read_25 (Nat.le_of_ble_eq_true rfl) rfl ?_
        refine rr_iload_n F dX8_read_26 rfl ?_
        have br := hbr i g2 (by omega)
        refine rr_callSI F (mm_X8_letter ⟨by omega, by omega⟩) mf_X8_letter ml_X8_98 ⟨by decide, by decide⟩ rfl (Nat.le_of_ble_eq_true rfl) dX8_read_27 (fun r_27 I_27 L_27 h_27 => ?_)
        obtain ⟨rfl, rfl, rfl⟩ := h_27
        refine rr_istore F dX8_read_30 (Nat.le_of_ble_eq_true rfl) rfl ?_
        refine rr_iload F dX8_read_32 rfl ?_
        refine rr_iconst F dX8_read_34 ?_
        refine rr_bipush F dX8_read_35 (by decide) ?_
        refine rr_callSI F (mm_X8_in ⟨by omega, by omega⟩ ⟨by omega, by omega⟩ ⟨by omega, by omega⟩) mf_X8_in ml_X8_86 ⟨by decide, by decide⟩ rfl (Nat.le_of_ble_eq_true rfl) dX8_read_37 (fun r_37 I_37 L_37 h_37 => ?_)
        obtain ⟨e37, rfl, rfl⟩ := h_37
        refine rr_if_eq F dX8_read_40 (tgt := 73) (by decide) ⟨by omega, by omega⟩ (fun c_40 => ?_) (fun c_40 => ?_)
        · refine rr_iload F dX8_read_73 rfl ?_
          refine rr_bipush F dX8_read_75 (by decide) ?_
          refine rr_icmp_le F dX8_read_77 (tgt := 137) (by decide) ⟨by omega, by omega⟩ ⟨by omega, by omega⟩ (fun c_77 => ?_) (fun c_77 => ?_)
          · exact sign (by omega) (by omega)
          · exact numb (by omega) (by omega) _ i I1 rfl (by omega) (by omega) g4 (fun _ _ => rfl) (fun _ _ => rfl) (by rw [fnQ_n2 (by omega) c_77, ← fnQ_n (by omega) c_77]; exact g7)
        · exact word (by omega) (by omega) (by omega)
  refine rr_aload_n F dX8_read_0 rfl ?_
  refine rr_iconst F dX8_read_1 ?_
  refine rp_Model_at F (by first | rfl | assumption) fl_X8_95 dX8_read_2 ?_
  refine loop _ 0 (0, fun _ => 0) _ _ (Nat.le_refl _) (by omega) ht0 (up2_same _ _ _ _) ⟨by rw [up2_cell _ _ _ (by omega)]; exact hs, ⟨by show (0 : Int) ≤ 0; omega, by show (0 : Int) ≤ 40; omega⟩, fun i u v => absurd (show i < 0 from v) (by omega)⟩ ⟨fun q u v => by rw [up2_cell _ _ _ u], fun k u v => by rw [up2_ne _ _ _ u], fun k u => by rw [up2_cell _ _ _ (by omega)], fun _ _ => rfl, fun _ _ => rfl⟩ ?_
  rw [fnQ, show tl - 0 = tl by omega, rdP]
set_option maxHeartbeats 4000000 in
set_option maxRecDepth 100000 in
theorem mm_X8_book {l : Launch} {g : gT} {σ : sT} {b a d : Int} {I : IM} {L : LM} (hb : rg b) (ha : rg a) (hd : rg d) (hR : MR σ I L) (hW : WF σ) :
    Ct l yX8_book cX8_book 4 (some .int) 4 91 lyM g [.ref (g.2.1 0), .int (zI b), .int (zI a), .int (zI d)] I L (pS MR (sp_book σ b a d)) := by
  have w1 := hW.1
  have w2 := hW.2.1
  obtain ⟨h1, h2, h3, h4, h5, h6, h7, h8, h9⟩ := id hR
  refine Ct.of RX8 (by decide +kernel) rfl (Nat.le_of_ble_eq_true rfl) (fun x hx F => ?_)
  refine rr_iload_n F dX8_book_0 rfl ?_
  refine rr_callSI F (mm_X8_isNumber hb) mf_X8_isNumber ml_X8_123 ⟨by decide, by decide⟩ rfl (Nat.le_of_ble_eq_true rfl) dX8_book_1 (fun r_1 I_1 L_1 h_1 => ?_)
  obtain ⟨e1, rfl, rfl⟩ := h_1
  refine rr_if_eq F dX8_book_4 (tgt := 27) (by decide) ⟨by omega, by omega⟩ (fun c_4 => ?_) (fun c_4 => ?_)
  · refine rr_iconst F dX8_book_27 ?_
    refine rr_iret F dX8_book_28 ?_
    refine ⟨_, rfl, ?_⟩
    rw [sp_book, if_neg (by omega)]
    exact ⟨rfl, hR⟩
  · refine rr_iload_n F dX8_book_7 rfl ?_
    refine rr_iconst F dX8_book_8 ?_
    refine rr_iconst F dX8_book_9 ?_
    refine rr_callSI F (mm_X8_in ha ⟨by omega, by omega⟩ ⟨by omega, by omega⟩) mf_X8_in ml_X8_86 ⟨by decide, by decide⟩ rfl (Nat.le_of_ble_eq_true rfl) dX8_book_10 (fun r_10 I_10 L_10 h_10 => ?_)
    obtain ⟨e10, rfl, rfl⟩ := h_10
    refine rr_if_eq F dX8_book_13 (tgt := 27) (by decide) ⟨by omega, by omega⟩ (fun c_13 => ?_) (fun c_13 => ?_)
    · refine rr_iconst F dX8_book_27 ?_
      refine rr_iret F dX8_book_28 ?_
      refine ⟨_, rfl, ?_⟩
      rw [sp_book, if_neg (by omega)]
      exact ⟨rfl, hR⟩
    · refine rr_iload_n F dX8_book_16 rfl ?_
      refine rr_iconst F dX8_book_17 ?_
      refine rr_sipush F dX8_book_18 (by decide) ?_
      refine rr_callSI F (mm_X8_in hd ⟨by omega, by omega⟩ ⟨by omega, by omega⟩) mf_X8_in ml_X8_86 ⟨by decide, by decide⟩ rfl (Nat.le_of_ble_eq_true rfl) dX8_book_21 (fun r_21 I_21 L_21 h_21 => ?_)
      obtain ⟨e21, rfl, rfl⟩ := h_21
      refine rr_if_ne F dX8_book_24 (tgt := 29) (by decide) ⟨by omega, by omega⟩ (fun c_24 => ?_) (fun c_24 => ?_)
      · refine rr_aload_n F dX8_book_29 rfl ?_
        refine rg_Model_is F (by first | rfl | assumption) fl_X8_13 dX8_book_30 ?_
        refine rr_cell (k2 := 2) rfl ?_
        refine rr_iload_n F dX8_book_33 rfl ?_
        refine rr_iconst F dX8_book_34 ?_
        refine rr_zast F (N := 6) (by first | rfl | assumption) (by omega) (by first | rfl | assumption) (by omega) (by decide) dX8_book_35 ?_
        refine rr_aload_n F dX8_book_36 rfl ?_
        refine rg_Model_sizes F (by first | rfl | assumption) fl_X8_17 dX8_book_37 ?_
        refine rr_cell (k2 := 3) rfl ?_
        refine rr_iload_n F dX8_book_40 rfl ?_
        refine rr_iconst F dX8_book_41 ?_
        refine rr_iast F (N := 6) (by first | rfl | assumption) (by omega) (by first | rfl | assumption) (by omega) dX8_book_42 ?_
        refine rr_aload_n F dX8_book_43 rfl ?_
        refine rg_Model_languages F (by first | rfl | assumption) fl_X8_20 dX8_book_44 ?_
        refine rr_cell (k2 := 4) rfl ?_
        refine rr_iload_n F dX8_book_47 rfl ?_
        refine rr_iload_n F dX8_book_48 rfl ?_
        refine rr_iast F (N := 6) (by first | rfl | assumption) (by omega) (by first | rfl | assumption) (by omega) dX8_book_49 ?_
        refine rr_aload_n F dX8_book_50 rfl ?_
        refine rg_Model_days F (by first | rfl | assumption) fl_X8_23 dX8_book_51 ?_
        refine rr_cell (k2 := 5) rfl ?_
        refine rr_iload_n F dX8_book_54 rfl ?_
        refine rr_iload_n F dX8_book_55 rfl ?_
        refine rr_iast F (N := 6) (by first | rfl | assumption) (by omega) (by first | rfl | assumption) (by omega) dX8_book_56 ?_
        generalize eI : (up2 (up2 (up2 (up2 I 2 b 1) 3 b 0) 4 b a) 5 b d) = I0
        have c2 : ∀ c, I0 2 c = if c = b then 1 else I 2 c := fun c => by rw [← eI, up2_cell _ _ _ (by decide), up2_cell _ _ _ (by decide), up2_cell _ _ _ (by decide)]; simp [up2]
        have c3 : ∀ c, I0 3 c = if c = b then 0 else I 3 c := fun c => by rw [← eI, up2_cell _ _ _ (by decide), up2_cell _ _ _ (by decide)]; simp [up2]
        have c4 : ∀ c, I0 4 c = if c = b then a else I 4 c := fun c => by rw [← eI, up2_cell _ _ _ (by decide)]; simp [up2]
        have c5 : ∀ c, I0 5 c = if c = b then d else I 5 c := fun c => by rw [← eI]; simp [up2]
        have c0 : ∀ q, q ≠ 2 → q ≠ 3 → q ≠ 4 → q ≠ 5 → I0 q = I q := fun q y2 y3 y4 y5 => by rw [← eI, up2_cell _ _ _ y5, up2_cell _ _ _ y4, up2_cell _ _ _ y3, up2_cell _ _ _ y2]
        refine rr_aload_n F dX8_book_57 rfl ?_
        refine rr_iload_n F dX8_book_58 rfl ?_
        refine rr_iload_n F dX8_book_59 rfl ?_
        refine rr_callVV F (ci := 8) (mm_X8_read (tb := s_tb σ) (tl := s_tl σ) (by omega) (by omega) (by omega) (by omega) w1.1 w1.2 (by rw [c0 0 (by omega) (by omega) (by omega) (by omega)]; exact h1) (fun i u v => by rw [c0 1 (by omega) (by omega) (by omega) (by omega)]; exact h2 i u v) w2 h9 (by rw [c3, if_pos rfl])) mf_X8_read ml_X8_127 ⟨by decide, by decide⟩ (by first | rfl | assumption) (by decide) rfl rfl (Nat.le_of_ble_eq_true rfl) dX8_book_60 (fun I_60 L_60 h_60 => ?_)
        obtain ⟨⟨r1, r2, r3⟩, f1, f2, f3, f4, f5⟩ := h_60
        refine rr_aload_n F dX8_book_63 rfl ?_
        refine rr_iconst F dX8_book_64 ?_
        refine rp_Model_taped F (by first | rfl | assumption) fl_X8_92 dX8_book_65 ?_
        refine rr_aload_n F dX8_book_68 rfl ?_
        refine rg_Model_sizes F (by first | rfl | assumption) fl_X8_17 dX8_book_69 ?_
        refine rr_cell (k2 := 3) rfl ?_
        refine rr_iload_n F dX8_book_72 rfl ?_
        refine rr_iald F (N := 6) (by first | rfl | assumption) (by omega) (by first | rfl | assumption) (by omega) dX8_book_73 ?_
        refine rr_iret F dX8_book_74 ?_
        refine ⟨_, rfl, ?_⟩
        rw [sp_book, if_pos (by omega)]
        have u0 : ∀ q, q ≠ 0 → up2 I_60 0 1 0 q = I_60 q := fun q y => up2_cell _ _ _ y
        have uj : ∀ j, j ≠ 1 → j ≠ 12 → j ≠ 13 → up2 I_60 0 1 0 0 j = I 0 j := fun j y1 y2 y3 => by rw [up2_ne _ _ _ y1, f2 j y2 y3, c0 0 (by omega) (by omega) (by omega) (by omega)]
        refine ⟨by rw [u0 3 (by omega)]; exact r1, up2_same _ _ _ _, fun i u v => absurd (show i < 0 from v) (by omega), fun c u v => ?_, by rw [uj 11 (by omega) (by omega) (by omega)]; exact h4, by rw [uj 7 (by omega) (by omega) (by omega)]; exact h5, by rw [uj 8 (by omega) (by omega) (by omega)]; exact h6, by rw [uj 9 (by omega) (by omega) (by omega)]; exact h7, by rw [uj 10 (by omega) (by omega) (by omega)]; exact h8, by rw [f4 7 (by omega)]; exact h9⟩
        rw [u0 2 (by omega), u0 3 (by omega), u0 4 (by omega), u0 5 (by omega), f1 2 (by omega) (by omega), f1 4 (by omega) (by omega), f1 5 (by omega) (by omega), c2, c4, c5]
        show _ = u1 (s_hd σ) b 1 c ∧ _ = u1 (s_sz σ) b _ c ∧ _ = u1 (s_lg σ) b a c ∧ _ = u1 (s_dy σ) b d c ∧ ∀ i, 0 ≤ i → i < u1 (s_sz σ) b _ c → _ = u1 (s_tk σ) b _ c i
        by_cases z : c = b
        · subst z
          rw [u1_same, u1_same, u1_same, u1_same, u1_same, if_pos rfl, if_pos rfl, if_pos rfl]
          exact ⟨rfl, r1, rfl, rfl, r3⟩
        · obtain ⟨y1, y2, y3, y4, y5⟩ := h3 c u v
          have wc := hW.2.2.2.1 c
          rw [u1_ne _ _ z, u1_ne _ _ z, u1_ne _ _ z, u1_ne _ _ z, u1_ne _ _ z, if_neg z, if_neg z, if_neg z, f3 c z, c3, if_neg z]
          exact ⟨y1, y2, y3, y4, fun i p q => by rw [f5 _ (by omega)]; exact y5 i p q⟩
      · refine rr_iconst F dX8_book_27 ?_
        refine rr_iret F dX8_book_28 ?_
        refine ⟨_, rfl, ?_⟩
        rw [sp_book, if_neg (by omega)]
        exact ⟨rfl, hR⟩
