/-! a book laid open -/
noncomputable def aF (σ : sT) (c i : Int) : Int := bi (0 ≤ s_gv σ ∧ s_gv σ ≠ c ∧ s_lg σ c = s_lg σ (s_gv σ) ∧ AsP (s_tk σ c) (s_sz σ c) (s_tk σ (s_gv σ)) (s_sz σ (s_gv σ)) (s_w σ + s_k σ - 1) i)
noncomputable def mF (σ : sT) (c j : Int) : Int := mkF (s_tk σ c) (s_sz σ c) (s_k σ) (s_w σ) j
/-- page k holds these tokens, their hashes and marks, and what is set aside -/
def PgS (k : Nat) (I : IM) (L : LM) (T : Int → Int64) (n lg m w : Int) (as : Int → Int) : Prop := I k 5 = n ∧ I k 6 = lg ∧ I k 7 = grm n m ∧ (∀ i, 0 ≤ i → i < n → L (k + 1) i = T i) ∧ (∀ i, 0 ≤ i → i < grm n m → I (k + 2) i = hsh T m i) ∧ (∀ i, 0 ≤ i → i < grm n m → I (k + 3) i = mkF T n m w i) ∧ (∀ i, 0 ≤ i → i < n → I (k + 4) i = as i)
theorem PgS.fr {k : Nat} {I I' : IM} {L L' : LM} {T : Int → Int64} {n lg m w : Int} {as : Int → Int} (h : PgS k I L T n lg m w as) (h0 : I' k = I k) (h1 : L' (k + 1) = L (k + 1)) (h2 : I' (k + 2) = I (k + 2)) (h3 : I' (k + 3) = I (k + 3)) (h4 : I' (k + 4) = I (k + 4)) : PgS k I' L' T n lg m w as := by
  unfold PgS at *
  rw [h0, h1, h2, h3, h4]
  exact h
theorem PgS.as {k : Nat} {I I' : IM} {L L' : LM} {T : Int → Int64} {n lg m w : Int} {as as' : Int → Int} (h : PgS k I L T n lg m w as) (h0 : I' k = I k) (h1 : L' (k + 1) = L (k + 1)) (h2 : I' (k + 2) = I (k + 2)) (h3 : I' (k + 3) = I (k + 3)) (h4 : ∀ i, 0 ≤ i → i < n → I' (k + 4) i = as' i) : PgS k I' L' T n lg m w as' := by
  unfold PgS at *
  rw [h0, h1, h2, h3]
  exact ⟨h.1, h.2.1, h.2.2.1, h.2.2.2.1, h.2.2.2.2.1, h.2.2.2.2.2.1, h4⟩
theorem grm_b {n m : Int} (h0 : 0 ≤ n) (h : n ≤ 40) (hm : 2 ≤ m) : 0 ≤ grm n m ∧ grm n m ≤ 40 ∧ grm n m ≤ n := by unfold grm; omega
set_option maxHeartbeats 4000000 in
set_option maxRecDepth 100000 in
theorem mm_X1_layWithMarks {l : Launch} {g : gT} {σ : sT} {k : Nat} {b t : Int} {I : IM} {L : LM} {T : Int → Int64} (hk : isP k) (hR : CR σ I L) (hW : WF σ) (hb0 : 0 ≤ b) (hb : b < 6) (hh : s_hd σ b = 1) (ht0 : 0 ≤ t) (ht : t ≤ 40) (hT : ∀ i, 0 ≤ i → i < s_sz σ b → s_tk σ b ((i + t) % s_sz σ b) = T i) :
    Ct l yX1_layWithMarks cX1_layWithMarks 4 none 2 49 lyC g [.ref (g.2.1 k), .ref (g.2.1 4), .int (zI b), .int (zI t)] I L (pV (fun I' L' => PgS k I' L' T (s_sz σ b) (s_lg σ b) (s_k σ) (s_w σ) (fun _ => 0) ∧ (∀ q, q < k ∨ k + 4 < q → I' q = I q ∧ L' q = L q))) := by
  obtain ⟨q1, q2, q3, q4, q5, q6, q7, q8, q9, q10, q11⟩ := hk.f
  obtain ⟨h1, h2, h3, h4, h5, h6, h7, h8⟩ := id hR
  obtain ⟨e1, e2⟩ := h3 b hb0 hb
  obtain ⟨e2, e3, e4, e5⟩ := e2 hh
  have w4 := hW.2.2.2.1 b
  have w7 := hW.2.2.2.2.2.2.1
  have w8 := hW.2.2.2.2.2.2.2.1
  have hB := bk_isB hb0 hb
  obtain ⟨p1, p2, p3⟩ := hB.f
  have h18 : 22 ≤ k := by rcases hk with rfl | rfl | rfl <;> decide
  have hbk : bk b < 18 := by unfold bk; omega
  refine Ct.of RX1 (by decide +kernel) rfl (Nat.le_of_ble_eq_true rfl) (fun x hx F => ?_)
  refine rr_aload_n F dX1_layWithMarks_0 rfl ?_
  refine rr_aload_n F dX1_layWithMarks_1 rfl ?_
  refine rg_Shelf_books F (by first | rfl | assumption) fl_X1_57 dX1_layWithMarks_2 ?_
  refine rr_cell (k2 := 5) rfl ?_
  refine rr_iload_n F dX1_layWithMarks_5 rfl ?_
  refine rr_aald F (N := 6) (by first | rfl | assumption) (by omega) (by first | rfl | assumption) (by omega) dX1_layWithMarks_6 ?_
  refine rr_bk ?_
  refine rr_iload_n F dX1_layWithMarks_7 rfl ?_
  refine rr_callVV F (ci := 3) (mm_X3_lay hk hB (n := s_sz σ b) (by omega) (by omega) ht0 ht e2) mf_X3_lay ml_X1_61 ⟨by decide, by decide⟩ (by first | rfl | assumption) (by decide) rfl rfl (Nat.le_of_ble_eq_true rfl) dX1_layWithMarks_8 (fun I_8 L_8 h_8 => ?_)
  obtain ⟨l1, l2, l3, l4, l5, l6⟩ := h_8
  have l3' : ∀ i, 0 ≤ i → i < s_sz σ b → L_8 (k + 1) i = T i := fun i a c => by
    have m1 := Int.emod_nonneg (i + t) (show s_sz σ b ≠ 0 by omega)
    have m2 := Int.emod_lt_of_pos (i + t) (show 0 < s_sz σ b by omega)
    rw [l3 i a c, e5 _ m1 m2, hT i a c]
  have e42 : I_8 4 2 = s_k σ := by rw [l5 4 (by omega) (by omega)]; exact h5
  have e43 : I_8 4 3 = s_w σ := by rw [l5 4 (by omega) (by omega)]; exact h6
  refine rr_aload_n F dX1_layWithMarks_11 rfl ?_
  refine rr_aload_n F dX1_layWithMarks_12 rfl ?_
  refine rg_Shelf_gramLength F (by first | rfl | assumption) fl_X1_91 dX1_layWithMarks_13 ?_
  refine rr_aload_n F dX1_layWithMarks_16 rfl ?_
  refine rg_Shelf_windowLength F (by first | rfl | assumption) fl_X1_98 dX1_layWithMarks_17 ?_
  rw [e42, e43]
  refine rr_callVV F (ci := 3) (mm_X3_findMarks hk (T := T) (n := s_sz σ b) (by omega) (by omega) (by omega) (by omega) (by omega) (by omega) l1 l3') mf_X3_findMarks ml_X1_101 ⟨by decide, by decide⟩ (by first | rfl | assumption) (by decide) rfl rfl (Nat.le_of_ble_eq_true rfl) dX1_layWithMarks_20 (fun I_20 L_20 h_20 => ?_)
  obtain ⟨f1, f2, f3, f4, f5, rfl⟩ := h_20
  refine rr_vret F dX1_layWithMarks_23 ?_
  refine ⟨rfl, ⟨?_, ?_, f1, l3', f3, f4, fun i a c => ?_⟩, fun q hq => ⟨?_, ?_⟩⟩
  · rw [f2 5 (by omega)]; exact l1
  · rw [f2 6 (by omega), l2, e3]
  · rw [f5 _ (by omega) (by omega) (by omega)]; exact l4 i a c
  · rw [f5 q (by omega) (by omega) (by omega), l5 q (by omega) (by omega)]
  · rw [l6 q (by omega)]
set_option maxHeartbeats 4000000 in
set_option maxRecDepth 100000 in
theorem mm_X1_asideLength {l : Launch} {g : gT} {σ : sT} {I : IM} {L : LM} (hR : CR σ I L) :
    Ct l yX1_asideLength cX1_asideLength 1 (some .int) 0 0 lyC g [.ref (g.2.1 4)] I L (pI (fun r I' L' => r = s_w σ + s_k σ - 1 ∧ I = I' ∧ L = L')) := by
  obtain ⟨h1, h2, h3, h4, h5, h6, h7, h8⟩ := id hR
  refine Ct.of RX1 (by decide +kernel) rfl (Nat.le_of_ble_eq_true rfl) (fun x hx F => ?_)
  refine rr_aload_n F dX1_asideLength_0 rfl ?_
  refine rg_Shelf_windowLength F (by first | rfl | assumption) fl_X1_98 dX1_asideLength_1 ?_
  refine rr_aload_n F dX1_asideLength_4 rfl ?_
  refine rg_Shelf_gramLength F (by first | rfl | assumption) fl_X1_91 dX1_asideLength_5 ?_
  refine rr_iadd F dX1_asideLength_8 ?_
  refine rr_iconst F dX1_asideLength_9 ?_
  refine rr_isub F dX1_asideLength_10 ?_
  refine rr_iret F dX1_asideLength_11 ?_
  exact ⟨_, rfl, by rw [h5, h6], rfl, rfl⟩
theorem fr_kC {k : Nat} {I I' : IM} {L L' : LM} (hk : 22 ≤ k ∧ k ≤ 34) (h : ∀ q, q < k ∨ k + 4 < q → I' q = I q ∧ L' q = L q) : kC I L I' L' := fun q hq => h q (by omega)
set_option maxHeartbeats 4000000 in
set_option maxRecDepth 100000 in
theorem mm_X1_pageOf {l : Launch} {g : gT} {σ : sT} {b : Int} {I : IM} {L : LM} (hR : CR σ I L) (hW : WF σ) (hb0 : 0 ≤ b) (hb : b < 6) (hh : s_hd σ b = 1) :
    Ct l yX1_pageOf cX1_pageOf 3 (some (.object "BorrowedPages$Page")) 3 72 lyC g [.ref (g.2.1 18), .ref (g.2.1 4), .int (zI b)] I L (pR g (fun r I' L' => r = 22 ∧ PgS 22 I' L' (s_tk σ b) (s_sz σ b) (s_lg σ b) (s_k σ) (s_w σ) (aF σ b) ∧ kC I L I' L')) := by
  have P22 : isP 22 := Or.inl rfl
  have P34 : isP 34 := Or.inr (Or.inr rfl)
  have w4 := hW.2.2.2.1
  have w5 := hW.2.2.2.2.1
  have w7 := hW.2.2.2.2.2.2.1
  have w8 := hW.2.2.2.2.2.2.2.1
  have w11 := hW.2.2.2.2.2.2.2.2.2.2.1
  have w12 := hW.2.2.2.2.2.2.2.2.2.2.2
  refine Ct.of RX1 (by decide +kernel) rfl (Nat.le_of_ble_eq_true rfl) (fun x hx F => ?_)
  refine rr_aload_n F dX1_pageOf_0 rfl ?_
  refine rg_Comparison_left F (by first | rfl | assumption) fl_X1_28 dX1_pageOf_1 ?_
  refine rr_cell (k2 := 22) rfl ?_
  refine rr_aload_n F dX1_pageOf_4 rfl ?_
  refine rr_iload_n F dX1_pageOf_5 rfl ?_
  refine rr_iconst F dX1_pageOf_6 ?_
  refine rr_callSV F (mm_X1_layWithMarks P22 hR hW hb0 hb hh (by omega) (by omega) (T := s_tk σ b) (fun i a c => by rw [show i + 0 = i by omega, Int.emod_eq_of_lt a c])) mf_X1_layWithMarks ml_X1_44 ⟨by decide, by decide⟩ rfl (Nat.le_of_ble_eq_true rfl) dX1_pageOf_7 (fun I_7 L_7 h_7 => ?_)
  obtain ⟨g1, g2⟩ := h_7
  have k1 : kC I L I_7 L_7 := fr_kC (by omega) g2
  have R1 := hR.k k1
  have eg := R1.2.2.2.1
  refine rr_aload_n F dX1_pageOf_10 rfl ?_
  refine rr_aload_n F dX1_pageOf_11 rfl ?_
  refine rg_Shelf_givenNumber F (by first | rfl | assumption) fl_X1_48 dX1_pageOf_12 ?_
  rw [eg]
  refine rr_callVI F (ci := 5) (mm_X5_holds (σ := σ) ⟨by omega, by omega⟩ R1 hW) mf_X5_holds ml_X1_53 ⟨by decide, by decide⟩ (by first | rfl | assumption) (by decide) rfl rfl (Nat.le_of_ble_eq_true rfl) dX1_pageOf_15 (fun r_15 I_15 L_15 h_15 => ?_)
  obtain ⟨e15, rfl, rfl⟩ := h_15
  refine rr_if_eq F dX1_pageOf_18 (tgt := 61) (by decide) ⟨by omega, by omega⟩ (fun c_18 => ?_) (fun c_18 => ?_)
  · refine rr_aload_n F dX1_pageOf_61 rfl ?_
    refine rg_Comparison_left F (by first | rfl | assumption) fl_X1_28 dX1_pageOf_62 ?_
    refine rr_cell (k2 := 22) rfl ?_
    refine rr_aret F dX1_pageOf_65 ?_
    first
    | (refine ⟨22, rfl, rfl, g1'.as (s2 22 (by omega) (by omega)) rfl (s2 24 (by omega) (by omega)) (s2 25 (by omega) (by omega)) (fun i a c => ?_), k1.tr (k2.tr (fun q hq => ⟨s2 q (by omega) (by omega), rfl⟩))⟩
       rw [s1 i a c, aF, g1'.2.1, l2, eb3]
       exact bi_congr ⟨fun z => ⟨by omega, by omega, z.1, z.2⟩, fun z => z.2.2⟩)
    | (refine ⟨22, rfl, rfl, g1.as rfl rfl rfl rfl (fun i a c => ?_), k1⟩
       rw [g1.2.2.2.2.2.2 i a c, aF, bi_neg]
       intro z
       have z1 := z.1
       have z2 := z.2.1
       have z3 := w12 z1
       omega)
  · refine rr_aload_n F dX1_pageOf_21 rfl ?_
    refine rg_Shelf_givenNumber F (by first | rfl | assumption) fl_X1_48 dX1_pageOf_22 ?_
    refine rr_iload_n F dX1_pageOf_25 rfl ?_
    rw [eg]
    refine rr_icmp_eq F dX1_pageOf_26 (tgt := 61) (by decide) ⟨by omega, by omega⟩ ⟨by omega, by omega⟩ (fun c_26 => ?_) (fun c_26 => ?_)
    · refine rr_aload_n F dX1_pageOf_61 rfl ?_
      refine rg_Comparison_left F (by first | rfl | assumption) fl_X1_28 dX1_pageOf_62 ?_
      refine rr_cell (k2 := 22) rfl ?_
      refine rr_aret F dX1_pageOf_65 ?_
      first
      | (refine ⟨22, rfl, rfl, g1'.as (s2 22 (by omega) (by omega)) rfl (s2 24 (by omega) (by omega)) (s2 25 (by omega) (by omega)) (fun i a c => ?_), k1.tr (k2.tr (fun q hq => ⟨s2 q (by omega) (by omega), rfl⟩))⟩
         rw [s1 i a c, aF, g1'.2.1, l2, eb3]
         exact bi_congr ⟨fun z => ⟨by omega, by omega, z.1, z.2⟩, fun z => z.2.2⟩)
      | (refine ⟨22, rfl, rfl, g1.as rfl rfl rfl rfl (fun i a c => ?_), k1⟩
         rw [g1.2.2.2.2.2.2 i a c, aF, bi_neg]
         intro z
         have z1 := z.1
         have z2 := z.2.1
         have z3 := w12 z1
         omega)
    · refine rr_aload_n F dX1_pageOf_29 rfl ?_
      refine rg_Comparison_third F (by first | rfl | assumption) fl_X1_35 dX1_pageOf_30 ?_
      refine rr_cell (k2 := 34) rfl ?_
      refine rr_aload_n F dX1_pageOf_33 rfl ?_
      refine rg_Shelf_books F (by first | rfl | assumption) fl_X1_57 dX1_pageOf_34 ?_
      refine rr_cell (k2 := 5) rfl ?_
      refine rr_aload_n F dX1_pageOf_37 rfl ?_
      refine rg_Shelf_givenNumber F (by first | rfl | assumption) fl_X1_48 dX1_pageOf_38 ?_
      rw [eg]
      have w4b := w4 b
      have w4g := w4 (s_gv σ)
      have hB := bk_isB (b := s_gv σ) (by omega) (by omega)
      obtain ⟨eb1, eb2⟩ := R1.2.2.1 (s_gv σ) (by omega) (by omega)
      obtain ⟨eb2, eb3, eb4, eb5⟩ := eb2 (by omega)
      refine rr_aald F (N := 6) (by first | rfl | assumption) (by omega) (by first | rfl | assumption) (by omega) dX1_pageOf_41 ?_
      refine rr_bk ?_
      refine rr_iconst F dX1_pageOf_42 ?_
      refine rr_callVV F (ci := 3) (mm_X3_lay P34 hB (n := s_sz σ (s_gv σ)) (by omega) (by omega) (by omega) (by omega) eb2) mf_X3_lay ml_X1_61 ⟨by decide, by decide⟩ (by first | rfl | assumption) (by decide) rfl rfl (Nat.le_of_ble_eq_true rfl) dX1_pageOf_43 (fun I_43 L_43 h_43 => ?_)
      obtain ⟨l1, l2, l3, l4, l5, l6⟩ := h_43
      have k2 : kC I_7 L_7 I_43 L_43 := fun q hq => ⟨l5 q (by omega) (by omega), l6 q (by omega)⟩
      have R2 := R1.k k2
      refine rr_aload_n F dX1_pageOf_46 rfl ?_
      refine rg_Comparison_left F (by first | rfl | assumption) fl_X1_28 dX1_pageOf_47 ?_
      refine rr_cell (k2 := 22) rfl ?_
      refine rr_aload_n F dX1_pageOf_50 rfl ?_
      refine rg_Comparison_third F (by first | rfl | assumption) fl_X1_35 dX1_pageOf_51 ?_
      refine rr_cell (k2 := 34) rfl ?_
      refine rr_aload_n F dX1_pageOf_54 rfl ?_
      refine rr_callSI F (mm_X1_asideLength R2) mf_X1_asideLength ml_X1_65 ⟨by decide, by decide⟩ rfl (Nat.le_of_ble_eq_true rfl) dX1_pageOf_55 (fun r_55 I_55 L_55 h_55 => ?_)
      obtain ⟨rfl, rfl, rfl⟩ := h_55
      have g1' : PgS 22 I_43 L_43 (s_tk σ b) (s_sz σ b) (s_lg σ b) (s_k σ) (s_w σ) (fun _ => 0) := g1.fr (l5 22 (by omega) (by omega)) (l6 23 (by omega)) (l5 24 (by omega) (by omega)) (l5 25 (by omega) (by omega)) (l5 26 (by omega) (by omega))
      have wl1 := w5 b
      have wl2 := w5 (s_gv σ)
      refine rr_callVV F (ci := 3) (mm_X3_setAside P22 P34 (by decide) (n := s_sz σ b) (m := s_sz σ (s_gv σ)) (T := s_tk σ b) (G := s_tk σ (s_gv σ)) (by omega) (by omega) (by omega) (by omega) (by omega) (by omega) g1'.1 l1 (by rw [g1'.2.1]; exact ⟨by omega, by omega⟩) (by rw [l2, eb3]; exact ⟨by omega, by omega⟩) g1'.2.2.2.1 (fun j a c => by rw [l3 j a c, show j + 0 = j by omega, Int.emod_eq_of_lt a c]; exact eb5 j a c) g1'.2.2.2.2.2.2) mf_X3_setAside ml_X1_69 ⟨by decide, by decide⟩ (by first | rfl | assumption) (by decide) rfl rfl (Nat.le_of_ble_eq_true rfl) dX1_pageOf_58 (fun I_58 L_58 h_58 => ?_)
      obtain ⟨s1, s2, rfl⟩ := h_58
      refine rr_aload_n F dX1_pageOf_61 rfl ?_
      refine rg_Comparison_left F (by first | rfl | assumption) fl_X1_28 dX1_pageOf_62 ?_
      refine rr_cell (k2 := 22) rfl ?_
      refine rr_aret F dX1_pageOf_65 ?_
      first
      | (refine ⟨22, rfl, rfl, g1'.as (s2 22 (by omega) (by omega)) rfl (s2 24 (by omega) (by omega)) (s2 25 (by omega) (by omega)) (fun i a c => ?_), k1.tr (k2.tr (fun q hq => ⟨s2 q (by omega) (by omega), rfl⟩))⟩
         rw [s1 i a c, aF, g1'.2.1, l2, eb3]
         exact bi_congr ⟨fun z => ⟨by omega, by omega, z.1, z.2⟩, fun z => z.2.2⟩)
      | (refine ⟨22, rfl, rfl, g1.as rfl rfl rfl rfl (fun i a c => ?_), k1⟩
         rw [g1.2.2.2.2.2.2 i a c, aF, bi_neg]
         intro z
         have z1 := z.1
         have z2 := z.2.1
         have z3 := w12 z1
         omega)
