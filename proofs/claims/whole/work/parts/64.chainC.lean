/-! the class: the best chain -/
/-- the trace of the chain, with the cells ahead of (i, j) gone through -/
def TrS (σ : sT) (a b i j : Int) (I : IM) (wt fi fj nm : Int) : Prop := nm = (preR (rln σ a b) (s_sz σ b) i j).length ∧ (0 ≤ wt ∧ wt ≤ 40) ∧ (0 ≤ fi ∧ fi ≤ 40) ∧ (0 ≤ fj ∧ fj ≤ 40) ∧ ∃ (Cp Cr : List Int), chL σ a b = Cp ++ Cr ∧ I 18 1 = Cp.length ∧ I 18 2 = covF (runsL σ a b) Cp ∧ (∀ (t : Nat) (v : Int), Cp[t]? = some v → I 19 t = v) ∧ (Cp.length : Int) ≤ fi ∧ ((wt = 0 ∧ Cr = []) ∨ (0 < wt ∧ wt = sB σ a b fi fj ∧ nm ≤ nxF σ a b fi fj ∧ ∃ c : Nat, Cr = chQ σ a b c (nxF σ a b fi fj) ∧ QvP σ a b (nxF σ a b fi fj) fi c))
/-- what the trace leaves -/
def ChS (σ : sT) (a b : Int) (I : IM) : Prop := I 18 1 = (chL σ a b).length ∧ I 18 2 = covF (runsL σ a b) (chL σ a b) ∧ ((chL σ a b).length : Int) ≤ 40 ∧ ∀ (t : Nat) (v : Int), (chL σ a b)[t]? = some v → I 19 t = v
theorem TrS_end {σ : sT} {a b wt fi fj nm : Int} {I : IM} (h : TrS σ a b (s_sz σ a) 0 I wt fi fj nm) : ChS σ a b I := by
  obtain ⟨h1, h2, h3, h4, Cp, Cr, e1, e2, e3, e4, e5, e6⟩ := h
  have hr : Cr = [] := by
    rcases e6 with z | ⟨z1, z2, z3, c, z4, z5⟩
    · exact z.2
    · rcases z5 with y | ⟨k, x, y1, y2, y3⟩
      · rw [z4, y]; exact chQ_neg (by omega) c
      · have := (List.getElem?_eq_some_iff.mp y2).1
        rw [runsL] at this
        exfalso
        omega
  rw [hr, List.append_nil] at e1
  unfold ChS
  rw [e1]
  exact ⟨e2, e3, by omega, e4⟩
theorem TrS_i {σ : sT} {a b i wt fi fj nm : Int} {I : IM} (hi : 0 ≤ i) (h : TrS σ a b i (s_sz σ b) I wt fi fj nm) : TrS σ a b (i + 1) 0 I wt fi fj nm := by
  unfold TrS at *
  rw [preR_i _ _ i hi]
  exact h
theorem TrS_none {σ : sT} {a b i j wt fi fj nm : Int} {I : IM} (hj : 0 ≤ j) (hz : rln σ a b i j = 0) (h : TrS σ a b i j I wt fi fj nm) : TrS σ a b i (j + 1) I wt fi fj nm := by
  unfold TrS at *
  rw [preR_j _ _ i j hj, if_neg (by omega), List.append_nil]
  exact h
theorem TrS_no {σ : sT} (hW : WF σ) {a b i j wt fi fj nm : Int} {I : IM} (hi0 : 0 ≤ i) (hi : i < s_sz σ a) (hj0 : 0 ≤ j) (hj : j < s_sz σ b) (hf : 0 < rln σ a b i j) (hno : ¬ (0 < wt ∧ fi ≤ i ∧ fj ≤ j ∧ sW σ a b i j = wt)) (h : TrS σ a b i j I wt fi fj nm) : TrS σ a b i (j + 1) I wt fi fj (nm + 1) := by
  obtain ⟨h1, h2, h3, h4, Cp, Cr, e1, e2, e3, e4, e5, e6⟩ := h
  have w4b := hW.2.2.2.1 b
  have at' := preR_at (rln σ a b) (n := s_sz σ a) (m := s_sz σ b) w4b.1 hi0 hi hj0 hj hf
  refine ⟨by rw [preR_j _ _ i j hj0, if_pos hf, List.length_append, h1]; simp, h2, h3, h4, Cp, Cr, e1, e2, e3, e4, e5, ?_⟩
  rcases e6 with z | ⟨z1, z2, z3, c, z4, z5⟩
  · exact Or.inl z
  · refine Or.inr ⟨z1, z2, ?_, c, z4, z5⟩
    obtain ⟨q, x, f1, f2, f3, f4, f5, -⟩ := nxF_of hW (a := a) (b := b) (i := fi) (j := fj) h3.1 h4.1 (by omega)
    by_cases e : nm = nxF σ a b fi fj
    · exfalso
      have hq : q = (preR (rln σ a b) (s_sz σ b) i j).length := by omega
      rw [hq] at f2
      have f2' : (preR (rln σ a b) (s_sz σ b) (s_sz σ a) 0)[(preR (rln σ a b) (s_sz σ b) i j).length]? = some x := f2
      rw [at'] at f2'
      cases f2'
      exact hno ⟨z1, f3, f4, by rw [z2]; exact f5⟩
    · omega
theorem TrS_yes {σ : sT} (hW : WF σ) {a b i j wt fi fj nm wt' : Int} {I I' : IM} (hi0 : 0 ≤ i) (hi : i < s_sz σ a) (hj0 : 0 ≤ j) (hj : j < s_sz σ b) (hf : 0 < rln σ a b i j) (h0 : 0 < wt) (hfi : fi ≤ i) (hfj : fj ≤ j) (hw : sW σ a b i j = wt) (h : TrS σ a b i j I wt fi fj nm)
    (hwt : wt' = if s_gp σ ≤ sB σ a b (i + rln σ a b i j) (j + rln σ a b i j) then sB σ a b (i + rln σ a b i j) (j + rln σ a b i j) else 0) (k1 : I' 18 1 = I 18 1 + 1) (k2 : I' 18 2 = I 18 2 + rln σ a b i j) (k3 : I' 19 (I 18 1) = nm) (k4 : ∀ t, t ≠ I 18 1 → I' 19 t = I 19 t) : TrS σ a b i (j + 1) I' wt' (i + rln σ a b i j) (j + rln σ a b i j) (nm + 1) := by
  obtain ⟨h1, h2, h3, h4, Cp, Cr, e1, e2, e3, e4, e5, e6⟩ := h
  have w4a := hW.2.2.2.1 a
  have w4b := hW.2.2.2.1 b
  have wg := hW.2.2.2.2.2.2.2.2.1
  have rb := rln_b hW a b i j
  have rb2 := rb.2.2 hf
  have sb := sB_b hW a b (i + rln σ a b i j) (j + rln σ a b i j) (by omega)
  have at' := preR_at (rln σ a b) (n := s_sz σ a) (m := s_sz σ b) w4b.1 hi0 hi hj0 hj hf
  have at2 : (runsL σ a b)[(preR (rln σ a b) (s_sz σ b) i j).length]? = some (i, j, rln σ a b i j) := at'
  rcases e6 with z | ⟨z1, z2, z3, c, z4, z5⟩
  · omega
  have hq : nxF σ a b fi fj = ((preR (rln σ a b) (s_sz σ b) i j).length : Nat) := by
    obtain ⟨q, x, f1, f2, f3, f4, f5, f6⟩ := nxF_of hW (a := a) (b := b) (i := fi) (j := fj) h3.1 h4.1 (by omega)
    rcases Nat.lt_or_ge (preR (rln σ a b) (s_sz σ b) i j).length q with y | y
    · exact absurd ⟨hfi, hfj, by show sW σ a b i j = _; omega⟩ (f6 _ _ y at2)
    · omega
  rw [hq] at z4 z5
  rcases z5 with y | ⟨k, x, y1, y2, y3, y4⟩
  · omega
  have ek : k = (preR (rln σ a b) (s_sz σ b) i j).length := by omega
  rw [ek, at2] at y2
  cases y2
  obtain ⟨c', rfl⟩ : ∃ c', c = c' + 1 := ⟨c - 1, by
    have : s_sz σ a - i < c := y4
    omega⟩
  rw [chQ_at at2] at z4
  refine ⟨by rw [preR_j _ _ i j hj0, if_pos hf, List.length_append, h1]; simp, by rw [hwt]; split <;> omega, by omega, by omega, Cp ++ [nm], chQ σ a b c' (nxQ σ a b (i, j, rln σ a b i j)), ?_, ?_, ?_, fun t v ht => ?_, ?_, ?_⟩
  · rw [e1, z4, ← h1, List.append_assoc]; rfl
  · rw [k1, e2, List.length_append]; simp
  · rw [k2, e3, covF_app, covF, covF, h1, show ((((preR (rln σ a b) (s_sz σ b) i j).length : Nat) : Int)).toNat = (preR (rln σ a b) (s_sz σ b) i j).length by omega, at2]; simp
  · by_cases et : t = Cp.length
    · subst et
      rw [List.getElem?_append_right (Nat.le_refl _), Nat.sub_self] at ht
      cases ht
      rw [← e2]
      exact k3
    · have hlt : t < Cp.length := by
        have := (List.getElem?_eq_some_iff.mp ht).1
        rw [List.length_append] at this
        simp at this
        omega
      rw [List.getElem?_append_left hlt] at ht
      rw [k4 t (by rw [e2]; omega)]
      exact e4 t v ht
  · rw [List.length_append]; simp; omega
  · have hq2 : nxQ σ a b (i, j, rln σ a b i j) = if s_gp σ ≤ sB σ a b (i + rln σ a b i j) (j + rln σ a b i j) then nxF σ a b (i + rln σ a b i j) (j + rln σ a b i j) else -1 := rfl
    by_cases g1 : s_gp σ ≤ sB σ a b (i + rln σ a b i j) (j + rln σ a b i j)
    · rw [if_pos g1] at hwt hq2
      by_cases g2 : 0 < sB σ a b (i + rln σ a b i j) (j + rln σ a b i j)
      · obtain ⟨q, x, f1, f2, f3, f4, f5, f6⟩ := nxF_of hW (a := a) (b := b) (i := i + rln σ a b i j) (j := j + rln σ a b i j) (by omega) (by omega) g2
        have lt := bh_lt hW at2 f2 ⟨f3, f4⟩
        refine Or.inr ⟨by omega, hwt, by omega, c', by rw [hq2], nxF_v hW (by omega) (by omega) ?_⟩
        have : s_sz σ a - i < ((c' + 1 : Nat) : Int) := y4
        omega
      · exact Or.inl ⟨by omega, by rw [hq2, nxF, if_neg g2]; exact chQ_neg (by omega) c'⟩
    · rw [if_neg g1] at hwt hq2
      exact Or.inl ⟨hwt, by rw [hq2]; exact chQ_neg (by omega) c'⟩
theorem TrS_len {σ : sT} {a b i j wt fi fj nm : Int} {I : IM} (h : TrS σ a b i j I wt fi fj nm) : 0 ≤ I 18 1 ∧ I 18 1 ≤ fi := by
  obtain ⟨-, -, -, -, Cp, Cr, -, e2, -, -, e5, -⟩ := h
  omega
set_option maxHeartbeats 4000000 in
set_option maxRecDepth 100000 in
theorem mm_X1_traceChain {l : Launch} {g : gT} {σ : sT} {a b : Int} {I : IM} {L : LM} (hR : CR σ I L) (hW : WF σ) (ha0 : 0 ≤ a) (ha : a < 6) (hb0 : 0 ≤ b) (hb : b < 6) (hab : a ≠ b) (hha : s_hd σ a = 1) (hhb : s_hd σ b = 1) :
    Ct l yX1_traceChain cX1_traceChain 12 none 5 124 lyC g [.ref (g.2.1 18), .ref (g.2.1 4), .int (zI a), .int (zI b)] I L (pV (fun I' L' => ChS σ a b I' ∧ kC I L I' L')) := by
  have w4a := hW.2.2.2.1 a
  have w4b := hW.2.2.2.1 b
  have wg := hW.2.2.2.2.2.2.2.2.1
  have b00 := sB_b hW a b 0 0 (by omega)
  refine Ct.of RX1 (by decide +kernel) rfl (Nat.le_of_ble_eq_true rfl) (fun x hx F => ?_)
  generalize hpost : (pV (fun (I' : IM) (L' : LM) => ChS σ a b I' ∧ kC I L I' L')) = post
  have main : ∀ (I0 : IM) (L0 : LM), CmpS σ a b I0 L0 → (∀ i j, 0 ≤ i → i < s_sz σ a → 0 ≤ j → j < s_sz σ b → I0 20 (i * 41 + j) = rln σ a b i j) → (runsL σ a b ≠ [] → BmS σ a b (-1) 0 I0) → kC I L I0 L0 → ∀ (c : Nat) (i wt fi fj nm : Int) (I1 : IM), c = (s_sz σ a - i).toNat → 0 ≤ i → i ≤ s_sz σ a → TrS σ a b i 0 I1 wt fi fj nm → (∀ q, q ≠ 18 → q ≠ 19 → I1 q = I0 q) → Rn x lyC g post 32 [vr g 18, vr g 4, vn a, vn b, vn wt, vn fi, vn fj, vn nm, vn i, none, none, none] [] I1 L0 := by
    intro I0 L0 hC hM hB k0 c
    have keep : ∀ I1 : IM, (∀ q, q ≠ 18 → q ≠ 19 → I1 q = I0 q) → kC I L I1 L0 := fun I1 z => k0.tr (fun q hq => ⟨z q (by omega) (by omega), rfl⟩)
    have eg : I0 4 4 = s_gp σ := by rw [(k0 4 (by omega)).1]; exact hR.2.2.2.2.2.2.1
    induction c with
    | zero =>
      intro i wt fi fj nm I1 h1 h2 h3 h4 h5
      have sA : I1 22 5 = s_sz σ a := by rw [h5 22 (by omega) (by omega)]; exact hC.1.1
      have ei : i = s_sz σ a := by omega
      subst ei
      refine rr_iload F dX1_traceChain_32 rfl ?_
      refine rr_aload_n F dX1_traceChain_34 rfl ?_
      refine rg_Comparison_left F (by first | rfl | assumption) fl_X1_28 dX1_traceChain_35 ?_
      refine rr_cell (k2 := 22) rfl ?_
      refine rg_Page_size F (by first | rfl | assumption) fl_X1_88 dX1_traceChain_38 ?_
      refine rr_icmp_ge F dX1_traceChain_41 (tgt := 189) (by decide) ⟨by omega, by omega⟩ ⟨by omega, by omega⟩ (fun c_41 => ?_) (fun c_41 => ?_)
      · refine rr_vret F dX1_traceChain_189 ?_
        rw [← hpost]
        exact ⟨rfl, TrS_end h4, keep I1 h5⟩
      · exfalso
        omega
    | succ c ih =>
      intro i wt fi fj nm I1 h1 h2 h3 h4 h5
      have sA : I1 22 5 = s_sz σ a := by rw [h5 22 (by omega) (by omega)]; exact hC.1.1
      have inner : ∀ (d : Nat) (j wt fi fj nm : Int) (I2 : IM), d = (s_sz σ b - j).toNat → 0 ≤ j → j ≤ s_sz σ b → TrS σ a b i j I2 wt fi fj nm → (∀ q, q ≠ 18 → q ≠ 19 → I2 q = I0 q) → Rn x lyC g post 47 [vr g 18, vr g 4, vn a, vn b, vn wt, vn fi, vn fj, vn nm, vn i, vn j, none, none] [] I2 L0 := by
        intro d
        induction d with
        | zero =>
          intro j wt fi fj nm I2 g1 g2 g3 g4 g5
          have sB' : I2 28 5 = s_sz σ b := by rw [g5 28 (by omega) (by omega)]; exact hC.2.1
          have ej : j = s_sz σ b := by omega
          subst ej
          refine rr_iload F dX1_traceChain_47 rfl ?_
          refine rr_aload_n F dX1_traceChain_49 rfl ?_
          refine rg_Comparison_right F (by first | rfl | assumption) fl_X1_32 dX1_traceChain_50 ?_
          refine rr_cell (k2 := 28) rfl ?_
          refine rg_Page_size F (by first | rfl | assumption) fl_X1_88 dX1_traceChain_53 ?_
          refine rr_icmp_ge F dX1_traceChain_56 (tgt := 183) (by decide) ⟨by omega, by omega⟩ ⟨by omega, by omega⟩ (fun c_56 => ?_) (fun c_56 => ?_)
          · refine rr_iinc F dX1_traceChain_183 rfl rfl ?_
            refine rr_goto F dX1_traceChain_186 (tgt := 32) (by decide) ?_
            refine rr_drop 9 ?_
            exact ih (i + 1) wt fi fj nm I2 (by omega) (by omega) (by omega) (TrS_i h2 g4) g5
          · exfalso
            omega
        | succ d ihd =>
          intro j wt fi fj nm I2 g1 g2 g3 g4 g5
          have sB' : I2 28 5 = s_sz σ b := by rw [g5 28 (by omega) (by omega)]; exact hC.2.1
          have rb := rln_b hW a b i j
          have em : I2 20 (i * 41 + j) = rln σ a b i j := by rw [g5 20 (by omega) (by omega)]; exact hM i j h2 (by omega) g2 (by omega)
          obtain ⟨t1, t2, t3, t4, -⟩ := id g4
          have tl := TrS_len g4
          have eg2 : I2 4 4 = s_gp σ := by rw [g5 4 (by omega) (by omega)]; exact eg
          have no : 0 < rln σ a b i j → ¬ (0 < wt ∧ fi ≤ i ∧ fj ≤ j ∧ sW σ a b i j = wt) → Rn x lyC g post 174 [vr g 18, vr g 4, vn a, vn b, vn wt, vn fi, vn fj, vn nm, vn i, vn j, vn (rln σ a b i j), none] [] I2 L0 := by
            intro hf hno
            refine rr_iinc F dX1_traceChain_174 rfl rfl ?_
            refine rr_iinc F dX1_traceChain_177 rfl rfl ?_
            refine rr_goto F dX1_traceChain_180 (tgt := 47) (by decide) ?_
            refine rr_drop 10 ?_
            exact ihd (j + 1) wt fi fj (nm + 1) I2 (by omega) (by omega) (by omega) (TrS_no hW h2 (by omega) g2 (by omega) hf hno g4) g5
          have yes : 0 < rln σ a b i j → 0 < wt → fi ≤ i → fj ≤ j → sW σ a b i j = wt → I2 21 ((i + rln σ a b i j) * 41 + (j + rln σ a b i j)) = sB σ a b (i + rln σ a b i j) (j + rln σ a b i j) → Rn x lyC g post 120 [vr g 18, vr g 4, vn a, vn b, vn wt, vn fi, vn fj, vn nm, vn i, vn j, vn (rln σ a b i j), none] [] I2 L0 := by
            intro hf y1 y2 y3 y4 y5
            have rb2 := rb.2.2 hf
            have sb := sB_b hW a b (i + rln σ a b i j) (j + rln σ a b i j) (by omega)
            refine rr_aload_n F dX1_traceChain_120 rfl ?_
            refine rr_iload F dX1_traceChain_121 rfl ?_
            refine rr_iload F dX1_traceChain_123 rfl ?_
            refine rr_callVV F (ci := 1) (mm_X1_addToChain (c := I2 18 1) tl.1 (by omega) rfl) mf_X1_addToChain ml_X1_147 ⟨by decide, by decide⟩ (by first | rfl | assumption) (by decide) rfl rfl (Nat.le_of_ble_eq_true rfl) dX1_traceChain_125 (fun I_125 L_125 h_125 => ?_)
            obtain ⟨e125, rfl⟩ := h_125
            have z1 : I_125 18 1 = I2 18 1 + 1 := by rw [e125, up2_ne _ _ _ (by decide), up2_same]
            have z2 : I_125 18 2 = I2 18 2 + rln σ a b i j := by rw [e125, up2_same]
            have z3 : I_125 19 (I2 18 1) = nm := by rw [e125, up2_cell _ _ _ (by decide), up2_cell _ _ _ (by decide), up2_same]
            have z4 : ∀ t, t ≠ I2 18 1 → I_125 19 t = I2 19 t := fun t ht => by rw [e125, up2_cell _ _ _ (by decide), up2_cell _ _ _ (by decide), up2_ne _ _ _ ht]
            have z5 : ∀ q, q ≠ 18 → q ≠ 19 → I_125 q = I2 q := fun q u v => by rw [e125, up2_cell _ _ _ u, up2_cell _ _ _ u, up2_cell _ _ _ v]
            have z6 : I_125 21 ((i + rln σ a b i j) * 41 + (j + rln σ a b i j)) = sB σ a b (i + rln σ a b i j) (j + rln σ a b i j) := by rw [z5 21 (by omega) (by omega)]; exact y5
            have z7 : I_125 4 4 = s_gp σ := by rw [z5 4 (by omega) (by omega)]; exact eg2
            refine rr_iload F dX1_traceChain_128 rfl ?_
            refine rr_iload F dX1_traceChain_130 rfl ?_
            refine rr_iadd F dX1_traceChain_132 ?_
            refine rr_istore F dX1_traceChain_133 (Nat.le_of_ble_eq_true rfl) rfl ?_
            refine rr_iload F dX1_traceChain_135 rfl ?_
            refine rr_iload F dX1_traceChain_137 rfl ?_
            refine rr_iadd F dX1_traceChain_139 ?_
            refine rr_istore F dX1_traceChain_140 (Nat.le_of_ble_eq_true rfl) rfl ?_
            refine rr_aload_n F dX1_traceChain_142 rfl ?_
            refine rg_Comparison_best F (by first | rfl | assumption) fl_X1_41 dX1_traceChain_143 ?_
            refine rr_cell (k2 := 21) rfl ?_
            refine rr_iload F dX1_traceChain_146 rfl ?_
            refine rr_bipush F dX1_traceChain_148 (by decide) ?_
            refine rr_imul F dX1_traceChain_150 ?_
            refine rr_iload F dX1_traceChain_151 rfl ?_
            refine rr_iadd F dX1_traceChain_153 ?_
            refine rr_iald F (N := 1681) (by first | rfl | assumption) (by omega) (by first | rfl | assumption) (by omega) dX1_traceChain_154 ?_
            rw [z6]
            refine rr_istore F dX1_traceChain_155 (Nat.le_of_ble_eq_true rfl) rfl ?_
            refine rr_iload F dX1_traceChain_157 rfl ?_
            refine rr_aload_n F dX1_traceChain_159 rfl ?_
            refine rg_Shelf_gapCost F (by first | rfl | assumption) fl_X1_77 dX1_traceChain_160 ?_
            rw [z7]
            refine rr_icmp_lt F dX1_traceChain_163 (tgt := 171) (by decide) ⟨by omega, by omega⟩ ⟨by omega, by omega⟩ (fun c_163 => ?_) (fun c_163 => ?_)
            · refine rr_iconst F dX1_traceChain_171 ?_
              refine rr_istore F dX1_traceChain_172 (Nat.le_of_ble_eq_true rfl) rfl ?_
              refine rr_iinc F dX1_traceChain_174 rfl rfl ?_
              refine rr_iinc F dX1_traceChain_177 rfl rfl ?_
              refine rr_goto F dX1_traceChain_180 (tgt := 47) (by decide) ?_
              refine rr_drop 10 ?_
              refine rr_drop 11 ?_
              refine ihd (j + 1) _ _ _ (nm + 1) I_125 (by omega) (by omega) (by omega) (TrS_yes hW h2 (by omega) g2 (by omega) hf y1 y2 y3 y4 g4 ?_ z1 z2 z3 z4) (fun q u v => by rw [z5 q u v]; exact g5 q u v)
              first | (rw [if_pos (by omega)]; done) | (rw [if_neg (by omega)]; done)
            · refine rr_iload F dX1_traceChain_166 rfl ?_
              refine rr_goto F dX1_traceChain_168 (tgt := 172) (by decide) ?_
              refine rr_istore F dX1_traceChain_172 (Nat.le_of_ble_eq_true rfl) rfl ?_
              refine rr_iinc F dX1_traceChain_174 rfl rfl ?_
              refine rr_iinc F dX1_traceChain_177 rfl rfl ?_
              refine rr_goto F dX1_traceChain_180 (tgt := 47) (by decide) ?_
              refine rr_drop 10 ?_
              refine rr_drop 11 ?_
              refine ihd (j + 1) _ _ _ (nm + 1) I_125 (by omega) (by omega) (by omega) (TrS_yes hW h2 (by omega) g2 (by omega) hf y1 y2 y3 y4 g4 ?_ z1 z2 z3 z4) (fun q u v => by rw [z5 q u v]; exact g5 q u v)
              first | (rw [if_pos (by omega)]; done) | (rw [if_neg (by omega)]; done)
          have hne : 0 < rln σ a b i j → runsL σ a b ≠ [] := fun hf z => by
            obtain ⟨q, hq⟩ := runsL_in hW (a := a) (b := b) h2 (by omega) g2 (by omega) hf
            rw [z] at hq
            simp at hq
          refine rr_iload F dX1_traceChain_47 rfl ?_
          refine rr_aload_n F dX1_traceChain_49 rfl ?_
          refine rg_Comparison_right F (by first | rfl | assumption) fl_X1_32 dX1_traceChain_50 ?_
          refine rr_cell (k2 := 28) rfl ?_
          refine rg_Page_size F (by first | rfl | assumption) fl_X1_88 dX1_traceChain_53 ?_
          refine rr_icmp_ge F dX1_traceChain_56 (tgt := 183) (by decide) ⟨by omega, by omega⟩ ⟨by omega, by omega⟩ (fun c_56 => ?_) (fun c_56 => ?_)
          · exfalso
            omega
          · refine rr_aload_n F dX1_traceChain_59 rfl ?_
            refine rg_Comparison_runLengths F (by first | rfl | assumption) fl_X1_38 dX1_traceChain_60 ?_
            refine rr_cell (k2 := 20) rfl ?_
            refine rr_iload F dX1_traceChain_63 rfl ?_
            refine rr_bipush F dX1_traceChain_65 (by decide) ?_
            refine rr_imul F dX1_traceChain_67 ?_
            refine rr_iload F dX1_traceChain_68 rfl ?_
            refine rr_iadd F dX1_traceChain_70 ?_
            refine rr_iald F (N := 1681) (by first | rfl | assumption) (by omega) (by first | rfl | assumption) (by omega) dX1_traceChain_71 ?_
            rw [em]
            refine rr_istore F dX1_traceChain_72 (Nat.le_of_ble_eq_true rfl) rfl ?_
            refine rr_iload F dX1_traceChain_74 rfl ?_
            refine rr_if_ne F dX1_traceChain_76 (tgt := 82) (by decide) ⟨by omega, by omega⟩ (fun c_76 => ?_) (fun c_76 => ?_)
            · have hf : 0 < rln σ a b i j := by omega
              have rb2 := rb.2.2 hf
              have sb := sB_b hW a b (i + rln σ a b i j) (j + rln σ a b i j) (by omega)
              have bm : I2 21 ((i + rln σ a b i j) * 41 + (j + rln σ a b i j)) = sB σ a b (i + rln σ a b i j) (j + rln σ a b i j) := by rw [g5 21 (by omega) (by omega)]; exact hB (hne hf) _ _ (by omega) (by omega) (by omega) (by omega) (by omega)
              refine rr_iload F dX1_traceChain_82 rfl ?_
              refine rr_if_le F dX1_traceChain_84 (tgt := 174) (by decide) ⟨by omega, by omega⟩ (fun c_84 => ?_) (fun c_84 => ?_)
              · first | exact no hf (by omega) | exact no (by omega) (fun z => by omega)
              · refine rr_iload F dX1_traceChain_87 rfl ?_
                refine rr_iload F dX1_traceChain_89 rfl ?_
                refine rr_icmp_lt F dX1_traceChain_91 (tgt := 174) (by decide) ⟨by omega, by omega⟩ ⟨by omega, by omega⟩ (fun c_91 => ?_) (fun c_91 => ?_)
                · first | exact no hf (by omega) | exact no (by omega) (fun z => by omega)
                · refine rr_iload F dX1_traceChain_94 rfl ?_
                  refine rr_iload F dX1_traceChain_96 rfl ?_
                  refine rr_icmp_lt F dX1_traceChain_98 (tgt := 174) (by decide) ⟨by omega, by omega⟩ ⟨by omega, by omega⟩ (fun c_98 => ?_) (fun c_98 => ?_)
                  · first | exact no hf (by omega) | exact no (by omega) (fun z => by omega)
                  · refine rr_aload_n F dX1_traceChain_101 rfl ?_
                    refine rr_iload F dX1_traceChain_102 rfl ?_
                    refine rr_iload F dX1_traceChain_104 rfl ?_
                    refine rr_iload F dX1_traceChain_106 rfl ?_
                    refine rr_aload_n F dX1_traceChain_108 rfl ?_
                    refine rg_Shelf_gapCost F (by first | rfl | assumption) fl_X1_77 dX1_traceChain_109 ?_
                    rw [eg2]
                    refine rr_callVI F (ci := 1) (mm_X1_bestWithRun h2 g2 (by omega) (by omega) (by omega) wg.1 wg.2 sb.1 sb.2 bm) mf_X1_bestWithRun ml_X1_139 ⟨by decide, by decide⟩ (by first | rfl | assumption) (by decide) rfl rfl (Nat.le_of_ble_eq_true rfl) dX1_traceChain_112 (fun r_112 I_112 L_112 h_112 => ?_)
                    obtain ⟨e112, rfl, rfl⟩ := h_112
                    have e112' : r_112 = sW σ a b i j := e112
                    refine rr_iload F dX1_traceChain_115 rfl ?_
                    refine rr_icmp_ne F dX1_traceChain_117 (tgt := 174) (by decide) ⟨by omega, by omega⟩ ⟨by omega, by omega⟩ (fun c_117 => ?_) (fun c_117 => ?_)
                    · first | exact no hf (by omega) | exact no (by omega) (fun z => by omega)
                    · exact yes hf (by omega) (by omega) (by omega) (by omega) bm
            · refine rr_goto F dX1_traceChain_79 (tgt := 177) (by decide) ?_
              have hz : rln σ a b i j = 0 := c_76
              refine rr_iinc F dX1_traceChain_177 rfl rfl ?_
              refine rr_goto F dX1_traceChain_180 (tgt := 47) (by decide) ?_
              refine rr_drop 10 ?_
              exact ihd (j + 1) wt fi fj nm I2 (by omega) (by omega) (by omega) (TrS_none g2 hz g4) g5
      refine rr_iload F dX1_traceChain_32 rfl ?_
      refine rr_aload_n F dX1_traceChain_34 rfl ?_
      refine rg_Comparison_left F (by first | rfl | assumption) fl_X1_28 dX1_traceChain_35 ?_
      refine rr_cell (k2 := 22) rfl ?_
      refine rg_Page_size F (by first | rfl | assumption) fl_X1_88 dX1_traceChain_38 ?_
      refine rr_icmp_ge F dX1_traceChain_41 (tgt := 189) (by decide) ⟨by omega, by omega⟩ ⟨by omega, by omega⟩ (fun c_41 => ?_) (fun c_41 => ?_)
      · exfalso
        omega
      · refine rr_iconst F dX1_traceChain_44 ?_
        refine rr_istore F dX1_traceChain_45 (Nat.le_of_ble_eq_true rfl) rfl ?_
        exact inner _ 0 wt fi fj nm I1 rfl (by omega) (by omega) h4 h5
  refine rr_aload_n F dX1_traceChain_0 rfl ?_
  refine rr_aload_n F dX1_traceChain_1 rfl ?_
  refine rr_iload_n F dX1_traceChain_2 rfl ?_
  refine rr_iload_n F dX1_traceChain_3 rfl ?_
  refine rr_iconst F dX1_traceChain_4 ?_
  refine rr_callVI F (ci := 1) (mm_X1_scoreOf hR hW ha0 ha hb0 hb hab hha hhb (by omega) (by omega) (same_trn σ b) (zero_trn σ b) hW) mf_X1_scoreOf ml_X1_143 ⟨by decide, by decide⟩ (by first | rfl | assumption) (by decide) rfl rfl (Nat.le_of_ble_eq_true rfl) dX1_traceChain_5 (fun r_5 I_5 L_5 h_5 => ?_)
  obtain ⟨c1, c2, c3, c4, c5⟩ := h_5
  refine rr_istore F dX1_traceChain_8 (Nat.le_of_ble_eq_true rfl) rfl ?_
  refine rr_iconst F dX1_traceChain_10 ?_
  refine rr_istore F dX1_traceChain_11 (Nat.le_of_ble_eq_true rfl) rfl ?_
  refine rr_iconst F dX1_traceChain_13 ?_
  refine rr_istore F dX1_traceChain_14 (Nat.le_of_ble_eq_true rfl) rfl ?_
  refine rr_iconst F dX1_traceChain_16 ?_
  refine rr_istore F dX1_traceChain_17 (Nat.le_of_ble_eq_true rfl) rfl ?_
  refine rr_aload_n F dX1_traceChain_19 rfl ?_
  refine rr_iconst F dX1_traceChain_20 ?_
  refine rp_Comparison_chainLength F (by first | rfl | assumption) fl_X1_15 dX1_traceChain_21 ?_
  refine rr_aload_n F dX1_traceChain_24 rfl ?_
  refine rr_iconst F dX1_traceChain_25 ?_
  refine rp_Comparison_chainTokens F (by first | rfl | assumption) fl_X1_19 dX1_traceChain_26 ?_
  refine rr_iconst F dX1_traceChain_29 ?_
  refine rr_istore F dX1_traceChain_30 (Nat.le_of_ble_eq_true rfl) rfl ?_
  refine main _ _ c2 c3 c4 c5 _ 0 r_5 0 0 0 _ rfl (by omega) (by omega) ⟨rfl, by omega, by omega, by omega, [], chL σ a b, rfl, ?_, ?_, fun t v ht => by simp at ht, by simp, ?_⟩ (fun q u v => by rw [up2_cell _ _ _ u, up2_cell _ _ _ u])
  · rw [up2_ne _ _ _ (by decide), up2_same]; rfl
  · rw [up2_same]; rfl
  · by_cases z : 0 < r_5
    · obtain ⟨q, y, f1, -⟩ := nxF_of hW (a := a) (b := b) (i := 0) (j := 0) (by omega) (by omega) (by omega)
      exact Or.inr ⟨z, c1, by omega, 41, rfl, nxF_v hW (by omega) (by omega) (by omega)⟩
    · refine Or.inl ⟨by omega, ?_⟩
      rw [chL, nxF, if_neg (by omega)]
      exact chQ_neg (by omega) 41
set_option maxHeartbeats 4000000 in
set_option maxRecDepth 100000 in
theorem mm_X7_chain {l : Launch} {g : gT} {σ : sT} {a b r : Int} {I : IM} {L : LM} (ha : rg a) (hb : rg b) (hr : rg r) (hR : CR σ I L) (hW : WF σ) :
    Ct l yX7_chain cX7_chain 5 (some .int) 6 155 lyC g [.ref (g.2.1 0), .int (zI a), .int (zI b), .int (zI r)] I L (pS CR (sp_chain σ a b r, σ)) := by
  have hc := rP_cases σ a b
  have hr' := hr
  unfold rg at hr'
  refine Ct.of RX7 (by decide +kernel) rfl (Nat.le_of_ble_eq_true rfl) (fun x hx F => ?_)
  refine rr_iload_n F dX7_chain_0 rfl ?_
  refine rr_iconst F dX7_chain_1 ?_
  refine rr_icmp_ge F dX7_chain_2 (tgt := 9) (by decide) ⟨by omega, by omega⟩ ⟨by omega, by omega⟩ (fun c_2 => ?_) (fun c_2 => ?_)
  · refine rr_aload_n F dX7_chain_9 rfl ?_
    refine rr_iload_n F dX7_chain_10 rfl ?_
    refine rr_iload_n F dX7_chain_11 rfl ?_
    refine rr_callVI F (ci := 7) (mm_X7_refusalOfPair ha hb hR hW) mf_X7_refusalOfPair ml_X7_142 ⟨by decide, by decide⟩ (by first | rfl | assumption) (by decide) rfl rfl (Nat.le_of_ble_eq_true rfl) dX7_chain_12 (fun r_12 I_12 L_12 h_12 => ?_)
    obtain ⟨e3, rfl, rfl⟩ := h_12
    refine rr_istore F dX7_chain_15 (Nat.le_of_ble_eq_true rfl) rfl ?_
    refine rr_iload F dX7_chain_17 rfl ?_
    refine rr_if_eq F dX7_chain_19 (tgt := 25) (by decide) ⟨by omega, by omega⟩ (fun c_19 => ?_) (fun c_19 => ?_)
    · refine rr_aload_n F dX7_chain_25 rfl ?_
      refine rg_BP_comparison F (by first | rfl | assumption) fl_X7_33 dX7_chain_26 ?_
      refine rr_cell (k2 := 18) rfl ?_
      refine rr_aload_n F dX7_chain_29 rfl ?_
      refine rg_BP_shelf F (by first | rfl | assumption) fl_X7_26 dX7_chain_30 ?_
      refine rr_cell (k2 := 4) rfl ?_
      refine rr_iload_n F dX7_chain_33 rfl ?_
      refine rr_iload_n F dX7_chain_34 rfl ?_
      refine rr_callVV F (ci := 1) (mm_X1_traceChain hR hW (by omega) (by omega) (by omega) (by omega) (by omega) (by omega) (by omega)) mf_X1_traceChain ml_X7_160 ⟨by decide, by decide⟩ (by first | rfl | assumption) (by decide) rfl rfl (Nat.le_of_ble_eq_true rfl) dX7_chain_35 (fun I_35 L_35 h_35 => ?_)
      obtain ⟨⟨c1, c2, c3, c4⟩, c5⟩ := h_35
      refine rr_iload_n F dX7_chain_38 rfl ?_
      refine rr_iconst F dX7_chain_39 ?_
      refine rr_icmp_ne F dX7_chain_40 (tgt := 51) (by decide) ⟨by omega, by omega⟩ ⟨by omega, by omega⟩ (fun c_40 => ?_) (fun c_40 => ?_)
      · refine rr_iload_n F dX7_chain_51 rfl ?_
        refine rr_aload_n F dX7_chain_52 rfl ?_
        refine rg_BP_comparison F (by first | rfl | assumption) fl_X7_33 dX7_chain_53 ?_
        refine rr_cell (k2 := 18) rfl ?_
        refine rg_Comparison_chainLength F (by first | rfl | assumption) fl_X7_164 dX7_chain_56 ?_
        refine rr_icmp_ge F dX7_chain_59 (tgt := 74) (by decide) ⟨by omega, by omega⟩ ⟨by omega, by omega⟩ (fun c_59 => ?_) (fun c_59 => ?_)
        · refine rr_iconst F dX7_chain_74 ?_
          refine rr_iret F dX7_chain_75 ?_
          refine ⟨_, rfl, ?_, hR.k c5⟩
          show _ = sp_chain σ a b r
          rw [sp_chain, if_neg (by omega), if_pos (by omega), if_neg (by omega)]
          first | (rw [hq]; exact hq2) | (rw [List.getElem?_eq_none (by omega)])
        · have hlt : r.toNat < (chL σ a b).length := by omega
          have hq := List.getElem?_eq_getElem hlt
          have hq2 := c4 _ _ hq
          rw [show ((r.toNat : Nat) : Int) = r by omega] at hq2
          refine rr_aload_n F dX7_chain_62 rfl ?_
          refine rg_BP_comparison F (by first | rfl | assumption) fl_X7_33 dX7_chain_63 ?_
          refine rr_cell (k2 := 18) rfl ?_
          refine rg_Comparison_chainRuns F (by first | rfl | assumption) fl_X7_167 dX7_chain_66 ?_
          refine rr_cell (k2 := 19) rfl ?_
          refine rr_iload_n F dX7_chain_69 rfl ?_
          refine rr_iald F (N := 40) (by first | rfl | assumption) (by omega) (by first | rfl | assumption) (by omega) dX7_chain_70 ?_
          refine rr_goto F dX7_chain_71 (tgt := 75) (by decide) ?_
          refine rr_iret F dX7_chain_75 ?_
          refine ⟨_, rfl, ?_, hR.k c5⟩
          show _ = sp_chain σ a b r
          rw [sp_chain, if_neg (by omega), if_pos (by omega), if_neg (by omega)]
          first | (rw [hq]; exact hq2) | (rw [List.getElem?_eq_none (by omega)])
      · refine rr_aload_n F dX7_chain_43 rfl ?_
        refine rg_BP_comparison F (by first | rfl | assumption) fl_X7_33 dX7_chain_44 ?_
        refine rr_cell (k2 := 18) rfl ?_
        refine rg_Comparison_chainLength F (by first | rfl | assumption) fl_X7_164 dX7_chain_47 ?_
        refine rr_iret F dX7_chain_50 ?_
        refine ⟨_, rfl, ?_, hR.k c5⟩
        show _ = sp_chain σ a b r
        rw [sp_chain, if_neg (by omega), if_pos (by omega), if_pos (by omega), c1]
    · refine rr_iload F dX7_chain_22 rfl ?_
      refine rr_iret F dX7_chain_24 ?_
      refine ⟨_, rfl, ?_, hR⟩
      show _ = sp_chain σ a b r
      first | (rw [sp_chain, if_pos (by omega)]; done) | (rw [sp_chain, if_neg (by omega), if_neg (by omega)]; exact e3)
  · refine rr_iconst F dX7_chain_5 ?_
    refine rr_goto F dX7_chain_6 (tgt := 15) (by decide) ?_
    refine rr_istore F dX7_chain_15 (Nat.le_of_ble_eq_true rfl) rfl ?_
    refine rr_iload F dX7_chain_17 rfl ?_
    refine rr_if_eq F dX7_chain_19 (tgt := 25) (by decide) ⟨by omega, by omega⟩ (fun c_19 => ?_) (fun c_19 => ?_)
    · refine rr_aload_n F dX7_chain_25 rfl ?_
      refine rg_BP_comparison F (by first | rfl | assumption) fl_X7_33 dX7_chain_26 ?_
      refine rr_cell (k2 := 18) rfl ?_
      refine rr_aload_n F dX7_chain_29 rfl ?_
      refine rg_BP_shelf F (by first | rfl | assumption) fl_X7_26 dX7_chain_30 ?_
      refine rr_cell (k2 := 4) rfl ?_
      refine rr_iload_n F dX7_chain_33 rfl ?_
      refine rr_iload_n F dX7_chain_34 rfl ?_
      refine rr_callVV F (ci := 1) (mm_X1_traceChain hR hW (by omega) (by omega) (by omega) (by omega) (by omega) (by omega) (by omega)) mf_X1_traceChain ml_X7_160 ⟨by decide, by decide⟩ (by first | rfl | assumption) (by decide) rfl rfl (Nat.le_of_ble_eq_true rfl) dX7_chain_35 (fun I_35 L_35 h_35 => ?_)
      obtain ⟨⟨c1, c2, c3, c4⟩, c5⟩ := h_35
      refine rr_iload_n F dX7_chain_38 rfl ?_
      refine rr_iconst F dX7_chain_39 ?_
      refine rr_icmp_ne F dX7_chain_40 (tgt := 51) (by decide) ⟨by omega, by omega⟩ ⟨by omega, by omega⟩ (fun c_40 => ?_) (fun c_40 => ?_)
      · refine rr_iload_n F dX7_chain_51 rfl ?_
        refine rr_aload_n F dX7_chain_52 rfl ?_
        refine rg_BP_comparison F (by first | rfl | assumption) fl_X7_33 dX7_chain_53 ?_
        refine rr_cell (k2 := 18) rfl ?_
        refine rg_Comparison_chainLength F (by first | rfl | assumption) fl_X7_164 dX7_chain_56 ?_
        refine rr_icmp_ge F dX7_chain_59 (tgt := 74) (by decide) ⟨by omega, by omega⟩ ⟨by omega, by omega⟩ (fun c_59 => ?_) (fun c_59 => ?_)
        · refine rr_iconst F dX7_chain_74 ?_
          refine rr_iret F dX7_chain_75 ?_
          refine ⟨_, rfl, ?_, hR.k c5⟩
          show _ = sp_chain σ a b r
          rw [sp_chain, if_neg (by omega), if_pos (by omega), if_neg (by omega)]
          first | (rw [hq]; exact hq2) | (rw [List.getElem?_eq_none (by omega)])
        · have hlt : r.toNat < (chL σ a b).length := by omega
          have hq := List.getElem?_eq_getElem hlt
          have hq2 := c4 _ _ hq
          rw [show ((r.toNat : Nat) : Int) = r by omega] at hq2
          refine rr_aload_n F dX7_chain_62 rfl ?_
          refine rg_BP_comparison F (by first | rfl | assumption) fl_X7_33 dX7_chain_63 ?_
          refine rr_cell (k2 := 18) rfl ?_
          refine rg_Comparison_chainRuns F (by first | rfl | assumption) fl_X7_167 dX7_chain_66 ?_
          refine rr_cell (k2 := 19) rfl ?_
          refine rr_iload_n F dX7_chain_69 rfl ?_
          refine rr_iald F (N := 40) (by first | rfl | assumption) (by omega) (by first | rfl | assumption) (by omega) dX7_chain_70 ?_
          refine rr_goto F dX7_chain_71 (tgt := 75) (by decide) ?_
          refine rr_iret F dX7_chain_75 ?_
          refine ⟨_, rfl, ?_, hR.k c5⟩
          show _ = sp_chain σ a b r
          rw [sp_chain, if_neg (by omega), if_pos (by omega), if_neg (by omega)]
          first | (rw [hq]; exact hq2) | (rw [List.getElem?_eq_none (by omega)])
      · refine rr_aload_n F dX7_chain_43 rfl ?_
        refine rg_BP_comparison F (by first | rfl | assumption) fl_X7_33 dX7_chain_44 ?_
        refine rr_cell (k2 := 18) rfl ?_
        refine rg_Comparison_chainLength F (by first | rfl | assumption) fl_X7_164 dX7_chain_47 ?_
        refine rr_iret F dX7_chain_50 ?_
        refine ⟨_, rfl, ?_, hR.k c5⟩
        show _ = sp_chain σ a b r
        rw [sp_chain, if_neg (by omega), if_pos (by omega), if_pos (by omega), c1]
    · refine rr_iload F dX7_chain_22 rfl ?_
      refine rr_iret F dX7_chain_24 ?_
      refine ⟨_, rfl, ?_, hR⟩
      show _ = sp_chain σ a b r
      first | (rw [sp_chain, if_pos (by omega)]; done) | (rw [sp_chain, if_neg (by omega), if_neg (by omega)]; exact e3)
set_option maxHeartbeats 4000000 in
set_option maxRecDepth 100000 in
theorem mm_X7_covered {l : Launch} {g : gT} {σ : sT} {a b : Int} {I : IM} {L : LM} (ha : rg a) (hb : rg b) (hR : CR σ I L) (hW : WF σ) :
    Ct l yX7_covered cX7_covered 4 (some .int) 6 155 lyC g [.ref (g.2.1 0), .int (zI a), .int (zI b)] I L (pS CR (sp_covered σ a b, σ)) := by
  have hc := rP_cases σ a b
  refine Ct.of RX7 (by decide +kernel) rfl (Nat.le_of_ble_eq_true rfl) (fun x hx F => ?_)
  refine rr_aload_n F dX7_covered_0 rfl ?_
  refine rr_iload_n F dX7_covered_1 rfl ?_
  refine rr_iload_n F dX7_covered_2 rfl ?_
  refine rr_callVI F (ci := 7) (mm_X7_refusalOfPair ha hb hR hW) mf_X7_refusalOfPair ml_X7_142 ⟨by decide, by decide⟩ (by first | rfl | assumption) (by decide) rfl rfl (Nat.le_of_ble_eq_true rfl) dX7_covered_3 (fun r_3 I_3 L_3 h_3 => ?_)
  obtain ⟨e3, rfl, rfl⟩ := h_3
  refine rr_istore_n F dX7_covered_6 (Nat.le_of_ble_eq_true rfl) rfl ?_
  refine rr_iload_n F dX7_covered_7 rfl ?_
  refine rr_if_eq F dX7_covered_8 (tgt := 13) (by decide) ⟨by omega, by omega⟩ (fun c_8 => ?_) (fun c_8 => ?_)
  · refine rr_aload_n F dX7_covered_13 rfl ?_
    refine rg_BP_comparison F (by first | rfl | assumption) fl_X7_33 dX7_covered_14 ?_
    refine rr_cell (k2 := 18) rfl ?_
    refine rr_aload_n F dX7_covered_17 rfl ?_
    refine rg_BP_shelf F (by first | rfl | assumption) fl_X7_26 dX7_covered_18 ?_
    refine rr_cell (k2 := 4) rfl ?_
    refine rr_iload_n F dX7_covered_21 rfl ?_
    refine rr_iload_n F dX7_covered_22 rfl ?_
    refine rr_callVV F (ci := 1) (mm_X1_traceChain hR hW (by omega) (by omega) (by omega) (by omega) (by omega) (by omega) (by omega)) mf_X1_traceChain ml_X7_160 ⟨by decide, by decide⟩ (by first | rfl | assumption) (by decide) rfl rfl (Nat.le_of_ble_eq_true rfl) dX7_covered_23 (fun I_23 L_23 h_23 => ?_)
    obtain ⟨⟨c1, c2, c3, c4⟩, c5⟩ := h_23
    refine rr_aload_n F dX7_covered_26 rfl ?_
    refine rg_BP_comparison F (by first | rfl | assumption) fl_X7_33 dX7_covered_27 ?_
    refine rr_cell (k2 := 18) rfl ?_
    refine rg_Comparison_chainTokens F (by first | rfl | assumption) fl_X7_170 dX7_covered_30 ?_
    refine rr_iret F dX7_covered_33 ?_
    refine ⟨_, rfl, ?_, hR.k c5⟩
    show _ = sp_covered σ a b
    rw [sp_covered, if_pos (by omega)]; exact c2
  · refine rr_iload_n F dX7_covered_11 rfl ?_
    refine rr_iret F dX7_covered_12 ?_
    refine ⟨_, rfl, ?_, hR⟩
    show _ = sp_covered σ a b
    rw [sp_covered, if_neg (by omega)]; exact e3
