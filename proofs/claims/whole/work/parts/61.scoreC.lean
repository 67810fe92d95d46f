/-! the class: the matrix of best scores -/
set_option maxHeartbeats 4000000 in
set_option maxRecDepth 100000 in
theorem mm_X1_bestWithRun {l : Launch} {g : gT} {i j n p v : Int} {I : IM} {L : LM} (hi0 : 0 ≤ i) (hj0 : 0 ≤ j) (hn0 : 0 ≤ n) (hi : i + n ≤ 40) (hj : j + n ≤ 40) (hp0 : 0 ≤ p) (hp : p ≤ 20) (hv0 : 0 ≤ v) (hv : v ≤ 40) (hI : I 21 ((i + n) * 41 + (j + n)) = v) :
    Ct l yX1_bestWithRun cX1_bestWithRun 5 (some .int) 1 21 lyC g [.ref (g.2.1 18), .int (zI i), .int (zI j), .int (zI n), .int (zI p)] I L (pI (fun r I' L' => r = n + max 0 (v - p) ∧ I = I' ∧ L = L')) := by
  refine Ct.of RX1 (by decide +kernel) rfl (Nat.le_of_ble_eq_true rfl) (fun x hx F => ?_)
  refine rr_iload_n F dX1_bestWithRun_0 rfl ?_
  refine rr_iconst F dX1_bestWithRun_1 ?_
  refine rr_aload_n F dX1_bestWithRun_2 rfl ?_
  refine rg_Comparison_best F (by first | rfl | assumption) fl_X1_41 dX1_bestWithRun_3 ?_
  refine rr_cell (k2 := 21) rfl ?_
  refine rr_iload_n F dX1_bestWithRun_6 rfl ?_
  refine rr_iload_n F dX1_bestWithRun_7 rfl ?_
  refine rr_iadd F dX1_bestWithRun_8 ?_
  refine rr_bipush F dX1_bestWithRun_9 (by decide) ?_
  refine rr_imul F dX1_bestWithRun_11 ?_
  refine rr_iload_n F dX1_bestWithRun_12 rfl ?_
  refine rr_iadd F dX1_bestWithRun_13 ?_
  refine rr_iload_n F dX1_bestWithRun_14 rfl ?_
  refine rr_iadd F dX1_bestWithRun_15 ?_
  refine rr_iald F (N := 1681) (by first | rfl | assumption) (by omega) (by first | rfl | assumption) (by omega) dX1_bestWithRun_16 ?_
  rw [show (i + n) * 41 + j + n = (i + n) * 41 + (j + n) by omega, hI]
  refine rr_iload F dX1_bestWithRun_17 rfl ?_
  refine rr_isub F dX1_bestWithRun_19 ?_
  refine rr_max F ml_X1_136 ⟨by omega, by omega⟩ ⟨by omega, by omega⟩ (by decide) (Nat.le_of_ble_eq_true rfl) dX1_bestWithRun_20 ?_
  refine rr_iadd F dX1_bestWithRun_23 ?_
  refine rr_iret F dX1_bestWithRun_24 ?_
  exact ⟨_, rfl, rfl, rfl, rfl⟩
/-- the matrix holds the best scores behind (i, j) in the order of its filling -/
def BmS (σ : sT) (a b i j : Int) (I : IM) : Prop := ∀ i' j', 0 ≤ i' → i' ≤ s_sz σ a → 0 ≤ j' → j' ≤ s_sz σ b → (i < i' ∨ (i' = i ∧ j < j')) → I 21 (i' * 41 + j') = sB σ a b i' j'
theorem sB_eq {σ : sT} (hW : WF σ) {a b i j : Int} (hi0 : 0 ≤ i) (hi : i < s_sz σ a) (hj0 : 0 ≤ j) (hj : j < s_sz σ b) : sB σ a b i j = if 0 < rln σ a b i j then max (max (sB σ a b (i + 1) j) (sB σ a b i (j + 1))) (rln σ a b i j + max 0 (sB σ a b (i + rln σ a b i j) (j + rln σ a b i j) - s_gp σ)) else max (sB σ a b (i + 1) j) (sB σ a b i (j + 1)) := bB_eq (rln_H hW a b) hi0 hi hj0 hj
theorem sB_b {σ : sT} (hW : WF σ) (a b i j : Int) (hi : 0 ≤ i) : 0 ≤ sB σ a b i j ∧ sB σ a b i j ≤ 40 := by
  have h := bB_b (rln_H hW a b) i j
  have w := hW.2.2.2.1 a
  unfold sB
  omega
theorem sB_out {σ : sT} {a b i j : Int} (h : ¬ (i < s_sz σ a ∧ j < s_sz σ b)) : sB σ a b i j = 0 := bB_out h
set_option maxHeartbeats 4000000 in
set_option maxRecDepth 100000 in
theorem mm_X1_bestFrom {l : Launch} {g : gT} {σ : sT} {a b i j : Int} {I : IM} {L : LM} (hW : WF σ) (hi0 : 0 ≤ i) (hi : i < s_sz σ a) (hj0 : 0 ≤ j) (hj : j < s_sz σ b) (hB : BmS σ a b i j I) (hM : I 20 (i * 41 + j) = rln σ a b i j) :
    Ct l yX1_bestFrom cX1_bestFrom 6 (some .int) 2 45 lyC g [.ref (g.2.1 18), .int (zI i), .int (zI j), .int (zI (s_gp σ))] I L (pI (fun r I' L' => r = sB σ a b i j ∧ I = I' ∧ L = L')) := by
  have w4a := hW.2.2.2.1 a
  have w4b := hW.2.2.2.1 b
  have wg := hW.2.2.2.2.2.2.2.2.1
  have e := sB_eq hW (a := a) (b := b) hi0 hi hj0 hj
  have rb := rln_b hW a b i j
  have b1 := sB_b hW a b (i + 1) j (by omega)
  have b2 := sB_b hW a b i (j + 1) hi0
  have b3 := sB_b hW a b (i + rln σ a b i j) (j + rln σ a b i j) (by omega)
  have m1 := hB (i + 1) j (by omega) (by omega) hj0 (by omega) (by omega)
  have m2 := hB i (j + 1) (by omega) (by omega) (by omega) (by omega) (by omega)
  rw [show i * 41 + (j + 1) = i * 41 + j + 1 by omega] at m2
  refine Ct.of RX1 (by decide +kernel) rfl (Nat.le_of_ble_eq_true rfl) (fun x hx F => ?_)
  refine rr_aload_n F dX1_bestFrom_0 rfl ?_
  refine rg_Comparison_best F (by first | rfl | assumption) fl_X1_41 dX1_bestFrom_1 ?_
  refine rr_cell (k2 := 21) rfl ?_
  refine rr_iload_n F dX1_bestFrom_4 rfl ?_
  refine rr_iconst F dX1_bestFrom_5 ?_
  refine rr_iadd F dX1_bestFrom_6 ?_
  refine rr_bipush F dX1_bestFrom_7 (by decide) ?_
  refine rr_imul F dX1_bestFrom_9 ?_
  refine rr_iload_n F dX1_bestFrom_10 rfl ?_
  refine rr_iadd F dX1_bestFrom_11 ?_
  refine rr_iald F (N := 1681) (by first | rfl | assumption) (by omega) (by first | rfl | assumption) (by omega) dX1_bestFrom_12 ?_
  refine rr_aload_n F dX1_bestFrom_13 rfl ?_
  refine rg_Comparison_best F (by first | rfl | assumption) fl_X1_41 dX1_bestFrom_14 ?_
  refine rr_cell (k2 := 21) rfl ?_
  refine rr_iload_n F dX1_bestFrom_17 rfl ?_
  refine rr_bipush F dX1_bestFrom_18 (by decide) ?_
  refine rr_imul F dX1_bestFrom_20 ?_
  refine rr_iload_n F dX1_bestFrom_21 rfl ?_
  refine rr_iadd F dX1_bestFrom_22 ?_
  refine rr_iconst F dX1_bestFrom_23 ?_
  refine rr_iadd F dX1_bestFrom_24 ?_
  refine rr_iald F (N := 1681) (by first | rfl | assumption) (by omega) (by first | rfl | assumption) (by omega) dX1_bestFrom_25 ?_
  rw [m1, m2]
  refine rr_max F ml_X1_136 ⟨by omega, by omega⟩ ⟨by omega, by omega⟩ (by decide) (Nat.le_of_ble_eq_true rfl) dX1_bestFrom_26 ?_
  refine rr_istore F dX1_bestFrom_29 (Nat.le_of_ble_eq_true rfl) rfl ?_
  refine rr_aload_n F dX1_bestFrom_31 rfl ?_
  refine rg_Comparison_runLengths F (by first | rfl | assumption) fl_X1_38 dX1_bestFrom_32 ?_
  refine rr_cell (k2 := 20) rfl ?_
  refine rr_iload_n F dX1_bestFrom_35 rfl ?_
  refine rr_bipush F dX1_bestFrom_36 (by decide) ?_
  refine rr_imul F dX1_bestFrom_38 ?_
  refine rr_iload_n F dX1_bestFrom_39 rfl ?_
  refine rr_iadd F dX1_bestFrom_40 ?_
  refine rr_iald F (N := 1681) (by first | rfl | assumption) (by omega) (by first | rfl | assumption) (by omega) dX1_bestFrom_41 ?_
  rw [hM]
  refine rr_istore F dX1_bestFrom_42 (Nat.le_of_ble_eq_true rfl) rfl ?_
  refine rr_iload F dX1_bestFrom_44 rfl ?_
  refine rr_if_le F dX1_bestFrom_46 (tgt := 66) (by decide) ⟨by omega, by omega⟩ (fun c_46 => ?_) (fun c_46 => ?_)
  · refine rr_iload F dX1_bestFrom_66 rfl ?_
    refine rr_iret F dX1_bestFrom_68 ?_
    refine ⟨_, rfl, ?_, rfl, rfl⟩
    rw [e]
    first | (rw [if_pos c_46, e57]; done) | (rw [if_neg (Int.not_lt.mpr c_46)]; done)
  · refine rr_iload F dX1_bestFrom_49 rfl ?_
    refine rr_aload_n F dX1_bestFrom_51 rfl ?_
    refine rr_iload_n F dX1_bestFrom_52 rfl ?_
    refine rr_iload_n F dX1_bestFrom_53 rfl ?_
    refine rr_iload F dX1_bestFrom_54 rfl ?_
    refine rr_iload_n F dX1_bestFrom_56 rfl ?_
    refine rr_callVI F (ci := 1) (mm_X1_bestWithRun hi0 hj0 (by omega) (by omega) (by omega) wg.1 wg.2 b3.1 b3.2 (hB _ _ (by omega) (by omega) (by omega) (by omega) (by omega))) mf_X1_bestWithRun ml_X1_139 ⟨by decide, by decide⟩ (by first | rfl | assumption) (by decide) rfl rfl (Nat.le_of_ble_eq_true rfl) dX1_bestFrom_57 (fun r_57 I_57 L_57 h_57 => ?_)
    obtain ⟨e57, rfl, rfl⟩ := h_57
    refine rr_max F ml_X1_136 ⟨by omega, by omega⟩ ⟨by omega, by omega⟩ (by decide) (Nat.le_of_ble_eq_true rfl) dX1_bestFrom_60 ?_
    refine rr_goto F dX1_bestFrom_63 (tgt := 68) (by decide) ?_
    refine rr_iret F dX1_bestFrom_68 ?_
    refine ⟨_, rfl, ?_, rfl, rfl⟩
    rw [e]
    first | (rw [if_pos c_46, e57]; done) | (rw [if_neg (Int.not_lt.mpr c_46)]; done)
set_option maxHeartbeats 4000000 in
set_option maxRecDepth 100000 in
theorem mm_X1_findBest {l : Launch} {g : gT} {σ : sT} {a b : Int} {I : IM} {L : LM} (hC : CmpS σ a b I L) (hW : WF σ) (hM : ∀ i j, 0 ≤ i → i < s_sz σ a → 0 ≤ j → j < s_sz σ b → I 20 (i * 41 + j) = rln σ a b i j) :
    Ct l yX1_findBest cX1_findBest 4 none 3 70 lyC g [.ref (g.2.1 18), .int (zI (s_gp σ))] I L (pV (fun I' L' => BmS σ a b (-1) 0 I' ∧ (∀ q, q ≠ 21 → I' q = I q) ∧ L = L')) := by
  have w4a := hW.2.2.2.1 a
  have w4b := hW.2.2.2.1 b
  have wg := hW.2.2.2.2.2.2.2.2.1
  refine Ct.of RX1 (by decide +kernel) rfl (Nat.le_of_ble_eq_true rfl) (fun x hx F => ?_)
  generalize hpost : (pV (fun (I' : IM) (L' : LM) => BmS σ a b (-1) 0 I' ∧ (∀ q, q ≠ 21 → I' q = I q) ∧ L = L')) = post
  have loop : ∀ (c : Nat) (i : Int) (I1 : IM), c = (i + 1).toNat → -1 ≤ i → i ≤ s_sz σ a → BmS σ a b i (s_sz σ b) I1 → (∀ q, q ≠ 21 → I1 q = I q) → Rn x lyC g post 8 [vr g 18, vn (s_gp σ), vn i, none] [] I1 L := by
    intro c
    induction c with
    | zero =>
      intro i I1 h1 h2 h3 h4 h5
      have ei : i = -1 := by omega
      refine rr_iload_n F dX1_findBest_8 rfl ?_
      refine rr_if_lt F dX1_findBest_9 (tgt := 80) (by decide) ⟨by omega, by omega⟩ (fun c_9 => ?_) (fun c_9 => ?_)
      · refine rr_vret F dX1_findBest_80 ?_
        rw [← hpost]
        refine ⟨rfl, fun i' j' u v p q z => h4 i' j' u v p q (by omega), h5, rfl⟩
      · exfalso
        omega
    | succ c ih =>
      intro i I1 h1 h2 h3 h4 h5
      have inner : ∀ (d : Nat) (j : Int) (I2 : IM), d = (j + 1).toNat → -1 ≤ j → j ≤ s_sz σ b → BmS σ a b i j I2 → (∀ q, q ≠ 21 → I2 q = I q) → Rn x lyC g post 20 [vr g 18, vn (s_gp σ), vn i, vn j] [] I2 L := by
        intro d
        induction d with
        | zero =>
          intro j I2 g1 g2 g3 g4 g5
          have ej : j = -1 := by omega
          refine rr_iload_n F dX1_findBest_20 rfl ?_
          refine rr_if_lt F dX1_findBest_21 (tgt := 74) (by decide) ⟨by omega, by omega⟩ (fun c_21 => ?_) (fun c_21 => ?_)
          · refine rr_iinc F dX1_findBest_74 rfl rfl ?_
            refine rr_goto F dX1_findBest_77 (tgt := 8) (by decide) ?_
            refine rr_drop 3 ?_
            exact ih (i + -1) I2 (by omega) (by omega) (by omega) (fun i' j' u v p q z => g4 i' j' u v p q (by omega)) g5
          · exfalso
            omega
        | succ d ihd =>
          intro j I2 g1 g2 g3 g4 g5
          have sA : I2 22 5 = s_sz σ a := by rw [g5 22 (by omega)]; exact hC.1.1
          have sB' : I2 28 5 = s_sz σ b := by rw [g5 28 (by omega)]; exact hC.2.1
          have store : ∀ v : Int, v = sB σ a b i j → Rn x lyC g post 68 [vr g 18, vn (s_gp σ), vn i, vn j] [] (up2 I2 21 (i * 41 + j) v) L := by
            intro v hv
            refine rr_iinc F dX1_findBest_68 rfl rfl ?_
            refine rr_goto F dX1_findBest_71 (tgt := 20) (by decide) ?_
            refine ihd (j + -1) _ (by omega) (by omega) (by omega) (fun i' j' u v' p q z => ?_) (fun q u => ?_)
            · by_cases e : i' = i ∧ j' = j
              · rw [e.1, e.2, up2_same, hv]
              · rw [up2_ne _ _ _ (by omega)]; exact g4 i' j' u v' p q (by omega)
            · rw [up2_cell _ _ _ u]; exact g5 q u
          refine rr_iload_n F dX1_findBest_20 rfl ?_
          refine rr_if_lt F dX1_findBest_21 (tgt := 74) (by decide) ⟨by omega, by omega⟩ (fun c_21 => ?_) (fun c_21 => ?_)
          · exfalso
            omega
          · refine rr_aload_n F dX1_findBest_24 rfl ?_
            refine rg_Comparison_best F (by first | rfl | assumption) fl_X1_41 dX1_findBest_25 ?_
            refine rr_cell (k2 := 21) rfl ?_
            refine rr_iload_n F dX1_findBest_28 rfl ?_
            refine rr_bipush F dX1_findBest_29 (by decide) ?_
            refine rr_imul F dX1_findBest_31 ?_
            refine rr_iload_n F dX1_findBest_32 rfl ?_
            refine rr_iadd F dX1_findBest_33 ?_
            refine rr_iload_n F dX1_findBest_34 rfl ?_
            refine rr_aload_n F dX1_findBest_35 rfl ?_
            refine rg_Comparison_left F (by first | rfl | assumption) fl_X1_28 dX1_findBest_36 ?_
            refine rr_cell (k2 := 22) rfl ?_
            refine rg_Page_size F (by first | rfl | assumption) fl_X1_88 dX1_findBest_39 ?_
            refine rr_icmp_ge F dX1_findBest_42 (tgt := 66) (by decide) ⟨by omega, by omega⟩ ⟨by omega, by omega⟩ (fun c_42 => ?_) (fun c_42 => ?_)
            · refine rr_iconst F dX1_findBest_66 ?_
              refine rr_iast F (N := 1681) (by first | rfl | assumption) (by omega) (by first | rfl | assumption) (by omega) dX1_findBest_67 ?_
              first | exact store _ e60 | exact store 0 (sB_out (by omega)).symm
            · refine rr_iload_n F dX1_findBest_45 rfl ?_
              refine rr_aload_n F dX1_findBest_46 rfl ?_
              refine rg_Comparison_right F (by first | rfl | assumption) fl_X1_32 dX1_findBest_47 ?_
              refine rr_cell (k2 := 28) rfl ?_
              refine rg_Page_size F (by first | rfl | assumption) fl_X1_88 dX1_findBest_50 ?_
              refine rr_icmp_ge F dX1_findBest_53 (tgt := 66) (by decide) ⟨by omega, by omega⟩ ⟨by omega, by omega⟩ (fun c_53 => ?_) (fun c_53 => ?_)
              · refine rr_iconst F dX1_findBest_66 ?_
                refine rr_iast F (N := 1681) (by first | rfl | assumption) (by omega) (by first | rfl | assumption) (by omega) dX1_findBest_67 ?_
                first | exact store _ e60 | exact store 0 (sB_out (by omega)).symm
              · refine rr_aload_n F dX1_findBest_56 rfl ?_
                refine rr_iload_n F dX1_findBest_57 rfl ?_
                refine rr_iload_n F dX1_findBest_58 rfl ?_
                refine rr_iload_n F dX1_findBest_59 rfl ?_
                refine rr_callVI F (ci := 1) (mm_X1_bestFrom hW (by omega) (by omega) (by omega) (by omega) g4 (by rw [g5 20 (by omega)]; exact hM i j (by omega) (by omega) (by omega) (by omega))) mf_X1_bestFrom ml_X1_133 ⟨by decide, by decide⟩ (by first | rfl | assumption) (by decide) rfl rfl (Nat.le_of_ble_eq_true rfl) dX1_findBest_60 (fun r_60 I_60 L_60 h_60 => ?_)
                obtain ⟨e60, rfl, rfl⟩ := h_60
                refine rr_goto F dX1_findBest_63 (tgt := 67) (by decide) ?_
                refine rr_iast F (N := 1681) (by first | rfl | assumption) (by omega) (by first | rfl | assumption) (by omega) dX1_findBest_67 ?_
                first | exact store _ e60 | exact store 0 (sB_out (by omega)).symm
      have sB' : I1 28 5 = s_sz σ b := by rw [h5 28 (by omega)]; exact hC.2.1
      refine rr_iload_n F dX1_findBest_8 rfl ?_
      refine rr_if_lt F dX1_findBest_9 (tgt := 80) (by decide) ⟨by omega, by omega⟩ (fun c_9 => ?_) (fun c_9 => ?_)
      · exfalso
        omega
      · refine rr_aload_n F dX1_findBest_12 rfl ?_
        refine rg_Comparison_right F (by first | rfl | assumption) fl_X1_32 dX1_findBest_13 ?_
        refine rr_cell (k2 := 28) rfl ?_
        refine rg_Page_size F (by first | rfl | assumption) fl_X1_88 dX1_findBest_16 ?_
        refine rr_istore_n F dX1_findBest_19 (Nat.le_of_ble_eq_true rfl) rfl ?_
        rw [sB']
        exact inner _ (s_sz σ b) I1 rfl (by omega) (by omega) h4 h5
  have sA : I 22 5 = s_sz σ a := hC.1.1
  refine rr_aload_n F dX1_findBest_0 rfl ?_
  refine rg_Comparison_left F (by first | rfl | assumption) fl_X1_28 dX1_findBest_1 ?_
  refine rr_cell (k2 := 22) rfl ?_
  refine rg_Page_size F (by first | rfl | assumption) fl_X1_88 dX1_findBest_4 ?_
  refine rr_istore_n F dX1_findBest_7 (Nat.le_of_ble_eq_true rfl) rfl ?_
  rw [sA]
  exact loop _ (s_sz σ a) I rfl (by omega) (by omega) (fun i' j' u v p q z => absurd z (by omega)) (fun q u => rfl)
theorem sB_nil {σ : sT} (hW : WF σ) {a b i j : Int} (hi : 0 ≤ i) (hj : 0 ≤ j) (h : runsL σ a b = []) : sB σ a b i j = 0 := by
  have hb := sB_b hW a b i j hi
  by_cases z : 0 < sB σ a b i j
  · obtain ⟨q, x, -, hx, -⟩ := nxF_of hW hi hj z
    rw [h] at hx
    simp at hx
  · omega
set_option maxHeartbeats 4000000 in
set_option maxRecDepth 100000 in
theorem mm_X1_scoreOf {l : Launch} {g : gT} {σ σ' : sT} {a b t : Int} {I : IM} {L : LM} (hR : CR σ I L) (hW : WF σ) (ha0 : 0 ≤ a) (ha : a < 6) (hb0 : 0 ≤ b) (hb : b < 6) (hab : a ≠ b) (hha : s_hd σ a = 1) (hhb : s_hd σ b = 1) (ht0 : 0 ≤ t) (ht : t ≤ 40)
    (hs : σ'.2.2 = σ.2.2 ∧ s_sz σ' = s_sz σ ∧ s_lg σ' = s_lg σ ∧ ∀ c, c ≠ b → s_tk σ' c = s_tk σ c) (hst : ∀ i, 0 ≤ i → i < s_sz σ b → s_tk σ b ((i + t) % s_sz σ b) = s_tk σ' b i) (hW' : WF σ') :
    Ct l yX1_scoreOf cX1_scoreOf 5 (some .int) 4 100 lyC g [.ref (g.2.1 18), .ref (g.2.1 4), .int (zI a), .int (zI b), .int (zI t)] I L (pI (fun r I' L' => r = sB σ' a b 0 0 ∧ CmpS σ' a b I' L' ∧ (∀ i j, 0 ≤ i → i < s_sz σ' a → 0 ≤ j → j < s_sz σ' b → I' 20 (i * 41 + j) = rln σ' a b i j) ∧ (runsL σ' a b ≠ [] → BmS σ' a b (-1) 0 I') ∧ kC I L I' L')) := by
  have rl := runsL_len hW' a b
  have eg : s_gp σ' = s_gp σ := by show σ'.2.2.2.2.1 = σ.2.2.2.2.1; rw [hs.1]
  have b0 := sB_b hW' a b 0 0 (by omega)
  have w4a := hW'.2.2.2.1 a
  have w4b := hW'.2.2.2.1 b
  refine Ct.of RX1 (by decide +kernel) rfl (Nat.le_of_ble_eq_true rfl) (fun x hx F => ?_)
  refine rr_aload_n F dX1_scoreOf_0 rfl ?_
  refine rr_aload_n F dX1_scoreOf_1 rfl ?_
  refine rr_iload_n F dX1_scoreOf_2 rfl ?_
  refine rr_iload_n F dX1_scoreOf_3 rfl ?_
  refine rr_iload F dX1_scoreOf_4 rfl ?_
  refine rr_callVV F (ci := 1) (mm_X1_compare hR hW ha0 ha hb0 hb hab hha hhb ht0 ht hs hst hW') mf_X1_compare ml_X1_73 ⟨by decide, by decide⟩ (by first | rfl | assumption) (by decide) rfl rfl (Nat.le_of_ble_eq_true rfl) dX1_scoreOf_6 (fun I_6 L_6 h_6 => ?_)
  obtain ⟨c1, c2, c3, c4⟩ := h_6
  rw [← hs.2.1] at c2
  have eg1 : I_6 4 4 = s_gp σ' := by rw [(c4 4 (by omega)).1, eg]; exact hR.2.2.2.2.2.2.1
  refine rr_aload_n F dX1_scoreOf_9 rfl ?_
  refine rg_Comparison_runCount F (by first | rfl | assumption) fl_X1_22 dX1_scoreOf_10 ?_
  refine rr_if_ne F dX1_scoreOf_13 (tgt := 18) (by decide) ⟨by omega, by omega⟩ (fun c_13 => ?_) (fun c_13 => ?_)
  · refine rr_aload_n F dX1_scoreOf_18 rfl ?_
    refine rr_aload_n F dX1_scoreOf_19 rfl ?_
    refine rg_Shelf_gapCost F (by first | rfl | assumption) fl_X1_77 dX1_scoreOf_20 ?_
    rw [eg1]
    refine rr_callVV F (ci := 1) (mm_X1_findBest c1 hW' c2) mf_X1_findBest ml_X1_80 ⟨by decide, by decide⟩ (by first | rfl | assumption) (by decide) rfl rfl (Nat.le_of_ble_eq_true rfl) dX1_scoreOf_23 (fun I_23 L_23 h_23 => ?_)
    obtain ⟨d1, d2, rfl⟩ := h_23
    refine rr_aload_n F dX1_scoreOf_26 rfl ?_
    refine rg_Comparison_best F (by first | rfl | assumption) fl_X1_41 dX1_scoreOf_27 ?_
    refine rr_cell (k2 := 21) rfl ?_
    refine rr_iconst F dX1_scoreOf_30 ?_
    refine rr_iald F (N := 1681) (by first | rfl | assumption) (by omega) (by first | rfl | assumption) (by omega) dX1_scoreOf_31 ?_
    refine rr_iret F dX1_scoreOf_32 ?_
    refine ⟨_, rfl, d1 0 0 (by omega) (by omega) (by omega) (by omega) (by omega), c1.fr (fun q u v => d2 q (by omega)), fun i j u v p q => by rw [d2 20 (by omega)]; exact c2 i j u v p q, fun _ => d1, c4.tr (fun q u => ⟨d2 q (by omega), rfl⟩)⟩
  · refine rr_iconst F dX1_scoreOf_16 ?_
    refine rr_iret F dX1_scoreOf_17 ?_
    have hnil : runsL σ' a b = [] := List.eq_nil_of_length_eq_zero (by omega)
    exact ⟨_, rfl, (sB_nil hW' (by omega) (by omega) hnil).symm, c1, c2, fun z => absurd hnil z, c4⟩
noncomputable def sp_score (σ : sT) (a b : Int) : Int := if rP σ a b = 0 then sB σ a b 0 0 else rP σ a b
set_option maxHeartbeats 4000000 in
set_option maxRecDepth 100000 in
theorem mm_X7_score {l : Launch} {g : gT} {σ : sT} {a b : Int} {I : IM} {L : LM} (ha : rg a) (hb : rg b) (hR : CR σ I L) (hW : WF σ) :
    Ct l yX7_score cX7_score 4 (some .int) 5 124 lyC g [.ref (g.2.1 0), .int (zI a), .int (zI b)] I L (pS CR (sp_score σ a b, σ)) := by
  have hc := rP_cases σ a b
  refine Ct.of RX7 (by decide +kernel) rfl (Nat.le_of_ble_eq_true rfl) (fun x hx F => ?_)
  refine rr_aload_n F dX7_score_0 rfl ?_
  refine rr_iload_n F dX7_score_1 rfl ?_
  refine rr_iload_n F dX7_score_2 rfl ?_
  refine rr_callVI F (ci := 7) (mm_X7_refusalOfPair ha hb hR hW) mf_X7_refusalOfPair ml_X7_142 ⟨by decide, by decide⟩ (by first | rfl | assumption) (by decide) rfl rfl (Nat.le_of_ble_eq_true rfl) dX7_score_3 (fun r_3 I_3 L_3 h_3 => ?_)
  obtain ⟨e3, rfl, rfl⟩ := h_3
  refine rr_istore_n F dX7_score_6 (Nat.le_of_ble_eq_true rfl) rfl ?_
  refine rr_iload_n F dX7_score_7 rfl ?_
  refine rr_if_eq F dX7_score_8 (tgt := 15) (by decide) ⟨by omega, by omega⟩ (fun c_8 => ?_) (fun c_8 => ?_)
  · refine rr_aload_n F dX7_score_15 rfl ?_
    refine rg_BP_comparison F (by first | rfl | assumption) fl_X7_33 dX7_score_16 ?_
    refine rr_cell (k2 := 18) rfl ?_
    refine rr_aload_n F dX7_score_19 rfl ?_
    refine rg_BP_shelf F (by first | rfl | assumption) fl_X7_26 dX7_score_20 ?_
    refine rr_cell (k2 := 4) rfl ?_
    refine rr_iload_n F dX7_score_23 rfl ?_
    refine rr_iload_n F dX7_score_24 rfl ?_
    refine rr_iconst F dX7_score_25 ?_
    refine rr_callVI F (ci := 1) (mm_X1_scoreOf hR hW (by omega) (by omega) (by omega) (by omega) (by omega) (by omega) (by omega) (by omega) (by omega) (same_trn σ b) (zero_trn σ b) hW) mf_X1_scoreOf ml_X7_156 ⟨by decide, by decide⟩ (by first | rfl | assumption) (by decide) rfl rfl (Nat.le_of_ble_eq_true rfl) dX7_score_26 (fun r_26 I_26 L_26 h_26 => ?_)
    obtain ⟨c1, c2, c3, c4, c5⟩ := h_26
    refine rr_iret F dX7_score_29 ?_
    first
    | (refine ⟨_, rfl, ?_, hR.k c5⟩
       show _ = sp_score σ a b
       rw [sp_score, if_pos (by omega)]; exact c1)
    | (refine ⟨_, rfl, ?_, hR⟩
       show _ = sp_score σ a b
       rw [sp_score, if_neg (by omega)]; exact e3)
  · refine rr_iload_n F dX7_score_11 rfl ?_
    refine rr_goto F dX7_score_12 (tgt := 29) (by decide) ?_
    refine rr_iret F dX7_score_29 ?_
    first
    | (refine ⟨_, rfl, ?_, hR.k c5⟩
       show _ = sp_score σ a b
       rw [sp_score, if_pos (by omega)]; exact c1)
    | (refine ⟨_, rfl, ?_, hR⟩
       show _ = sp_score σ a b
       rw [sp_score, if_neg (by omega)]; exact e3)
