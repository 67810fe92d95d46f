/-! the model: runs -/
set_option maxHeartbeats 4000000 in
set_option maxRecDepth 100000 in
theorem mm_X8_isAlike {l : Launch} {g : gT} {σ : sT} {a b i j : Int} {I : IM} {L : LM} (hR : MR σ I L) (hW : WF σ) (ha0 : 0 ≤ a) (ha : a < 6) (hb0 : 0 ≤ b) (hb : b < 6) (hl : s_lg σ a = s_lg σ b) (hA : ∀ j, 0 ≤ j → j < s_sz σ a → I 10 (40 * a + j) = aF σ a j) (hB : ∀ j, 0 ≤ j → j < s_sz σ b → I 10 (40 * b + j) = aF σ b j) (hi : rg i) (hj : rg j) :
    Ct l yX8_isAlike cX8_isAlike 7 (some .boolean) 1 22 lyM g [.ref (g.2.1 0), .int (zI a), .int (zI b), .int (zI i), .int (zI j)] I L (pI (fun r I' L' => ((r = 1 ∧ AL σ a b i j) ∨ (r = 0 ∧ ¬ AL σ a b i j)) ∧ I = I' ∧ L = L')) := by
  obtain ⟨-, a2, -, -, a5⟩ := MRb hR ha0 ha
  obtain ⟨-, b2, -, -, b5⟩ := MRb hR hb0 hb
  have w4a := hW.2.2.2.1 a
  have w4b := hW.2.2.2.1 b
  have za := aF_01 σ a i
  have zb := aF_01 σ b j
  refine Ct.of RX8 (by decide +kernel) rfl (Nat.le_of_ble_eq_true rfl) (fun x hx F => ?_)
  refine rr_iload_n F dX8_isAlike_0 rfl ?_
  refine rr_iconst F dX8_isAlike_1 ?_
  refine rr_aload_n F dX8_isAlike_2 rfl ?_
  refine rg_Model_sizes F (by first | rfl | assumption) fl_X8_17 dX8_isAlike_3 ?_
  refine rr_cell (k2 := 3) rfl ?_
  refine rr_iload_n F dX8_isAlike_6 rfl ?_
  refine rr_iald F (N := 6) (by first | rfl | assumption) (by omega) (by first | rfl | assumption) (by omega) dX8_isAlike_7 ?_
  refine rr_iconst F dX8_isAlike_8 ?_
  refine rr_isub F dX8_isAlike_9 ?_
  refine rr_callSI F (mm_X8_in hi ⟨by omega, by omega⟩ ⟨by omega, by omega⟩) mf_X8_in ml_X8_86 ⟨by decide, by decide⟩ rfl (Nat.le_of_ble_eq_true rfl) dX8_isAlike_10 (fun r_10 I_10 L_10 h_10 => ?_)
  obtain ⟨e10, rfl, rfl⟩ := h_10
  refine rr_if_eq F dX8_isAlike_13 (tgt := 33) (by decide) ⟨by omega, by omega⟩ (fun c_13 => ?_) (fun c_13 => ?_)
  · refine rr_iconst F dX8_isAlike_33 ?_
    refine rr_zret F dX8_isAlike_34 (by decide) ?_
    exact ⟨_, rfl, Or.inr ⟨rfl, fun z => by have := z.1; have := z.2.1; omega⟩, rfl, rfl⟩
  · refine rr_iload F dX8_isAlike_16 rfl ?_
    refine rr_iconst F dX8_isAlike_18 ?_
    refine rr_aload_n F dX8_isAlike_19 rfl ?_
    refine rg_Model_sizes F (by first | rfl | assumption) fl_X8_17 dX8_isAlike_20 ?_
    refine rr_cell (k2 := 3) rfl ?_
    refine rr_iload_n F dX8_isAlike_23 rfl ?_
    refine rr_iald F (N := 6) (by first | rfl | assumption) (by omega) (by first | rfl | assumption) (by omega) dX8_isAlike_24 ?_
    refine rr_iconst F dX8_isAlike_25 ?_
    refine rr_isub F dX8_isAlike_26 ?_
    refine rr_callSI F (mm_X8_in hj ⟨by omega, by omega⟩ ⟨by omega, by omega⟩) mf_X8_in ml_X8_86 ⟨by decide, by decide⟩ rfl (Nat.le_of_ble_eq_true rfl) dX8_isAlike_27 (fun r_27 I_27 L_27 h_27 => ?_)
    obtain ⟨e27, rfl, rfl⟩ := h_27
    refine rr_if_ne F dX8_isAlike_30 (tgt := 35) (by decide) ⟨by omega, by omega⟩ (fun c_30 => ?_) (fun c_30 => ?_)
    · refine rr_bipush F dX8_isAlike_35 (by decide) ?_
      refine rr_iload_n F dX8_isAlike_37 rfl ?_
      refine rr_imul F dX8_isAlike_38 ?_
      refine rr_iload_n F dX8_isAlike_39 rfl ?_
      refine rr_iadd F dX8_isAlike_40 ?_
      refine rr_istore F dX8_isAlike_41 (Nat.le_of_ble_eq_true rfl) rfl ?_
      refine rr_bipush F dX8_isAlike_43 (by decide) ?_
      refine rr_iload_n F dX8_isAlike_45 rfl ?_
      refine rr_imul F dX8_isAlike_46 ?_
      refine rr_iload F dX8_isAlike_47 rfl ?_
      refine rr_iadd F dX8_isAlike_49 ?_
      refine rr_istore F dX8_isAlike_50 (Nat.le_of_ble_eq_true rfl) rfl ?_
      refine rr_aload_n F dX8_isAlike_52 rfl ?_
      refine rg_Model_tokens F (by first | rfl | assumption) fl_X8_26 dX8_isAlike_53 ?_
      refine rr_cell (k2 := 6) rfl ?_
      refine rr_iload F dX8_isAlike_56 rfl ?_
      refine rr_lald F (N := 240) (by first | rfl | assumption) (by omega) (by first | rfl | assumption) (by omega) dX8_isAlike_58 ?_
      refine rr_aload_n F dX8_isAlike_59 rfl ?_
      refine rg_Model_tokens F (by first | rfl | assumption) fl_X8_26 dX8_isAlike_60 ?_
      refine rr_cell (k2 := 6) rfl ?_
      refine rr_iload F dX8_isAlike_63 rfl ?_
      refine rr_lald F (N := 240) (by first | rfl | assumption) (by omega) (by first | rfl | assumption) (by omega) dX8_isAlike_65 ?_
      rw [a5 i (by omega) (by omega), b5 j (by omega) (by omega)]
      refine rr_lcmp F dX8_isAlike_66 ?_
      refine rr_lif_ne F dX8_isAlike_67 (tgt := 94) (by decide) (fun c_67 => ?_) (fun c_67 => ?_)
      · refine rr_iconst F dX8_isAlike_94 ?_
        refine rr_zret F dX8_isAlike_95 (by decide) ?_
        first
        | exact ⟨_, rfl, Or.inl ⟨rfl, ⟨by omega, by omega⟩, ⟨by omega, by omega⟩, c_67, hl, c_77, c_87⟩, rfl, rfl⟩
        | exact ⟨_, rfl, Or.inr ⟨rfl, fun z => c_67 z.2.2.1⟩, rfl, rfl⟩
        | exact ⟨_, rfl, Or.inr ⟨rfl, fun z => c_77 z.2.2.2.2.1⟩, rfl, rfl⟩
        | exact ⟨_, rfl, Or.inr ⟨rfl, fun z => c_87 z.2.2.2.2.2⟩, rfl, rfl⟩
      · refine rr_aload_n F dX8_isAlike_70 rfl ?_
        refine rg_Model_asides F (by first | rfl | assumption) fl_X8_65 dX8_isAlike_71 ?_
        refine rr_cell (k2 := 10) rfl ?_
        refine rr_iload F dX8_isAlike_74 rfl ?_
        refine rr_zald F (N := 240) (by first | rfl | assumption) (by omega) (by first | rfl | assumption) (by omega) dX8_isAlike_76 ?_
        rw [hA i (by omega) (by omega)]
        refine rr_if_ne F dX8_isAlike_77 (tgt := 94) (by decide) ⟨by omega, by omega⟩ (fun c_77 => ?_) (fun c_77 => ?_)
        · refine rr_iconst F dX8_isAlike_94 ?_
          refine rr_zret F dX8_isAlike_95 (by decide) ?_
          first
          | exact ⟨_, rfl, Or.inl ⟨rfl, ⟨by omega, by omega⟩, ⟨by omega, by omega⟩, c_67, hl, c_77, c_87⟩, rfl, rfl⟩
          | exact ⟨_, rfl, Or.inr ⟨rfl, fun z => c_67 z.2.2.1⟩, rfl, rfl⟩
          | exact ⟨_, rfl, Or.inr ⟨rfl, fun z => c_77 z.2.2.2.2.1⟩, rfl, rfl⟩
          | exact ⟨_, rfl, Or.inr ⟨rfl, fun z => c_87 z.2.2.2.2.2⟩, rfl, rfl⟩
        · refine rr_aload_n F dX8_isAlike_80 rfl ?_
          refine rg_Model_asides F (by first | rfl | assumption) fl_X8_65 dX8_isAlike_81 ?_
          refine rr_cell (k2 := 10) rfl ?_
          refine rr_iload F dX8_isAlike_84 rfl ?_
          refine rr_zald F (N := 240) (by first | rfl | assumption) (by omega) (by first | rfl | assumption) (by omega) dX8_isAlike_86 ?_
          rw [hB j (by omega) (by omega)]
          refine rr_if_ne F dX8_isAlike_87 (tgt := 94) (by decide) ⟨by omega, by omega⟩ (fun c_87 => ?_) (fun c_87 => ?_)
          · refine rr_iconst F dX8_isAlike_94 ?_
            refine rr_zret F dX8_isAlike_95 (by decide) ?_
            first
            | exact ⟨_, rfl, Or.inl ⟨rfl, ⟨by omega, by omega⟩, ⟨by omega, by omega⟩, c_67, hl, c_77, c_87⟩, rfl, rfl⟩
            | exact ⟨_, rfl, Or.inr ⟨rfl, fun z => c_67 z.2.2.1⟩, rfl, rfl⟩
            | exact ⟨_, rfl, Or.inr ⟨rfl, fun z => c_77 z.2.2.2.2.1⟩, rfl, rfl⟩
            | exact ⟨_, rfl, Or.inr ⟨rfl, fun z => c_87 z.2.2.2.2.2⟩, rfl, rfl⟩
          · refine rr_iconst F dX8_isAlike_90 ?_
            refine rr_goto F dX8_isAlike_91 (tgt := 95) (by decide) ?_
            refine rr_zret F dX8_isAlike_95 (by decide) ?_
            first
            | exact ⟨_, rfl, Or.inl ⟨rfl, ⟨by omega, by omega⟩, ⟨by omega, by omega⟩, c_67, hl, c_77, c_87⟩, rfl, rfl⟩
            | exact ⟨_, rfl, Or.inr ⟨rfl, fun z => c_67 z.2.2.1⟩, rfl, rfl⟩
            | exact ⟨_, rfl, Or.inr ⟨rfl, fun z => c_77 z.2.2.2.2.1⟩, rfl, rfl⟩
            | exact ⟨_, rfl, Or.inr ⟨rfl, fun z => c_87 z.2.2.2.2.2⟩, rfl, rfl⟩
    · refine rr_iconst F dX8_isAlike_33 ?_
      refine rr_zret F dX8_isAlike_34 (by decide) ?_
      exact ⟨_, rfl, Or.inr ⟨rfl, fun z => by have := z.1; have := z.2.1; omega⟩, rfl, rfl⟩
theorem rowR_nil {f : Int → Int → Int} {i : Int} (h : ∀ j, f i j ≤ 0) : ∀ n : Nat, rowR f i n = [] := by
  intro n
  induction n with
  | zero => rfl
  | succ n ih => rw [rowR, ih, if_neg (by have := h n; omega)]; rfl
theorem matR_nil {f : Int → Int → Int} (m : Nat) (h : ∀ i j, f i j ≤ 0) : ∀ n : Nat, matR f m n = [] := by
  intro n
  induction n with
  | zero => rfl
  | succ n ih => rw [matR, ih, rowR_nil (h n)]; rfl
theorem runsL_nil {σ : sT} {a b : Int} (h : ¬ s_lg σ a = s_lg σ b) : runsL σ a b = [] := by
  have h0 : ∀ i j, rln σ a b i j ≤ 0 := fun i j => by rw [rln_no1 (fun z => h z.2.2.2.1)]; omega
  rw [runsL, preR, matR_nil _ h0, rowR_nil (h0 _)]
  rfl
/-- the model's rows hold the runs R -/
def RwS (R : List rT) (I : IM) : Prop := I 0 18 = R.length ∧ ∀ (r : Nat) (q : rT), R[r]? = some q → I 11 r = q.1 ∧ I 12 r = q.2.1 ∧ I 13 r = q.2.2
def MkG (σ : sT) (a b i j o : Int) : Prop := ∃ u, 0 ≤ u ∧ u < o ∧ mF σ a (i + u) = 1 ∧ mF σ b (j + u) = 1
set_option maxHeartbeats 4000000 in
set_option maxRecDepth 100000 in
theorem mm_X8_findRuns {l : Launch} {g : gT} {σ : sT} {a b : Int} {I : IM} {L : LM} (hR : MR σ I L) (hW : WF σ) (ha0 : 0 ≤ a) (ha : a < 6) (hb0 : 0 ≤ b) (hb : b < 6) (hab : ¬ a = b) :
    Ct l yX8_findRuns cX8_findRuns 8 none 2 50 lyM g [.ref (g.2.1 0), .int (zI a), .int (zI b)] I L (pV (fun I' L' => RwS (runsL σ a b) I' ∧ kM I L I' L')) := by
  have w4a := hW.2.2.2.1 a
  have w4b := hW.2.2.2.1 b
  have w5a := hW.2.2.2.2.1 a
  have w5b := hW.2.2.2.2.1 b
  have w7 := hW.2.2.2.2.2.2.1
  have eR : runsL σ a b = preR (rln σ a b) (s_sz σ b) (s_sz σ a) 0 := rfl
  have rbb := fun i j => rln_b hW a b i j
  refine Ct.of RX8 (by decide +kernel) rfl (Nat.le_of_ble_eq_true rfl) (fun x hx F => ?_)
  generalize hpost : (pV (fun (I' : IM) (L' : LM) => RwS (runsL σ a b) I' ∧ kM I L I' L')) = post
  have main : s_lg σ a = s_lg σ b → ∀ I0 : IM, MR σ I0 L → (∀ j, 0 ≤ j → j < s_sz σ a → I0 10 (40 * a + j) = aF σ a j) → (∀ j, 0 ≤ j → j < s_sz σ b → I0 10 (40 * b + j) = aF σ b j) → (∀ j, 0 ≤ j → j < 40 → I0 8 (40 * a + j) = mF σ a j) → (∀ j, 0 ≤ j → j < 40 → I0 8 (40 * b + j) = mF σ b j) → kM I L I0 L → ∀ (c : Nat) (i : Int) (I1 : IM), c = (s_sz σ a - i).toNat → 0 ≤ i → i ≤ s_sz σ a → RwS (preR (rln σ a b) (s_sz σ b) i 0) I1 → (∀ q, 1 ≤ q → (q ≤ 10 ∨ q = 16) → I1 q = I0 q) → (∀ j, j ≠ 18 → I1 0 j = I0 0 j) → Rn x lyM g post 43 [vr g 0, vn a, vn b, vn i, none, none, none, none] [] I1 L := by
    intro hl I0 R0 hA hB mA mB k0 c
    have keep : ∀ I1 : IM, (∀ q, 1 ≤ q → (q ≤ 10 ∨ q = 16) → I1 q = I0 q) → (∀ j, j ≠ 18 → I1 0 j = I0 0 j) → kM I0 L I1 L := fun I1 z1 z2 => ⟨fun q u v => z1 q u (by omega), fun j hj => z2 j (by omega), rfl⟩
    induction c with
    | zero =>
      intro i I1 h1 h2 h3 h4 h5 h6
      have R1 := R0.k (keep I1 h5 h6)
      have a2 := (MRb R1 ha0 ha).2.1
      have ei : i = s_sz σ a := by omega
      refine rr_iload_n F dX8_findRuns_43 rfl ?_
      refine rr_aload_n F dX8_findRuns_44 rfl ?_
      refine rg_Model_sizes F (by first | rfl | assumption) fl_X8_17 dX8_findRuns_45 ?_
      refine rr_cell (k2 := 3) rfl ?_
      refine rr_iload_n F dX8_findRuns_48 rfl ?_
      refine rr_iald F (N := 6) (by first | rfl | assumption) (by omega) (by first | rfl | assumption) (by omega) dX8_findRuns_49 ?_
      refine rr_icmp_ge F dX8_findRuns_50 (tgt := 252) (by decide) ⟨by omega, by omega⟩ ⟨by omega, by omega⟩ (fun c_50 => ?_) (fun c_50 => ?_)
      · refine rr_vret F dX8_findRuns_252 ?_
        rw [← hpost]
        exact ⟨rfl, by rw [eR, ← ei]; exact h4, k0.tr (keep I1 h5 h6)⟩
      · exfalso
        omega
    | succ c ih =>
      intro i I1 h1 h2 h3 h4 h5 h6
      have R1 := R0.k (keep I1 h5 h6)
      have a2 := (MRb R1 ha0 ha).2.1
      have inner : ∀ (d : Nat) (j : Int) (I2 : IM), d = (s_sz σ b - j).toNat → 0 ≤ j → j ≤ s_sz σ b → RwS (preR (rln σ a b) (s_sz σ b) i j) I2 → (∀ q, 1 ≤ q → (q ≤ 10 ∨ q = 16) → I2 q = I0 q) → (∀ j, j ≠ 18 → I2 0 j = I0 0 j) → Rn x lyM g post 56 [vr g 0, vn a, vn b, vn i, vn j, none, none, none] [] I2 L := by
        intro d
        induction d with
        | zero =>
          intro j I2 g1 g2 g3 g4 g5 g6
          have R2 := R0.k (keep I2 g5 g6)
          have b2 := (MRb R2 hb0 hb).2.1
          have ej : j = s_sz σ b := by omega
          refine rr_iload F dX8_findRuns_56 rfl ?_
          refine rr_aload_n F dX8_findRuns_58 rfl ?_
          refine rg_Model_sizes F (by first | rfl | assumption) fl_X8_17 dX8_findRuns_59 ?_
          refine rr_cell (k2 := 3) rfl ?_
          refine rr_iload_n F dX8_findRuns_62 rfl ?_
          refine rr_iald F (N := 6) (by first | rfl | assumption) (by omega) (by first | rfl | assumption) (by omega) dX8_findRuns_63 ?_
          refine rr_icmp_ge F dX8_findRuns_64 (tgt := 246) (by decide) ⟨by omega, by omega⟩ ⟨by omega, by omega⟩ (fun c_64 => ?_) (fun c_64 => ?_)
          · refine rr_iinc F dX8_findRuns_246 rfl rfl ?_
            refine rr_goto F dX8_findRuns_249 (tgt := 43) (by decide) ?_
            refine rr_drop 4 ?_
            exact ih (i + 1) I2 (by omega) (by omega) (by omega) (by rw [ej] at g4; rw [preR_i _ _ i h2]; exact g4) g5 g6
          · exfalso
            omega
        | succ d ihd =>
          intro j I2 g1 g2 g3 g4 g5 g6
          have R2 := R0.k (keep I2 g5 g6)
          have b2 := (MRb R2 hb0 hb).2.1
          have ek2 : I2 0 7 = s_k σ := R2.2.2.2.2.1
          have hA2 : ∀ j, 0 ≤ j → j < s_sz σ a → I2 10 (40 * a + j) = aF σ a j := fun j u v => by rw [g5 10 (by omega) (by omega)]; exact hA j u v
          have hB2 : ∀ j, 0 ≤ j → j < s_sz σ b → I2 10 (40 * b + j) = aF σ b j := fun j u v => by rw [g5 10 (by omega) (by omega)]; exact hB j u v
          have mA2 : ∀ j, 0 ≤ j → j < 40 → I2 8 (40 * a + j) = mF σ a j := fun j u v => by rw [g5 8 (by omega) (by omega)]; exact mA j u v
          have mB2 : ∀ j, 0 ≤ j → j < 40 → I2 8 (40 * b + j) = mF σ b j := fun j u v => by rw [g5 8 (by omega) (by omega)]; exact mB j u v
          have pl := preR_len (rln σ a b) (m := s_sz σ b) w4b.2 h2 g2
          have pj := preR_j (rln σ a b) (s_sz σ b) i j g2
          have em := g4.1
          have next0 : rln σ a b i j = 0 → Rn x lyM g post 240 [vr g 0, vn a, vn b, vn i, vn j, none, none, none] [] I2 L := by
            intro hz
            refine rr_iinc F dX8_findRuns_240 rfl rfl ?_
            refine rr_goto F dX8_findRuns_243 (tgt := 56) (by decide) ?_
            exact ihd (j + 1) I2 (by omega) (by omega) (by omega) (by rw [pj, if_neg (by omega), List.append_nil]; exact g4) g5 g6
          have stored : ∀ n v : Int, 0 < n → rln σ a b i j = n → Rn x lyM g post 240 [vr g 0, vn a, vn b, vn i, vn j, vn n, vn v, none] [] (up2 (up2 (up2 (up2 I2 11 ((preR (rln σ a b) (s_sz σ b) i j).length : Int) i) 12 ((preR (rln σ a b) (s_sz σ b) i j).length : Int) j) 13 ((preR (rln σ a b) (s_sz σ b) i j).length : Int) n) 0 18 (((preR (rln σ a b) (s_sz σ b) i j).length : Int) + 1)) L := by
            intro n v hn0 hrl
            refine rr_iinc F dX8_findRuns_240 rfl rfl ?_
            refine rr_goto F dX8_findRuns_243 (tgt := 56) (by decide) ?_
            refine rr_drop 5 ?_
            refine rr_drop 6 ?_
            refine ihd (j + 1) _ (by omega) (by omega) (by omega) ⟨?_, fun r q hq => ?_⟩ (fun q u v => ?_) (fun q u => ?_)
            · rw [up2_same, pj, if_pos (by omega), List.length_append]; simp
            · rw [pj, if_pos (by omega), hrl] at hq
              rw [up2_cell _ _ _ (show (11 : Nat) ≠ 0 by decide), up2_cell _ _ _ (show (12 : Nat) ≠ 0 by decide), up2_cell _ _ _ (show (13 : Nat) ≠ 0 by decide), up2_cell _ _ _ (show (11 : Nat) ≠ 13 by decide), up2_cell _ _ _ (show (11 : Nat) ≠ 12 by decide), up2_cell _ _ _ (show (12 : Nat) ≠ 13 by decide)]
              by_cases e : r = (preR (rln σ a b) (s_sz σ b) i j).length
              · subst e
                rw [List.getElem?_append_right (Nat.le_refl _), Nat.sub_self] at hq
                cases hq
                exact ⟨up2_same _ _ _ _, up2_same _ _ _ _, up2_same _ _ _ _⟩
              · have hlt : r < (preR (rln σ a b) (s_sz σ b) i j).length := by
                  have := (List.getElem?_eq_some_iff.mp hq).1
                  rw [List.length_append] at this
                  simp at this
                  omega
                rw [List.getElem?_append_left hlt] at hq
                have z := g4.2 r q hq
                rw [up2_ne _ _ _ (by omega), up2_ne _ _ _ (by omega), up2_ne _ _ _ (by omega), up2_cell _ _ _ (show (12 : Nat) ≠ 11 by decide), up2_cell _ _ _ (show (13 : Nat) ≠ 12 by decide), up2_cell _ _ _ (show (13 : Nat) ≠ 11 by decide)]
                exact z
            · rw [up2_cell _ _ _ (by omega), up2_cell _ _ _ (by omega), up2_cell _ _ _ (by omega), up2_cell _ _ _ (by omega)]; exact g5 q u v
            · rw [up2_ne _ _ _ u, up2_cell _ _ _ (by omega), up2_cell _ _ _ (by omega), up2_cell _ _ _ (by omega)]; exact g6 q u
          have done1 : ∀ n v : Int, ¬ AL σ a b (i - 1) (j - 1) → 1 ≤ n → i + n ≤ s_sz σ a → j + n ≤ s_sz σ b → (∀ t, 0 ≤ t → t < n → AL σ a b (i + t) (j + t)) → ¬ AL σ a b (i + n) (j + n) → ((v = 1 ∧ MkS σ a b i j n) ∨ (v = 0 ∧ ¬ MkS σ a b i j n)) → Rn x lyM g post 193 [vr g 0, vn a, vn b, vn i, vn j, vn n, vn v, none] [] I2 L := by
            intro n v y0 y1 y2 y3 y4 y5 y6
            have key := rln_n y0 y1 (by omega) y4 y5
            refine rr_iload F dX8_findRuns_193 rfl ?_
            refine rr_if_eq F dX8_findRuns_195 (tgt := 240) (by decide) ⟨by omega, by omega⟩ (fun c_195 => ?_) (fun c_195 => ?_)
            · first | exact rr_drop 5 (rr_drop 6 (next0 (y6.elim (fun z => absurd z.1 (by omega)) (fun z => key.2 z.2)))) | exact stored n v (by omega) hrl
            · have hrl := key.1 (y6.elim (fun z => z.2) (fun z => absurd z.1 c_195))
              refine rr_aload_n F dX8_findRuns_198 rfl ?_
              refine rg_Model_runA F (by first | rfl | assumption) fl_X8_68 dX8_findRuns_199 ?_
              refine rr_cell (k2 := 11) rfl ?_
              refine rr_aload_n F dX8_findRuns_202 rfl ?_
              refine rg_Model_many F (by first | rfl | assumption) fl_X8_153 dX8_findRuns_203 ?_
              rw [em]
              refine rr_iload_n F dX8_findRuns_206 rfl ?_
              refine rr_iast F (N := 1600) (by first | rfl | assumption) (by omega) (by first | rfl | assumption) (by omega) dX8_findRuns_207 ?_
              refine rr_aload_n F dX8_findRuns_208 rfl ?_
              refine rg_Model_runB F (by first | rfl | assumption) fl_X8_71 dX8_findRuns_209 ?_
              refine rr_cell (k2 := 12) rfl ?_
              refine rr_aload_n F dX8_findRuns_212 rfl ?_
              refine rg_Model_many F (by first | rfl | assumption) fl_X8_153 dX8_findRuns_213 ?_
              rw [up2_cell _ _ _ (show (0 : Nat) ≠ 11 by decide), em]
              refine rr_iload F dX8_findRuns_216 rfl ?_
              refine rr_iast F (N := 1600) (by first | rfl | assumption) (by omega) (by first | rfl | assumption) (by omega) dX8_findRuns_218 ?_
              refine rr_aload_n F dX8_findRuns_219 rfl ?_
              refine rg_Model_runN F (by first | rfl | assumption) fl_X8_74 dX8_findRuns_220 ?_
              refine rr_cell (k2 := 13) rfl ?_
              refine rr_aload_n F dX8_findRuns_223 rfl ?_
              refine rg_Model_many F (by first | rfl | assumption) fl_X8_153 dX8_findRuns_224 ?_
              rw [up2_cell _ _ _ (show (0 : Nat) ≠ 12 by decide), up2_cell _ _ _ (show (0 : Nat) ≠ 11 by decide), em]
              refine rr_iload F dX8_findRuns_227 rfl ?_
              refine rr_iast F (N := 1600) (by first | rfl | assumption) (by omega) (by first | rfl | assumption) (by omega) dX8_findRuns_229 ?_
              refine rr_aload_n F dX8_findRuns_230 rfl ?_
              refine rr_dup F dX8_findRuns_231 rfl ?_
              refine rg_Model_many F (by first | rfl | assumption) fl_X8_153 dX8_findRuns_232 ?_
              rw [up2_cell _ _ _ (show (0 : Nat) ≠ 13 by decide), up2_cell _ _ _ (show (0 : Nat) ≠ 12 by decide), up2_cell _ _ _ (show (0 : Nat) ≠ 11 by decide), em]
              refine rr_iconst F dX8_findRuns_235 ?_
              refine rr_iadd F dX8_findRuns_236 ?_
              refine rp_Model_many F (by first | rfl | assumption) fl_X8_153 dX8_findRuns_237 ?_
              first | exact rr_drop 5 (rr_drop 6 (next0 (y6.elim (fun z => absurd z.1 (by omega)) (fun z => key.2 z.2)))) | exact stored n v (by omega) hrl
          have loopG : ∀ n : Int, ¬ AL σ a b (i - 1) (j - 1) → 1 ≤ n → i + n ≤ s_sz σ a → j + n ≤ s_sz σ b → (∀ t, 0 ≤ t → t < n → AL σ a b (i + t) (j + t)) → ¬ AL σ a b (i + n) (j + n) → ∀ (e : Nat) (o v : Int), e = (n - s_k σ + 1 - o).toNat → 0 ≤ o → (o = 0 ∨ o ≤ n - s_k σ + 1) → ((v = 1 ∧ MkG σ a b i j o) ∨ (v = 0 ∧ ¬ MkG σ a b i j o)) → Rn x lyM g post 128 [vr g 0, vn a, vn b, vn i, vn j, vn n, vn v, vn o] [] I2 L := by
            intro n y0 y1 y2 y3 y4 y5 e
            induction e with
            | zero =>
              intro o v f1 f2 f3 f4
              refine rr_iload F dX8_findRuns_128 rfl ?_
              refine rr_aload_n F dX8_findRuns_130 rfl ?_
              refine rg_Model_k F (by first | rfl | assumption) fl_X8_30 dX8_findRuns_131 ?_
              refine rr_iadd F dX8_findRuns_134 ?_
              refine rr_iload F dX8_findRuns_135 rfl ?_
              refine rr_icmp_gt F dX8_findRuns_137 (tgt := 193) (by decide) ⟨by omega, by omega⟩ ⟨by omega, by omega⟩ (fun c_137 => ?_) (fun c_137 => ?_)
              · refine rr_drop 7 ?_
                have eq : MkG σ a b i j o ↔ MkS σ a b i j n := ⟨fun ⟨u, z1, z2, z3⟩ => ⟨u, z1, by omega, z3⟩, fun ⟨u, z1, z2, z3⟩ => ⟨u, z1, by omega, z3⟩⟩
                exact done1 n v y0 y1 y2 y3 y4 y5 (by rw [← eq]; exact f4)
              · exfalso
                omega
            | succ e ihe =>
              intro o v f1 f2 f3 f4
              have z1 := mF_01 σ a (i + o)
              have z2 := mF_01 σ b (j + o)
              have v1 := mA2 (i + o) (by omega)
              have v2 := mB2 (j + o) (by omega)
              have up : (MkG σ a b i j o ∨ (mF σ a (i + o) = 1 ∧ mF σ b (j + o) = 1)) ↔ MkG σ a b i j (o + 1) := by
                constructor
                · rintro (⟨u, y1, y2, y3⟩ | y)
                  · exact ⟨u, y1, by omega, y3⟩
                  · exact ⟨o, f2, by omega, y⟩
                · rintro ⟨u, y1, y2, y3⟩
                  by_cases e : u = o
                  · subst e; exact Or.inr y3
                  · exact Or.inl ⟨u, y1, by omega, y3⟩
              have yes : (MkG σ a b i j o ∨ (mF σ a (i + o) = 1 ∧ mF σ b (j + o) = 1)) → Rn x lyM g post 185 [vr g 0, vn a, vn b, vn i, vn j, vn n, vn v, vn o] [.int (zI 1)] I2 L := by
                intro hy
                refine rr_istore F dX8_findRuns_185 (Nat.le_of_ble_eq_true rfl) rfl ?_
                refine rr_iinc F dX8_findRuns_187 rfl rfl ?_
                refine rr_goto F dX8_findRuns_190 (tgt := 128) (by decide) ?_
                exact ihe (o + 1) 1 (by omega) (by omega) (by omega) (Or.inl ⟨rfl, up.mp hy⟩)
              have no : ¬ (MkG σ a b i j o ∨ (mF σ a (i + o) = 1 ∧ mF σ b (j + o) = 1)) → Rn x lyM g post 185 [vr g 0, vn a, vn b, vn i, vn j, vn n, vn v, vn o] [.int (zI 0)] I2 L := by
                intro hy
                refine rr_istore F dX8_findRuns_185 (Nat.le_of_ble_eq_true rfl) rfl ?_
                refine rr_iinc F dX8_findRuns_187 rfl rfl ?_
                refine rr_goto F dX8_findRuns_190 (tgt := 128) (by decide) ?_
                exact ihe (o + 1) 0 (by omega) (by omega) (by omega) (Or.inr ⟨rfl, fun z => hy (up.mpr z)⟩)
              have nv : v = 0 → ¬ MkG σ a b i j o := fun hv => f4.elim (fun z => absurd z.1 (by omega)) (fun z => z.2)
              refine rr_iload F dX8_findRuns_128 rfl ?_
              refine rr_aload_n F dX8_findRuns_130 rfl ?_
              refine rg_Model_k F (by first | rfl | assumption) fl_X8_30 dX8_findRuns_131 ?_
              refine rr_iadd F dX8_findRuns_134 ?_
              refine rr_iload F dX8_findRuns_135 rfl ?_
              refine rr_icmp_gt F dX8_findRuns_137 (tgt := 193) (by decide) ⟨by omega, by omega⟩ ⟨by omega, by omega⟩ (fun c_137 => ?_) (fun c_137 => ?_)
              · exfalso
                omega
              · refine rr_iload F dX8_findRuns_140 rfl ?_
                refine rr_if_ne F dX8_findRuns_142 (tgt := 180) (by decide) (by exact ⟨by rcases f4 with z | z <;> omega, by rcases f4 with z | z <;> omega⟩) (fun c_142 => ?_) (fun c_142 => ?_)
                · refine rr_iconst F dX8_findRuns_180 ?_
                  refine rr_goto F dX8_findRuns_181 (tgt := 185) (by decide) ?_
                  first | exact yes (Or.inl (f4.elim (fun z => z.2) (fun z => absurd z.1 c_142))) | exact yes (Or.inr ⟨by omega, by omega⟩) | exact no (fun z => z.elim (nv c_142) (fun y => absurd y.1 (by omega))) | exact no (fun z => z.elim (nv c_142) (fun y => absurd y.2 (by omega)))
                · refine rr_aload_n F dX8_findRuns_145 rfl ?_
                  refine rg_Model_marks F (by first | rfl | assumption) fl_X8_59 dX8_findRuns_146 ?_
                  refine rr_cell (k2 := 8) rfl ?_
                  refine rr_bipush F dX8_findRuns_149 (by decide) ?_
                  refine rr_iload_n F dX8_findRuns_151 rfl ?_
                  refine rr_imul F dX8_findRuns_152 ?_
                  refine rr_iload_n F dX8_findRuns_153 rfl ?_
                  refine rr_iadd F dX8_findRuns_154 ?_
                  refine rr_iload F dX8_findRuns_155 rfl ?_
                  refine rr_iadd F dX8_findRuns_157 ?_
                  refine rr_zald F (N := 240) (by first | rfl | assumption) (by omega) (by first | rfl | assumption) (by omega) dX8_findRuns_158 ?_
                  rw [show 40 * a + i + o = 40 * a + (i + o) by omega, v1 (by omega)]
                  refine rr_if_eq F dX8_findRuns_159 (tgt := 184) (by decide) ⟨by omega, by omega⟩ (fun c_159 => ?_) (fun c_159 => ?_)
                  · refine rr_iconst F dX8_findRuns_184 ?_
                    first | exact yes (Or.inl (f4.elim (fun z => z.2) (fun z => absurd z.1 c_142))) | exact yes (Or.inr ⟨by omega, by omega⟩) | exact no (fun z => z.elim (nv c_142) (fun y => absurd y.1 (by omega))) | exact no (fun z => z.elim (nv c_142) (fun y => absurd y.2 (by omega)))
                  · refine rr_aload_n F dX8_findRuns_162 rfl ?_
                    refine rg_Model_marks F (by first | rfl | assumption) fl_X8_59 dX8_findRuns_163 ?_
                    refine rr_cell (k2 := 8) rfl ?_
                    refine rr_bipush F dX8_findRuns_166 (by decide) ?_
                    refine rr_iload_n F dX8_findRuns_168 rfl ?_
                    refine rr_imul F dX8_findRuns_169 ?_
                    refine rr_iload F dX8_findRuns_170 rfl ?_
                    refine rr_iadd F dX8_findRuns_172 ?_
                    refine rr_iload F dX8_findRuns_173 rfl ?_
                    refine rr_iadd F dX8_findRuns_175 ?_
                    refine rr_zald F (N := 240) (by first | rfl | assumption) (by omega) (by first | rfl | assumption) (by omega) dX8_findRuns_176 ?_
                    rw [show 40 * b + j + o = 40 * b + (j + o) by omega, v2 (by omega)]
                    refine rr_if_eq F dX8_findRuns_177 (tgt := 184) (by decide) ⟨by omega, by omega⟩ (fun c_177 => ?_) (fun c_177 => ?_)
                    · refine rr_iconst F dX8_findRuns_184 ?_
                      first | exact yes (Or.inl (f4.elim (fun z => z.2) (fun z => absurd z.1 c_142))) | exact yes (Or.inr ⟨by omega, by omega⟩) | exact no (fun z => z.elim (nv c_142) (fun y => absurd y.1 (by omega))) | exact no (fun z => z.elim (nv c_142) (fun y => absurd y.2 (by omega)))
                    · refine rr_iconst F dX8_findRuns_180 ?_
                      refine rr_goto F dX8_findRuns_181 (tgt := 185) (by decide) ?_
                      first | exact yes (Or.inl (f4.elim (fun z => z.2) (fun z => absurd z.1 c_142))) | exact yes (Or.inr ⟨by omega, by omega⟩) | exact no (fun z => z.elim (nv c_142) (fun y => absurd y.1 (by omega))) | exact no (fun z => z.elim (nv c_142) (fun y => absurd y.2 (by omega)))
          have loopN : ¬ AL σ a b (i - 1) (j - 1) → ∀ (e : Nat) (n : Int), e = (41 - n).toNat → 1 ≤ n → (∀ t, 0 ≤ t → t < n → AL σ a b (i + t) (j + t)) → Rn x lyM g post 98 [vr g 0, vn a, vn b, vn i, vn j, vn n, none, none] [] I2 L := by
            intro y0 e
            induction e with
            | zero =>
              intro n f1 f2 f3
              have z := f3 (n - 1) (by omega) (by omega)
              have z1 := z.1
              exfalso
              omega
            | succ e ihe =>
              intro n f1 f2 f3
              have z := f3 (n - 1) (by omega) (by omega)
              have z1 := z.1
              have z2 := z.2.1
              refine rr_aload_n F dX8_findRuns_98 rfl ?_
              refine rr_iload_n F dX8_findRuns_99 rfl ?_
              refine rr_iload_n F dX8_findRuns_100 rfl ?_
              refine rr_iload_n F dX8_findRuns_101 rfl ?_
              refine rr_iload F dX8_findRuns_102 rfl ?_
              refine rr_iadd F dX8_findRuns_104 ?_
              refine rr_iload F dX8_findRuns_105 rfl ?_
              refine rr_iload F dX8_findRuns_107 rfl ?_
              refine rr_iadd F dX8_findRuns_109 ?_
              refine rr_callVI F (ci := 8) (mm_X8_isAlike R2 hW ha0 ha hb0 hb hl hA2 hB2 ⟨by omega, by omega⟩ ⟨by omega, by omega⟩) mf_X8_isAlike ml_X8_156 ⟨by decide, by decide⟩ (by first | rfl | assumption) (by decide) rfl rfl (Nat.le_of_ble_eq_true rfl) dX8_findRuns_110 (fun r_110 I_110 L_110 h_110 => ?_)
              obtain ⟨e110, rfl, rfl⟩ := h_110
              refine rr_if_eq F dX8_findRuns_113 (tgt := 122) (by decide) ⟨by omega, by omega⟩ (fun c_113 => ?_) (fun c_113 => ?_)
              · refine rr_iconst F dX8_findRuns_122 ?_
                refine rr_istore F dX8_findRuns_123 (Nat.le_of_ble_eq_true rfl) rfl ?_
                refine rr_iconst F dX8_findRuns_125 ?_
                refine rr_istore F dX8_findRuns_126 (Nat.le_of_ble_eq_true rfl) rfl ?_
                exact loopG n y0 f2 (by omega) (by omega) f3 (e110.elim (fun z => absurd z.1 (by omega)) (fun z => z.2)) _ 0 0 rfl (by omega) (Or.inl rfl) (Or.inr ⟨rfl, fun ⟨u, p1, p2, p3⟩ => absurd p2 (by omega)⟩)
              · refine rr_iinc F dX8_findRuns_116 rfl rfl ?_
                refine rr_goto F dX8_findRuns_119 (tgt := 98) (by decide) ?_
                refine ihe (n + 1) (by omega) (by omega) (fun t u v => ?_)
                by_cases e : t = n
                · subst e; exact e110.elim (fun z => z.2) (fun z => absurd z.1 c_113)
                · exact f3 t u (by omega)
          refine rr_iload F dX8_findRuns_56 rfl ?_
          refine rr_aload_n F dX8_findRuns_58 rfl ?_
          refine rg_Model_sizes F (by first | rfl | assumption) fl_X8_17 dX8_findRuns_59 ?_
          refine rr_cell (k2 := 3) rfl ?_
          refine rr_iload_n F dX8_findRuns_62 rfl ?_
          refine rr_iald F (N := 6) (by first | rfl | assumption) (by omega) (by first | rfl | assumption) (by omega) dX8_findRuns_63 ?_
          refine rr_icmp_ge F dX8_findRuns_64 (tgt := 246) (by decide) ⟨by omega, by omega⟩ ⟨by omega, by omega⟩ (fun c_64 => ?_) (fun c_64 => ?_)
          · exfalso
            omega
          · refine rr_aload_n F dX8_findRuns_67 rfl ?_
            refine rr_iload_n F dX8_findRuns_68 rfl ?_
            refine rr_iload_n F dX8_findRuns_69 rfl ?_
            refine rr_iload_n F dX8_findRuns_70 rfl ?_
            refine rr_iload F dX8_findRuns_71 rfl ?_
            refine rr_callVI F (ci := 8) (mm_X8_isAlike R2 hW ha0 ha hb0 hb hl hA2 hB2 ⟨by omega, by omega⟩ ⟨by omega, by omega⟩) mf_X8_isAlike ml_X8_156 ⟨by decide, by decide⟩ (by first | rfl | assumption) (by decide) rfl rfl (Nat.le_of_ble_eq_true rfl) dX8_findRuns_73 (fun r_73 I_73 L_73 h_73 => ?_)
            obtain ⟨e73, rfl, rfl⟩ := h_73
            refine rr_if_eq F dX8_findRuns_76 (tgt := 240) (by decide) ⟨by omega, by omega⟩ (fun c_76 => ?_) (fun c_76 => ?_)
            · first | exact next0 (rln_no2 (e89.elim (fun z => z.2) (fun z => absurd z.1 (by omega)))) | exact next0 (rln_no1 (e73.elim (fun z => absurd z.1 (by omega)) (fun z => z.2)))
            · refine rr_aload_n F dX8_findRuns_79 rfl ?_
              refine rr_iload_n F dX8_findRuns_80 rfl ?_
              refine rr_iload_n F dX8_findRuns_81 rfl ?_
              refine rr_iload_n F dX8_findRuns_82 rfl ?_
              refine rr_iconst F dX8_findRuns_83 ?_
              refine rr_isub F dX8_findRuns_84 ?_
              refine rr_iload F dX8_findRuns_85 rfl ?_
              refine rr_iconst F dX8_findRuns_87 ?_
              refine rr_isub F dX8_findRuns_88 ?_
              refine rr_callVI F (ci := 8) (mm_X8_isAlike R2 hW ha0 ha hb0 hb hl hA2 hB2 ⟨by omega, by omega⟩ ⟨by omega, by omega⟩) mf_X8_isAlike ml_X8_156 ⟨by decide, by decide⟩ (by first | rfl | assumption) (by decide) rfl rfl (Nat.le_of_ble_eq_true rfl) dX8_findRuns_89 (fun r_89 I_89 L_89 h_89 => ?_)
              obtain ⟨e89, rfl, rfl⟩ := h_89
              refine rr_if_ne F dX8_findRuns_92 (tgt := 240) (by decide) ⟨by omega, by omega⟩ (fun c_92 => ?_) (fun c_92 => ?_)
              · first | exact next0 (rln_no2 (e89.elim (fun z => z.2) (fun z => absurd z.1 (by omega)))) | exact next0 (rln_no1 (e73.elim (fun z => absurd z.1 (by omega)) (fun z => z.2)))
              · refine rr_iconst F dX8_findRuns_95 ?_
                refine rr_istore F dX8_findRuns_96 (Nat.le_of_ble_eq_true rfl) rfl ?_
                refine loopN (e89.elim (fun z => absurd z.1 (by omega)) (fun z => z.2)) _ 1 rfl (by omega) (fun t u v => ?_)
                have e : t = 0 := by omega
                subst e
                rw [Int.add_zero, Int.add_zero]
                exact e73.elim (fun z => z.2) (fun z => absurd z.1 (by omega))
      refine rr_iload_n F dX8_findRuns_43 rfl ?_
      refine rr_aload_n F dX8_findRuns_44 rfl ?_
      refine rg_Model_sizes F (by first | rfl | assumption) fl_X8_17 dX8_findRuns_45 ?_
      refine rr_cell (k2 := 3) rfl ?_
      refine rr_iload_n F dX8_findRuns_48 rfl ?_
      refine rr_iald F (N := 6) (by first | rfl | assumption) (by omega) (by first | rfl | assumption) (by omega) dX8_findRuns_49 ?_
      refine rr_icmp_ge F dX8_findRuns_50 (tgt := 252) (by decide) ⟨by omega, by omega⟩ ⟨by omega, by omega⟩ (fun c_50 => ?_) (fun c_50 => ?_)
      · exfalso
        omega
      · refine rr_iconst F dX8_findRuns_53 ?_
        refine rr_istore F dX8_findRuns_54 (Nat.le_of_ble_eq_true rfl) rfl ?_
        exact inner _ 0 I1 rfl (by omega) (by omega) h4 h5 h6
  obtain ⟨-, -, a3, -, -⟩ := MRb hR ha0 ha
  obtain ⟨-, -, b3, -, -⟩ := MRb hR hb0 hb
  have R1 : MR σ (up2 I 0 18 0) L := hR.k ⟨fun q u v => by rw [up2_cell _ _ _ (by omega)], fun j hj => by rw [up2_ne _ _ _ (by omega)], rfl⟩
  refine rr_aload_n F dX8_findRuns_0 rfl ?_
  refine rr_iconst F dX8_findRuns_1 ?_
  refine rp_Model_many F (by first | rfl | assumption) fl_X8_153 dX8_findRuns_2 ?_
  refine rr_aload_n F dX8_findRuns_5 rfl ?_
  refine rg_Model_languages F (by first | rfl | assumption) fl_X8_20 dX8_findRuns_6 ?_
  refine rr_cell (k2 := 4) rfl ?_
  refine rr_iload_n F dX8_findRuns_9 rfl ?_
  refine rr_iald F (N := 6) (by first | rfl | assumption) (by omega) (by first | rfl | assumption) (by omega) dX8_findRuns_10 ?_
  refine rr_aload_n F dX8_findRuns_11 rfl ?_
  refine rg_Model_languages F (by first | rfl | assumption) fl_X8_20 dX8_findRuns_12 ?_
  refine rr_cell (k2 := 4) rfl ?_
  refine rr_iload_n F dX8_findRuns_15 rfl ?_
  refine rr_iald F (N := 6) (by first | rfl | assumption) (by omega) (by first | rfl | assumption) (by omega) dX8_findRuns_16 ?_
  rw [up2_cell _ _ _ (show (4 : Nat) ≠ 0 by decide), a3, b3]
  refine rr_icmp_eq F dX8_findRuns_17 (tgt := 21) (by decide) ⟨by omega, by omega⟩ ⟨by omega, by omega⟩ (fun c_17 => ?_) (fun c_17 => ?_)
  · refine rr_aload_n F dX8_findRuns_21 rfl ?_
    refine rr_iload_n F dX8_findRuns_22 rfl ?_
    refine rr_callVV F (ci := 8) (mm_X8_findAside R1 hW ha0 ha) mf_X8_findAside ml_X8_150 ⟨by decide, by decide⟩ (by first | rfl | assumption) (by decide) rfl rfl (Nat.le_of_ble_eq_true rfl) dX8_findRuns_23 (fun I_23 L_23 h_23 => ?_)
    obtain ⟨p1, p2, p3, rfl⟩ := h_23
    have R2 : MR σ I_23 L := R1.k ⟨fun q u v => p3 q (by omega), fun j hj => by rw [p3 0 (by omega)], rfl⟩
    refine rr_aload_n F dX8_findRuns_26 rfl ?_
    refine rr_iload_n F dX8_findRuns_27 rfl ?_
    refine rr_callVV F (ci := 8) (mm_X8_findAside R2 hW hb0 hb) mf_X8_findAside ml_X8_150 ⟨by decide, by decide⟩ (by first | rfl | assumption) (by decide) rfl rfl (Nat.le_of_ble_eq_true rfl) dX8_findRuns_28 (fun I_28 L_28 h_28 => ?_)
    obtain ⟨q1, q2, q3, rfl⟩ := h_28
    have R3 : MR σ I_28 L := R2.k ⟨fun q u v => q3 q (by omega), fun j hj => by rw [q3 0 (by omega)], rfl⟩
    refine rr_aload_n F dX8_findRuns_31 rfl ?_
    refine rr_iload_n F dX8_findRuns_32 rfl ?_
    refine rr_callVV F (ci := 8) (mm_X8_findMarks R3 hW ha0 ha) mf_X8_findMarks ml_X8_146 ⟨by decide, by decide⟩ (by first | rfl | assumption) (by decide) rfl rfl (Nat.le_of_ble_eq_true rfl) dX8_findRuns_33 (fun I_33 L_33 h_33 => ?_)
    obtain ⟨r1, r2, r3, rfl⟩ := h_33
    have R4 : MR σ I_33 L := R3.k ⟨fun q u v => r3 q (by omega) (by omega), fun j hj => by rw [r3 0 (by omega) (by omega)], rfl⟩
    refine rr_aload_n F dX8_findRuns_36 rfl ?_
    refine rr_iload_n F dX8_findRuns_37 rfl ?_
    refine rr_callVV F (ci := 8) (mm_X8_findMarks R4 hW hb0 hb) mf_X8_findMarks ml_X8_146 ⟨by decide, by decide⟩ (by first | rfl | assumption) (by decide) rfl rfl (Nat.le_of_ble_eq_true rfl) dX8_findRuns_38 (fun I_38 L_38 h_38 => ?_)
    obtain ⟨s1, s2, s3, rfl⟩ := h_38
    have R5 : MR σ I_38 L := R4.k ⟨fun q u v => s3 q (by omega) (by omega), fun j hj => by rw [s3 0 (by omega) (by omega)], rfl⟩
    have e0 : I_38 0 = up2 I 0 18 0 0 := by rw [s3 0 (by omega) (by omega), r3 0 (by omega) (by omega), q3 0 (by omega), p3 0 (by omega)]
    refine rr_iconst F dX8_findRuns_41 ?_
    refine rr_istore_n F dX8_findRuns_42 (Nat.le_of_ble_eq_true rfl) rfl ?_
    refine main c_17 I_38 R5 (fun j u v => ?_) (fun j u v => ?_) (fun j u v => ?_) s1 ⟨fun q u v => ?_, fun j hj => ?_, rfl⟩ _ 0 I_38 rfl (by omega) (by omega) ⟨?_, fun r q hq => by simp [preR_0] at hq⟩ (fun q u v => rfl) (fun j u => rfl)
    · rw [s3 10 (by omega) (by omega), r3 10 (by omega) (by omega), q2 _ (by omega)]; exact p1 j u v
    · rw [s3 10 (by omega) (by omega), r3 10 (by omega) (by omega)]; exact q1 j u v
    · rw [s2 _ (by omega)]; exact r1 j u v
    · rw [s3 q (by omega) (by omega), r3 q (by omega) (by omega), q3 q (by omega), p3 q (by omega), up2_cell _ _ _ (by omega)]
    · rw [e0, up2_ne _ _ _ (by omega)]
    · rw [e0, up2_same]; rfl
  · refine rr_vret F dX8_findRuns_20 ?_
    rw [← hpost]
    refine ⟨rfl, ?_, fun q u v => by rw [up2_cell _ _ _ (by omega)], fun j hj => by rw [up2_ne _ _ _ (by omega)], rfl⟩
    rw [runsL_nil c_17]
    exact ⟨by rw [up2_same]; rfl, fun r q hq => by simp at hq⟩
set_option maxHeartbeats 4000000 in
set_option maxRecDepth 100000 in
theorem mm_X8_runs {l : Launch} {g : gT} {σ : sT} {a b : Int} {I : IM} {L : LM} (ha : rg a) (hb : rg b) (hR : MR σ I L) (hW : WF σ) :
    Ct l yX8_runs cX8_runs 4 (some .int) 3 77 lyM g [.ref (g.2.1 0), .int (zI a), .int (zI b)] I L (pS MR (sp_runs σ a b, σ)) := by
  have hc := rP_cases σ a b
  refine Ct.of RX8 (by decide +kernel) rfl (Nat.le_of_ble_eq_true rfl) (fun x hx F => ?_)
  refine rr_aload_n F dX8_runs_0 rfl ?_
  refine rr_iload_n F dX8_runs_1 rfl ?_
  refine rr_iload_n F dX8_runs_2 rfl ?_
  refine rr_callVI F (ci := 8) (mm_X8_against ha hb hR hW) mf_X8_against ml_X8_160 ⟨by decide, by decide⟩ (by first | rfl | assumption) (by decide) rfl rfl (Nat.le_of_ble_eq_true rfl) dX8_runs_3 (fun r_3 I_3 L_3 h_3 => ?_)
  obtain ⟨e3, rfl, rfl⟩ := h_3
  refine rr_istore_n F dX8_runs_6 (Nat.le_of_ble_eq_true rfl) rfl ?_
  refine rr_iload_n F dX8_runs_7 rfl ?_
  refine rr_if_ge F dX8_runs_8 (tgt := 13) (by decide) ⟨by omega, by omega⟩ (fun c_8 => ?_) (fun c_8 => ?_)
  · refine rr_aload_n F dX8_runs_13 rfl ?_
    refine rr_iload_n F dX8_runs_14 rfl ?_
    refine rr_iload_n F dX8_runs_15 rfl ?_
    refine rr_callVV F (ci := 8) (mm_X8_findRuns hR hW (by omega) (by omega) (by omega) (by omega) (by omega)) mf_X8_findRuns ml_X8_163 ⟨by decide, by decide⟩ (by first | rfl | assumption) (by decide) rfl rfl (Nat.le_of_ble_eq_true rfl) dX8_runs_16 (fun I_16 L_16 h_16 => ?_)
    obtain ⟨c1, c2⟩ := h_16
    refine rr_aload_n F dX8_runs_19 rfl ?_
    refine rg_Model_many F (by first | rfl | assumption) fl_X8_153 dX8_runs_20 ?_
    refine rr_iret F dX8_runs_23 ?_
    refine ⟨_, rfl, ?_, hR.k c2⟩
    show _ = sp_runs σ a b
    rw [sp_runs, if_pos (by omega)]; exact c1.1
  · refine rr_iload_n F dX8_runs_11 rfl ?_
    refine rr_iret F dX8_runs_12 ?_
    refine ⟨_, rfl, ?_, hR⟩
    show _ = sp_runs σ a b
    rw [sp_runs, if_neg (by omega)]; exact e3
theorem runsL_len {σ : sT} (hW : WF σ) (a b : Int) : ((runsL σ a b).length : Int) ≤ 1600 := by
  have w4a := hW.2.2.2.1 a
  have w4b := hW.2.2.2.1 b
  have := preR_len (rln σ a b) (m := s_sz σ b) (i := s_sz σ a) (j := 0) w4b.2 w4a.1 (by omega)
  rw [runsL]
  omega
set_option maxHeartbeats 4000000 in
set_option maxRecDepth 100000 in
theorem mm_X8_run {l : Launch} {g : gT} {σ : sT} {a b r w : Int} {I : IM} {L : LM} (ha : rg a) (hb : rg b) (hr : rg r) (hw : rg w) (hR : MR σ I L) (hW : WF σ) :
    Ct l yX8_run cX8_run 6 (some .int) 3 77 lyM g [.ref (g.2.1 0), .int (zI a), .int (zI b), .int (zI r), .int (zI w)] I L (pS MR (sp_run σ a b r w, σ)) := by
  have hc := rP_cases σ a b
  have rl := runsL_len hW a b
  have hr' := hr
  have hw' := hw
  unfold rg at hr' hw'
  refine Ct.of RX8 (by decide +kernel) rfl (Nat.le_of_ble_eq_true rfl) (fun x hx F => ?_)
  refine rr_iload_n F dX8_run_0 rfl ?_
  refine rr_if_lt F dX8_run_1 (tgt := 14) (by decide) ⟨by omega, by omega⟩ (fun c_1 => ?_) (fun c_1 => ?_)
  · refine rr_iconst F dX8_run_14 ?_
    refine rr_goto F dX8_run_15 (tgt := 24) (by decide) ?_
    refine rr_istore F dX8_run_24 (Nat.le_of_ble_eq_true rfl) rfl ?_
    refine rr_iload F dX8_run_26 rfl ?_
    refine rr_if_ge F dX8_run_28 (tgt := 34) (by decide) ⟨by omega, by omega⟩ (fun c_28 => ?_) (fun c_28 => ?_)
    · refine rr_aload_n F dX8_run_34 rfl ?_
      refine rr_iload_n F dX8_run_35 rfl ?_
      refine rr_iload_n F dX8_run_36 rfl ?_
      refine rr_callVV F (ci := 8) (mm_X8_findRuns hR hW (by omega) (by omega) (by omega) (by omega) (by omega)) mf_X8_findRuns ml_X8_163 ⟨by decide, by decide⟩ (by first | rfl | assumption) (by decide) rfl rfl (Nat.le_of_ble_eq_true rfl) dX8_run_37 (fun I_37 L_37 h_37 => ?_)
      obtain ⟨c1, c2⟩ := h_37
      have c1a := c1.1
      refine rr_iload_n F dX8_run_40 rfl ?_
      refine rr_aload_n F dX8_run_41 rfl ?_
      refine rg_Model_many F (by first | rfl | assumption) fl_X8_153 dX8_run_42 ?_
      refine rr_icmp_lt F dX8_run_45 (tgt := 52) (by decide) ⟨by omega, by omega⟩ ⟨by omega, by omega⟩ (fun c_45 => ?_) (fun c_45 => ?_)
      · have hlt : r.toNat < (runsL σ a b).length := by omega
        have hq := List.getElem?_eq_getElem hlt
        have hq2 := c1.2 _ _ hq
        rw [show ((r.toNat : Nat) : Int) = r by omega] at hq2
        refine rr_iload F dX8_run_52 rfl ?_
        refine rr_if_ne F dX8_run_54 (tgt := 66) (by decide) ⟨by omega, by omega⟩ (fun c_54 => ?_) (fun c_54 => ?_)
        · refine rr_iload F dX8_run_66 rfl ?_
          refine rr_iconst F dX8_run_68 ?_
          refine rr_icmp_ne F dX8_run_69 (tgt := 81) (by decide) ⟨by omega, by omega⟩ ⟨by omega, by omega⟩ (fun c_69 => ?_) (fun c_69 => ?_)
          · refine rr_aload_n F dX8_run_81 rfl ?_
            refine rg_Model_runN F (by first | rfl | assumption) fl_X8_74 dX8_run_82 ?_
            refine rr_cell (k2 := 13) rfl ?_
            refine rr_iload_n F dX8_run_85 rfl ?_
            refine rr_iald F (N := 1600) (by first | rfl | assumption) (by omega) (by first | rfl | assumption) (by omega) dX8_run_86 ?_
            refine rr_iret F dX8_run_87 ?_
            refine ⟨_, rfl, ?_, hR.k c2⟩
            show _ = sp_run σ a b r w
            rw [sp_run, if_neg (by omega), if_pos (by omega), prtF]
            first | (rw [List.getElem?_eq_none (by omega)]; done) | (rw [hq]; show _ = (if w = 0 then _ else _); first | (rw [if_pos (by omega)]; exact hq2.1) | (rw [if_neg (by omega), if_pos (by omega)]; exact hq2.2.1) | (rw [if_neg (by omega), if_neg (by omega)]; exact hq2.2.2))
          · refine rr_aload_n F dX8_run_72 rfl ?_
            refine rg_Model_runB F (by first | rfl | assumption) fl_X8_71 dX8_run_73 ?_
            refine rr_cell (k2 := 12) rfl ?_
            refine rr_iload_n F dX8_run_76 rfl ?_
            refine rr_iald F (N := 1600) (by first | rfl | assumption) (by omega) (by first | rfl | assumption) (by omega) dX8_run_77 ?_
            refine rr_goto F dX8_run_78 (tgt := 87) (by decide) ?_
            refine rr_iret F dX8_run_87 ?_
            refine ⟨_, rfl, ?_, hR.k c2⟩
            show _ = sp_run σ a b r w
            rw [sp_run, if_neg (by omega), if_pos (by omega), prtF]
            first | (rw [List.getElem?_eq_none (by omega)]; done) | (rw [hq]; show _ = (if w = 0 then _ else _); first | (rw [if_pos (by omega)]; exact hq2.1) | (rw [if_neg (by omega), if_pos (by omega)]; exact hq2.2.1) | (rw [if_neg (by omega), if_neg (by omega)]; exact hq2.2.2))
        · refine rr_aload_n F dX8_run_57 rfl ?_
          refine rg_Model_runA F (by first | rfl | assumption) fl_X8_68 dX8_run_58 ?_
          refine rr_cell (k2 := 11) rfl ?_
          refine rr_iload_n F dX8_run_61 rfl ?_
          refine rr_iald F (N := 1600) (by first | rfl | assumption) (by omega) (by first | rfl | assumption) (by omega) dX8_run_62 ?_
          refine rr_goto F dX8_run_63 (tgt := 87) (by decide) ?_
          refine rr_iret F dX8_run_87 ?_
          refine ⟨_, rfl, ?_, hR.k c2⟩
          show _ = sp_run σ a b r w
          rw [sp_run, if_neg (by omega), if_pos (by omega), prtF]
          first | (rw [List.getElem?_eq_none (by omega)]; done) | (rw [hq]; show _ = (if w = 0 then _ else _); first | (rw [if_pos (by omega)]; exact hq2.1) | (rw [if_neg (by omega), if_pos (by omega)]; exact hq2.2.1) | (rw [if_neg (by omega), if_neg (by omega)]; exact hq2.2.2))
      · refine rr_iconst F dX8_run_48 ?_
        refine rr_goto F dX8_run_49 (tgt := 87) (by decide) ?_
        refine rr_iret F dX8_run_87 ?_
        refine ⟨_, rfl, ?_, hR.k c2⟩
        show _ = sp_run σ a b r w
        rw [sp_run, if_neg (by omega), if_pos (by omega), prtF]
        first | (rw [List.getElem?_eq_none (by omega)]; done) | (rw [hq]; show _ = (if w = 0 then _ else _); first | (rw [if_pos (by omega)]; exact hq2.1) | (rw [if_neg (by omega), if_pos (by omega)]; exact hq2.2.1) | (rw [if_neg (by omega), if_neg (by omega)]; exact hq2.2.2))
    · refine rr_iload F dX8_run_31 rfl ?_
      refine rr_iret F dX8_run_33 ?_
      refine ⟨_, rfl, ?_, hR⟩
      show _ = sp_run σ a b r w
      first | (rw [sp_run, if_pos (by omega)]; done) | (rw [sp_run, if_neg (by omega), if_neg (by omega)]; exact e3)
  · refine rr_iload F dX8_run_4 rfl ?_
    refine rr_iconst F dX8_run_6 ?_
    refine rr_iconst F dX8_run_7 ?_
    refine rr_callSI F (mm_X8_in hw ⟨by omega, by omega⟩ ⟨by omega, by omega⟩) mf_X8_in ml_X8_86 ⟨by decide, by decide⟩ rfl (Nat.le_of_ble_eq_true rfl) dX8_run_8 (fun r_8 I_8 L_8 h_8 => ?_)
    obtain ⟨e8, rfl, rfl⟩ := h_8
    refine rr_if_ne F dX8_run_11 (tgt := 18) (by decide) ⟨by omega, by omega⟩ (fun c_11 => ?_) (fun c_11 => ?_)
    · refine rr_aload_n F dX8_run_18 rfl ?_
      refine rr_iload_n F dX8_run_19 rfl ?_
      refine rr_iload_n F dX8_run_20 rfl ?_
      refine rr_callVI F (ci := 8) (mm_X8_against ha hb hR hW) mf_X8_against ml_X8_160 ⟨by decide, by decide⟩ (by first | rfl | assumption) (by decide) rfl rfl (Nat.le_of_ble_eq_true rfl) dX8_run_21 (fun r_21 I_21 L_21 h_21 => ?_)
      obtain ⟨e3, rfl, rfl⟩ := h_21
      refine rr_istore F dX8_run_24 (Nat.le_of_ble_eq_true rfl) rfl ?_
      refine rr_iload F dX8_run_26 rfl ?_
      refine rr_if_ge F dX8_run_28 (tgt := 34) (by decide) ⟨by omega, by omega⟩ (fun c_28 => ?_) (fun c_28 => ?_)
      · refine rr_aload_n F dX8_run_34 rfl ?_
        refine rr_iload_n F dX8_run_35 rfl ?_
        refine rr_iload_n F dX8_run_36 rfl ?_
        refine rr_callVV F (ci := 8) (mm_X8_findRuns hR hW (by omega) (by omega) (by omega) (by omega) (by omega)) mf_X8_findRuns ml_X8_163 ⟨by decide, by decide⟩ (by first | rfl | assumption) (by decide) rfl rfl (Nat.le_of_ble_eq_true rfl) dX8_run_37 (fun I_37 L_37 h_37 => ?_)
        obtain ⟨c1, c2⟩ := h_37
        have c1a := c1.1
        refine rr_iload_n F dX8_run_40 rfl ?_
        refine rr_aload_n F dX8_run_41 rfl ?_
        refine rg_Model_many F (by first | rfl | assumption) fl_X8_153 dX8_run_42 ?_
        refine rr_icmp_lt F dX8_run_45 (tgt := 52) (by decide) ⟨by omega, by omega⟩ ⟨by omega, by omega⟩ (fun c_45 => ?_) (fun c_45 => ?_)
        · have hlt : r.toNat < (runsL σ a b).length := by omega
          have hq := List.getElem?_eq_getElem hlt
          have hq2 := c1.2 _ _ hq
          rw [show ((r.toNat : Nat) : Int) = r by omega] at hq2
          refine rr_iload F dX8_run_52 rfl ?_
          refine rr_if_ne F dX8_run_54 (tgt := 66) (by decide) ⟨by omega, by omega⟩ (fun c_54 => ?_) (fun c_54 => ?_)
          · refine rr_iload F dX8_run_66 rfl ?_
            refine rr_iconst F dX8_run_68 ?_
            refine rr_icmp_ne F dX8_run_69 (tgt := 81) (by decide) ⟨by omega, by omega⟩ ⟨by omega, by omega⟩ (fun c_69 => ?_) (fun c_69 => ?_)
            · refine rr_aload_n F dX8_run_81 rfl ?_
              refine rg_Model_runN F (by first | rfl | assumption) fl_X8_74 dX8_run_82 ?_
              refine rr_cell (k2 := 13) rfl ?_
              refine rr_iload_n F dX8_run_85 rfl ?_
              refine rr_iald F (N := 1600) (by first | rfl | assumption) (by omega) (by first | rfl | assumption) (by omega) dX8_run_86 ?_
              refine rr_iret F dX8_run_87 ?_
              refine ⟨_, rfl, ?_, hR.k c2⟩
              show _ = sp_run σ a b r w
              rw [sp_run, if_neg (by omega), if_pos (by omega), prtF]
              first | (rw [List.getElem?_eq_none (by omega)]; done) | (rw [hq]; show _ = (if w = 0 then _ else _); first | (rw [if_pos (by omega)]; exact hq2.1) | (rw [if_neg (by omega), if_pos (by omega)]; exact hq2.2.1) | (rw [if_neg (by omega), if_neg (by omega)]; exact hq2.2.2))
            · refine rr_aload_n F dX8_run_72 rfl ?_
              refine rg_Model_runB F (by first | rfl | assumption) fl_X8_71 dX8_run_73 ?_
              refine rr_cell (k2 := 12) rfl ?_
              refine rr_iload_n F dX8_run_76 rfl ?_
              refine rr_iald F (N := 1600) (by first | rfl | assumption) (by omega) (by first | rfl | assumption) (by omega) dX8_run_77 ?_
              refine rr_goto F dX8_run_78 (tgt := 87) (by decide) ?_
              refine rr_iret F dX8_run_87 ?_
              refine ⟨_, rfl, ?_, hR.k c2⟩
              show _ = sp_run σ a b r w
              rw [sp_run, if_neg (by omega), if_pos (by omega), prtF]
              first | (rw [List.getElem?_eq_none (by omega)]; done) | (rw [hq]; show _ = (if w = 0 then _ else _); first | (rw [if_pos (by omega)]; exact hq2.1) | (rw [if_neg (by omega), if_pos (by omega)]; exact hq2.2.1) | (rw [if_neg (by omega), if_neg (by omega)]; exact hq2.2.2))
          · refine rr_aload_n F dX8_run_57 rfl ?_
            refine rg_Model_runA F (by first | rfl | assumption) fl_X8_68 dX8_run_58 ?_
            refine rr_cell (k2 := 11) rfl ?_
            refine rr_iload_n F dX8_run_61 rfl ?_
            refine rr_iald F (N := 1600) (by first | rfl | assumption) (by omega) (by first | rfl | assumption) (by omega) dX8_run_62 ?_
            refine rr_goto F dX8_run_63 (tgt := 87) (by decide) ?_
            refine rr_iret F dX8_run_87 ?_
            refine ⟨_, rfl, ?_, hR.k c2⟩
            show _ = sp_run σ a b r w
            rw [sp_run, if_neg (by omega), if_pos (by omega), prtF]
            first | (rw [List.getElem?_eq_none (by omega)]; done) | (rw [hq]; show _ = (if w = 0 then _ else _); first | (rw [if_pos (by omega)]; exact hq2.1) | (rw [if_neg (by omega), if_pos (by omega)]; exact hq2.2.1) | (rw [if_neg (by omega), if_neg (by omega)]; exact hq2.2.2))
        · refine rr_iconst F dX8_run_48 ?_
          refine rr_goto F dX8_run_49 (tgt := 87) (by decide) ?_
          refine rr_iret F dX8_run_87 ?_
          refine ⟨_, rfl, ?_, hR.k c2⟩
          show _ = sp_run σ a b r w
          rw [sp_run, if_neg (by omega), if_pos (by omega), prtF]
          first | (rw [List.getElem?_eq_none (by omega)]; done) | (rw [hq]; show _ = (if w = 0 then _ else _); first | (rw [if_pos (by omega)]; exact hq2.1) | (rw [if_neg (by omega), if_pos (by omega)]; exact hq2.2.1) | (rw [if_neg (by omega), if_neg (by omega)]; exact hq2.2.2))
      · refine rr_iload F dX8_run_31 rfl ?_
        refine rr_iret F dX8_run_33 ?_
        refine ⟨_, rfl, ?_, hR⟩
        show _ = sp_run σ a b r w
        first | (rw [sp_run, if_pos (by omega)]; done) | (rw [sp_run, if_neg (by omega), if_neg (by omega)]; exact e3)
    · refine rr_iconst F dX8_run_14 ?_
      refine rr_goto F dX8_run_15 (tgt := 24) (by decide) ?_
      refine rr_istore F dX8_run_24 (Nat.le_of_ble_eq_true rfl) rfl ?_
      refine rr_iload F dX8_run_26 rfl ?_
      refine rr_if_ge F dX8_run_28 (tgt := 34) (by decide) ⟨by omega, by omega⟩ (fun c_28 => ?_) (fun c_28 => ?_)
      · refine rr_aload_n F dX8_run_34 rfl ?_
        refine rr_iload_n F dX8_run_35 rfl ?_
        refine rr_iload_n F dX8_run_36 rfl ?_
        refine rr_callVV F (ci := 8) (mm_X8_findRuns hR hW (by omega) (by omega) (by omega) (by omega) (by omega)) mf_X8_findRuns ml_X8_163 ⟨by decide, by decide⟩ (by first | rfl | assumption) (by decide) rfl rfl (Nat.le_of_ble_eq_true rfl) dX8_run_37 (fun I_37 L_37 h_37 => ?_)
        obtain ⟨c1, c2⟩ := h_37
        have c1a := c1.1
        refine rr_iload_n F dX8_run_40 rfl ?_
        refine rr_aload_n F dX8_run_41 rfl ?_
        refine rg_Model_many F (by first | rfl | assumption) fl_X8_153 dX8_run_42 ?_
        refine rr_icmp_lt F dX8_run_45 (tgt := 52) (by decide) ⟨by omega, by omega⟩ ⟨by omega, by omega⟩ (fun c_45 => ?_) (fun c_45 => ?_)
        · have hlt : r.toNat < (runsL σ a b).length := by omega
          have hq := List.getElem?_eq_getElem hlt
          have hq2 := c1.2 _ _ hq
          rw [show ((r.toNat : Nat) : Int) = r by omega] at hq2
          refine rr_iload F dX8_run_52 rfl ?_
          refine rr_if_ne F dX8_run_54 (tgt := 66) (by decide) ⟨by omega, by omega⟩ (fun c_54 => ?_) (fun c_54 => ?_)
          · refine rr_iload F dX8_run_66 rfl ?_
            refine rr_iconst F dX8_run_68 ?_
            refine rr_icmp_ne F dX8_run_69 (tgt := 81) (by decide) ⟨by omega, by omega⟩ ⟨by omega, by omega⟩ (fun c_69 => ?_) (fun c_69 => ?_)
            · refine rr_aload_n F dX8_run_81 rfl ?_
              refine rg_Model_runN F (by first | rfl | assumption) fl_X8_74 dX8_run_82 ?_
              refine rr_cell (k2 := 13) rfl ?_
              refine rr_iload_n F dX8_run_85 rfl ?_
              refine rr_iald F (N := 1600) (by first | rfl | assumption) (by omega) (by first | rfl | assumption) (by omega) dX8_run_86 ?_
              refine rr_iret F dX8_run_87 ?_
              refine ⟨_, rfl, ?_, hR.k c2⟩
              show _ = sp_run σ a b r w
              rw [sp_run, if_neg (by omega), if_pos (by omega), prtF]
              first | (rw [List.getElem?_eq_none (by omega)]; done) | (rw [hq]; show _ = (if w = 0 then _ else _); first | (rw [if_pos (by omega)]; exact hq2.1) | (rw [if_neg (by omega), if_pos (by omega)]; exact hq2.2.1) | (rw [if_neg (by omega), if_neg (by omega)]; exact hq2.2.2))
            · refine rr_aload_n F dX8_run_72 rfl ?_
              refine rg_Model_runB F (by first | rfl | assumption) fl_X8_71 dX8_run_73 ?_
              refine rr_cell (k2 := 12) rfl ?_
              refine rr_iload_n F dX8_run_76 rfl ?_
              refine rr_iald F (N := 1600) (by first | rfl | assumption) (by omega) (by first | rfl | assumption) (by omega) dX8_run_77 ?_
              refine rr_goto F dX8_run_78 (tgt := 87) (by decide) ?_
              refine rr_iret F dX8_run_87 ?_
              refine ⟨_, rfl, ?_, hR.k c2⟩
              show _ = sp_run σ a b r w
              rw [sp_run, if_neg (by omega), if_pos (by omega), prtF]
              first | (rw [List.getElem?_eq_none (by omega)]; done) | (rw [hq]; show _ = (if w = 0 then _ else _); first | (rw [if_pos (by omega)]; exact hq2.1) | (rw [if_neg (by omega), if_pos (by omega)]; exact hq2.2.1) | (rw [if_neg (by omega), if_neg (by omega)]; exact hq2.2.2))
          · refine rr_aload_n F dX8_run_57 rfl ?_
            refine rg_Model_runA F (by first | rfl | assumption) fl_X8_68 dX8_run_58 ?_
            refine rr_cell (k2 := 11) rfl ?_
            refine rr_iload_n F dX8_run_61 rfl ?_
            refine rr_iald F (N := 1600) (by first | rfl | assumption) (by omega) (by first | rfl | assumption) (by omega) dX8_run_62 ?_
            refine rr_goto F dX8_run_63 (tgt := 87) (by decide) ?_
            refine rr_iret F dX8_run_87 ?_
            refine ⟨_, rfl, ?_, hR.k c2⟩
            show _ = sp_run σ a b r w
            rw [sp_run, if_neg (by omega), if_pos (by omega), prtF]
            first | (rw [List.getElem?_eq_none (by omega)]; done) | (rw [hq]; show _ = (if w = 0 then _ else _); first | (rw [if_pos (by omega)]; exact hq2.1) | (rw [if_neg (by omega), if_pos (by omega)]; exact hq2.2.1) | (rw [if_neg (by omega), if_neg (by omega)]; exact hq2.2.2))
        · refine rr_iconst F dX8_run_48 ?_
          refine rr_goto F dX8_run_49 (tgt := 87) (by decide) ?_
          refine rr_iret F dX8_run_87 ?_
          refine ⟨_, rfl, ?_, hR.k c2⟩
          show _ = sp_run σ a b r w
          rw [sp_run, if_neg (by omega), if_pos (by omega), prtF]
          first | (rw [List.getElem?_eq_none (by omega)]; done) | (rw [hq]; show _ = (if w = 0 then _ else _); first | (rw [if_pos (by omega)]; exact hq2.1) | (rw [if_neg (by omega), if_pos (by omega)]; exact hq2.2.1) | (rw [if_neg (by omega), if_neg (by omega)]; exact hq2.2.2))
      · refine rr_iload F dX8_run_31 rfl ?_
        refine rr_iret F dX8_run_33 ?_
        refine ⟨_, rfl, ?_, hR⟩
        show _ = sp_run σ a b r w
        first | (rw [sp_run, if_pos (by omega)]; done) | (rw [sp_run, if_neg (by omega), if_neg (by omega)]; exact e3)
