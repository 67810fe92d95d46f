/-! turning a book round -/
def tnS (σ : sT) (b t : Int) : sT := (σ.1, (s_hd σ, s_sz σ, s_lg σ, s_dy σ, fun c => if c = b then (fun i => s_tk σ b ((i + t) % s_sz σ b)) else s_tk σ c), σ.2.2)
theorem tnS_WF {σ : sT} (h : WF σ) (b t : Int) : WF (tnS σ b t) := h
noncomputable def chP (σ : sT) (a b t : Int) : Int := if sB σ a b 0 0 ≤ sB (tnS σ b t) a b 0 0 then 1 else 0
noncomputable def sp_chance (σ : sT) (a b : Int) : Int := if rP σ a b = 0 then cntF (chP σ a b) (s_sz σ b).toNat 0 0 else rP σ a b
theorem tnS_tk {σ : sT} {b t i : Int} : s_tk (tnS σ b t) b i = s_tk σ b ((i + t) % s_sz σ b) := by
  show (if b = b then (fun i => s_tk σ b ((i + t) % s_sz σ b)) else s_tk σ b) i = _
  rw [if_pos rfl]
theorem tnS_ne {σ : sT} {b t c : Int} (h : c ≠ b) : s_tk (tnS σ b t) c = s_tk σ c := by
  show (if c = b then (fun i => s_tk σ b ((i + t) % s_sz σ b)) else s_tk σ c) = _
  rw [if_neg h]
/-- another state with the same texts, as far as they go -/
theorem MR.tn {σ σ' : sT} {I : IM} {L : LM} (h : MR σ I L) (h1 : σ'.1 = σ.1) (h2 : σ'.2.2 = σ.2.2) (h3 : s_hd σ' = s_hd σ ∧ s_sz σ' = s_sz σ ∧ s_lg σ' = s_lg σ ∧ s_dy σ' = s_dy σ) (h4 : ∀ c i, 0 ≤ c → c < 6 → 0 ≤ i → i < s_sz σ c → s_tk σ' c i = s_tk σ c i) : MR σ' I L := by
  obtain ⟨g1, g2, g3, g4⟩ := h
  unfold MR s_tl s_tb s_gv s_k s_w s_gp s_bd
  rw [h1, h2, h3.1, h3.2.1, h3.2.2.1, h3.2.2.2]
  exact ⟨g1, g2, fun b u v => ⟨(g3 b u v).1, (g3 b u v).2.1, (g3 b u v).2.2.1, (g3 b u v).2.2.2.1, fun i p q => ((g3 b u v).2.2.2.2 i p q).trans (h4 b i u v p q).symm⟩, g4⟩
set_option maxHeartbeats 4000000 in
set_option maxRecDepth 100000 in
theorem mm_X7_chance {l : Launch} {g : gT} {σ : sT} {a b : Int} {I : IM} {L : LM} (ha : rg a) (hb : rg b) (hR : CR σ I L) (hW : WF σ) :
    Ct l yX7_chance cX7_chance 7 (some .int) 5 124 lyC g [.ref (g.2.1 0), .int (zI a), .int (zI b)] I L (pS CR (sp_chance σ a b, σ)) := by
  have hc := rP_cases σ a b
  have w4b := hW.2.2.2.1 b
  have b00 := sB_b hW a b 0 0 (by omega)
  refine Ct.of RX7 (by decide +kernel) rfl (Nat.le_of_ble_eq_true rfl) (fun x hx F => ?_)
  have loop : rP σ a b = 0 → (0 ≤ a ∧ a < 6) → (0 ≤ b ∧ b < 6) → ¬ a = b → s_hd σ a = 1 → s_hd σ b = 1 → ∀ (s1 : Int) (n : Nat) (t c : Int) (I1 : IM) (L1 : LM), n = (s_sz σ b - t).toNat → 0 ≤ t → t ≤ s_sz σ b → CR σ I1 L1 → cntF (chP σ a b) n t c = cntF (chP σ a b) (s_sz σ b).toNat 0 0 → Rn x lyC g (pS CR (sp_chance σ a b, σ)) 35 [vr g 0, vn a, vn b, vn s1, vn (sB σ a b 0 0), vn c, vn t] [] I1 L1 := by
    intro hP ha6 hb6 hab hha hhb s1 n
    have hBk := bk_isB hb6.1 hb6.2
    obtain ⟨q1, q2, q3⟩ := hBk.f
    induction n with
    | zero =>
      intro t c I1 L1 h1 h2 h3 h4 h5
      have e := ((h4.2.2.1 b hb6.1 hb6.2).2 hhb).1
      refine rr_iload F dX7_chance_35 rfl ?_
      refine rr_aload_n F dX7_chance_37 rfl ?_
      refine rg_BP_shelf F (by first | rfl | assumption) fl_X7_26 dX7_chance_38 ?_
      refine rr_cell (k2 := 4) rfl ?_
      refine rg_Shelf_books F (by first | rfl | assumption) fl_X7_63 dX7_chance_41 ?_
      refine rr_cell (k2 := 5) rfl ?_
      refine rr_iload_n F dX7_chance_44 rfl ?_
      refine rr_aald F (N := 6) (by first | rfl | assumption) (by omega) (by first | rfl | assumption) (by omega) dX7_chance_45 ?_
      refine rr_bk ?_
      refine rg_Book_size F (by first | rfl | assumption) fl_X7_80 dX7_chance_46 ?_
      rw [e]
      refine rr_icmp_ge F dX7_chance_49 (tgt := 81) (by decide) ⟨by omega, by omega⟩ ⟨by omega, by omega⟩ (fun c_49 => ?_) (fun c_49 => ?_)
      · refine rr_iload F dX7_chance_81 rfl ?_
        refine rr_iret F dX7_chance_83 ?_
        refine ⟨_, rfl, ?_, h4⟩
        show _ = sp_chance σ a b
        rw [sp_chance, if_pos hP, ← h5, cntF]
      · exfalso
        omega
    | succ n ih =>
      intro t c I1 L1 h1 h2 h3 h4 h5
      rw [cntF, chP] at h5
      have e := ((h4.2.2.1 b hb6.1 hb6.2).2 hhb).1
      have bt := sB_b (tnS_WF hW b t) a b 0 0 (by omega)
      refine rr_iload F dX7_chance_35 rfl ?_
      refine rr_aload_n F dX7_chance_37 rfl ?_
      refine rg_BP_shelf F (by first | rfl | assumption) fl_X7_26 dX7_chance_38 ?_
      refine rr_cell (k2 := 4) rfl ?_
      refine rg_Shelf_books F (by first | rfl | assumption) fl_X7_63 dX7_chance_41 ?_
      refine rr_cell (k2 := 5) rfl ?_
      refine rr_iload_n F dX7_chance_44 rfl ?_
      refine rr_aald F (N := 6) (by first | rfl | assumption) (by omega) (by first | rfl | assumption) (by omega) dX7_chance_45 ?_
      refine rr_bk ?_
      refine rg_Book_size F (by first | rfl | assumption) fl_X7_80 dX7_chance_46 ?_
      rw [e]
      refine rr_icmp_ge F dX7_chance_49 (tgt := 81) (by decide) ⟨by omega, by omega⟩ ⟨by omega, by omega⟩ (fun c_49 => ?_) (fun c_49 => ?_)
      · exfalso
        omega
      · refine rr_aload_n F dX7_chance_52 rfl ?_
        refine rg_BP_comparison F (by first | rfl | assumption) fl_X7_33 dX7_chance_53 ?_
        refine rr_cell (k2 := 18) rfl ?_
        refine rr_aload_n F dX7_chance_56 rfl ?_
        refine rg_BP_shelf F (by first | rfl | assumption) fl_X7_26 dX7_chance_57 ?_
        refine rr_cell (k2 := 4) rfl ?_
        refine rr_iload_n F dX7_chance_60 rfl ?_
        refine rr_iload_n F dX7_chance_61 rfl ?_
        refine rr_iload F dX7_chance_62 rfl ?_
        refine rr_callVI F (ci := 1) (mm_X1_scoreOf (σ' := tnS σ b t) h4 hW ha6.1 ha6.2 hb6.1 hb6.2 hab hha hhb (by omega) (by omega) ⟨rfl, rfl, rfl, fun c z => tnS_ne z⟩ (fun i u v => tnS_tk.symm) (tnS_WF hW b t)) mf_X1_scoreOf ml_X7_156 ⟨by decide, by decide⟩ (by first | rfl | assumption) (by decide) rfl rfl (Nat.le_of_ble_eq_true rfl) dX7_chance_64 (fun r_64 I_64 L_64 h_64 => ?_)
        obtain ⟨c1, c2, c3, c4, c5⟩ := h_64
        refine rr_iload F dX7_chance_67 rfl ?_
        refine rr_icmp_lt F dX7_chance_69 (tgt := 75) (by decide) ⟨by omega, by omega⟩ ⟨by omega, by omega⟩ (fun c_69 => ?_) (fun c_69 => ?_)
        · refine rr_iinc F dX7_chance_75 rfl rfl ?_
          refine rr_goto F dX7_chance_78 (tgt := 35) (by decide) ?_
          first | exact ih (t + 1) _ _ _ (by omega) (by omega) (by omega) (h4.k c5) (by rw [if_pos (show sB σ a b 0 0 ≤ sB (tnS σ b t) a b 0 0 by omega)] at h5; exact h5) | exact ih (t + 1) _ _ _ (by omega) (by omega) (by omega) (h4.k c5) (by rw [if_neg (show ¬ sB σ a b 0 0 ≤ sB (tnS σ b t) a b 0 0 by omega)] at h5; exact h5)
        · refine rr_iinc F dX7_chance_72 rfl rfl ?_
          refine rr_iinc F dX7_chance_75 rfl rfl ?_
          refine rr_goto F dX7_chance_78 (tgt := 35) (by decide) ?_
          first | exact ih (t + 1) _ _ _ (by omega) (by omega) (by omega) (h4.k c5) (by rw [if_pos (show sB σ a b 0 0 ≤ sB (tnS σ b t) a b 0 0 by omega)] at h5; exact h5) | exact ih (t + 1) _ _ _ (by omega) (by omega) (by omega) (h4.k c5) (by rw [if_neg (show ¬ sB σ a b 0 0 ≤ sB (tnS σ b t) a b 0 0 by omega)] at h5; exact h5)
  refine rr_aload_n F dX7_chance_0 rfl ?_
  refine rr_iload_n F dX7_chance_1 rfl ?_
  refine rr_iload_n F dX7_chance_2 rfl ?_
  refine rr_callVI F (ci := 7) (mm_X7_refusalOfPair ha hb hR hW) mf_X7_refusalOfPair ml_X7_142 ⟨by decide, by decide⟩ (by first | rfl | assumption) (by decide) rfl rfl (Nat.le_of_ble_eq_true rfl) dX7_chance_3 (fun r_3 I_3 L_3 h_3 => ?_)
  obtain ⟨e3, rfl, rfl⟩ := h_3
  refine rr_istore_n F dX7_chance_6 (Nat.le_of_ble_eq_true rfl) rfl ?_
  refine rr_iload_n F dX7_chance_7 rfl ?_
  refine rr_if_eq F dX7_chance_8 (tgt := 13) (by decide) ⟨by omega, by omega⟩ (fun c_8 => ?_) (fun c_8 => ?_)
  · refine rr_aload_n F dX7_chance_13 rfl ?_
    refine rg_BP_comparison F (by first | rfl | assumption) fl_X7_33 dX7_chance_14 ?_
    refine rr_cell (k2 := 18) rfl ?_
    refine rr_aload_n F dX7_chance_17 rfl ?_
    refine rg_BP_shelf F (by first | rfl | assumption) fl_X7_26 dX7_chance_18 ?_
    refine rr_cell (k2 := 4) rfl ?_
    refine rr_iload_n F dX7_chance_21 rfl ?_
    refine rr_iload_n F dX7_chance_22 rfl ?_
    refine rr_iconst F dX7_chance_23 ?_
    refine rr_callVI F (ci := 1) (mm_X1_scoreOf hR hW (by omega) (by omega) (by omega) (by omega) (by omega) (by omega) (by omega) (by omega) (by omega) (same_trn σ b) (zero_trn σ b) hW) mf_X1_scoreOf ml_X7_156 ⟨by decide, by decide⟩ (by first | rfl | assumption) (by decide) rfl rfl (Nat.le_of_ble_eq_true rfl) dX7_chance_24 (fun r_24 I_24 L_24 h_24 => ?_)
    obtain ⟨c1, c2, c3, c4, c5⟩ := h_24
    refine rr_istore F dX7_chance_27 (Nat.le_of_ble_eq_true rfl) rfl ?_
    refine rr_iconst F dX7_chance_29 ?_
    refine rr_istore F dX7_chance_30 (Nat.le_of_ble_eq_true rfl) rfl ?_
    refine rr_iconst F dX7_chance_32 ?_
    refine rr_istore F dX7_chance_33 (Nat.le_of_ble_eq_true rfl) rfl ?_
    rw [c1]
    exact loop (by omega) (by omega) (by omega) (by omega) (by omega) (by omega) _ _ 0 0 _ _ rfl (by omega) (by omega) (hR.k c5) (by rw [show s_sz σ b - 0 = s_sz σ b by omega])
  · refine rr_iload_n F dX7_chance_11 rfl ?_
    refine rr_iret F dX7_chance_12 ?_
    refine ⟨_, rfl, ?_, hR⟩
    show _ = sp_chance σ a b
    rw [sp_chance, if_neg (by omega)]; exact e3
set_option maxHeartbeats 4000000 in
set_option maxRecDepth 100000 in
theorem mm_X8_turnOne {l : Launch} {g : gT} {b n : Int} {I : IM} {L : LM} (hb0 : 0 ≤ b) (hb : b < 6) (hn0 : 0 < n) (hn : n ≤ 40) (hs : I 3 b = n) :
    Ct l yX8_turnOne cX8_turnOne 5 none 0 0 lyM g [.ref (g.2.1 0), .int (zI b)] I L (pV (fun I' L' => I = I' ∧ (∀ i, 0 ≤ i → i < n → L' 6 (40 * b + i) = L 6 (40 * b + (i + 1) % n)) ∧ (∀ j, j < 40 * b ∨ 40 * b + n ≤ j → L' 6 j = L 6 j) ∧ (∀ q, q ≠ 6 → L' q = L q))) := by
  refine Ct.of RX8 (by decide +kernel) rfl (Nat.le_of_ble_eq_true rfl) (fun x hx F => ?_)
  have loop : ∀ (c : Nat) (i : Int) (L1 : LM), c = (n - i).toNat → 1 ≤ i → i ≤ n → (∀ j, 0 ≤ j → j < i - 1 → L1 6 (40 * b + j) = L 6 (40 * b + (j + 1))) → (∀ j, j < 40 * b ∨ 40 * b + (i - 1) ≤ j → L1 6 j = L 6 j) → (∀ q, q ≠ 6 → L1 q = L q) → Rn x lyM g (pV (fun I' L' => I = I' ∧ (∀ i, 0 ≤ i → i < n → L' 6 (40 * b + i) = L 6 (40 * b + (i + 1) % n)) ∧ (∀ j, j < 40 * b ∨ 40 * b + n ≤ j → L' 6 j = L 6 j) ∧ (∀ q, q ≠ 6 → L' q = L q))) 22 [vr g 0, vn b, vl (L 6 (40 * b)), none, vn i] [] I L1 := by
    intro c
    induction c with
    | zero =>
      intro i L1 h1 h2 h3 h4 h5 h6
      have ei : i = n := by omega
      refine rr_iload F dX8_turnOne_22 rfl ?_
      refine rr_aload_n F dX8_turnOne_24 rfl ?_
      refine rg_Model_sizes F (by first | rfl | assumption) fl_X8_17 dX8_turnOne_25 ?_
      refine rr_cell (k2 := 3) rfl ?_
      refine rr_iload_n F dX8_turnOne_28 rfl ?_
      refine rr_iald F (N := 6) (by first | rfl | assumption) (by omega) (by first | rfl | assumption) (by omega) dX8_turnOne_29 ?_
      refine rr_icmp_ge F dX8_turnOne_30 (tgt := 65) (by decide) ⟨by omega, by omega⟩ ⟨by omega, by omega⟩ (fun c_30 => ?_) (fun c_30 => ?_)
      · refine rr_aload_n F dX8_turnOne_65 rfl ?_
        refine rg_Model_tokens F (by first | rfl | assumption) fl_X8_26 dX8_turnOne_66 ?_
        refine rr_cell (k2 := 6) rfl ?_
        refine rr_bipush F dX8_turnOne_69 (by decide) ?_
        refine rr_iload_n F dX8_turnOne_71 rfl ?_
        refine rr_imul F dX8_turnOne_72 ?_
        refine rr_aload_n F dX8_turnOne_73 rfl ?_
        refine rg_Model_sizes F (by first | rfl | assumption) fl_X8_17 dX8_turnOne_74 ?_
        refine rr_cell (k2 := 3) rfl ?_
        refine rr_iload_n F dX8_turnOne_77 rfl ?_
        refine rr_iald F (N := 6) (by first | rfl | assumption) (by omega) (by first | rfl | assumption) (by omega) dX8_turnOne_78 ?_
        rw [hs]
        refine rr_iadd F dX8_turnOne_79 ?_
        refine rr_iconst F dX8_turnOne_80 ?_
        refine rr_isub F dX8_turnOne_81 ?_
        refine rr_lload_n F dX8_turnOne_82 rfl ?_
        refine rr_last F (N := 240) (by first | rfl | assumption) (by omega) (by first | rfl | assumption) (by omega) dX8_turnOne_83 ?_
        refine rr_vret F dX8_turnOne_84 ?_
        refine ⟨rfl, rfl, fun j u v => ?_, fun j u => ?_, fun q u => ?_⟩
        · by_cases z : j = n - 1
          · subst z
            rw [show n - 1 + 1 = n by omega, Int.emod_self, show 40 * b + (n - 1) = 40 * b + n - 1 by omega, up2_same, Int.add_zero]
          · rw [up2_ne _ _ _ (by omega), h4 j u (by omega), Int.emod_eq_of_lt (by omega) (by omega)]
        · rw [up2_ne _ _ _ (by omega)]; exact h5 j (by omega)
        · rw [up2_cell _ _ _ u]; exact h6 q u
      · exfalso
        omega
    | succ c ih =>
      intro i L1 h1 h2 h3 h4 h5 h6
      refine rr_iload F dX8_turnOne_22 rfl ?_
      refine rr_aload_n F dX8_turnOne_24 rfl ?_
      refine rg_Model_sizes F (by first | rfl | assumption) fl_X8_17 dX8_turnOne_25 ?_
      refine rr_cell (k2 := 3) rfl ?_
      refine rr_iload_n F dX8_turnOne_28 rfl ?_
      refine rr_iald F (N := 6) (by first | rfl | assumption) (by omega) (by first | rfl | assumption) (by omega) dX8_turnOne_29 ?_
      refine rr_icmp_ge F dX8_turnOne_30 (tgt := 65) (by decide) ⟨by omega, by omega⟩ ⟨by omega, by omega⟩ (fun c_30 => ?_) (fun c_30 => ?_)
      · exfalso
        omega
      · refine rr_aload_n F dX8_turnOne_33 rfl ?_
        refine rg_Model_tokens F (by first | rfl | assumption) fl_X8_26 dX8_turnOne_34 ?_
        refine rr_cell (k2 := 6) rfl ?_
        refine rr_bipush F dX8_turnOne_37 (by decide) ?_
        refine rr_iload_n F dX8_turnOne_39 rfl ?_
        refine rr_imul F dX8_turnOne_40 ?_
        refine rr_iload F dX8_turnOne_41 rfl ?_
        refine rr_iadd F dX8_turnOne_43 ?_
        refine rr_iconst F dX8_turnOne_44 ?_
        refine rr_isub F dX8_turnOne_45 ?_
        refine rr_aload_n F dX8_turnOne_46 rfl ?_
        refine rg_Model_tokens F (by first | rfl | assumption) fl_X8_26 dX8_turnOne_47 ?_
        refine rr_cell (k2 := 6) rfl ?_
        refine rr_bipush F dX8_turnOne_50 (by decide) ?_
        refine rr_iload_n F dX8_turnOne_52 rfl ?_
        refine rr_imul F dX8_turnOne_53 ?_
        refine rr_iload F dX8_turnOne_54 rfl ?_
        refine rr_iadd F dX8_turnOne_56 ?_
        refine rr_lald F (N := 240) (by first | rfl | assumption) (by omega) (by first | rfl | assumption) (by omega) dX8_turnOne_57 ?_
        refine rr_last F (N := 240) (by first | rfl | assumption) (by omega) (by first | rfl | assumption) (by omega) dX8_turnOne_58 ?_
        refine rr_iinc F dX8_turnOne_59 rfl rfl ?_
        refine rr_goto F dX8_turnOne_62 (tgt := 22) (by decide) ?_
        refine ih (i + 1) _ (by omega) (by omega) (by omega) (fun j u v => ?_) (fun j u => ?_) (fun q u => ?_)
        · by_cases z : j = i - 1
          · subst z
            rw [show 40 * b + (i - 1) = 40 * b + i - 1 by omega, up2_same, h5 _ (by omega), show i - 1 + 1 = i by omega]
          · rw [up2_ne _ _ _ (by omega)]; exact h4 j u (by omega)
        · rw [up2_ne _ _ _ (by omega)]; exact h5 j (by omega)
        · rw [up2_cell _ _ _ u]; exact h6 q u
  refine rr_aload_n F dX8_turnOne_0 rfl ?_
  refine rg_Model_sizes F (by first | rfl | assumption) fl_X8_17 dX8_turnOne_1 ?_
  refine rr_cell (k2 := 3) rfl ?_
  refine rr_iload_n F dX8_turnOne_4 rfl ?_
  refine rr_iald F (N := 6) (by first | rfl | assumption) (by omega) (by first | rfl | assumption) (by omega) dX8_turnOne_5 ?_
  refine rr_if_le F dX8_turnOne_6 (tgt := 84) (by decide) ⟨by omega, by omega⟩ (fun c_6 => ?_) (fun c_6 => ?_)
  · exfalso
    omega
  · refine rr_aload_n F dX8_turnOne_9 rfl ?_
    refine rg_Model_tokens F (by first | rfl | assumption) fl_X8_26 dX8_turnOne_10 ?_
    refine rr_cell (k2 := 6) rfl ?_
    refine rr_bipush F dX8_turnOne_13 (by decide) ?_
    refine rr_iload_n F dX8_turnOne_15 rfl ?_
    refine rr_imul F dX8_turnOne_16 ?_
    refine rr_lald F (N := 240) (by first | rfl | assumption) (by omega) (by first | rfl | assumption) (by omega) dX8_turnOne_17 ?_
    refine rr_lstore_n F dX8_turnOne_18 (Nat.le_of_ble_eq_true rfl) rfl ?_
    refine rr_iconst F dX8_turnOne_19 ?_
    refine rr_istore F dX8_turnOne_20 (Nat.le_of_ble_eq_true rfl) rfl ?_
    exact loop _ 1 L rfl (by omega) (by omega) (fun j u v => absurd v (by omega)) (fun j u => rfl) (fun q u => rfl)
set_option maxHeartbeats 4000000 in
set_option maxRecDepth 100000 in
theorem mm_X8_chance {l : Launch} {g : gT} {σ : sT} {a b : Int} {I : IM} {L : LM} (ha : rg a) (hb : rg b) (hR : MR σ I L) (hW : WF σ) :
    Ct l yX8_chance cX8_chance 7 (some .int) 4 103 lyM g [.ref (g.2.1 0), .int (zI a), .int (zI b)] I L (pS MR (sp_chance σ a b, σ)) := by
  have hc := rP_cases σ a b
  have w4b := hW.2.2.2.1 b
  have b00 := sB_b hW a b 0 0 (by omega)
  refine Ct.of RX8 (by decide +kernel) rfl (Nat.le_of_ble_eq_true rfl) (fun x hx F => ?_)
  have loop : rP σ a b = 0 → (0 ≤ a ∧ a < 6) → (0 ≤ b ∧ b < 6) → ¬ a = b → ∀ (s1 : Int) (n : Nat) (t c : Int) (I1 : IM) (L1 : LM), n = (s_sz σ b - t).toNat → 0 ≤ t → t ≤ s_sz σ b → MR (tnS σ b t) I1 L1 → cntF (chP σ a b) n t c = cntF (chP σ a b) (s_sz σ b).toNat 0 0 → Rn x lyM g (pS MR (sp_chance σ a b, σ)) 27 [vr g 0, vn a, vn b, vn s1, vn (sB σ a b 0 0), vn c, vn t] [] I1 L1 := by
    intro hP ha6 hb6 hab s1 n
    induction n with
    | zero =>
      intro t c I1 L1 h1 h2 h3 h4 h5
      have e : I1 3 b = s_sz σ b := (MRb h4 hb6.1 hb6.2).2.1
      have et : t = s_sz σ b := by omega
      refine rr_iload F dX8_chance_27 rfl ?_
      refine rr_aload_n F dX8_chance_29 rfl ?_
      refine rg_Model_sizes F (by first | rfl | assumption) fl_X8_17 dX8_chance_30 ?_
      refine rr_cell (k2 := 3) rfl ?_
      refine rr_iload_n F dX8_chance_33 rfl ?_
      refine rr_iald F (N := 6) (by first | rfl | assumption) (by omega) (by first | rfl | assumption) (by omega) dX8_chance_34 ?_
      refine rr_icmp_ge F dX8_chance_35 (tgt := 70) (by decide) ⟨by omega, by omega⟩ ⟨by omega, by omega⟩ (fun c_35 => ?_) (fun c_35 => ?_)
      · refine rr_iload F dX8_chance_70 rfl ?_
        refine rr_iret F dX8_chance_72 ?_
        refine ⟨_, rfl, ?_, h4.tn rfl rfl ⟨rfl, rfl, rfl, rfl⟩ (fun d i u v p q => ?_)⟩
        · show _ = sp_chance σ a b
          rw [sp_chance, if_pos hP, ← h5, cntF]
        · by_cases z : d = b
          · subst z
            have q' : i < s_sz σ d := q
            rw [tnS_tk, et, Int.add_emod_right, Int.emod_eq_of_lt p q']
          · rw [tnS_ne z]
      · exfalso
        omega
    | succ n ih =>
      intro t c I1 L1 h1 h2 h3 h4 h5
      rw [cntF, chP] at h5
      have e : I1 3 b = s_sz σ b := (MRb h4 hb6.1 hb6.2).2.1
      have bt := sB_b (tnS_WF hW b t) a b 0 0 (by omega)
      have tail : ∀ (I2 : IM) (L2 : LM) (c' : Int), MR (tnS σ b t) I2 L2 → cntF (chP σ a b) n (t + 1) c' = cntF (chP σ a b) (s_sz σ b).toNat 0 0 → Rn x lyM g (pS MR (sp_chance σ a b, σ)) 59 [vr g 0, vn a, vn b, vn s1, vn (sB σ a b 0 0), vn c', vn t] [] I2 L2 := by
        intro I2 L2 c' R2 h5'
        have e2 : I2 3 b = s_sz σ b := (MRb R2 hb6.1 hb6.2).2.1
        refine rr_aload_n F dX8_chance_59 rfl ?_
        refine rr_iload_n F dX8_chance_60 rfl ?_
        refine rr_callVV F (ci := 8) (mm_X8_turnOne hb6.1 hb6.2 (n := s_sz σ b) (by omega) (by omega) e2) mf_X8_turnOne ml_X8_181 ⟨by decide, by decide⟩ (by first | rfl | assumption) (by decide) rfl rfl (Nat.le_of_ble_eq_true rfl) dX8_chance_61 (fun I_61 L_61 h_61 => ?_)
        obtain ⟨rfl, t1, t2, t3⟩ := h_61
        refine rr_iinc F dX8_chance_64 rfl rfl ?_
        refine rr_goto F dX8_chance_67 (tgt := 27) (by decide) ?_
        refine ih (t + 1) c' _ _ (by omega) (by omega) (by omega) ?_ h5'
        obtain ⟨g1, g2, g3, g4, g5, g6, g7, g8, g9⟩ := R2
        refine ⟨g1, g2, fun d u v => ⟨(g3 d u v).1, (g3 d u v).2.1, (g3 d u v).2.2.1, (g3 d u v).2.2.2.1, fun i p q => ?_⟩, g4, g5, g6, g7, g8, by rw [t3 7 (by omega)]; exact g9⟩
        have q' : i < s_sz σ d := q
        have w4d := hW.2.2.2.1 d
        by_cases z : d = b
        · subst z
          have m1 := Int.emod_nonneg (i + 1) (show s_sz σ d ≠ 0 by omega)
          have m2 := Int.emod_lt_of_pos (i + 1) (show 0 < s_sz σ d by omega)
          rw [t1 i p q', (g3 d u v).2.2.2.2 _ m1 m2, tnS_tk, tnS_tk, Int.emod_add_emod, show i + 1 + t = i + (t + 1) by omega]
        · rw [t2 _ (by omega), (g3 d u v).2.2.2.2 i p q, tnS_ne z, tnS_ne z]
      refine rr_iload F dX8_chance_27 rfl ?_
      refine rr_aload_n F dX8_chance_29 rfl ?_
      refine rg_Model_sizes F (by first | rfl | assumption) fl_X8_17 dX8_chance_30 ?_
      refine rr_cell (k2 := 3) rfl ?_
      refine rr_iload_n F dX8_chance_33 rfl ?_
      refine rr_iald F (N := 6) (by first | rfl | assumption) (by omega) (by first | rfl | assumption) (by omega) dX8_chance_34 ?_
      refine rr_icmp_ge F dX8_chance_35 (tgt := 70) (by decide) ⟨by omega, by omega⟩ ⟨by omega, by omega⟩ (fun c_35 => ?_) (fun c_35 => ?_)
      · exfalso
        omega
      · refine rr_iload F dX8_chance_38 rfl ?_
        refine rr_aload_n F dX8_chance_40 rfl ?_
        refine rr_iload_n F dX8_chance_41 rfl ?_
        refine rr_iload_n F dX8_chance_42 rfl ?_
        refine rr_callVI F (ci := 8) (mm_X8_findScore h4 (tnS_WF hW b t) ha6.1 ha6.2 hb6.1 hb6.2 hab) mf_X8_findScore ml_X8_169 ⟨by decide, by decide⟩ (by first | rfl | assumption) (by decide) rfl rfl (Nat.le_of_ble_eq_true rfl) dX8_chance_43 (fun r_43 I_43 L_43 h_43 => ?_)
        obtain ⟨c1, c2, c3, c4, c5⟩ := h_43
        refine rr_iload F dX8_chance_46 rfl ?_
        refine rr_icmp_lt F dX8_chance_48 (tgt := 55) (by decide) ⟨by omega, by omega⟩ ⟨by omega, by omega⟩ (fun c_48 => ?_) (fun c_48 => ?_)
        · refine rr_iconst F dX8_chance_55 ?_
          refine rr_iadd F dX8_chance_56 ?_
          refine rr_istore F dX8_chance_57 (Nat.le_of_ble_eq_true rfl) rfl ?_
          first | exact tail _ _ _ (h4.k c5) (by rw [if_pos (show sB σ a b 0 0 ≤ sB (tnS σ b t) a b 0 0 by omega)] at h5; exact h5) | exact tail _ _ _ (h4.k c5) (by rw [if_neg (show ¬ sB σ a b 0 0 ≤ sB (tnS σ b t) a b 0 0 by omega)] at h5; rw [Int.add_zero]; exact h5)
        · refine rr_iconst F dX8_chance_51 ?_
          refine rr_goto F dX8_chance_52 (tgt := 56) (by decide) ?_
          refine rr_iadd F dX8_chance_56 ?_
          refine rr_istore F dX8_chance_57 (Nat.le_of_ble_eq_true rfl) rfl ?_
          first | exact tail _ _ _ (h4.k c5) (by rw [if_pos (show sB σ a b 0 0 ≤ sB (tnS σ b t) a b 0 0 by omega)] at h5; exact h5) | exact tail _ _ _ (h4.k c5) (by rw [if_neg (show ¬ sB σ a b 0 0 ≤ sB (tnS σ b t) a b 0 0 by omega)] at h5; rw [Int.add_zero]; exact h5)
  refine rr_aload_n F dX8_chance_0 rfl ?_
  refine rr_iload_n F dX8_chance_1 rfl ?_
  refine rr_iload_n F dX8_chance_2 rfl ?_
  refine rr_callVI F (ci := 8) (mm_X8_against ha hb hR hW) mf_X8_against ml_X8_160 ⟨by decide, by decide⟩ (by first | rfl | assumption) (by decide) rfl rfl (Nat.le_of_ble_eq_true rfl) dX8_chance_3 (fun r_3 I_3 L_3 h_3 => ?_)
  obtain ⟨e3, rfl, rfl⟩ := h_3
  refine rr_istore_n F dX8_chance_6 (Nat.le_of_ble_eq_true rfl) rfl ?_
  refine rr_iload_n F dX8_chance_7 rfl ?_
  refine rr_if_ge F dX8_chance_8 (tgt := 13) (by decide) ⟨by omega, by omega⟩ (fun c_8 => ?_) (fun c_8 => ?_)
  · refine rr_aload_n F dX8_chance_13 rfl ?_
    refine rr_iload_n F dX8_chance_14 rfl ?_
    refine rr_iload_n F dX8_chance_15 rfl ?_
    refine rr_callVI F (ci := 8) (mm_X8_findScore hR hW (by omega) (by omega) (by omega) (by omega) (by omega)) mf_X8_findScore ml_X8_169 ⟨by decide, by decide⟩ (by first | rfl | assumption) (by decide) rfl rfl (Nat.le_of_ble_eq_true rfl) dX8_chance_16 (fun r_16 I_16 L_16 h_16 => ?_)
    obtain ⟨c1, c2, c3, c4, c5⟩ := h_16
    refine rr_istore F dX8_chance_19 (Nat.le_of_ble_eq_true rfl) rfl ?_
    refine rr_iconst F dX8_chance_21 ?_
    refine rr_istore F dX8_chance_22 (Nat.le_of_ble_eq_true rfl) rfl ?_
    refine rr_iconst F dX8_chance_24 ?_
    refine rr_istore F dX8_chance_25 (Nat.le_of_ble_eq_true rfl) rfl ?_
    rw [c1]
    refine loop (by omega) (by omega) (by omega) (by omega) _ _ 0 0 _ _ rfl (by omega) (by omega) ((hR.k c5).tn rfl rfl ⟨rfl, rfl, rfl, rfl⟩ (fun d i u v p q => ?_)) (by rw [show s_sz σ b - 0 = s_sz σ b by omega])
    by_cases z : d = b
    · subst z
      rw [tnS_tk, Int.add_zero, Int.emod_eq_of_lt p q]
    · rw [tnS_ne z]
  · refine rr_iload_n F dX8_chance_11 rfl ?_
    refine rr_iret F dX8_chance_12 ?_
    refine ⟨_, rfl, ?_, hR⟩
    show _ = sp_chance σ a b
    rw [sp_chance, if_neg (by omega)]; exact e3
