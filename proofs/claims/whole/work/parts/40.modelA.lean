/-! the model: hashes, marks -/
theorem MRb {σ : sT} {I : IM} {L : LM} (hR : MR σ I L) {b : Int} (h0 : 0 ≤ b) (h : b < 6) : I 2 b = s_hd σ b ∧ I 3 b = s_sz σ b ∧ I 4 b = s_lg σ b ∧ I 5 b = s_dy σ b ∧ ∀ i, 0 ≤ i → i < s_sz σ b → L 6 (40 * b + i) = s_tk σ b i := hR.2.2.1 b h0 h
set_option maxHeartbeats 4000000 in
set_option maxRecDepth 100000 in
theorem mm_X8_grams {l : Launch} {g : gT} {σ : sT} {b : Int} {I : IM} {L : LM} (hR : MR σ I L) (hW : WF σ) (hb0 : 0 ≤ b) (hb : b < 6) :
    Ct l yX8_grams cX8_grams 2 (some .int) 0 0 lyM g [.ref (g.2.1 0), .int (zI b)] I L (pI (fun r I' L' => r = grm (s_sz σ b) (s_k σ) ∧ I = I' ∧ L = L')) := by
  obtain ⟨e1, e2, e3, e4, e5⟩ := MRb hR hb0 hb
  obtain ⟨h1, h2, h3, h4, h5, h6, h7, h8, h9⟩ := id hR
  have w4 := hW.2.2.2.1 b
  have w7 := hW.2.2.2.2.2.2.1
  refine Ct.of RX8 (by decide +kernel) rfl (Nat.le_of_ble_eq_true rfl) (fun x hx F => ?_)
  refine rr_aload_n F dX8_grams_0 rfl ?_
  refine rg_Model_sizes F (by first | rfl | assumption) fl_X8_17 dX8_grams_1 ?_
  refine rr_cell (k2 := 3) rfl ?_
  refine rr_iload_n F dX8_grams_4 rfl ?_
  refine rr_iald F (N := 6) (by first | rfl | assumption) (by omega) (by first | rfl | assumption) (by omega) dX8_grams_5 ?_
  refine rr_aload_n F dX8_grams_6 rfl ?_
  refine rg_Model_k F (by first | rfl | assumption) fl_X8_30 dX8_grams_7 ?_
  refine rr_icmp_ge F dX8_grams_10 (tgt := 17) (by decide) ⟨by omega, by omega⟩ ⟨by omega, by omega⟩ (fun c_10 => ?_) (fun c_10 => ?_)
  · refine rr_aload_n F dX8_grams_17 rfl ?_
    refine rg_Model_sizes F (by first | rfl | assumption) fl_X8_17 dX8_grams_18 ?_
    refine rr_cell (k2 := 3) rfl ?_
    refine rr_iload_n F dX8_grams_21 rfl ?_
    refine rr_iald F (N := 6) (by first | rfl | assumption) (by omega) (by first | rfl | assumption) (by omega) dX8_grams_22 ?_
    refine rr_aload_n F dX8_grams_23 rfl ?_
    refine rg_Model_k F (by first | rfl | assumption) fl_X8_30 dX8_grams_24 ?_
    refine rr_isub F dX8_grams_27 ?_
    refine rr_iconst F dX8_grams_28 ?_
    refine rr_iadd F dX8_grams_29 ?_
    refine rr_iret F dX8_grams_30 ?_
    exact ⟨_, rfl, by unfold grm; omega, rfl, rfl⟩
  · refine rr_iconst F dX8_grams_13 ?_
    refine rr_goto F dX8_grams_14 (tgt := 30) (by decide) ?_
    refine rr_iret F dX8_grams_30 ?_
    exact ⟨_, rfl, by unfold grm; omega, rfl, rfl⟩
set_option maxHeartbeats 4000000 in
set_option maxRecDepth 100000 in
theorem mm_X8_hashOf {l : Launch} {g : gT} {σ : sT} {b s : Int} {I : IM} {L : LM} (hR : MR σ I L) (hW : WF σ) (hb0 : 0 ≤ b) (hb : b < 6) (hs : 0 ≤ s) (hsm : s + s_k σ ≤ s_sz σ b) :
    Ct l yX8_hashOf cX8_hashOf 6 (some .int) 0 0 lyM g [.ref (g.2.1 0), .int (zI b), .int (zI s)] I L (pI (fun r I' L' => r = hsh (s_tk σ b) (s_k σ) s ∧ I = I' ∧ L = L')) := by
  obtain ⟨e1, e2, e3, e4, e5⟩ := MRb hR hb0 hb
  obtain ⟨h1, h2, h3, h4, h5, h6, h7, h8, h9⟩ := id hR
  have w4 := hW.2.2.2.1 b
  have w7 := hW.2.2.2.2.2.2.1
  refine Ct.of RX8 (by decide +kernel) rfl (Nat.le_of_ble_eq_true rfl) (fun x hx F => ?_)
  have loop : ∀ (c : Nat) (i : Int) (h : Int64), c = (s + s_k σ - i).toNat → s ≤ i → i ≤ s + s_k σ → hshF (s_tk σ b) c i h = hshF (s_tk σ b) (s_k σ).toNat s 7 → Rn x lyM g (pI (fun r I' L' => r = hsh (s_tk σ b) (s_k σ) s ∧ I = I' ∧ L = L')) 7 [vr g 0, vn b, vn s, vl h, none, vn i] [] I L := by
    intro c
    induction c with
    | zero =>
      intro i h h1 h2 h3 h4
      refine rr_iload F dX8_hashOf_7 rfl ?_
      refine rr_iload_n F dX8_hashOf_9 rfl ?_
      refine rr_aload_n F dX8_hashOf_10 rfl ?_
      refine rg_Model_k F (by first | rfl | assumption) fl_X8_30 dX8_hashOf_11 ?_
      refine rr_iadd F dX8_hashOf_14 ?_
      refine rr_icmp_ge F dX8_hashOf_15 (tgt := 47) (by decide) ⟨by omega, by omega⟩ ⟨by omega, by omega⟩ (fun c_15 => ?_) (fun c_15 => ?_)
      · refine rr_lload_n F dX8_hashOf_47 rfl ?_
        refine rr_l2i F dX8_hashOf_48 ?_
        refine rr_iret F dX8_hashOf_49 ?_
        exact ⟨_, rfl, by rw [hsh, ← h4, hshF], rfl, rfl⟩
      · exact absurd c_15 (by omega)
    | succ c ih =>
      intro i h h1 h2 h3 h4
      refine rr_iload F dX8_hashOf_7 rfl ?_
      refine rr_iload_n F dX8_hashOf_9 rfl ?_
      refine rr_aload_n F dX8_hashOf_10 rfl ?_
      refine rg_Model_k F (by first | rfl | assumption) fl_X8_30 dX8_hashOf_11 ?_
      refine rr_iadd F dX8_hashOf_14 ?_
      refine rr_icmp_ge F dX8_hashOf_15 (tgt := 47) (by decide) ⟨by omega, by omega⟩ ⟨by omega, by omega⟩ (fun c_15 => ?_) (fun c_15 => ?_)
      · exact absurd c_15 (by omega)
      · refine rr_lload_n F dX8_hashOf_18 rfl ?_
        refine rr_ldc2 F dX8_hashOf_19 co_X8_135 ?_
        refine rr_lmul F dX8_hashOf_22 ?_
        refine rr_aload_n F dX8_hashOf_23 rfl ?_
        refine rg_Model_tokens F (by first | rfl | assumption) fl_X8_26 dX8_hashOf_24 ?_
        refine rr_cell (k2 := 6) rfl ?_
        refine rr_bipush F dX8_hashOf_27 (by decide) ?_
        refine rr_iload_n F dX8_hashOf_29 rfl ?_
        refine rr_imul F dX8_hashOf_30 ?_
        refine rr_iload F dX8_hashOf_31 rfl ?_
        refine rr_iadd F dX8_hashOf_33 ?_
        refine rr_lald F (N := 240) (by first | rfl | assumption) (by omega) (by first | rfl | assumption) (by omega) dX8_hashOf_34 ?_
        refine rr_ladd F dX8_hashOf_35 ?_
        refine rr_ldc2 F dX8_hashOf_36 co_X8_137 ?_
        refine rr_lrem F dX8_hashOf_39 (by decide) ?_
        refine rr_lstore_n F dX8_hashOf_40 (Nat.le_of_ble_eq_true rfl) rfl ?_
        refine rr_iinc F dX8_hashOf_41 rfl rfl ?_
        refine rr_goto F dX8_hashOf_44 (tgt := 7) (by decide) ?_
        rw [e5 i (by omega) (by omega)]
        exact ih (i + 1) _ (by omega) (by omega) (by omega) (by rw [← h4, hshF])
  refine rr_ldc2 F dX8_hashOf_0 co_X8_119 ?_
  refine rr_lstore_n F dX8_hashOf_3 (Nat.le_of_ble_eq_true rfl) rfl ?_
  refine rr_iload_n F dX8_hashOf_4 rfl ?_
  refine rr_istore F dX8_hashOf_5 (Nat.le_of_ble_eq_true rfl) rfl ?_
  exact loop _ s 7 rfl (by omega) (by omega) (by rw [show (s + s_k σ - s) = s_k σ by omega])
set_option maxHeartbeats 4000000 in
set_option maxRecDepth 100000 in
theorem mm_X8_hash {l : Launch} {g : gT} {σ : sT} {b j : Int} {I : IM} {L : LM} (hb : rg b) (hj : rg j) (hR : MR σ I L) (hW : WF σ) :
    Ct l yX8_hash cX8_hash 3 (some .int) 2 42 lyM g [.ref (g.2.1 0), .int (zI b), .int (zI j)] I L (pS MR (sp_hash σ b j, σ)) := by
  have hc := rB_cases σ b
  have w3 := hW.2.2.1 b
  have w4 := hW.2.2.2.1 b
  have w7 := hW.2.2.2.2.2.2.1
  have gb := grm_b w4.1 w4.2 w7.1
  have ge : grm (s_sz σ b) (s_k σ) = max 0 (s_sz σ b - s_k σ + 1) := rfl
  refine Ct.of RX8 (by decide +kernel) rfl (Nat.le_of_ble_eq_true rfl) (fun x hx F => ?_)
  refine rr_iload_n F dX8_hash_0 rfl ?_
  refine rr_callSI F (mm_X8_isNumber hb) mf_X8_isNumber ml_X8_123 ⟨by decide, by decide⟩ rfl (Nat.le_of_ble_eq_true rfl) dX8_hash_1 (fun r_1 I_1 L_1 h_1 => ?_)
  obtain ⟨e3, rfl, rfl⟩ := h_1
  refine rr_if_ne F dX8_hash_4 (tgt := 11) (by decide) ⟨by omega, by omega⟩ (fun c_4 => ?_) (fun c_4 => ?_)
  · refine rr_aload_n F dX8_hash_11 rfl ?_
    refine rg_Model_is F (by first | rfl | assumption) fl_X8_13 dX8_hash_12 ?_
    refine rr_cell (k2 := 2) rfl ?_
    refine rr_iload_n F dX8_hash_15 rfl ?_
    refine rr_zald F (N := 6) (by first | rfl | assumption) (by omega) (by first | rfl | assumption) (by omega) dX8_hash_16 ?_
    have e1 := (MRb hR (b := b) (by omega) (by omega)).1
    refine rr_if_ne F dX8_hash_17 (tgt := 25) (by decide) ⟨by omega, by omega⟩ (fun c_17 => ?_) (fun c_17 => ?_)
    · refine rr_iload_n F dX8_hash_25 rfl ?_
      refine rr_iconst F dX8_hash_26 ?_
      refine rr_aload_n F dX8_hash_27 rfl ?_
      refine rr_iload_n F dX8_hash_28 rfl ?_
      refine rr_callVI F (ci := 8) (mm_X8_grams hR hW (by omega) (by omega)) mf_X8_grams ml_X8_139 ⟨by decide, by decide⟩ (by first | rfl | assumption) (by decide) rfl rfl (Nat.le_of_ble_eq_true rfl) dX8_hash_29 (fun r_29 I_29 L_29 h_29 => ?_)
      obtain ⟨e29, rfl, rfl⟩ := h_29
      refine rr_iconst F dX8_hash_32 ?_
      refine rr_isub F dX8_hash_33 ?_
      refine rr_callSI F (mm_X8_in hj ⟨by omega, by omega⟩ ⟨by omega, by omega⟩) mf_X8_in ml_X8_86 ⟨by decide, by decide⟩ rfl (Nat.le_of_ble_eq_true rfl) dX8_hash_34 (fun r_34 I_34 L_34 h_34 => ?_)
      obtain ⟨e34, rfl, rfl⟩ := h_34
      refine rr_if_eq F dX8_hash_37 (tgt := 49) (by decide) ⟨by omega, by omega⟩ (fun c_37 => ?_) (fun c_37 => ?_)
      · refine rr_bipush F dX8_hash_49 (by decide) ?_
        refine rr_iret F dX8_hash_51 ?_
        refine ⟨_, rfl, ?_, hR⟩
        show _ = sp_hash σ b j
        first | (rw [sp_hash, if_neg (by omega)]; omega) | (rw [sp_hash, if_pos (by omega), if_neg (by omega)]; done) | (rw [sp_hash, if_pos (by omega), if_pos (by omega)]; exact e43)
      · refine rr_aload_n F dX8_hash_40 rfl ?_
        refine rr_iload_n F dX8_hash_41 rfl ?_
        refine rr_iload_n F dX8_hash_42 rfl ?_
        refine rr_callVI F (ci := 8) (mm_X8_hashOf hR hW (by omega) (by omega) (by omega) (by omega)) mf_X8_hashOf ml_X8_142 ⟨by decide, by decide⟩ (by first | rfl | assumption) (by decide) rfl rfl (Nat.le_of_ble_eq_true rfl) dX8_hash_43 (fun r_43 I_43 L_43 h_43 => ?_)
        obtain ⟨e43, rfl, rfl⟩ := h_43
        refine rr_goto F dX8_hash_46 (tgt := 51) (by decide) ?_
        refine rr_iret F dX8_hash_51 ?_
        refine ⟨_, rfl, ?_, hR⟩
        show _ = sp_hash σ b j
        first | (rw [sp_hash, if_neg (by omega)]; omega) | (rw [sp_hash, if_pos (by omega), if_neg (by omega)]; done) | (rw [sp_hash, if_pos (by omega), if_pos (by omega)]; exact e43)
    · refine rr_bipush F dX8_hash_20 (by decide) ?_
      refine rr_goto F dX8_hash_22 (tgt := 51) (by decide) ?_
      refine rr_iret F dX8_hash_51 ?_
      refine ⟨_, rfl, ?_, hR⟩
      show _ = sp_hash σ b j
      first | (rw [sp_hash, if_neg (by omega)]; omega) | (rw [sp_hash, if_pos (by omega), if_neg (by omega)]; done) | (rw [sp_hash, if_pos (by omega), if_pos (by omega)]; exact e43)
  · refine rr_iconst F dX8_hash_7 ?_
    refine rr_goto F dX8_hash_8 (tgt := 51) (by decide) ?_
    refine rr_iret F dX8_hash_51 ?_
    refine ⟨_, rfl, ?_, hR⟩
    show _ = sp_hash σ b j
    first | (rw [sp_hash, if_neg (by omega)]; omega) | (rw [sp_hash, if_pos (by omega), if_neg (by omega)]; done) | (rw [sp_hash, if_pos (by omega), if_pos (by omega)]; exact e43)
set_option maxHeartbeats 4000000 in
set_option maxRecDepth 100000 in
theorem mm_X8_findMarks {l : Launch} {g : gT} {σ : sT} {b : Int} {I : IM} {L : LM} (hR : MR σ I L) (hW : WF σ) (hb0 : 0 ≤ b) (hb : b < 6) :
    Ct l yX8_findMarks cX8_findMarks 6 none 1 25 lyM g [.ref (g.2.1 0), .int (zI b)] I L (pV (fun I' L' => (∀ j, 0 ≤ j → j < 40 → I' 8 (40 * b + j) = mF σ b j) ∧ (∀ j, j < 40 * b ∨ 40 * b + 40 ≤ j → I' 8 j = I 8 j) ∧ (∀ q, q ≠ 8 → q ≠ 9 → I' q = I q) ∧ L = L')) := by
  have w4 := hW.2.2.2.1 b
  have w7 := hW.2.2.2.2.2.2.1
  have w8 := hW.2.2.2.2.2.2.2.1
  have hw := hR.2.2.2.2.2.1
  have gb := grm_b w4.1 w4.2 w7.1
  have hG0 : grm (s_sz σ b) (s_k σ) = max 0 (s_sz σ b - s_k σ + 1) := rfl
  generalize hG : grm (s_sz σ b) (s_k σ) = G at *
  have hW0 : min (s_w σ) G = min (s_w σ) G := rfl
  generalize hWd : min (s_w σ) G = W at *
  refine Ct.of RX8 (by decide +kernel) rfl (Nat.le_of_ble_eq_true rfl) (fun x hx F => ?_)
  generalize hpost : (pV (fun (I' : IM) (L' : LM) => (∀ j, 0 ≤ j → j < 40 → I' 8 (40 * b + j) = mF σ b j) ∧ (∀ j, j < 40 * b ∨ 40 * b + 40 ≤ j → I' 8 j = I 8 j) ∧ (∀ q, q ≠ 8 → q ≠ 9 → I' q = I q) ∧ L = L')) = post
  have loopC : ∀ (c : Nat) (f : Int) (I1 : IM), c = (G + 1 - W - f).toNat → 0 ≤ f → f ≤ G - W + 1 → (f = 0 ∨ W ≤ G) → (∀ j, 0 ≤ j → j < G → I1 9 j = hsh (s_tk σ b) (s_k σ) j) → (∀ j, 0 ≤ j → j < 40 → I1 8 (40 * b + j) = if j < G then bi (MkU (hsh (s_tk σ b) (s_k σ)) W f j) else 0) → (∀ j, j < 40 * b ∨ 40 * b + 40 ≤ j → I1 8 j = I 8 j) → (∀ q, q ≠ 8 → q ≠ 9 → I1 q = I q) → Rn x lyM g post 59 [vr g 0, vn b, vn G, vn f, none, none] [] I1 L := by
    intro c
    induction c with
    | zero =>
      intro f I1 h1 h2 h3 h3' h4 h5 h6 h7
      have ew : I1 0 8 = s_w σ := by rw [h7 0 (by omega) (by omega)]; exact hw
      have hf : f = G - W + 1 := by omega
      refine rr_iload_n F dX8_findMarks_59 rfl ?_
      refine rr_if_ne F dX8_findMarks_60 (tgt := 67) (by decide) ⟨by omega, by omega⟩ (fun c_60 => ?_) (fun c_60 => ?_)
      · refine rr_iload_n F dX8_findMarks_67 rfl ?_
        refine rr_aload_n F dX8_findMarks_68 rfl ?_
        refine rg_Model_w F (by first | rfl | assumption) fl_X8_34 dX8_findMarks_69 ?_
        refine rr_iadd F dX8_findMarks_72 ?_
        refine rr_iload_n F dX8_findMarks_73 rfl ?_
        refine rr_icmp_gt F dX8_findMarks_74 (tgt := 153) (by decide) ⟨by omega, by omega⟩ ⟨by omega, by omega⟩ (fun c_74 => ?_) (fun c_74 => ?_)
        · refine rr_vret F dX8_findMarks_153 ?_
          rw [← hpost]
          refine ⟨rfl, fun j a d => ?_, h6, h7, rfl⟩
          rw [h5 j a d, mF, mkF, hG]
          by_cases y : j < G
          · rw [if_pos y, if_pos ⟨a, y⟩, hWd, hf]
          · rw [if_neg y, if_neg (fun z => y z.2)]
        · exfalso
          omega
      · refine rr_iload_n F dX8_findMarks_63 rfl ?_
        refine rr_if_gt F dX8_findMarks_64 (tgt := 77) (by decide) ⟨by omega, by omega⟩ (fun c_64 => ?_) (fun c_64 => ?_)
        · exfalso
          omega
        · refine rr_iload_n F dX8_findMarks_67 rfl ?_
          refine rr_aload_n F dX8_findMarks_68 rfl ?_
          refine rg_Model_w F (by first | rfl | assumption) fl_X8_34 dX8_findMarks_69 ?_
          refine rr_iadd F dX8_findMarks_72 ?_
          refine rr_iload_n F dX8_findMarks_73 rfl ?_
          refine rr_icmp_gt F dX8_findMarks_74 (tgt := 153) (by decide) ⟨by omega, by omega⟩ ⟨by omega, by omega⟩ (fun c_74 => ?_) (fun c_74 => ?_)
          · refine rr_vret F dX8_findMarks_153 ?_
            rw [← hpost]
            refine ⟨rfl, fun j a d => ?_, h6, h7, rfl⟩
            rw [h5 j a d, mF, mkF, hG]
            by_cases y : j < G
            · rw [if_pos y, if_pos ⟨a, y⟩, hWd, hf]
            · rw [if_neg y, if_neg (fun z => y z.2)]
          · exfalso
            omega
    | succ c ih =>
      intro f I1 h1 h2 h3 h3' h4 h5 h6 h7
      have ew : I1 0 8 = s_w σ := by rw [h7 0 (by omega) (by omega)]; exact hw
      have body : 0 < G → Rn x lyM g post 77 [vr g 0, vn b, vn G, vn f, none, none] [] I1 L := by
        intro hGp
        have after : ∀ r : Int, r = lolF (hsh (s_tk σ b) (s_k σ)) (W - 1).toNat (f + 1) f → Rn x lyM g post 134 [vr g 0, vn b, vn G, vn f, vn r, none] [] I1 L := by
          intro r hr
          have hin := lolF_in (hsh (s_tk σ b) (s_k σ)) (W - 1).toNat (f + 1) f f (f + W) (by omega) (by omega) (by omega) (by omega)
          rw [← hr] at hin
          refine rr_aload_n F dX8_findMarks_134 rfl ?_
          refine rg_Model_marks F (by first | rfl | assumption) fl_X8_59 dX8_findMarks_135 ?_
          refine rr_cell (k2 := 8) rfl ?_
          refine rr_bipush F dX8_findMarks_138 (by decide) ?_
          refine rr_iload_n F dX8_findMarks_140 rfl ?_
          refine rr_imul F dX8_findMarks_141 ?_
          refine rr_iload F dX8_findMarks_142 rfl ?_
          refine rr_iadd F dX8_findMarks_144 ?_
          refine rr_iconst F dX8_findMarks_145 ?_
          refine rr_zast F (N := 240) (by first | rfl | assumption) (by omega) (by first | rfl | assumption) (by omega) (by decide) dX8_findMarks_146 ?_
          refine rr_iinc F dX8_findMarks_147 rfl rfl ?_
          refine rr_goto F dX8_findMarks_150 (tgt := 59) (by decide) ?_
          refine rr_drop 4 ?_
          refine ih (f + 1) _ (by omega) (by omega) (by omega) (by omega) (fun j a d => ?_) (fun j a d => ?_) (fun j a => ?_) (fun q a d => ?_)
          · rw [up2_cell _ _ _ (by omega)]; exact h4 j a d
          · by_cases z : j = r
            · subst z
              rw [up2_same, if_pos (by omega), bi_pos ⟨f, by omega, by omega, hr⟩]
            · rw [up2_ne _ _ _ (by omega), h5 j a d]
              by_cases y : j < G
              · rw [if_pos y, if_pos y]
                refine bi_congr ⟨fun ⟨e, f1, f2, f3⟩ => ⟨e, f1, by omega, f3⟩, fun ⟨e, f1, f2, f3⟩ => ?_⟩
                by_cases y : e = f
                · exact absurd (f3.trans (by rw [y, hr])) z
                · exact ⟨e, f1, by omega, f3⟩
              · rw [if_neg y, if_neg y]
          · rw [up2_ne _ _ _ (by omega)]; exact h6 j a
          · rw [up2_cell _ _ _ a]; exact h7 q a d
        have loopD : ∀ (d : Nat) (i t : Int), d = (f + W - i).toNat → f < i → i ≤ f + W → f ≤ t → t < i → lolF (hsh (s_tk σ b) (s_k σ)) d i t = lolF (hsh (s_tk σ b) (s_k σ)) (W - 1).toNat (f + 1) f → Rn x lyM g post 85 [vr g 0, vn b, vn G, vn f, vn t, vn i] [] I1 L := by
          intro d
          induction d with
          | zero =>
            intro i t e1 e2 e3 e4 e5 e6
            refine rr_iload F dX8_findMarks_85 rfl ?_
            refine rr_iload_n F dX8_findMarks_87 rfl ?_
            refine rr_aload_n F dX8_findMarks_88 rfl ?_
            refine rg_Model_w F (by first | rfl | assumption) fl_X8_34 dX8_findMarks_89 ?_
            refine rr_iadd F dX8_findMarks_92 ?_
            refine rr_icmp_ge F dX8_findMarks_93 (tgt := 134) (by decide) ⟨by omega, by omega⟩ ⟨by omega, by omega⟩ (fun c_93 => ?_) (fun c_93 => ?_)
            · refine rr_drop 5 ?_
              exact after t (by rw [← e6, lolF])
            · refine rr_iload F dX8_findMarks_96 rfl ?_
              refine rr_iload_n F dX8_findMarks_98 rfl ?_
              refine rr_icmp_ge F dX8_findMarks_99 (tgt := 134) (by decide) ⟨by omega, by omega⟩ ⟨by omega, by omega⟩ (fun c_99 => ?_) (fun c_99 => ?_)
              · refine rr_drop 5 ?_
                exact after t (by rw [← e6, lolF])
              · exfalso
                omega
          | succ d ihd =>
            intro i t e1 e2 e3 e4 e5 e6
            rw [lolF] at e6
            have g1 := h4 t (by omega) (by omega)
            have g2 := h4 i (by omega) (by omega)
            have r1 := hsh_rg (s_tk σ b) (s_k σ) t
            have r2 := hsh_rg (s_tk σ b) (s_k σ) i
            refine rr_iload F dX8_findMarks_85 rfl ?_
            refine rr_iload_n F dX8_findMarks_87 rfl ?_
            refine rr_aload_n F dX8_findMarks_88 rfl ?_
            refine rg_Model_w F (by first | rfl | assumption) fl_X8_34 dX8_findMarks_89 ?_
            refine rr_iadd F dX8_findMarks_92 ?_
            refine rr_icmp_ge F dX8_findMarks_93 (tgt := 134) (by decide) ⟨by omega, by omega⟩ ⟨by omega, by omega⟩ (fun c_93 => ?_) (fun c_93 => ?_)
            · exfalso
              omega
            · refine rr_iload F dX8_findMarks_96 rfl ?_
              refine rr_iload_n F dX8_findMarks_98 rfl ?_
              refine rr_icmp_ge F dX8_findMarks_99 (tgt := 134) (by decide) ⟨by omega, by omega⟩ ⟨by omega, by omega⟩ (fun c_99 => ?_) (fun c_99 => ?_)
              · exfalso
                omega
              · refine rr_aload_n F dX8_findMarks_102 rfl ?_
                refine rg_Model_hashes F (by first | rfl | assumption) fl_X8_62 dX8_findMarks_103 ?_
                refine rr_cell (k2 := 9) rfl ?_
                refine rr_iload F dX8_findMarks_106 rfl ?_
                refine rr_iald F (N := 40) (by first | rfl | assumption) (by omega) (by first | rfl | assumption) (by omega) dX8_findMarks_108 ?_
                refine rr_aload_n F dX8_findMarks_109 rfl ?_
                refine rg_Model_hashes F (by first | rfl | assumption) fl_X8_62 dX8_findMarks_110 ?_
                refine rr_cell (k2 := 9) rfl ?_
                refine rr_iload F dX8_findMarks_113 rfl ?_
                refine rr_iald F (N := 40) (by first | rfl | assumption) (by omega) (by first | rfl | assumption) (by omega) dX8_findMarks_115 ?_
                rw [g1, g2]
                refine rr_icmp_gt F dX8_findMarks_116 (tgt := 124) (by decide) (by exact r2) (by exact r1) (fun c_116 => ?_) (fun c_116 => ?_)
                · refine rr_iload F dX8_findMarks_124 rfl ?_
                  refine rr_istore F dX8_findMarks_126 (Nat.le_of_ble_eq_true rfl) rfl ?_
                  refine rr_iinc F dX8_findMarks_128 rfl rfl ?_
                  refine rr_goto F dX8_findMarks_131 (tgt := 85) (by decide) ?_
                  first | exact ihd (i + 1) i (by omega) (by omega) (by omega) (by omega) (by omega) (by rw [← e6, if_pos c_116]) | exact ihd (i + 1) t (by omega) (by omega) (by omega) (by omega) (by omega) (by rw [← e6, if_neg (Int.not_le.mpr c_116)])
                · refine rr_iload F dX8_findMarks_119 rfl ?_
                  refine rr_goto F dX8_findMarks_121 (tgt := 126) (by decide) ?_
                  refine rr_istore F dX8_findMarks_126 (Nat.le_of_ble_eq_true rfl) rfl ?_
                  refine rr_iinc F dX8_findMarks_128 rfl rfl ?_
                  refine rr_goto F dX8_findMarks_131 (tgt := 85) (by decide) ?_
                  first | exact ihd (i + 1) i (by omega) (by omega) (by omega) (by omega) (by omega) (by rw [← e6, if_pos c_116]) | exact ihd (i + 1) t (by omega) (by omega) (by omega) (by omega) (by omega) (by rw [← e6, if_neg (Int.not_le.mpr c_116)])
        refine rr_iload_n F dX8_findMarks_77 rfl ?_
        refine rr_istore F dX8_findMarks_78 (Nat.le_of_ble_eq_true rfl) rfl ?_
        refine rr_iload_n F dX8_findMarks_80 rfl ?_
        refine rr_iconst F dX8_findMarks_81 ?_
        refine rr_iadd F dX8_findMarks_82 ?_
        refine rr_istore F dX8_findMarks_83 (Nat.le_of_ble_eq_true rfl) rfl ?_
        exact loopD _ (f + 1) f rfl (by omega) (by omega) (by omega) (by omega) (by rw [show f + W - (f + 1) = W - 1 by omega])
      refine rr_iload_n F dX8_findMarks_59 rfl ?_
      refine rr_if_ne F dX8_findMarks_60 (tgt := 67) (by decide) ⟨by omega, by omega⟩ (fun c_60 => ?_) (fun c_60 => ?_)
      · refine rr_iload_n F dX8_findMarks_67 rfl ?_
        refine rr_aload_n F dX8_findMarks_68 rfl ?_
        refine rg_Model_w F (by first | rfl | assumption) fl_X8_34 dX8_findMarks_69 ?_
        refine rr_iadd F dX8_findMarks_72 ?_
        refine rr_iload_n F dX8_findMarks_73 rfl ?_
        refine rr_icmp_gt F dX8_findMarks_74 (tgt := 153) (by decide) ⟨by omega, by omega⟩ ⟨by omega, by omega⟩ (fun c_74 => ?_) (fun c_74 => ?_)
        · first | (exfalso; omega) | (refine rr_vret F dX8_findMarks_153 ?_; rw [← hpost]; refine ⟨rfl, fun j a d => ?_, h6, h7, rfl⟩; rw [h5 j a d, mF, mkF, hG, if_neg (by omega), if_neg (by omega)])
        · exact body (by omega)
      · refine rr_iload_n F dX8_findMarks_63 rfl ?_
        refine rr_if_gt F dX8_findMarks_64 (tgt := 77) (by decide) ⟨by omega, by omega⟩ (fun c_64 => ?_) (fun c_64 => ?_)
        · exact body (by omega)
        · refine rr_iload_n F dX8_findMarks_67 rfl ?_
          refine rr_aload_n F dX8_findMarks_68 rfl ?_
          refine rg_Model_w F (by first | rfl | assumption) fl_X8_34 dX8_findMarks_69 ?_
          refine rr_iadd F dX8_findMarks_72 ?_
          refine rr_iload_n F dX8_findMarks_73 rfl ?_
          refine rr_icmp_gt F dX8_findMarks_74 (tgt := 153) (by decide) ⟨by omega, by omega⟩ ⟨by omega, by omega⟩ (fun c_74 => ?_) (fun c_74 => ?_)
          · first | (exfalso; omega) | (refine rr_vret F dX8_findMarks_153 ?_; rw [← hpost]; refine ⟨rfl, fun j a d => ?_, h6, h7, rfl⟩; rw [h5 j a d, mF, mkF, hG, if_neg (by omega), if_neg (by omega)])
          · exact body (by omega)
  have loopB : ∀ (c : Nat) (f : Int) (I1 : IM), c = (G - f).toNat → 0 ≤ f → f ≤ G → (∀ j, 0 ≤ j → j < f → I1 9 j = hsh (s_tk σ b) (s_k σ) j) → (∀ j, 0 ≤ j → j < 40 → I1 8 (40 * b + j) = 0) → (∀ j, j < 40 * b ∨ 40 * b + 40 ≤ j → I1 8 j = I 8 j) → (∀ q, q ≠ 8 → q ≠ 9 → I1 q = I q) → Rn x lyM g post 34 [vr g 0, vn b, vn G, vn f, none, none] [] I1 L := by
    intro c
    induction c with
    | zero =>
      intro f I1 h1 h2 h3 h4 h5 h6 h7
      refine rr_iload_n F dX8_findMarks_34 rfl ?_
      refine rr_iload_n F dX8_findMarks_35 rfl ?_
      refine rr_icmp_ge F dX8_findMarks_36 (tgt := 57) (by decide) ⟨by omega, by omega⟩ ⟨by omega, by omega⟩ (fun c_36 => ?_) (fun c_36 => ?_)
      · refine rr_iconst F dX8_findMarks_57 ?_
        refine rr_istore_n F dX8_findMarks_58 (Nat.le_of_ble_eq_true rfl) rfl ?_
        refine loopC _ 0 I1 rfl (by omega) (by omega) (Or.inl rfl) (fun j a d => h4 j a (by omega)) (fun j a d => ?_) h6 h7
        rw [h5 j a d]
        by_cases y : j < G
        · rw [if_pos y, bi_neg]
          exact fun ⟨e, f1, f2, f3⟩ => absurd f2 (by omega)
        · rw [if_neg y]
      · exact absurd c_36 (by omega)
    | succ c ih =>
      intro f I1 h1 h2 h3 h4 h5 h6 h7
      have R1 : MR σ I1 L := hR.k ⟨fun q a d => h7 q (by omega) (by omega), fun j hj => by rw [h7 0 (by omega) (by omega)], rfl⟩
      refine rr_iload_n F dX8_findMarks_34 rfl ?_
      refine rr_iload_n F dX8_findMarks_35 rfl ?_
      refine rr_icmp_ge F dX8_findMarks_36 (tgt := 57) (by decide) ⟨by omega, by omega⟩ ⟨by omega, by omega⟩ (fun c_36 => ?_) (fun c_36 => ?_)
      · exact absurd c_36 (by omega)
      · refine rr_aload_n F dX8_findMarks_39 rfl ?_
        refine rg_Model_hashes F (by first | rfl | assumption) fl_X8_62 dX8_findMarks_40 ?_
        refine rr_cell (k2 := 9) rfl ?_
        refine rr_iload_n F dX8_findMarks_43 rfl ?_
        refine rr_aload_n F dX8_findMarks_44 rfl ?_
        refine rr_iload_n F dX8_findMarks_45 rfl ?_
        refine rr_iload_n F dX8_findMarks_46 rfl ?_
        refine rr_callVI F (ci := 8) (mm_X8_hashOf R1 hW hb0 hb (by omega) (by omega)) mf_X8_hashOf ml_X8_142 ⟨by decide, by decide⟩ (by first | rfl | assumption) (by decide) rfl rfl (Nat.le_of_ble_eq_true rfl) dX8_findMarks_47 (fun r_47 I_47 L_47 h_47 => ?_)
        obtain ⟨e47, rfl, rfl⟩ := h_47
        refine rr_iast F (N := 40) (by first | rfl | assumption) (by omega) (by first | rfl | assumption) (by omega) dX8_findMarks_50 ?_
        refine rr_iinc F dX8_findMarks_51 rfl rfl ?_
        refine rr_goto F dX8_findMarks_54 (tgt := 34) (by decide) ?_
        refine ih (f + 1) _ (by omega) (by omega) (by omega) (fun j a d => ?_) (fun j a d => ?_) (fun j a => ?_) (fun q a d => ?_)
        · by_cases z : j = f
          · subst z; rw [up2_same, e47]
          · rw [up2_ne _ _ _ z]; exact h4 j a (by omega)
        · rw [up2_cell _ _ _ (by omega)]; exact h5 j a d
        · rw [up2_cell _ _ _ (by omega)]; exact h6 j a
        · rw [up2_cell _ _ _ d]; exact h7 q a d
  have loopA : ∀ (c : Nat) (f : Int) (I1 : IM), c = (40 - f).toNat → 0 ≤ f → f ≤ 40 → (∀ j, 0 ≤ j → j < f → I1 8 (40 * b + j) = 0) → (∀ j, j < 40 * b ∨ 40 * b + 40 ≤ j → I1 8 j = I 8 j) → (∀ q, q ≠ 8 → q ≠ 9 → I1 q = I q) → Rn x lyM g post 8 [vr g 0, vn b, vn G, vn f, none, none] [] I1 L := by
    intro c
    induction c with
    | zero =>
      intro f I1 h1 h2 h3 h5 h6 h7
      refine rr_iload_n F dX8_findMarks_8 rfl ?_
      refine rr_bipush F dX8_findMarks_9 (by decide) ?_
      refine rr_icmp_ge F dX8_findMarks_11 (tgt := 32) (by decide) ⟨by omega, by omega⟩ ⟨by omega, by omega⟩ (fun c_11 => ?_) (fun c_11 => ?_)
      · refine rr_iconst F dX8_findMarks_32 ?_
        refine rr_istore_n F dX8_findMarks_33 (Nat.le_of_ble_eq_true rfl) rfl ?_
        exact loopB _ 0 I1 rfl (by omega) (by omega) (fun j a d => absurd d (by omega)) (fun j a d => h5 j a (by omega)) h6 h7
      · exact absurd c_11 (by omega)
    | succ c ih =>
      intro f I1 h1 h2 h3 h5 h6 h7
      refine rr_iload_n F dX8_findMarks_8 rfl ?_
      refine rr_bipush F dX8_findMarks_9 (by decide) ?_
      refine rr_icmp_ge F dX8_findMarks_11 (tgt := 32) (by decide) ⟨by omega, by omega⟩ ⟨by omega, by omega⟩ (fun c_11 => ?_) (fun c_11 => ?_)
      · exact absurd c_11 (by omega)
      · refine rr_aload_n F dX8_findMarks_14 rfl ?_
        refine rg_Model_marks F (by first | rfl | assumption) fl_X8_59 dX8_findMarks_15 ?_
        refine rr_cell (k2 := 8) rfl ?_
        refine rr_bipush F dX8_findMarks_18 (by decide) ?_
        refine rr_iload_n F dX8_findMarks_20 rfl ?_
        refine rr_imul F dX8_findMarks_21 ?_
        refine rr_iload_n F dX8_findMarks_22 rfl ?_
        refine rr_iadd F dX8_findMarks_23 ?_
        refine rr_iconst F dX8_findMarks_24 ?_
        refine rr_zast F (N := 240) (by first | rfl | assumption) (by omega) (by first | rfl | assumption) (by omega) (by decide) dX8_findMarks_25 ?_
        refine rr_iinc F dX8_findMarks_26 rfl rfl ?_
        refine rr_goto F dX8_findMarks_29 (tgt := 8) (by decide) ?_
        refine ih (f + 1) _ (by omega) (by omega) (by omega) (fun j a d => ?_) (fun j a => ?_) (fun q a d => ?_)
        · by_cases z : j = f
          · subst z; rw [up2_same]
          · rw [up2_ne _ _ _ (by omega)]; exact h5 j a (by omega)
        · rw [up2_ne _ _ _ (by omega)]; exact h6 j a
        · rw [up2_cell _ _ _ a]; exact h7 q a d
  refine rr_aload_n F dX8_findMarks_0 rfl ?_
  refine rr_iload_n F dX8_findMarks_1 rfl ?_
  refine rr_callVI F (ci := 8) (mm_X8_grams hR hW hb0 hb) mf_X8_grams ml_X8_139 ⟨by decide, by decide⟩ (by first | rfl | assumption) (by decide) rfl rfl (Nat.le_of_ble_eq_true rfl) dX8_findMarks_2 (fun r_2 I_2 L_2 h_2 => ?_)
  obtain ⟨e2, rfl, rfl⟩ := h_2
  rw [hG] at e2
  subst e2
  refine rr_istore_n F dX8_findMarks_5 (Nat.le_of_ble_eq_true rfl) rfl ?_
  refine rr_iconst F dX8_findMarks_6 ?_
  refine rr_istore_n F dX8_findMarks_7 (Nat.le_of_ble_eq_true rfl) rfl ?_
  exact loopA _ 0 I rfl (by omega) (by omega) (fun j a d => absurd d (by omega)) (fun j a => rfl) (fun q a d => rfl)
set_option maxHeartbeats 4000000 in
set_option maxRecDepth 100000 in
theorem mm_X8_markAt {l : Launch} {g : gT} {σ : sT} {b t : Int} {I : IM} {L : LM} (hb : rg b) (ht : rg t) (hR : MR σ I L) (hW : WF σ) :
    Ct l yX8_markAt cX8_markAt 5 (some .int) 2 50 lyM g [.ref (g.2.1 0), .int (zI b), .int (zI t)] I L (pS MR (sp_markAt σ b t, σ)) := by
  have hc := rB_cases σ b
  have w3 := hW.2.2.1 b
  have ht' := ht
  unfold rg at ht'
  refine Ct.of RX8 (by decide +kernel) rfl (Nat.le_of_ble_eq_true rfl) (fun x hx F => ?_)
  have loop : ∀ I1 : IM, MR σ I1 L → (∀ j, 0 ≤ j → j < 40 → I1 8 (40 * b + j) = mF σ b j) → 0 ≤ b → b < 6 → -1 ≤ t → s_hd σ b = 1 → ∀ (c : Nat) (i a : Int), c = (40 - i).toNat → 0 ≤ i → i ≤ 40 → 0 ≤ a → a ≤ i → cntF (mF σ b) c i a = cntF (mF σ b) 40 0 0 → nthF (mF σ b) t c i a = nthF (mF σ b) t 40 0 0 → Rn x lyM g (pS MR (sp_markAt σ b t, σ)) 36 [vr g 0, vn b, vn t, vn a, vn i] [] I1 L := by
    intro I1 R1 hm hb0 hb6 ht1 hh c
    induction c with
    | zero =>
      intro i a h1 h2 h3 h4 h5 h6 h7
      refine rr_iload F dX8_markAt_36 rfl ?_
      refine rr_bipush F dX8_markAt_38 (by decide) ?_
      refine rr_icmp_ge F dX8_markAt_40 (tgt := 75) (by decide) ⟨by omega, by omega⟩ ⟨by omega, by omega⟩ (fun c_40 => ?_) (fun c_40 => ?_)
      · refine rr_iload_n F dX8_markAt_75 rfl ?_
        refine rr_if_ge F dX8_markAt_76 (tgt := 83) (by decide) ⟨by omega, by omega⟩ (fun c_76 => ?_) (fun c_76 => ?_)
        · refine rr_iconst F dX8_markAt_83 ?_
          refine rr_iret F dX8_markAt_84 ?_
          refine ⟨_, rfl, ?_, R1⟩
          show _ = sp_markAt σ b t
          rw [sp_markAt, if_neg (by omega), if_pos (by omega)]
          first | (rw [if_pos (by omega), ← h6, cntF]; done) | (rw [if_neg (by omega), ← h7, nthF]; done)
        · refine rr_iload_n F dX8_markAt_79 rfl ?_
          refine rr_goto F dX8_markAt_80 (tgt := 84) (by decide) ?_
          refine rr_iret F dX8_markAt_84 ?_
          refine ⟨_, rfl, ?_, R1⟩
          show _ = sp_markAt σ b t
          rw [sp_markAt, if_neg (by omega), if_pos (by omega)]
          first | (rw [if_pos (by omega), ← h6, cntF]; done) | (rw [if_neg (by omega), ← h7, nthF]; done)
      · exact absurd c_40 (by omega)
    | succ c ih =>
      intro i a h1 h2 h3 h4 h5 h6 h7
      rw [nthF] at h7
      rw [cntF] at h6
      have e := hm i (by omega) (by omega)
      have z : mF σ b i = 0 ∨ mF σ b i = 1 := mkF_01 _ _ _ _ _
      refine rr_iload F dX8_markAt_36 rfl ?_
      refine rr_bipush F dX8_markAt_38 (by decide) ?_
      refine rr_icmp_ge F dX8_markAt_40 (tgt := 75) (by decide) ⟨by omega, by omega⟩ ⟨by omega, by omega⟩ (fun c_40 => ?_) (fun c_40 => ?_)
      · exact absurd c_40 (by omega)
      · refine rr_aload_n F dX8_markAt_43 rfl ?_
        refine rg_Model_marks F (by first | rfl | assumption) fl_X8_59 dX8_markAt_44 ?_
        refine rr_cell (k2 := 8) rfl ?_
        refine rr_bipush F dX8_markAt_47 (by decide) ?_
        refine rr_iload_n F dX8_markAt_49 rfl ?_
        refine rr_imul F dX8_markAt_50 ?_
        refine rr_iload F dX8_markAt_51 rfl ?_
        refine rr_iadd F dX8_markAt_53 ?_
        refine rr_zald F (N := 240) (by first | rfl | assumption) (by omega) (by first | rfl | assumption) (by omega) dX8_markAt_54 ?_
        rw [e]
        refine rr_if_eq F dX8_markAt_55 (tgt := 69) (by decide) ⟨by omega, by omega⟩ (fun c_55 => ?_) (fun c_55 => ?_)
        · refine rr_iinc F dX8_markAt_69 rfl rfl ?_
          refine rr_goto F dX8_markAt_72 (tgt := 36) (by decide) ?_
          first | exact ih (i + 1) _ (by omega) (by omega) (by omega) (by omega) (by omega) (by rw [← h6, if_pos c_55]) (by rw [← h7, if_pos c_55]) | exact ih (i + 1) _ (by omega) (by omega) (by omega) (by omega) (by omega) (by rw [← h6, if_neg c_55]) (by rw [← h7, if_neg c_55, if_neg c_60])
        · refine rr_iload_n F dX8_markAt_58 rfl ?_
          refine rr_iload_n F dX8_markAt_59 rfl ?_
          refine rr_icmp_ne F dX8_markAt_60 (tgt := 66) (by decide) ⟨by omega, by omega⟩ ⟨by omega, by omega⟩ (fun c_60 => ?_) (fun c_60 => ?_)
          · refine rr_iinc F dX8_markAt_66 rfl rfl ?_
            refine rr_iinc F dX8_markAt_69 rfl rfl ?_
            refine rr_goto F dX8_markAt_72 (tgt := 36) (by decide) ?_
            first | exact ih (i + 1) _ (by omega) (by omega) (by omega) (by omega) (by omega) (by rw [← h6, if_pos c_55]) (by rw [← h7, if_pos c_55]) | exact ih (i + 1) _ (by omega) (by omega) (by omega) (by omega) (by omega) (by rw [← h6, if_neg c_55]) (by rw [← h7, if_neg c_55, if_neg c_60])
          · refine rr_iload F dX8_markAt_63 rfl ?_
            refine rr_iret F dX8_markAt_65 ?_
            refine ⟨_, rfl, ?_, R1⟩
            show _ = sp_markAt σ b t
            rw [sp_markAt, if_neg (by omega), if_pos (by omega), if_neg (by omega), ← h7, if_neg c_55, if_pos c_60]
  refine rr_iload_n F dX8_markAt_0 rfl ?_
  refine rr_callSI F (mm_X8_isNumber hb) mf_X8_isNumber ml_X8_123 ⟨by decide, by decide⟩ rfl (Nat.le_of_ble_eq_true rfl) dX8_markAt_1 (fun r_1 I_1 L_1 h_1 => ?_)
  obtain ⟨e3, rfl, rfl⟩ := h_1
  refine rr_if_eq F dX8_markAt_4 (tgt := 12) (by decide) ⟨by omega, by omega⟩ (fun c_4 => ?_) (fun c_4 => ?_)
  · refine rr_iconst F dX8_markAt_12 ?_
    refine rr_iret F dX8_markAt_13 ?_
    refine ⟨_, rfl, ?_, hR⟩
    show _ = sp_markAt σ b t
    first | (rw [sp_markAt, if_pos (by omega)]; done) | (rw [sp_markAt]; split; rfl; rw [if_neg (by omega)]; omega)
  · refine rr_iload_n F dX8_markAt_7 rfl ?_
    refine rr_iconst F dX8_markAt_8 ?_
    refine rr_icmp_ge F dX8_markAt_9 (tgt := 14) (by decide) ⟨by omega, by omega⟩ ⟨by omega, by omega⟩ (fun c_9 => ?_) (fun c_9 => ?_)
    · refine rr_aload_n F dX8_markAt_14 rfl ?_
      refine rg_Model_is F (by first | rfl | assumption) fl_X8_13 dX8_markAt_15 ?_
      refine rr_cell (k2 := 2) rfl ?_
      refine rr_iload_n F dX8_markAt_18 rfl ?_
      refine rr_zald F (N := 6) (by first | rfl | assumption) (by omega) (by first | rfl | assumption) (by omega) dX8_markAt_19 ?_
      have e1 := (MRb hR (b := b) (by omega) (by omega)).1
      refine rr_if_ne F dX8_markAt_20 (tgt := 26) (by decide) ⟨by omega, by omega⟩ (fun c_20 => ?_) (fun c_20 => ?_)
      · refine rr_aload_n F dX8_markAt_26 rfl ?_
        refine rr_iload_n F dX8_markAt_27 rfl ?_
        refine rr_callVV F (ci := 8) (mm_X8_findMarks hR hW (by omega) (by omega)) mf_X8_findMarks ml_X8_146 ⟨by decide, by decide⟩ (by first | rfl | assumption) (by decide) rfl rfl (Nat.le_of_ble_eq_true rfl) dX8_markAt_28 (fun I_28 L_28 h_28 => ?_)
        obtain ⟨f1, f2, f3, rfl⟩ := h_28
        refine rr_iconst F dX8_markAt_31 ?_
        refine rr_istore_n F dX8_markAt_32 (Nat.le_of_ble_eq_true rfl) rfl ?_
        refine rr_iconst F dX8_markAt_33 ?_
        refine rr_istore F dX8_markAt_34 (Nat.le_of_ble_eq_true rfl) rfl ?_
        exact loop I_28 (hR.k ⟨fun q a d => f3 q (by omega) (by omega), fun j hj => by rw [f3 0 (by omega) (by omega)], rfl⟩) f1 (by omega) (by omega) (by omega) (by omega) _ 0 0 rfl (by omega) (by omega) (by omega) (by omega) rfl rfl
      · refine rr_bipush F dX8_markAt_23 (by decide) ?_
        refine rr_iret F dX8_markAt_25 ?_
        refine ⟨_, rfl, ?_, hR⟩
        show _ = sp_markAt σ b t
        rw [sp_markAt, if_neg (by omega), if_neg (by omega)]; omega
    · refine rr_iconst F dX8_markAt_12 ?_
      refine rr_iret F dX8_markAt_13 ?_
      refine ⟨_, rfl, ?_, hR⟩
      show _ = sp_markAt σ b t
      first | (rw [sp_markAt, if_pos (by omega)]; done) | (rw [sp_markAt]; split; rfl; rw [if_neg (by omega)]; omega)
