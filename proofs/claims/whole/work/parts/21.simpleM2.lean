/-! the model's setters and readers -/
set_option maxHeartbeats 4000000 in
set_option maxRecDepth 100000 in
theorem mm_X8_windows {l : Launch} {g : gT} {σ : sT} {a b : Int} {I : IM} {L : LM} (ha : rg a) (hb : rg b) (hR : MR σ I L) :
    Ct l yX8_windows cX8_windows 3 (some .int) 1 22 lyM g [.ref (g.2.1 0), .int (zI a), .int (zI b)] I L (pS MR (sp_windows σ a b)) := by
  obtain ⟨h1, h2, h3, h4, h5, h6, h7, h8, h9⟩ := id hR
  refine Ct.of RX8 (by decide +kernel) rfl (Nat.le_of_ble_eq_true rfl) (fun x hx F => ?_)
  refine rr_iload_n F dX8_windows_0 rfl ?_
  refine rr_iconst F dX8_windows_1 ?_
  refine rr_iconst F dX8_windows_2 ?_
  refine rr_callSI F (mm_X8_in ha ⟨by omega, by omega⟩ ⟨by omega, by omega⟩) mf_X8_in ml_X8_86 ⟨by decide, by decide⟩ rfl (Nat.le_of_ble_eq_true rfl) dX8_windows_3 (fun r_3 I_3 L_3 h_3 => ?_)
  obtain ⟨e3, rfl, rfl⟩ := h_3
  refine rr_if_eq F dX8_windows_6 (tgt := 19) (by decide) ⟨by omega, by omega⟩ (fun c_6 => ?_) (fun c_6 => ?_)
  · refine rr_iconst F dX8_windows_19 ?_
    refine rr_iret F dX8_windows_20 ?_
    refine ⟨_, rfl, ?_⟩
    rw [sp_windows, if_neg (by omega)]
    exact ⟨rfl, hR⟩
  · refine rr_iload_n F dX8_windows_9 rfl ?_
    refine rr_iconst F dX8_windows_10 ?_
    refine rr_bipush F dX8_windows_11 (by decide) ?_
    refine rr_callSI F (mm_X8_in hb ⟨by omega, by omega⟩ ⟨by omega, by omega⟩) mf_X8_in ml_X8_86 ⟨by decide, by decide⟩ rfl (Nat.le_of_ble_eq_true rfl) dX8_windows_13 (fun r_13 I_13 L_13 h_13 => ?_)
    obtain ⟨e13, rfl, rfl⟩ := h_13
    refine rr_if_ne F dX8_windows_16 (tgt := 21) (by decide) ⟨by omega, by omega⟩ (fun c_16 => ?_) (fun c_16 => ?_)
    · refine rr_aload_n F dX8_windows_21 rfl ?_
      refine rr_iload_n F dX8_windows_22 rfl ?_
      refine rp_Model_k F (by first | rfl | assumption) fl_X8_30 dX8_windows_23 ?_
      refine rr_aload_n F dX8_windows_26 rfl ?_
      refine rr_iload_n F dX8_windows_27 rfl ?_
      refine rp_Model_w F (by first | rfl | assumption) fl_X8_34 dX8_windows_28 ?_
      refine rr_iconst F dX8_windows_31 ?_
      refine rr_iret F dX8_windows_32 ?_
      refine ⟨_, rfl, ?_⟩
      rw [sp_windows, if_pos (by omega)]
      exact ⟨rfl, by simpa [up2] using h1, by simpa [up2] using h2, by simpa [up2] using h3, by simpa [up2] using h4, by simp [up2], by simp [up2], by simpa [up2] using h7, by simpa [up2] using h8, h9⟩
    · refine rr_iconst F dX8_windows_19 ?_
      refine rr_iret F dX8_windows_20 ?_
      refine ⟨_, rfl, ?_⟩
      rw [sp_windows, if_neg (by omega)]
      exact ⟨rfl, hR⟩
set_option maxHeartbeats 4000000 in
set_option maxRecDepth 100000 in
theorem mm_X8_gap {l : Launch} {g : gT} {σ : sT} {a : Int} {I : IM} {L : LM} (ha : rg a) (hR : MR σ I L) :
    Ct l yX8_gap cX8_gap 3 (some .int) 1 22 lyM g [.ref (g.2.1 0), .int (zI a)] I L (pS MR (sp_gap σ a)) := by
  obtain ⟨h1, h2, h3, h4, h5, h6, h7, h8, h9⟩ := id hR
  refine Ct.of RX8 (by decide +kernel) rfl (Nat.le_of_ble_eq_true rfl) (fun x hx F => ?_)
  refine rr_iload_n F dX8_gap_0 rfl ?_
  refine rr_iconst F dX8_gap_1 ?_
  refine rr_bipush F dX8_gap_2 (by decide) ?_
  refine rr_callSI F (mm_X8_in ha ⟨by omega, by omega⟩ ⟨by omega, by omega⟩) mf_X8_in ml_X8_86 ⟨by decide, by decide⟩ rfl (Nat.le_of_ble_eq_true rfl) dX8_gap_4 (fun r_4 I_4 L_4 h_4 => ?_)
  obtain ⟨e3, rfl, rfl⟩ := h_4
  refine rr_if_ne F dX8_gap_7 (tgt := 12) (by decide) ⟨by omega, by omega⟩ (fun c_7 => ?_) (fun c_7 => ?_)
  · refine rr_aload_n F dX8_gap_12 rfl ?_
    refine rg_Model_gap F (by first | rfl | assumption) fl_X8_37 dX8_gap_13 ?_
    refine rr_istore_n F dX8_gap_16 (Nat.le_of_ble_eq_true rfl) rfl ?_
    refine rr_aload_n F dX8_gap_17 rfl ?_
    refine rr_iload_n F dX8_gap_18 rfl ?_
    refine rp_Model_gap F (by first | rfl | assumption) fl_X8_37 dX8_gap_19 ?_
    refine rr_iload_n F dX8_gap_22 rfl ?_
    refine rr_iret F dX8_gap_23 ?_
    refine ⟨_, rfl, ?_⟩
    rw [sp_gap, if_pos (by omega)]
    exact ⟨h7, by simpa [up2] using h1, by simpa [up2] using h2, by simpa [up2] using h3, by simpa [up2] using h4, by simpa [up2] using h5, by simpa [up2] using h6, by simp [up2], by simpa [up2] using h8, h9⟩
  · refine rr_iconst F dX8_gap_10 ?_
    refine rr_iret F dX8_gap_11 ?_
    refine ⟨_, rfl, ?_⟩
    rw [sp_gap, if_neg (by omega)]
    exact ⟨rfl, hR⟩
set_option maxHeartbeats 4000000 in
set_option maxRecDepth 100000 in
theorem mm_X8_link {l : Launch} {g : gT} {σ : sT} {a : Int} {I : IM} {L : LM} (ha : rg a) (hR : MR σ I L) :
    Ct l yX8_link cX8_link 3 (some .int) 1 22 lyM g [.ref (g.2.1 0), .int (zI a)] I L (pS MR (sp_link σ a)) := by
  obtain ⟨h1, h2, h3, h4, h5, h6, h7, h8, h9⟩ := id hR
  refine Ct.of RX8 (by decide +kernel) rfl (Nat.le_of_ble_eq_true rfl) (fun x hx F => ?_)
  refine rr_iload_n F dX8_link_0 rfl ?_
  refine rr_iconst F dX8_link_1 ?_
  refine rr_sipush F dX8_link_2 (by decide) ?_
  refine rr_callSI F (mm_X8_in ha ⟨by omega, by omega⟩ ⟨by omega, by omega⟩) mf_X8_in ml_X8_86 ⟨by decide, by decide⟩ rfl (Nat.le_of_ble_eq_true rfl) dX8_link_5 (fun r_5 I_5 L_5 h_5 => ?_)
  obtain ⟨e3, rfl, rfl⟩ := h_5
  refine rr_if_ne F dX8_link_8 (tgt := 13) (by decide) ⟨by omega, by omega⟩ (fun c_8 => ?_) (fun c_8 => ?_)
  · refine rr_aload_n F dX8_link_13 rfl ?_
    refine rg_Model_bound F (by first | rfl | assumption) fl_X8_40 dX8_link_14 ?_
    refine rr_istore_n F dX8_link_17 (Nat.le_of_ble_eq_true rfl) rfl ?_
    refine rr_aload_n F dX8_link_18 rfl ?_
    refine rr_iload_n F dX8_link_19 rfl ?_
    refine rp_Model_bound F (by first | rfl | assumption) fl_X8_40 dX8_link_20 ?_
    refine rr_iload_n F dX8_link_23 rfl ?_
    refine rr_iret F dX8_link_24 ?_
    refine ⟨_, rfl, ?_⟩
    rw [sp_link, if_pos (by omega)]
    exact ⟨h8, by simpa [up2] using h1, by simpa [up2] using h2, by simpa [up2] using h3, by simpa [up2] using h4, by simpa [up2] using h5, by simpa [up2] using h6, by simpa [up2] using h7, by simp [up2], h9⟩
  · refine rr_iconst F dX8_link_11 ?_
    refine rr_iret F dX8_link_12 ?_
    refine ⟨_, rfl, ?_⟩
    rw [sp_link, if_neg (by omega)]
    exact ⟨rfl, hR⟩
set_option maxHeartbeats 4000000 in
set_option maxRecDepth 100000 in
theorem mm_X8_given {l : Launch} {g : gT} {σ : sT} {a : Int} {I : IM} {L : LM} (ha : rg a) (hR : MR σ I L) (hW : WF σ) :
    Ct l yX8_given cX8_given 3 (some .int) 1 22 lyM g [.ref (g.2.1 0), .int (zI a)] I L (pS MR (sp_given σ a)) := by
  obtain ⟨h1, h2, h3, h4, h5, h6, h7, h8, h9⟩ := id hR
  have w3 := hW.2.2.1
  unfold rg at ha
  refine Ct.of RX8 (by decide +kernel) rfl (Nat.le_of_ble_eq_true rfl) (fun x hx F => ?_)
  refine rr_iload_n F dX8_given_0 rfl ?_
  refine rr_iconst F dX8_given_1 ?_
  refine rr_iconst F dX8_given_2 ?_
  refine rr_callSI F (mm_X8_in ha ⟨by omega, by omega⟩ ⟨by omega, by omega⟩) mf_X8_in ml_X8_86 ⟨by decide, by decide⟩ rfl (Nat.le_of_ble_eq_true rfl) dX8_given_3 (fun r_3 I_3 L_3 h_3 => ?_)
  obtain ⟨e3, rfl, rfl⟩ := h_3
  refine rr_if_ne F dX8_given_6 (tgt := 12) (by decide) ⟨by omega, by omega⟩ (fun c_6 => ?_) (fun c_6 => ?_)
  · refine rr_iload_n F dX8_given_12 rfl ?_
    refine rr_if_lt F dX8_given_13 (tgt := 28) (by decide) ⟨by omega, by omega⟩ (fun c_13 => ?_) (fun c_13 => ?_)
    · refine rr_aload_n F dX8_given_28 rfl ?_
      refine rg_Model_given F (by first | rfl | assumption) fl_X8_43 dX8_given_29 ?_
      refine rr_istore_n F dX8_given_32 (Nat.le_of_ble_eq_true rfl) rfl ?_
      refine rr_aload_n F dX8_given_33 rfl ?_
      refine rr_iload_n F dX8_given_34 rfl ?_
      refine rp_Model_given F (by first | rfl | assumption) fl_X8_43 dX8_given_35 ?_
      refine rr_iload_n F dX8_given_38 rfl ?_
      refine rr_iret F dX8_given_39 ?_
      refine ⟨_, rfl, ?_⟩
      rw [sp_given, if_pos (by omega)]
      exact ⟨h4, by simpa [up2] using h1, by simpa [up2] using h2, by simpa [up2] using h3, by simp [up2], by simpa [up2] using h5, by simpa [up2] using h6, by simpa [up2] using h7, by simpa [up2] using h8, h9⟩
    · refine rr_aload_n F dX8_given_16 rfl ?_
      refine rg_Model_is F (by first | rfl | assumption) fl_X8_13 dX8_given_17 ?_
      refine rr_cell (k2 := 2) rfl ?_
      refine rr_iload_n F dX8_given_20 rfl ?_
      refine rr_zald F (N := 6) (by first | rfl | assumption) (by omega) (by first | rfl | assumption) (by omega) dX8_given_21 ?_
      have e1 := (h3 a (by omega) (by omega)).1
      have w1 := w3 a
      refine rr_if_ne F dX8_given_22 (tgt := 28) (by decide) ⟨by omega, by omega⟩ (fun c_22 => ?_) (fun c_22 => ?_)
      · refine rr_aload_n F dX8_given_28 rfl ?_
        refine rg_Model_given F (by first | rfl | assumption) fl_X8_43 dX8_given_29 ?_
        refine rr_istore_n F dX8_given_32 (Nat.le_of_ble_eq_true rfl) rfl ?_
        refine rr_aload_n F dX8_given_33 rfl ?_
        refine rr_iload_n F dX8_given_34 rfl ?_
        refine rp_Model_given F (by first | rfl | assumption) fl_X8_43 dX8_given_35 ?_
        refine rr_iload_n F dX8_given_38 rfl ?_
        refine rr_iret F dX8_given_39 ?_
        refine ⟨_, rfl, ?_⟩
        rw [sp_given, if_pos (by omega)]
        exact ⟨h4, by simpa [up2] using h1, by simpa [up2] using h2, by simpa [up2] using h3, by simp [up2], by simpa [up2] using h5, by simpa [up2] using h6, by simpa [up2] using h7, by simpa [up2] using h8, h9⟩
      · refine rr_bipush F dX8_given_25 (by decide) ?_
        refine rr_iret F dX8_given_27 ?_
        refine ⟨_, rfl, ?_⟩
        rw [sp_given, if_neg (by omega), rB, if_pos (by omega), if_neg (by omega)]
        exact ⟨rfl, hR⟩
  · refine rr_bipush F dX8_given_9 (by decide) ?_
    refine rr_iret F dX8_given_11 ?_
    refine ⟨_, rfl, ?_⟩
    rw [sp_given, if_neg (by omega), rB, if_neg (by omega)]
    exact ⟨rfl, hR⟩
set_option maxHeartbeats 4000000 in
set_option maxRecDepth 100000 in
theorem mm_X8_withdraw {l : Launch} {g : gT} {σ : sT} {a : Int} {I : IM} {L : LM} (ha : rg a) (hR : MR σ I L) (hW : WF σ) :
    Ct l yX8_withdraw cX8_withdraw 2 (some .int) 2 42 lyM g [.ref (g.2.1 0), .int (zI a)] I L (pS MR (sp_withdraw σ a)) := by
  obtain ⟨h1, h2, h3, h4, h5, h6, h7, h8, h9⟩ := id hR
  have w3 := hW.2.2.1
  have wg := hW.2.2.2.2.2.2.2.2.2.2.1
  unfold rg at ha
  have key : ∀ v : Int, v = (if s_gv σ = a then -1 else s_gv σ) → 0 ≤ a → a < 6 → MR (σ.1, (u1 (s_hd σ) a 0, s_sz σ, s_lg σ, s_dy σ, s_tk σ), (s_k σ, s_w σ, s_gp σ, s_bd σ, if s_gv σ = a then -1 else s_gv σ)) (up2 (up2 I 2 a 0) 0 11 v) L := by
    intro v hv h0 h60
    refine ⟨by simpa [up2] using h1, by simpa [up2] using h2, fun b hb0 hb6 => ?_, by simp [up2, hv], by simpa [up2] using h5, by simpa [up2] using h6, by simpa [up2] using h7, by simpa [up2] using h8, h9⟩
    obtain ⟨t1, t2⟩ := h3 b hb0 hb6
    by_cases e : b = a
    · exact ⟨by simp [up2, u1, e, s_hd], by simpa [up2] using t2⟩
    · exact ⟨by simpa [up2, u1, e, s_hd] using t1, by simpa [up2] using t2⟩
  refine Ct.of RX8 (by decide +kernel) rfl (Nat.le_of_ble_eq_true rfl) (fun x hx F => ?_)
  refine rr_iload_n F dX8_withdraw_0 rfl ?_
  refine rr_callSI F (mm_X8_isNumber ha) mf_X8_isNumber ml_X8_123 ⟨by decide, by decide⟩ rfl (Nat.le_of_ble_eq_true rfl) dX8_withdraw_1 (fun r_1 I_1 L_1 h_1 => ?_)
  obtain ⟨e3, rfl, rfl⟩ := h_1
  refine rr_if_ne F dX8_withdraw_4 (tgt := 9) (by decide) ⟨by omega, by omega⟩ (fun c_4 => ?_) (fun c_4 => ?_)
  · refine rr_aload_n F dX8_withdraw_9 rfl ?_
    refine rg_Model_is F (by first | rfl | assumption) fl_X8_13 dX8_withdraw_10 ?_
    refine rr_cell (k2 := 2) rfl ?_
    refine rr_iload_n F dX8_withdraw_13 rfl ?_
    refine rr_zald F (N := 6) (by first | rfl | assumption) (by omega) (by first | rfl | assumption) (by omega) dX8_withdraw_14 ?_
    have e1 := (h3 a (by omega) (by omega)).1
    have w1 := w3 a
    refine rr_if_ne F dX8_withdraw_15 (tgt := 21) (by decide) ⟨by omega, by omega⟩ (fun c_15 => ?_) (fun c_15 => ?_)
    · refine rr_aload_n F dX8_withdraw_21 rfl ?_
      refine rg_Model_is F (by first | rfl | assumption) fl_X8_13 dX8_withdraw_22 ?_
      refine rr_cell (k2 := 2) rfl ?_
      refine rr_iload_n F dX8_withdraw_25 rfl ?_
      refine rr_iconst F dX8_withdraw_26 ?_
      refine rr_zast F (N := 6) (by first | rfl | assumption) (by omega) (by first | rfl | assumption) (by omega) (by decide) dX8_withdraw_27 ?_
      refine rr_aload_n F dX8_withdraw_28 rfl ?_
      refine rr_aload_n F dX8_withdraw_29 rfl ?_
      refine rg_Model_given F (by first | rfl | assumption) fl_X8_43 dX8_withdraw_30 ?_
      refine rr_iload_n F dX8_withdraw_33 rfl ?_
      have eg : up2 I 2 a 0 0 11 = s_gv σ := by simpa [up2] using h4
      refine rr_icmp_ne F dX8_withdraw_34 (tgt := 41) (by decide) ⟨by omega, by omega⟩ ⟨by omega, by omega⟩ (fun c_34 => ?_) (fun c_34 => ?_)
      · refine rr_aload_n F dX8_withdraw_41 rfl ?_
        refine rg_Model_given F (by first | rfl | assumption) fl_X8_43 dX8_withdraw_42 ?_
        refine rp_Model_given F (by first | rfl | assumption) fl_X8_43 dX8_withdraw_45 ?_
        refine rr_aload_n F dX8_withdraw_48 rfl ?_
        refine rg_Model_sizes F (by first | rfl | assumption) fl_X8_17 dX8_withdraw_49 ?_
        refine rr_cell (k2 := 3) rfl ?_
        refine rr_iload_n F dX8_withdraw_52 rfl ?_
        refine rr_iald F (N := 6) (by first | rfl | assumption) (by omega) (by first | rfl | assumption) (by omega) dX8_withdraw_53 ?_
        refine rr_iret F dX8_withdraw_54 ?_
        refine ⟨_, rfl, ?_⟩
        rw [sp_withdraw, if_pos (by omega)]
        refine ⟨by simpa [up2] using (h3 a (by omega) (by omega)).2.1, key _ ?_ (by omega) (by omega)⟩
        first | (rw [if_neg (by omega)]; exact eg) | (rw [if_pos (by omega)])
      · refine rr_iconst F dX8_withdraw_37 ?_
        refine rr_goto F dX8_withdraw_38 (tgt := 45) (by decide) ?_
        refine rp_Model_given F (by first | rfl | assumption) fl_X8_43 dX8_withdraw_45 ?_
        refine rr_aload_n F dX8_withdraw_48 rfl ?_
        refine rg_Model_sizes F (by first | rfl | assumption) fl_X8_17 dX8_withdraw_49 ?_
        refine rr_cell (k2 := 3) rfl ?_
        refine rr_iload_n F dX8_withdraw_52 rfl ?_
        refine rr_iald F (N := 6) (by first | rfl | assumption) (by omega) (by first | rfl | assumption) (by omega) dX8_withdraw_53 ?_
        refine rr_iret F dX8_withdraw_54 ?_
        refine ⟨_, rfl, ?_⟩
        rw [sp_withdraw, if_pos (by omega)]
        refine ⟨by simpa [up2] using (h3 a (by omega) (by omega)).2.1, key _ ?_ (by omega) (by omega)⟩
        first | (rw [if_neg (by omega)]; exact eg) | (rw [if_pos (by omega)])
    · refine rr_bipush F dX8_withdraw_18 (by decide) ?_
      refine rr_iret F dX8_withdraw_20 ?_
      refine ⟨_, rfl, ?_⟩
      rw [sp_withdraw, if_neg (by omega), rB, if_pos (by omega), if_neg (by omega)]
      exact ⟨rfl, hR⟩
  · refine rr_iconst F dX8_withdraw_7 ?_
    refine rr_iret F dX8_withdraw_8 ?_
    refine ⟨_, rfl, ?_⟩
    rw [sp_withdraw, if_neg (by omega), rB, if_neg (by omega)]
    exact ⟨rfl, hR⟩
set_option maxHeartbeats 4000000 in
set_option maxRecDepth 100000 in
theorem mm_X8_token {l : Launch} {g : gT} {σ : sT} {a i : Int} {I : IM} {L : LM} (ha : rg a) (hi : rg i) (hR : MR σ I L) (hW : WF σ) :
    Ct l yX8_token cX8_token 3 (some .long) 2 42 lyM g [.ref (g.2.1 0), .int (zI a), .int (zI i)] I L (pSJ MR (sp_token σ a i, σ)) := by
  obtain ⟨h1, h2, h3, h4, h5, h6, h7, h8, h9⟩ := id hR
  have w3 := hW.2.2.1
  have w4 := hW.2.2.2.1
  unfold rg at ha hi
  refine Ct.of RX8 (by decide +kernel) rfl (Nat.le_of_ble_eq_true rfl) (fun x hx F => ?_)
  refine rr_iload_n F dX8_token_0 rfl ?_
  refine rr_callSI F (mm_X8_isNumber ha) mf_X8_isNumber ml_X8_123 ⟨by decide, by decide⟩ rfl (Nat.le_of_ble_eq_true rfl) dX8_token_1 (fun r_1 I_1 L_1 h_1 => ?_)
  obtain ⟨e3, rfl, rfl⟩ := h_1
  refine rr_if_eq F dX8_token_4 (tgt := 13) (by decide) ⟨by omega, by omega⟩ (fun c_4 => ?_) (fun c_4 => ?_)
  · refine rr_ldc2 F dX8_token_13 co_X8_131 ?_
    refine rr_lret F dX8_token_16 ?_
    exact ⟨_, rfl, by rw [sp_token, if_neg (by omega)], hR⟩
  · refine rr_iload_n F dX8_token_7 rfl ?_
    refine rr_bipush F dX8_token_8 (by decide) ?_
    refine rr_icmp_ge F dX8_token_10 (tgt := 17) (by decide) ⟨by omega, by omega⟩ ⟨by omega, by omega⟩ (fun c_10 => ?_) (fun c_10 => ?_)
    · refine rr_aload_n F dX8_token_17 rfl ?_
      refine rg_Model_is F (by first | rfl | assumption) fl_X8_13 dX8_token_18 ?_
      refine rr_cell (k2 := 2) rfl ?_
      refine rr_iload_n F dX8_token_21 rfl ?_
      refine rr_zald F (N := 6) (by first | rfl | assumption) (by omega) (by first | rfl | assumption) (by omega) dX8_token_22 ?_
      obtain ⟨e1, e2, e4, e5, e6⟩ := h3 a (by omega) (by omega)
      have w1 := w3 a
      have w2 := w4 a
      refine rr_if_ne F dX8_token_23 (tgt := 30) (by decide) ⟨by omega, by omega⟩ (fun c_23 => ?_) (fun c_23 => ?_)
      · refine rr_iload_n F dX8_token_30 rfl ?_
        refine rr_aload_n F dX8_token_31 rfl ?_
        refine rg_Model_sizes F (by first | rfl | assumption) fl_X8_17 dX8_token_32 ?_
        refine rr_cell (k2 := 3) rfl ?_
        refine rr_iload_n F dX8_token_35 rfl ?_
        refine rr_iald F (N := 6) (by first | rfl | assumption) (by omega) (by first | rfl | assumption) (by omega) dX8_token_36 ?_
        refine rr_icmp_lt F dX8_token_37 (tgt := 44) (by decide) ⟨by omega, by omega⟩ ⟨by omega, by omega⟩ (fun c_37 => ?_) (fun c_37 => ?_)
        · refine rr_iload_n F dX8_token_44 rfl ?_
          refine rr_iconst F dX8_token_45 ?_
          refine rr_icmp_ne F dX8_token_46 (tgt := 59) (by decide) ⟨by omega, by omega⟩ ⟨by omega, by omega⟩ (fun c_46 => ?_) (fun c_46 => ?_)
          · refine rr_iload_n F dX8_token_59 rfl ?_
            refine rr_bipush F dX8_token_60 (by decide) ?_
            refine rr_icmp_ne F dX8_token_62 (tgt := 75) (by decide) ⟨by omega, by omega⟩ ⟨by omega, by omega⟩ (fun c_62 => ?_) (fun c_62 => ?_)
            · refine rr_iload_n F dX8_token_75 rfl ?_
              refine rr_bipush F dX8_token_76 (by decide) ?_
              refine rr_icmp_ne F dX8_token_78 (tgt := 91) (by decide) ⟨by omega, by omega⟩ ⟨by omega, by omega⟩ (fun c_78 => ?_) (fun c_78 => ?_)
              · refine rr_aload_n F dX8_token_91 rfl ?_
                refine rg_Model_tokens F (by first | rfl | assumption) fl_X8_26 dX8_token_92 ?_
                refine rr_cell (k2 := 6) rfl ?_
                refine rr_bipush F dX8_token_95 (by decide) ?_
                refine rr_iload_n F dX8_token_97 rfl ?_
                refine rr_imul F dX8_token_98 ?_
                refine rr_iload_n F dX8_token_99 rfl ?_
                refine rr_iadd F dX8_token_100 ?_
                refine rr_lald F (N := 240) (by first | rfl | assumption) (by omega) (by first | rfl | assumption) (by omega) dX8_token_101 ?_
                refine rr_lret F dX8_token_102 ?_
                refine ⟨_, rfl, ?_, hR⟩
                rw [sp_token, if_pos (by omega), if_pos (by omega), if_neg (by omega)]
                first | (rw [if_pos (by omega), e2]; done) | (rw [if_neg (by omega), if_pos (by omega), e4]; done) | (rw [if_neg (by omega), if_neg (by omega), if_pos (by omega), e5]; done) | (rw [if_neg (by omega), if_neg (by omega), if_neg (by omega)]; exact e6 i (by omega) (by omega))
              · refine rr_aload_n F dX8_token_81 rfl ?_
                refine rg_Model_days F (by first | rfl | assumption) fl_X8_23 dX8_token_82 ?_
                refine rr_cell (k2 := 5) rfl ?_
                refine rr_iload_n F dX8_token_85 rfl ?_
                refine rr_iald F (N := 6) (by first | rfl | assumption) (by omega) (by first | rfl | assumption) (by omega) dX8_token_86 ?_
                refine rr_i2l F dX8_token_87 ?_
                refine rr_goto F dX8_token_88 (tgt := 102) (by decide) ?_
                refine rr_lret F dX8_token_102 ?_
                refine ⟨_, rfl, ?_, hR⟩
                rw [sp_token, if_pos (by omega), if_pos (by omega), if_neg (by omega)]
                first | (rw [if_pos (by omega), e2]; done) | (rw [if_neg (by omega), if_pos (by omega), e4]; done) | (rw [if_neg (by omega), if_neg (by omega), if_pos (by omega), e5]; done) | (rw [if_neg (by omega), if_neg (by omega), if_neg (by omega)]; exact e6 i (by omega) (by omega))
            · refine rr_aload_n F dX8_token_65 rfl ?_
              refine rg_Model_languages F (by first | rfl | assumption) fl_X8_20 dX8_token_66 ?_
              refine rr_cell (k2 := 4) rfl ?_
              refine rr_iload_n F dX8_token_69 rfl ?_
              refine rr_iald F (N := 6) (by first | rfl | assumption) (by omega) (by first | rfl | assumption) (by omega) dX8_token_70 ?_
              refine rr_i2l F dX8_token_71 ?_
              refine rr_goto F dX8_token_72 (tgt := 102) (by decide) ?_
              refine rr_lret F dX8_token_102 ?_
              refine ⟨_, rfl, ?_, hR⟩
              rw [sp_token, if_pos (by omega), if_pos (by omega), if_neg (by omega)]
              first | (rw [if_pos (by omega), e2]; done) | (rw [if_neg (by omega), if_pos (by omega), e4]; done) | (rw [if_neg (by omega), if_neg (by omega), if_pos (by omega), e5]; done) | (rw [if_neg (by omega), if_neg (by omega), if_neg (by omega)]; exact e6 i (by omega) (by omega))
          · refine rr_aload_n F dX8_token_49 rfl ?_
            refine rg_Model_sizes F (by first | rfl | assumption) fl_X8_17 dX8_token_50 ?_
            refine rr_cell (k2 := 3) rfl ?_
            refine rr_iload_n F dX8_token_53 rfl ?_
            refine rr_iald F (N := 6) (by first | rfl | assumption) (by omega) (by first | rfl | assumption) (by omega) dX8_token_54 ?_
            refine rr_i2l F dX8_token_55 ?_
            refine rr_goto F dX8_token_56 (tgt := 102) (by decide) ?_
            refine rr_lret F dX8_token_102 ?_
            refine ⟨_, rfl, ?_, hR⟩
            rw [sp_token, if_pos (by omega), if_pos (by omega), if_neg (by omega)]
            first | (rw [if_pos (by omega), e2]; done) | (rw [if_neg (by omega), if_pos (by omega), e4]; done) | (rw [if_neg (by omega), if_neg (by omega), if_pos (by omega), e5]; done) | (rw [if_neg (by omega), if_neg (by omega), if_neg (by omega)]; exact e6 i (by omega) (by omega))
        · refine rr_ldc2 F dX8_token_40 co_X8_131 ?_
          refine rr_lret F dX8_token_43 ?_
          exact ⟨_, rfl, by rw [sp_token, if_pos (by omega), if_pos (by omega), if_pos (by omega)], hR⟩
      · refine rr_ldc2 F dX8_token_26 co_X8_133 ?_
        refine rr_lret F dX8_token_29 ?_
        exact ⟨_, rfl, by rw [sp_token, if_pos (by omega), if_neg (by omega)], hR⟩
    · refine rr_ldc2 F dX8_token_13 co_X8_131 ?_
      refine rr_lret F dX8_token_16 ?_
      exact ⟨_, rfl, by rw [sp_token, if_neg (by omega)], hR⟩
