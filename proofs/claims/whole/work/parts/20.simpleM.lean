/-! the model's small methods -/
set_option maxHeartbeats 4000000 in
set_option maxRecDepth 100000 in
theorem mm_X8_in {l : Launch} {g : gT} {v a b : Int} {I : IM} {L : LM} (hv : rg v) (ha : rg a) (hb : rg b) :
    Ct l yX8_in cX8_in 3 (some .boolean) 0 0 lyM g [.int (zI v), .int (zI a), .int (zI b)] I L (pI (fun r I' L' => ((r = 1 ∧ a ≤ v ∧ v ≤ b) ∨ (r = 0 ∧ (v < a ∨ b < v))) ∧ I = I' ∧ L = L')) := by
  unfold rg at hv ha hb
  refine Ct.of RX8 (by decide +kernel) rfl (Nat.le_of_ble_eq_true rfl) (fun x hx F => ?_)
  refine rr_iload_n F dX8_in_0 rfl ?_
  refine rr_iload_n F dX8_in_1 rfl ?_
  refine rr_icmp_lt F dX8_in_2 (tgt := 14) (by decide) ⟨by omega, by omega⟩ ⟨by omega, by omega⟩ (fun c_2 => ?_) (fun c_2 => ?_)
  · refine rr_iconst F dX8_in_14 ?_
    refine rr_zret F dX8_in_15 (by decide) ?_
    exact ⟨_, rfl, by omega, rfl, rfl⟩
  · refine rr_iload_n F dX8_in_5 rfl ?_
    refine rr_iload_n F dX8_in_6 rfl ?_
    refine rr_icmp_gt F dX8_in_7 (tgt := 14) (by decide) ⟨by omega, by omega⟩ ⟨by omega, by omega⟩ (fun c_7 => ?_) (fun c_7 => ?_)
    · refine rr_iconst F dX8_in_14 ?_
      refine rr_zret F dX8_in_15 (by decide) ?_
      exact ⟨_, rfl, by omega, rfl, rfl⟩
    · refine rr_iconst F dX8_in_10 ?_
      refine rr_goto F dX8_in_11 (tgt := 15) (by decide) ?_
      refine rr_zret F dX8_in_15 (by decide) ?_
      exact ⟨_, rfl, by omega, rfl, rfl⟩
set_option maxHeartbeats 4000000 in
set_option maxRecDepth 100000 in
theorem mm_X8_isNumber {l : Launch} {g : gT} {v : Int} {I : IM} {L : LM} (hv : rg v) :
    Ct l yX8_isNumber cX8_isNumber 1 (some .boolean) 1 22 lyM g [.int (zI v)] I L (pI (fun r I' L' => ((r = 1 ∧ 0 ≤ v ∧ v < 6) ∨ (r = 0 ∧ (v < 0 ∨ 5 < v))) ∧ I = I' ∧ L = L')) := by
  refine Ct.of RX8 (by decide +kernel) rfl (Nat.le_of_ble_eq_true rfl) (fun x hx F => ?_)
  refine rr_iload_n F dX8_isNumber_0 rfl ?_
  refine rr_iconst F dX8_isNumber_1 ?_
  refine rr_iconst F dX8_isNumber_2 ?_
  refine rr_callSI F (mm_X8_in hv ⟨by omega, by omega⟩ ⟨by omega, by omega⟩) mf_X8_in ml_X8_86 ⟨by decide, by decide⟩ rfl (Nat.le_of_ble_eq_true rfl) dX8_isNumber_3 (fun r_3 I_3 L_3 h_3 => ?_)
  obtain ⟨h1, rfl, rfl⟩ := h_3
  have hr : r_3 = 0 ∨ r_3 = 1 := by omega
  refine rr_zret F dX8_isNumber_6 (by rcases hr with rfl | rfl <;> decide) ?_
  exact ⟨_, rfl, by omega, rfl, rfl⟩
set_option maxHeartbeats 4000000 in
set_option maxRecDepth 100000 in
theorem mm_X8_against {l : Launch} {g : gT} {σ : sT} {a b : Int} {I : IM} {L : LM} (ha : rg a) (hb : rg b) (hR : MR σ I L) (hW : WF σ) :
    Ct l yX8_against cX8_against 3 (some .int) 2 42 lyM g [.ref (g.2.1 0), .int (zI a), .int (zI b)] I L (pI (fun r I' L' => r = rP σ a b ∧ I = I' ∧ L = L')) := by
  have h2 := hR.2.2.1
  have w3 := hW.2.2.1
  unfold rg at ha hb
  refine Ct.of RX8 (by decide +kernel) rfl (Nat.le_of_ble_eq_true rfl) (fun x hx F => ?_)
  refine rr_iload_n F dX8_against_0 rfl ?_
  refine rr_callSI F (mm_X8_isNumber ha) mf_X8_isNumber ml_X8_123 ⟨by decide, by decide⟩ rfl (Nat.le_of_ble_eq_true rfl) dX8_against_1 (fun r_1 I_1 L_1 h_1 => ?_)
  obtain ⟨h1, rfl, rfl⟩ := h_1
  refine rr_if_eq F dX8_against_4 (tgt := 19) (by decide) ⟨by omega, by omega⟩ (fun c_4 => ?_) (fun c_4 => ?_)
  · refine rr_iconst F dX8_against_19 ?_
    refine rr_goto F dX8_against_20 (tgt := 47) (by decide) ?_
    refine rr_iret F dX8_against_47 ?_
    refine ⟨_, rfl, ?_, rfl, rfl⟩
    unfold rP
    first | (rw [if_neg (by omega)]; done) | (rw [if_pos (by omega), if_neg (by omega)]; done) | (rw [if_pos (by omega), if_pos (by omega)]; done)
  · refine rr_iload_n F dX8_against_7 rfl ?_
    refine rr_callSI F (mm_X8_isNumber hb) mf_X8_isNumber ml_X8_123 ⟨by decide, by decide⟩ rfl (Nat.le_of_ble_eq_true rfl) dX8_against_8 (fun r_8 I_8 L_8 h_8 => ?_)
    obtain ⟨h8, rfl, rfl⟩ := h_8
    refine rr_if_eq F dX8_against_11 (tgt := 19) (by decide) ⟨by omega, by omega⟩ (fun c_11 => ?_) (fun c_11 => ?_)
    · refine rr_iconst F dX8_against_19 ?_
      refine rr_goto F dX8_against_20 (tgt := 47) (by decide) ?_
      refine rr_iret F dX8_against_47 ?_
      refine ⟨_, rfl, ?_, rfl, rfl⟩
      unfold rP
      first | (rw [if_neg (by omega)]; done) | (rw [if_pos (by omega), if_neg (by omega)]; done) | (rw [if_pos (by omega), if_pos (by omega)]; done)
    · refine rr_iload_n F dX8_against_14 rfl ?_
      refine rr_iload_n F dX8_against_15 rfl ?_
      refine rr_icmp_ne F dX8_against_16 (tgt := 23) (by decide) ⟨by omega, by omega⟩ ⟨by omega, by omega⟩ (fun c_16 => ?_) (fun c_16 => ?_)
      · refine rr_aload_n F dX8_against_23 rfl ?_
        refine rg_Model_is F (by first | rfl | assumption) fl_X8_13 dX8_against_24 ?_
        refine rr_cell (k2 := 2) rfl ?_
        refine rr_iload_n F dX8_against_27 rfl ?_
        refine rr_zald F (N := 6) (by first | rfl | assumption) (by omega) (by first | rfl | assumption) (by omega) dX8_against_28 ?_
        have e1 := (h2 a (by omega) (by omega)).1
        have w1 := w3 a
        refine rr_if_eq F dX8_against_29 (tgt := 41) (by decide) ⟨by omega, by omega⟩ (fun c_29 => ?_) (fun c_29 => ?_)
        · refine rr_bipush F dX8_against_41 (by decide) ?_
          refine rr_goto F dX8_against_43 (tgt := 47) (by decide) ?_
          refine rr_iret F dX8_against_47 ?_
          refine ⟨_, rfl, ?_, rfl, rfl⟩
          unfold rP
          first | (rw [if_neg (by omega)]; done) | (rw [if_pos (by omega), if_neg (by omega)]; done) | (rw [if_pos (by omega), if_pos (by omega)]; done)
        · refine rr_aload_n F dX8_against_32 rfl ?_
          refine rg_Model_is F (by first | rfl | assumption) fl_X8_13 dX8_against_33 ?_
          refine rr_cell (k2 := 2) rfl ?_
          refine rr_iload_n F dX8_against_36 rfl ?_
          refine rr_zald F (N := 6) (by first | rfl | assumption) (by omega) (by first | rfl | assumption) (by omega) dX8_against_37 ?_
          have e2 := (h2 b (by omega) (by omega)).1
          have w2 := w3 b
          refine rr_if_ne F dX8_against_38 (tgt := 46) (by decide) ⟨by omega, by omega⟩ (fun c_38 => ?_) (fun c_38 => ?_)
          · refine rr_iconst F dX8_against_46 ?_
            refine rr_iret F dX8_against_47 ?_
            refine ⟨_, rfl, ?_, rfl, rfl⟩
            unfold rP
            first | (rw [if_neg (by omega)]; done) | (rw [if_pos (by omega), if_neg (by omega)]; done) | (rw [if_pos (by omega), if_pos (by omega)]; done)
          · refine rr_bipush F dX8_against_41 (by decide) ?_
            refine rr_goto F dX8_against_43 (tgt := 47) (by decide) ?_
            refine rr_iret F dX8_against_47 ?_
            refine ⟨_, rfl, ?_, rfl, rfl⟩
            unfold rP
            first | (rw [if_neg (by omega)]; done) | (rw [if_pos (by omega), if_neg (by omega)]; done) | (rw [if_pos (by omega), if_pos (by omega)]; done)
      · refine rr_iconst F dX8_against_19 ?_
        refine rr_goto F dX8_against_20 (tgt := 47) (by decide) ?_
        refine rr_iret F dX8_against_47 ?_
        refine ⟨_, rfl, ?_, rfl, rfl⟩
        unfold rP
        first | (rw [if_neg (by omega)]; done) | (rw [if_pos (by omega), if_neg (by omega)]; done) | (rw [if_pos (by omega), if_pos (by omega)]; done)
