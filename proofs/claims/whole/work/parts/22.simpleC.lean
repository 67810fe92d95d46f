/-! the class's small methods -/
set_option maxHeartbeats 4000000 in
set_option maxRecDepth 100000 in
theorem mm_X5_names {l : Launch} {g : gT} {v : Int} {I : IM} {L : LM} (hv : rg v) :
    Ct l yX5_names cX5_names 2 (some .boolean) 0 0 lyC g [.ref (g.2.1 4), .int (zI v)] I L (pI (fun r I' L' => ((r = 1 ∧ 0 ≤ v ∧ v < 6) ∨ (r = 0 ∧ (v < 0 ∨ 5 < v))) ∧ I = I' ∧ L = L')) := by
  unfold rg at hv
  refine Ct.of RX5 (by decide +kernel) rfl (Nat.le_of_ble_eq_true rfl) (fun x hx F => ?_)
  refine rr_iload_n F dX5_names_0 rfl ?_
  refine rr_if_lt F dX5_names_1 (tgt := 14) (by decide) ⟨by omega, by omega⟩ (fun c_1 => ?_) (fun c_1 => ?_)
  · refine rr_iconst F dX5_names_14 ?_
    refine rr_zret F dX5_names_15 (by decide) ?_
    exact ⟨_, rfl, by omega, rfl, rfl⟩
  · refine rr_iload_n F dX5_names_4 rfl ?_
    refine rr_bipush F dX5_names_5 (by decide) ?_
    refine rr_icmp_ge F dX5_names_7 (tgt := 14) (by decide) ⟨by omega, by omega⟩ ⟨by omega, by omega⟩ (fun c_7 => ?_) (fun c_7 => ?_)
    · refine rr_iconst F dX5_names_14 ?_
      refine rr_zret F dX5_names_15 (by decide) ?_
      exact ⟨_, rfl, by omega, rfl, rfl⟩
    · refine rr_iconst F dX5_names_10 ?_
      refine rr_goto F dX5_names_11 (tgt := 15) (by decide) ?_
      refine rr_zret F dX5_names_15 (by decide) ?_
      exact ⟨_, rfl, by omega, rfl, rfl⟩
set_option maxHeartbeats 4000000 in
set_option maxRecDepth 100000 in
theorem mm_X5_holds {l : Launch} {g : gT} {σ : sT} {v : Int} {I : IM} {L : LM} (hv : rg v) (hR : CR σ I L) (hW : WF σ) :
    Ct l yX5_holds cX5_holds 2 (some .boolean) 1 21 lyC g [.ref (g.2.1 4), .int (zI v)] I L (pI (fun r I' L' => ((r = 1 ∧ (0 ≤ v ∧ v < 6) ∧ s_hd σ v = 1) ∨ (r = 0 ∧ ¬ ((0 ≤ v ∧ v < 6) ∧ s_hd σ v = 1))) ∧ I = I' ∧ L = L')) := by
  unfold rg at hv
  have h3 := hR.2.2.1
  have w3 := hW.2.2.1
  refine Ct.of RX5 (by decide +kernel) rfl (Nat.le_of_ble_eq_true rfl) (fun x hx F => ?_)
  refine rr_aload_n F dX5_holds_0 rfl ?_
  refine rr_iload_n F dX5_holds_1 rfl ?_
  refine rr_callVI F (ci := 5) (mm_X5_names hv) mf_X5_names ml_X5_34 ⟨by decide, by decide⟩ (by first | rfl | assumption) (by decide) rfl rfl (Nat.le_of_ble_eq_true rfl) dX5_holds_2 (fun r_2 I_2 L_2 h_2 => ?_)
  obtain ⟨e3, rfl, rfl⟩ := h_2
  refine rr_if_eq F dX5_holds_5 (tgt := 24) (by decide) ⟨by omega, by omega⟩ (fun c_5 => ?_) (fun c_5 => ?_)
  · refine rr_iconst F dX5_holds_24 ?_
    refine rr_zret F dX5_holds_25 (by decide) ?_
    exact ⟨_, rfl, by omega, rfl, rfl⟩
  · refine rr_aload_n F dX5_holds_8 rfl ?_
    refine rg_Shelf_books F (by first | rfl | assumption) fl_X5_11 dX5_holds_9 ?_
    refine rr_cell (k2 := 5) rfl ?_
    refine rr_iload_n F dX5_holds_12 rfl ?_
    refine rr_aald F (N := 6) (by first | rfl | assumption) (by omega) (by first | rfl | assumption) (by omega) dX5_holds_13 ?_
    refine rr_bk ?_
    obtain ⟨q1, q2, q3⟩ := (bk_isB (b := v) (by omega) (by omega)).f
    have e1 := (h3 v (by omega) (by omega)).1
    have w1 := w3 v
    refine rg_Book_held F (by first | rfl | assumption) fl_X5_38 dX5_holds_14 ?_
    refine rr_if_eq F dX5_holds_17 (tgt := 24) (by decide) ⟨by omega, by omega⟩ (fun c_17 => ?_) (fun c_17 => ?_)
    · refine rr_iconst F dX5_holds_24 ?_
      refine rr_zret F dX5_holds_25 (by decide) ?_
      exact ⟨_, rfl, by omega, rfl, rfl⟩
    · refine rr_iconst F dX5_holds_20 ?_
      refine rr_goto F dX5_holds_21 (tgt := 25) (by decide) ?_
      refine rr_zret F dX5_holds_25 (by decide) ?_
      exact ⟨_, rfl, by omega, rfl, rfl⟩
set_option maxHeartbeats 4000000 in
set_option maxRecDepth 100000 in
theorem mm_X7_refusalOfBook {l : Launch} {g : gT} {σ : sT} {v : Int} {I : IM} {L : LM} (hv : rg v) (hR : CR σ I L) (hW : WF σ) :
    Ct l yX7_refusalOfBook cX7_refusalOfBook 2 (some .int) 2 42 lyC g [.ref (g.2.1 0), .int (zI v)] I L (pI (fun r I' L' => r = rB σ v ∧ I = I' ∧ L = L')) := by
  refine Ct.of RX7 (by decide +kernel) rfl (Nat.le_of_ble_eq_true rfl) (fun x hx F => ?_)
  refine rr_aload_n F dX7_refusalOfBook_0 rfl ?_
  refine rg_BP_shelf F (by first | rfl | assumption) fl_X7_26 dX7_refusalOfBook_1 ?_
  refine rr_cell (k2 := 4) rfl ?_
  refine rr_iload_n F dX7_refusalOfBook_4 rfl ?_
  refine rr_callVI F (ci := 5) (mm_X5_names hv) mf_X5_names ml_X7_60 ⟨by decide, by decide⟩ (by first | rfl | assumption) (by decide) rfl rfl (Nat.le_of_ble_eq_true rfl) dX7_refusalOfBook_5 (fun r_5 I_5 L_5 h_5 => ?_)
  obtain ⟨e5, rfl, rfl⟩ := h_5
  refine rr_if_ne F dX7_refusalOfBook_8 (tgt := 13) (by decide) ⟨by omega, by omega⟩ (fun c_8 => ?_) (fun c_8 => ?_)
  · refine rr_aload_n F dX7_refusalOfBook_13 rfl ?_
    refine rg_BP_shelf F (by first | rfl | assumption) fl_X7_26 dX7_refusalOfBook_14 ?_
    refine rr_cell (k2 := 4) rfl ?_
    refine rr_iload_n F dX7_refusalOfBook_17 rfl ?_
    refine rr_callVI F (ci := 5) (mm_X5_holds hv hR hW) mf_X5_holds ml_X7_193 ⟨by decide, by decide⟩ (by first | rfl | assumption) (by decide) rfl rfl (Nat.le_of_ble_eq_true rfl) dX7_refusalOfBook_18 (fun r_18 I_18 L_18 h_18 => ?_)
    obtain ⟨e18, rfl, rfl⟩ := h_18
    refine rr_if_eq F dX7_refusalOfBook_21 (tgt := 28) (by decide) ⟨by omega, by omega⟩ (fun c_21 => ?_) (fun c_21 => ?_)
    · refine rr_bipush F dX7_refusalOfBook_28 (by decide) ?_
      refine rr_iret F dX7_refusalOfBook_30 ?_
      refine ⟨_, rfl, ?_, rfl, rfl⟩
      unfold rB
      first | (rw [if_neg (by omega)]; done) | (rw [if_pos (by omega), if_neg (by omega)]; done) | (rw [if_pos (by omega), if_pos (by omega)]; done)
    · refine rr_iconst F dX7_refusalOfBook_24 ?_
      refine rr_goto F dX7_refusalOfBook_25 (tgt := 30) (by decide) ?_
      refine rr_iret F dX7_refusalOfBook_30 ?_
      refine ⟨_, rfl, ?_, rfl, rfl⟩
      unfold rB
      first | (rw [if_neg (by omega)]; done) | (rw [if_pos (by omega), if_neg (by omega)]; done) | (rw [if_pos (by omega), if_pos (by omega)]; done)
  · refine rr_iconst F dX7_refusalOfBook_11 ?_
    refine rr_iret F dX7_refusalOfBook_12 ?_
    refine ⟨_, rfl, ?_, rfl, rfl⟩
    unfold rB
    first | (rw [if_neg (by omega)]; done) | (rw [if_pos (by omega), if_neg (by omega)]; done) | (rw [if_pos (by omega), if_pos (by omega)]; done)
set_option maxHeartbeats 4000000 in
set_option maxRecDepth 100000 in
theorem mm_X7_refusalOfPair {l : Launch} {g : gT} {σ : sT} {a b : Int} {I : IM} {L : LM} (ha : rg a) (hb : rg b) (hR : CR σ I L) (hW : WF σ) :
    Ct l yX7_refusalOfPair cX7_refusalOfPair 3 (some .int) 2 42 lyC g [.ref (g.2.1 0), .int (zI a), .int (zI b)] I L (pI (fun r I' L' => r = rP σ a b ∧ I = I' ∧ L = L')) := by
  have ha' := ha
  have hb' := hb
  unfold rg at ha' hb'
  refine Ct.of RX7 (by decide +kernel) rfl (Nat.le_of_ble_eq_true rfl) (fun x hx F => ?_)
  refine rr_aload_n F dX7_refusalOfPair_0 rfl ?_
  refine rg_BP_shelf F (by first | rfl | assumption) fl_X7_26 dX7_refusalOfPair_1 ?_
  refine rr_cell (k2 := 4) rfl ?_
  refine rr_iload_n F dX7_refusalOfPair_4 rfl ?_
  refine rr_callVI F (ci := 5) (mm_X5_names ha) mf_X5_names ml_X7_60 ⟨by decide, by decide⟩ (by first | rfl | assumption) (by decide) rfl rfl (Nat.le_of_ble_eq_true rfl) dX7_refusalOfPair_5 (fun r_5 I_5 L_5 h_5 => ?_)
  obtain ⟨e5, rfl, rfl⟩ := h_5
  refine rr_if_eq F dX7_refusalOfPair_8 (tgt := 27) (by decide) ⟨by omega, by omega⟩ (fun c_8 => ?_) (fun c_8 => ?_)
  · refine rr_iconst F dX7_refusalOfPair_27 ?_
    refine rr_iret F dX7_refusalOfPair_28 ?_
    refine ⟨_, rfl, ?_, rfl, rfl⟩
    unfold rP
    first | (rw [if_neg (by omega)]; done) | (rw [if_pos (by omega), if_neg (by omega)]; done) | (rw [if_pos (by omega), if_pos (by omega)]; done)
  · refine rr_aload_n F dX7_refusalOfPair_11 rfl ?_
    refine rg_BP_shelf F (by first | rfl | assumption) fl_X7_26 dX7_refusalOfPair_12 ?_
    refine rr_cell (k2 := 4) rfl ?_
    refine rr_iload_n F dX7_refusalOfPair_15 rfl ?_
    refine rr_callVI F (ci := 5) (mm_X5_names hb) mf_X5_names ml_X7_60 ⟨by decide, by decide⟩ (by first | rfl | assumption) (by decide) rfl rfl (Nat.le_of_ble_eq_true rfl) dX7_refusalOfPair_16 (fun r_16 I_16 L_16 h_16 => ?_)
    obtain ⟨e16, rfl, rfl⟩ := h_16
    refine rr_if_eq F dX7_refusalOfPair_19 (tgt := 27) (by decide) ⟨by omega, by omega⟩ (fun c_19 => ?_) (fun c_19 => ?_)
    · refine rr_iconst F dX7_refusalOfPair_27 ?_
      refine rr_iret F dX7_refusalOfPair_28 ?_
      refine ⟨_, rfl, ?_, rfl, rfl⟩
      unfold rP
      first | (rw [if_neg (by omega)]; done) | (rw [if_pos (by omega), if_neg (by omega)]; done) | (rw [if_pos (by omega), if_pos (by omega)]; done)
    · refine rr_iload_n F dX7_refusalOfPair_22 rfl ?_
      refine rr_iload_n F dX7_refusalOfPair_23 rfl ?_
      refine rr_icmp_ne F dX7_refusalOfPair_24 (tgt := 29) (by decide) ⟨by omega, by omega⟩ ⟨by omega, by omega⟩ (fun c_24 => ?_) (fun c_24 => ?_)
      · refine rr_aload_n F dX7_refusalOfPair_29 rfl ?_
        refine rg_BP_shelf F (by first | rfl | assumption) fl_X7_26 dX7_refusalOfPair_30 ?_
        refine rr_cell (k2 := 4) rfl ?_
        refine rr_iload_n F dX7_refusalOfPair_33 rfl ?_
        refine rr_callVI F (ci := 5) (mm_X5_holds ha hR hW) mf_X5_holds ml_X7_193 ⟨by decide, by decide⟩ (by first | rfl | assumption) (by decide) rfl rfl (Nat.le_of_ble_eq_true rfl) dX7_refusalOfPair_34 (fun r_34 I_34 L_34 h_34 => ?_)
        obtain ⟨e34, rfl, rfl⟩ := h_34
        refine rr_if_eq F dX7_refusalOfPair_37 (tgt := 55) (by decide) ⟨by omega, by omega⟩ (fun c_37 => ?_) (fun c_37 => ?_)
        · refine rr_bipush F dX7_refusalOfPair_55 (by decide) ?_
          refine rr_iret F dX7_refusalOfPair_57 ?_
          refine ⟨_, rfl, ?_, rfl, rfl⟩
          unfold rP
          first | (rw [if_neg (by omega)]; done) | (rw [if_pos (by omega), if_neg (by omega)]; done) | (rw [if_pos (by omega), if_pos (by omega)]; done)
        · refine rr_aload_n F dX7_refusalOfPair_40 rfl ?_
          refine rg_BP_shelf F (by first | rfl | assumption) fl_X7_26 dX7_refusalOfPair_41 ?_
          refine rr_cell (k2 := 4) rfl ?_
          refine rr_iload_n F dX7_refusalOfPair_44 rfl ?_
          refine rr_callVI F (ci := 5) (mm_X5_holds hb hR hW) mf_X5_holds ml_X7_193 ⟨by decide, by decide⟩ (by first | rfl | assumption) (by decide) rfl rfl (Nat.le_of_ble_eq_true rfl) dX7_refusalOfPair_45 (fun r_45 I_45 L_45 h_45 => ?_)
          obtain ⟨e45, rfl, rfl⟩ := h_45
          refine rr_if_eq F dX7_refusalOfPair_48 (tgt := 55) (by decide) ⟨by omega, by omega⟩ (fun c_48 => ?_) (fun c_48 => ?_)
          · refine rr_bipush F dX7_refusalOfPair_55 (by decide) ?_
            refine rr_iret F dX7_refusalOfPair_57 ?_
            refine ⟨_, rfl, ?_, rfl, rfl⟩
            unfold rP
            first | (rw [if_neg (by omega)]; done) | (rw [if_pos (by omega), if_neg (by omega)]; done) | (rw [if_pos (by omega), if_pos (by omega)]; done)
          · refine rr_iconst F dX7_refusalOfPair_51 ?_
            refine rr_goto F dX7_refusalOfPair_52 (tgt := 57) (by decide) ?_
            refine rr_iret F dX7_refusalOfPair_57 ?_
            refine ⟨_, rfl, ?_, rfl, rfl⟩
            unfold rP
            first | (rw [if_neg (by omega)]; done) | (rw [if_pos (by omega), if_neg (by omega)]; done) | (rw [if_pos (by omega), if_pos (by omega)]; done)
      · refine rr_iconst F dX7_refusalOfPair_27 ?_
        refine rr_iret F dX7_refusalOfPair_28 ?_
        refine ⟨_, rfl, ?_, rfl, rfl⟩
        unfold rP
        first | (rw [if_neg (by omega)]; done) | (rw [if_pos (by omega), if_neg (by omega)]; done) | (rw [if_pos (by omega), if_pos (by omega)]; done)
set_option maxHeartbeats 4000000 in
set_option maxRecDepth 100000 in
theorem mm_X7_windows {l : Launch} {g : gT} {σ : sT} {a b : Int} {I : IM} {L : LM} (ha : rg a) (hb : rg b) (hR : CR σ I L) :
    Ct l yX7_windows cX7_windows 3 (some .int) 0 0 lyC g [.ref (g.2.1 0), .int (zI a), .int (zI b)] I L (pS CR (sp_windows σ a b)) := by
  obtain ⟨h1, h2, h3, h4, h5, h6, h7, h8⟩ := id hR
  unfold rg at ha hb
  have key : CR (σ.1, σ.2.1, (a, b, s_gp σ, s_bd σ, s_gv σ)) (up2 (up2 I 4 2 a) 4 3 b) L := by
    refine ⟨by simpa [up2] using h1, by simpa [up2] using h2, fun c hc0 hc6 => ?_, by simpa [up2] using h4, by simp [up2], by simp [up2], by simpa [up2] using h7, by simpa [up2] using h8⟩
    have hne : bk c ≠ 4 := by unfold bk; omega
    rw [up2_cell _ _ _ hne, up2_cell _ _ _ hne]
    exact h3 c hc0 hc6
  refine Ct.of RX7 (by decide +kernel) rfl (Nat.le_of_ble_eq_true rfl) (fun x hx F => ?_)
  refine rr_iload_n F dX7_windows_0 rfl ?_
  refine rr_iconst F dX7_windows_1 ?_
  refine rr_icmp_lt F dX7_windows_2 (tgt := 21) (by decide) ⟨by omega, by omega⟩ ⟨by omega, by omega⟩ (fun c_2 => ?_) (fun c_2 => ?_)
  · refine rr_iconst F dX7_windows_21 ?_
    refine rr_iret F dX7_windows_22 ?_
    refine ⟨_, rfl, ?_⟩
    rw [sp_windows, if_neg (by omega)]
    exact ⟨rfl, hR⟩
  · refine rr_iload_n F dX7_windows_5 rfl ?_
    refine rr_iconst F dX7_windows_6 ?_
    refine rr_icmp_gt F dX7_windows_7 (tgt := 21) (by decide) ⟨by omega, by omega⟩ ⟨by omega, by omega⟩ (fun c_7 => ?_) (fun c_7 => ?_)
    · refine rr_iconst F dX7_windows_21 ?_
      refine rr_iret F dX7_windows_22 ?_
      refine ⟨_, rfl, ?_⟩
      rw [sp_windows, if_neg (by omega)]
      exact ⟨rfl, hR⟩
    · refine rr_iload_n F dX7_windows_10 rfl ?_
      refine rr_iconst F dX7_windows_11 ?_
      refine rr_icmp_lt F dX7_windows_12 (tgt := 21) (by decide) ⟨by omega, by omega⟩ ⟨by omega, by omega⟩ (fun c_12 => ?_) (fun c_12 => ?_)
      · refine rr_iconst F dX7_windows_21 ?_
        refine rr_iret F dX7_windows_22 ?_
        refine ⟨_, rfl, ?_⟩
        rw [sp_windows, if_neg (by omega)]
        exact ⟨rfl, hR⟩
      · refine rr_iload_n F dX7_windows_15 rfl ?_
        refine rr_bipush F dX7_windows_16 (by decide) ?_
        refine rr_icmp_le F dX7_windows_18 (tgt := 23) (by decide) ⟨by omega, by omega⟩ ⟨by omega, by omega⟩ (fun c_18 => ?_) (fun c_18 => ?_)
        · refine rr_aload_n F dX7_windows_23 rfl ?_
          refine rg_BP_shelf F (by first | rfl | assumption) fl_X7_26 dX7_windows_24 ?_
          refine rr_cell (k2 := 4) rfl ?_
          refine rr_iload_n F dX7_windows_27 rfl ?_
          refine rp_Shelf_gramLength F (by first | rfl | assumption) fl_X7_105 dX7_windows_28 ?_
          refine rr_aload_n F dX7_windows_31 rfl ?_
          refine rg_BP_shelf F (by first | rfl | assumption) fl_X7_26 dX7_windows_32 ?_
          refine rr_cell (k2 := 4) rfl ?_
          refine rr_iload_n F dX7_windows_35 rfl ?_
          refine rp_Shelf_windowLength F (by first | rfl | assumption) fl_X7_108 dX7_windows_36 ?_
          refine rr_iconst F dX7_windows_39 ?_
          refine rr_iret F dX7_windows_40 ?_
          refine ⟨_, rfl, ?_⟩
          rw [sp_windows, if_pos (by omega)]
          exact ⟨rfl, key⟩
        · refine rr_iconst F dX7_windows_21 ?_
          refine rr_iret F dX7_windows_22 ?_
          refine ⟨_, rfl, ?_⟩
          rw [sp_windows, if_neg (by omega)]
          exact ⟨rfl, hR⟩
set_option maxHeartbeats 4000000 in
set_option maxRecDepth 100000 in
theorem mm_X7_gap {l : Launch} {g : gT} {σ : sT} {a : Int} {I : IM} {L : LM} (ha : rg a) (hR : CR σ I L) :
    Ct l yX7_gap cX7_gap 3 (some .int) 0 0 lyC g [.ref (g.2.1 0), .int (zI a)] I L (pS CR (sp_gap σ a)) := by
  obtain ⟨h1, h2, h3, h4, h5, h6, h7, h8⟩ := id hR
  unfold rg at ha
  have key : CR (σ.1, σ.2.1, (s_k σ, s_w σ, a, s_bd σ, s_gv σ)) (up2 I 4 4 a) L := by
    refine ⟨by simpa [up2] using h1, by simpa [up2] using h2, fun c hc0 hc6 => ?_, by simpa [up2] using h4, by simpa [up2] using h5, by simpa [up2] using h6, by simp [up2], by simpa [up2] using h8⟩
    have hne : bk c ≠ 4 := by unfold bk; omega
    rw [up2_cell _ _ _ hne]
    exact h3 c hc0 hc6
  refine Ct.of RX7 (by decide +kernel) rfl (Nat.le_of_ble_eq_true rfl) (fun x hx F => ?_)
  refine rr_iload_n F dX7_gap_0 rfl ?_
  refine rr_if_lt F dX7_gap_1 (tgt := 10) (by decide) ⟨by omega, by omega⟩ (fun c_1 => ?_) (fun c_1 => ?_)
  · refine rr_iconst F dX7_gap_10 ?_
    refine rr_iret F dX7_gap_11 ?_
    refine ⟨_, rfl, ?_⟩
    rw [sp_gap, if_neg (by omega)]
    exact ⟨rfl, hR⟩
  · refine rr_iload_n F dX7_gap_4 rfl ?_
    refine rr_bipush F dX7_gap_5 (by decide) ?_
    refine rr_icmp_le F dX7_gap_7 (tgt := 12) (by decide) ⟨by omega, by omega⟩ ⟨by omega, by omega⟩ (fun c_7 => ?_) (fun c_7 => ?_)
    · refine rr_aload_n F dX7_gap_12 rfl ?_
      refine rg_BP_shelf F (by first | rfl | assumption) fl_X7_26 dX7_gap_13 ?_
      refine rr_cell (k2 := 4) rfl ?_
      refine rg_Shelf_gapCost F (by first | rfl | assumption) fl_X7_111 dX7_gap_16 ?_
      refine rr_istore_n F dX7_gap_19 (Nat.le_of_ble_eq_true rfl) rfl ?_
      refine rr_aload_n F dX7_gap_20 rfl ?_
      refine rg_BP_shelf F (by first | rfl | assumption) fl_X7_26 dX7_gap_21 ?_
      refine rr_cell (k2 := 4) rfl ?_
      refine rr_iload_n F dX7_gap_24 rfl ?_
      refine rp_Shelf_gapCost F (by first | rfl | assumption) fl_X7_111 dX7_gap_25 ?_
      refine rr_iload_n F dX7_gap_28 rfl ?_
      refine rr_iret F dX7_gap_29 ?_
      refine ⟨_, rfl, ?_⟩
      rw [sp_gap, if_pos (by omega)]
      exact ⟨h7, key⟩
    · refine rr_iconst F dX7_gap_10 ?_
      refine rr_iret F dX7_gap_11 ?_
      refine ⟨_, rfl, ?_⟩
      rw [sp_gap, if_neg (by omega)]
      exact ⟨rfl, hR⟩
set_option maxHeartbeats 4000000 in
set_option maxRecDepth 100000 in
theorem mm_X7_link {l : Launch} {g : gT} {σ : sT} {a : Int} {I : IM} {L : LM} (ha : rg a) (hR : CR σ I L) :
    Ct l yX7_link cX7_link 3 (some .int) 0 0 lyC g [.ref (g.2.1 0), .int (zI a)] I L (pS CR (sp_link σ a)) := by
  obtain ⟨h1, h2, h3, h4, h5, h6, h7, h8⟩ := id hR
  unfold rg at ha
  have key : CR (σ.1, σ.2.1, (s_k σ, s_w σ, s_gp σ, a, s_gv σ)) (up2 I 4 5 a) L := by
    refine ⟨by simpa [up2] using h1, by simpa [up2] using h2, fun c hc0 hc6 => ?_, by simpa [up2] using h4, by simpa [up2] using h5, by simpa [up2] using h6, by simpa [up2] using h7, by simp [up2]⟩
    have hne : bk c ≠ 4 := by unfold bk; omega
    rw [up2_cell _ _ _ hne]
    exact h3 c hc0 hc6
  refine Ct.of RX7 (by decide +kernel) rfl (Nat.le_of_ble_eq_true rfl) (fun x hx F => ?_)
  refine rr_iload_n F dX7_link_0 rfl ?_
  refine rr_iconst F dX7_link_1 ?_
  refine rr_icmp_lt F dX7_link_2 (tgt := 12) (by decide) ⟨by omega, by omega⟩ ⟨by omega, by omega⟩ (fun c_2 => ?_) (fun c_2 => ?_)
  · refine rr_iconst F dX7_link_12 ?_
    refine rr_iret F dX7_link_13 ?_
    refine ⟨_, rfl, ?_⟩
    rw [sp_link, if_neg (by omega)]
    exact ⟨rfl, hR⟩
  · refine rr_iload_n F dX7_link_5 rfl ?_
    refine rr_sipush F dX7_link_6 (by decide) ?_
    refine rr_icmp_le F dX7_link_9 (tgt := 14) (by decide) ⟨by omega, by omega⟩ ⟨by omega, by omega⟩ (fun c_9 => ?_) (fun c_9 => ?_)
    · refine rr_aload_n F dX7_link_14 rfl ?_
      refine rg_BP_shelf F (by first | rfl | assumption) fl_X7_26 dX7_link_15 ?_
      refine rr_cell (k2 := 4) rfl ?_
      refine rg_Shelf_linkScore F (by first | rfl | assumption) fl_X7_114 dX7_link_18 ?_
      refine rr_istore_n F dX7_link_21 (Nat.le_of_ble_eq_true rfl) rfl ?_
      refine rr_aload_n F dX7_link_22 rfl ?_
      refine rg_BP_shelf F (by first | rfl | assumption) fl_X7_26 dX7_link_23 ?_
      refine rr_cell (k2 := 4) rfl ?_
      refine rr_iload_n F dX7_link_26 rfl ?_
      refine rp_Shelf_linkScore F (by first | rfl | assumption) fl_X7_114 dX7_link_27 ?_
      refine rr_iload_n F dX7_link_30 rfl ?_
      refine rr_iret F dX7_link_31 ?_
      refine ⟨_, rfl, ?_⟩
      rw [sp_link, if_pos (by omega)]
      exact ⟨h8, key⟩
    · refine rr_iconst F dX7_link_12 ?_
      refine rr_iret F dX7_link_13 ?_
      refine ⟨_, rfl, ?_⟩
      rw [sp_link, if_neg (by omega)]
      exact ⟨rfl, hR⟩
theorem rB_cases (σ : sT) (b : Int) : (rB σ b = 0 ∧ (0 ≤ b ∧ b < 6) ∧ s_hd σ b = 1) ∨ (rB σ b = -2 ∧ (0 ≤ b ∧ b < 6) ∧ ¬ s_hd σ b = 1) ∨ (rB σ b = -1 ∧ ¬ (0 ≤ b ∧ b < 6)) := by
  unfold rB
  by_cases h1 : 0 ≤ b ∧ b < 6
  · by_cases h2 : s_hd σ b = 1
    · rw [if_pos h1, if_pos h2]; exact Or.inl ⟨rfl, h1, h2⟩
    · rw [if_pos h1, if_neg h2]; exact Or.inr (Or.inl ⟨rfl, h1, h2⟩)
  · rw [if_neg h1]; exact Or.inr (Or.inr ⟨rfl, h1⟩)
theorem rP_cases (σ : sT) (a b : Int) : (rP σ a b = 0 ∧ (0 ≤ a ∧ a < 6) ∧ (0 ≤ b ∧ b < 6) ∧ ¬ a = b ∧ s_hd σ a = 1 ∧ s_hd σ b = 1) ∨ rP σ a b = -2 ∨ rP σ a b = -1 := by
  unfold rP
  split
  · next h =>
    split
    · next h2 => exact Or.inl ⟨rfl, h.1, h.2.1, h.2.2, h2.1, h2.2⟩
    · exact Or.inr (Or.inl rfl)
  · exact Or.inr (Or.inr rfl)
set_option maxHeartbeats 4000000 in
set_option maxRecDepth 100000 in
theorem mm_X7_given {l : Launch} {g : gT} {σ : sT} {a : Int} {I : IM} {L : LM} (ha : rg a) (hR : CR σ I L) (hW : WF σ) :
    Ct l yX7_given cX7_given 4 (some .int) 3 63 lyC g [.ref (g.2.1 0), .int (zI a)] I L (pS CR (sp_given σ a)) := by
  obtain ⟨h1, h2, h3, h4, h5, h6, h7, h8⟩ := id hR
  have hc := rB_cases σ a
  have ha' := ha
  unfold rg at ha'
  have key : CR (σ.1, σ.2.1, (s_k σ, s_w σ, s_gp σ, s_bd σ, a)) (up2 I 4 1 a) L := by
    refine ⟨by simpa [up2] using h1, by simpa [up2] using h2, fun c hc0 hc6 => ?_, by simp [up2], by simpa [up2] using h5, by simpa [up2] using h6, by simpa [up2] using h7, by simpa [up2] using h8⟩
    have hne : bk c ≠ 4 := by unfold bk; omega
    rw [up2_cell _ _ _ hne]
    exact h3 c hc0 hc6
  refine Ct.of RX7 (by decide +kernel) rfl (Nat.le_of_ble_eq_true rfl) (fun x hx F => ?_)
  refine rr_iload_n F dX7_given_0 rfl ?_
  refine rr_iconst F dX7_given_1 ?_
  refine rr_icmp_ne F dX7_given_2 (tgt := 9) (by decide) ⟨by omega, by omega⟩ ⟨by omega, by omega⟩ (fun c_2 => ?_) (fun c_2 => ?_)
  · refine rr_aload_n F dX7_given_9 rfl ?_
    refine rr_iload_n F dX7_given_10 rfl ?_
    refine rr_callVI F (ci := 7) (mm_X7_refusalOfBook ha hR hW) mf_X7_refusalOfBook ml_X7_83 ⟨by decide, by decide⟩ (by first | rfl | assumption) (by decide) rfl rfl (Nat.le_of_ble_eq_true rfl) dX7_given_11 (fun r_11 I_11 L_11 h_11 => ?_)
    obtain ⟨e11, rfl, rfl⟩ := h_11
    refine rr_istore_n F dX7_given_14 (Nat.le_of_ble_eq_true rfl) rfl ?_
    refine rr_iload_n F dX7_given_15 rfl ?_
    refine rr_if_eq F dX7_given_16 (tgt := 24) (by decide) ⟨by omega, by omega⟩ (fun c_16 => ?_) (fun c_16 => ?_)
    · refine rr_aload_n F dX7_given_24 rfl ?_
      refine rg_BP_shelf F (by first | rfl | assumption) fl_X7_26 dX7_given_25 ?_
      refine rr_cell (k2 := 4) rfl ?_
      refine rg_Shelf_givenNumber F (by first | rfl | assumption) fl_X7_90 dX7_given_28 ?_
      refine rr_istore_n F dX7_given_31 (Nat.le_of_ble_eq_true rfl) rfl ?_
      refine rr_aload_n F dX7_given_32 rfl ?_
      refine rg_BP_shelf F (by first | rfl | assumption) fl_X7_26 dX7_given_33 ?_
      refine rr_cell (k2 := 4) rfl ?_
      refine rr_iload_n F dX7_given_36 rfl ?_
      refine rp_Shelf_givenNumber F (by first | rfl | assumption) fl_X7_90 dX7_given_37 ?_
      refine rr_iload_n F dX7_given_40 rfl ?_
      refine rr_iret F dX7_given_41 ?_
      refine ⟨_, rfl, ?_⟩
      rw [sp_given, if_pos (by omega)]
      exact ⟨h4, key⟩
    · refine rr_iload_n F dX7_given_19 rfl ?_
      refine rr_bipush F dX7_given_20 (by decide) ?_
      refine rr_isub F dX7_given_22 ?_
      refine rr_iret F dX7_given_23 ?_
      refine ⟨_, rfl, ?_⟩
      rw [sp_given, if_neg (by omega)]
      exact ⟨by omega, hR⟩
  · refine rr_iconst F dX7_given_5 ?_
    refine rr_goto F dX7_given_6 (tgt := 14) (by decide) ?_
    refine rr_istore_n F dX7_given_14 (Nat.le_of_ble_eq_true rfl) rfl ?_
    refine rr_iload_n F dX7_given_15 rfl ?_
    refine rr_if_eq F dX7_given_16 (tgt := 24) (by decide) ⟨by omega, by omega⟩ (fun c_16 => ?_) (fun c_16 => ?_)
    · refine rr_aload_n F dX7_given_24 rfl ?_
      refine rg_BP_shelf F (by first | rfl | assumption) fl_X7_26 dX7_given_25 ?_
      refine rr_cell (k2 := 4) rfl ?_
      refine rg_Shelf_givenNumber F (by first | rfl | assumption) fl_X7_90 dX7_given_28 ?_
      refine rr_istore_n F dX7_given_31 (Nat.le_of_ble_eq_true rfl) rfl ?_
      refine rr_aload_n F dX7_given_32 rfl ?_
      refine rg_BP_shelf F (by first | rfl | assumption) fl_X7_26 dX7_given_33 ?_
      refine rr_cell (k2 := 4) rfl ?_
      refine rr_iload_n F dX7_given_36 rfl ?_
      refine rp_Shelf_givenNumber F (by first | rfl | assumption) fl_X7_90 dX7_given_37 ?_
      refine rr_iload_n F dX7_given_40 rfl ?_
      refine rr_iret F dX7_given_41 ?_
      refine ⟨_, rfl, ?_⟩
      rw [sp_given, if_pos (by omega)]
      exact ⟨h4, key⟩
    · refine rr_iload_n F dX7_given_19 rfl ?_
      refine rr_bipush F dX7_given_20 (by decide) ?_
      refine rr_isub F dX7_given_22 ?_
      refine rr_iret F dX7_given_23 ?_
      refine ⟨_, rfl, ?_⟩
      rw [sp_given, if_neg (by omega)]
      exact ⟨by omega, hR⟩
set_option maxHeartbeats 4000000 in
set_option maxRecDepth 100000 in
theorem mm_X0_close {l : Launch} {g : gT} {k : Nat} {I : IM} {L : LM} (hk : isB k) :
    Ct l yX0_close cX0_close 1 none 0 0 lyC g [.ref (g.2.1 k)] I L (pV (fun I' L' => I' = up2 (up2 I k 1 0) k 4 0 ∧ L = L')) := by
  obtain ⟨q1, q2, q3⟩ := hk.f
  refine Ct.of RX0 (by decide +kernel) rfl (Nat.le_of_ble_eq_true rfl) (fun x hx F => ?_)
  refine rr_aload_n F dX0_close_0 rfl ?_
  refine rr_iconst F dX0_close_1 ?_
  refine rp_Book_size F (by first | rfl | assumption) fl_X0_15 dX0_close_2 ?_
  refine rr_aload_n F dX0_close_5 rfl ?_
  refine rr_iconst F dX0_close_6 ?_
  refine rp_Book_held F (by first | rfl | assumption) fl_X0_25 (by decide) (by decide) dX0_close_7 ?_
  refine rr_vret F dX0_close_10 ?_
  exact ⟨rfl, rfl, rfl⟩
set_option maxHeartbeats 4000000 in
set_option maxRecDepth 100000 in
theorem mm_X7_withdraw {l : Launch} {g : gT} {σ : sT} {a : Int} {I : IM} {L : LM} (ha : rg a) (hR : CR σ I L) (hW : WF σ) :
    Ct l yX7_withdraw cX7_withdraw 4 (some .int) 3 63 lyC g [.ref (g.2.1 0), .int (zI a)] I L (pS CR (sp_withdraw σ a)) := by
  obtain ⟨h1, h2, h3, h4, h5, h6, h7, h8⟩ := id hR
  have w3 := hW.2.2.1
  have wg := hW.2.2.2.2.2.2.2.2.2.2.1
  have hc := rB_cases σ a
  have ha' := ha
  unfold rg at ha'
  have key : 0 ≤ a → a < 6 → ∀ I' : IM, (∀ q, q ≠ bk a → q ≠ 4 → I' q = I q) → I' (bk a) 4 = 0 → (I' 4 1 = if s_gv σ = a then -1 else s_gv σ) → (∀ j, j ≠ 1 → I' 4 j = I 4 j) → CR (σ.1, (u1 (s_hd σ) a 0, s_sz σ, s_lg σ, s_dy σ, s_tk σ), (s_k σ, s_w σ, s_gp σ, s_bd σ, if s_gv σ = a then -1 else s_gv σ)) I' L := by
    intro h0 h60 I' g1 g2 g3 g4
    refine ⟨by rw [g1 1 (by unfold bk; omega) (by omega)]; exact h1, fun i a1 b1 => by rw [g1 2 (by unfold bk; omega) (by omega)]; exact h2 i a1 b1, fun b hb0 hb6 => ?_, g3, by rw [g4 2 (by omega)]; exact h5, by rw [g4 3 (by omega)]; exact h6, by rw [g4 4 (by omega)]; exact h7, by rw [g4 5 (by omega)]; exact h8⟩
    by_cases e : b = a
    · subst e
      exact ⟨by simp [g2, u1, s_hd], fun z => absurd z (by simp [u1, s_hd])⟩
    · have hne : bk b ≠ bk a := fun z => e (bk_inj hb0 h0 z)
      have h4' : bk b ≠ 4 := by unfold bk; omega
      rw [g1 _ hne h4']
      simpa [u1, e, s_hd] using h3 b hb0 hb6
  refine Ct.of RX7 (by decide +kernel) rfl (Nat.le_of_ble_eq_true rfl) (fun x hx F => ?_)
  refine rr_aload_n F dX7_withdraw_0 rfl ?_
  refine rr_iload_n F dX7_withdraw_1 rfl ?_
  refine rr_callVI F (ci := 7) (mm_X7_refusalOfBook ha hR hW) mf_X7_refusalOfBook ml_X7_83 ⟨by decide, by decide⟩ (by first | rfl | assumption) (by decide) rfl rfl (Nat.le_of_ble_eq_true rfl) dX7_withdraw_2 (fun r_2 I_2 L_2 h_2 => ?_)
  obtain ⟨e2, rfl, rfl⟩ := h_2
  refine rr_istore_n F dX7_withdraw_5 (Nat.le_of_ble_eq_true rfl) rfl ?_
  refine rr_iload_n F dX7_withdraw_6 rfl ?_
  refine rr_if_eq F dX7_withdraw_7 (tgt := 12) (by decide) ⟨by omega, by omega⟩ (fun c_7 => ?_) (fun c_7 => ?_)
  · refine rr_aload_n F dX7_withdraw_12 rfl ?_
    refine rg_BP_shelf F (by first | rfl | assumption) fl_X7_26 dX7_withdraw_13 ?_
    refine rr_cell (k2 := 4) rfl ?_
    refine rg_Shelf_books F (by first | rfl | assumption) fl_X7_63 dX7_withdraw_16 ?_
    refine rr_cell (k2 := 5) rfl ?_
    refine rr_iload_n F dX7_withdraw_19 rfl ?_
    refine rr_aald F (N := 6) (by first | rfl | assumption) (by omega) (by first | rfl | assumption) (by omega) dX7_withdraw_20 ?_
    refine rr_bk ?_
    have hB := bk_isB (b := a) (by omega) (by omega)
    obtain ⟨q1, q2, q3⟩ := hB.f
    refine rg_Book_size F (by first | rfl | assumption) fl_X7_80 dX7_withdraw_21 ?_
    refine rr_istore_n F dX7_withdraw_24 (Nat.le_of_ble_eq_true rfl) rfl ?_
    refine rr_aload_n F dX7_withdraw_25 rfl ?_
    refine rg_BP_shelf F (by first | rfl | assumption) fl_X7_26 dX7_withdraw_26 ?_
    refine rr_cell (k2 := 4) rfl ?_
    refine rg_Shelf_books F (by first | rfl | assumption) fl_X7_63 dX7_withdraw_29 ?_
    refine rr_cell (k2 := 5) rfl ?_
    refine rr_iload_n F dX7_withdraw_32 rfl ?_
    refine rr_aald F (N := 6) (by first | rfl | assumption) (by omega) (by first | rfl | assumption) (by omega) dX7_withdraw_33 ?_
    refine rr_bk ?_
    refine rr_callVV F (ci := 0) (mm_X0_close hB) mf_X0_close ml_X7_87 ⟨by decide, by decide⟩ (by first | rfl | assumption) (by decide) rfl rfl (Nat.le_of_ble_eq_true rfl) dX7_withdraw_34 (fun I_34 L_34 h_34 => ?_)
    obtain ⟨e34, rfl⟩ := h_34
    have e4b : bk a ≠ 4 := by unfold bk; omega
    have eg : I_34 4 1 = s_gv σ := by rw [e34, up2_cell _ _ _ e4b.symm, up2_cell _ _ _ e4b.symm]; exact h4
    refine rr_aload_n F dX7_withdraw_37 rfl ?_
    refine rg_BP_shelf F (by first | rfl | assumption) fl_X7_26 dX7_withdraw_38 ?_
    refine rr_cell (k2 := 4) rfl ?_
    refine rg_Shelf_givenNumber F (by first | rfl | assumption) fl_X7_90 dX7_withdraw_41 ?_
    refine rr_iload_n F dX7_withdraw_44 rfl ?_
    refine rr_icmp_ne F dX7_withdraw_45 (tgt := 56) (by decide) ⟨by omega, by omega⟩ ⟨by omega, by omega⟩ (fun c_45 => ?_) (fun c_45 => ?_)
    · refine rr_iload_n F dX7_withdraw_56 rfl ?_
      refine rr_iret F dX7_withdraw_57 ?_
      refine ⟨_, rfl, ?_⟩
      rw [sp_withdraw, if_pos (by omega)]
      refine ⟨((h3 a (by omega) (by omega)).2 (by omega)).1, key (by omega) (by omega) _ (fun q z1 z2 => ?_) ?_ ?_ (fun j z => ?_)⟩
      · first | (rw [up2_cell _ _ _ z2, e34, up2_cell _ _ _ z1, up2_cell _ _ _ z1]; done) | rw [e34, up2_cell _ _ _ z1, up2_cell _ _ _ z1]
      · first | (rw [up2_cell _ _ _ e4b, e34, up2_same]; done) | rw [e34, up2_same]
      · first | (rw [up2_same, if_pos (by omega)]; done) | rw [if_neg (by omega), eg]
      · first | (rw [up2_ne _ _ _ z, e34, up2_cell _ _ _ e4b.symm, up2_cell _ _ _ e4b.symm]; done) | rw [e34, up2_cell _ _ _ e4b.symm, up2_cell _ _ _ e4b.symm]
    · refine rr_aload_n F dX7_withdraw_48 rfl ?_
      refine rg_BP_shelf F (by first | rfl | assumption) fl_X7_26 dX7_withdraw_49 ?_
      refine rr_cell (k2 := 4) rfl ?_
      refine rr_iconst F dX7_withdraw_52 ?_
      refine rp_Shelf_givenNumber F (by first | rfl | assumption) fl_X7_90 dX7_withdraw_53 ?_
      refine rr_iload_n F dX7_withdraw_56 rfl ?_
      refine rr_iret F dX7_withdraw_57 ?_
      refine ⟨_, rfl, ?_⟩
      rw [sp_withdraw, if_pos (by omega)]
      refine ⟨((h3 a (by omega) (by omega)).2 (by omega)).1, key (by omega) (by omega) _ (fun q z1 z2 => ?_) ?_ ?_ (fun j z => ?_)⟩
      · first | (rw [up2_cell _ _ _ z2, e34, up2_cell _ _ _ z1, up2_cell _ _ _ z1]; done) | rw [e34, up2_cell _ _ _ z1, up2_cell _ _ _ z1]
      · first | (rw [up2_cell _ _ _ e4b, e34, up2_same]; done) | rw [e34, up2_same]
      · first | (rw [up2_same, if_pos (by omega)]; done) | rw [if_neg (by omega), eg]
      · first | (rw [up2_ne _ _ _ z, e34, up2_cell _ _ _ e4b.symm, up2_cell _ _ _ e4b.symm]; done) | rw [e34, up2_cell _ _ _ e4b.symm, up2_cell _ _ _ e4b.symm]
  · refine rr_iload_n F dX7_withdraw_10 rfl ?_
    refine rr_iret F dX7_withdraw_11 ?_
    refine ⟨_, rfl, ?_⟩
    rw [sp_withdraw, if_neg (by omega)]
    exact ⟨e2, hR⟩
set_option maxHeartbeats 4000000 in
set_option maxRecDepth 100000 in
theorem mm_X7_token {l : Launch} {g : gT} {σ : sT} {a i : Int} {I : IM} {L : LM} (ha : rg a) (hi : rg i) (hR : CR σ I L) (hW : WF σ) :
    Ct l yX7_token cX7_token 5 (some .long) 3 63 lyC g [.ref (g.2.1 0), .int (zI a), .int (zI i)] I L (pSJ CR (sp_token σ a i, σ)) := by
  obtain ⟨h1, h2, h3, h4, h5, h6, h7, h8⟩ := id hR
  have w4 := hW.2.2.2.1
  have hc := rB_cases σ a
  have hi' := hi
  unfold rg at hi'
  refine Ct.of RX7 (by decide +kernel) rfl (Nat.le_of_ble_eq_true rfl) (fun x hx F => ?_)
  refine rr_iload_n F dX7_token_0 rfl ?_
  refine rr_bipush F dX7_token_1 (by decide) ?_
  refine rr_icmp_ge F dX7_token_3 (tgt := 10) (by decide) ⟨by omega, by omega⟩ ⟨by omega, by omega⟩ (fun c_3 => ?_) (fun c_3 => ?_)
  · refine rr_aload_n F dX7_token_10 rfl ?_
    refine rr_iload_n F dX7_token_11 rfl ?_
    refine rr_callVI F (ci := 7) (mm_X7_refusalOfBook ha hR hW) mf_X7_refusalOfBook ml_X7_83 ⟨by decide, by decide⟩ (by first | rfl | assumption) (by decide) rfl rfl (Nat.le_of_ble_eq_true rfl) dX7_token_12 (fun r_12 I_12 L_12 h_12 => ?_)
    obtain ⟨e12, rfl, rfl⟩ := h_12
    refine rr_istore_n F dX7_token_15 (Nat.le_of_ble_eq_true rfl) rfl ?_
    refine rr_iload_n F dX7_token_16 rfl ?_
    refine rr_if_eq F dX7_token_17 (tgt := 23) (by decide) ⟨by omega, by omega⟩ (fun c_17 => ?_) (fun c_17 => ?_)
    · refine rr_aload_n F dX7_token_23 rfl ?_
      refine rg_BP_shelf F (by first | rfl | assumption) fl_X7_26 dX7_token_24 ?_
      refine rr_cell (k2 := 4) rfl ?_
      refine rg_Shelf_books F (by first | rfl | assumption) fl_X7_63 dX7_token_27 ?_
      refine rr_cell (k2 := 5) rfl ?_
      refine rr_iload_n F dX7_token_30 rfl ?_
      refine rr_aald F (N := 6) (by first | rfl | assumption) (by omega) (by first | rfl | assumption) (by omega) dX7_token_31 ?_
      refine rr_bk ?_
      have hB := bk_isB (b := a) (by omega) (by omega)
      obtain ⟨q1, q2, q3⟩ := hB.f
      obtain ⟨e1, e2⟩ := h3 a (by omega) (by omega)
      obtain ⟨e2, e3, e4, e5⟩ := e2 (by omega)
      have w2 := w4 a
      refine rr_astore F dX7_token_32 (Nat.le_of_ble_eq_true rfl) rfl ?_
      refine rr_iload_n F dX7_token_34 rfl ?_
      refine rr_bipush F dX7_token_35 (by decide) ?_
      refine rr_icmp_ne F dX7_token_37 (tgt := 47) (by decide) ⟨by omega, by omega⟩ ⟨by omega, by omega⟩ (fun c_37 => ?_) (fun c_37 => ?_)
      · refine rr_iload_n F dX7_token_47 rfl ?_
        refine rr_bipush F dX7_token_48 (by decide) ?_
        refine rr_icmp_ne F dX7_token_50 (tgt := 60) (by decide) ⟨by omega, by omega⟩ ⟨by omega, by omega⟩ (fun c_50 => ?_) (fun c_50 => ?_)
        · refine rr_iload_n F dX7_token_60 rfl ?_
          refine rr_iconst F dX7_token_61 ?_
          refine rr_icmp_ne F dX7_token_62 (tgt := 72) (by decide) ⟨by omega, by omega⟩ ⟨by omega, by omega⟩ (fun c_62 => ?_) (fun c_62 => ?_)
          · refine rr_iload_n F dX7_token_72 rfl ?_
            refine rr_aload F dX7_token_73 rfl ?_
            refine rg_Book_size F (by first | rfl | assumption) fl_X7_80 dX7_token_75 ?_
            refine rr_icmp_ge F dX7_token_78 (tgt := 91) (by decide) ⟨by omega, by omega⟩ ⟨by omega, by omega⟩ (fun c_78 => ?_) (fun c_78 => ?_)
            · refine rr_ldc2 F dX7_token_91 co_X7_103 ?_
              refine rr_lret F dX7_token_94 ?_
              refine ⟨_, rfl, ?_, hR⟩
              first | (rw [sp_token, if_pos (by omega), if_pos (by omega), if_pos (by omega)]; done) | (rw [sp_token, if_pos (by omega), if_pos (by omega), if_neg (by omega), if_neg (by omega), if_neg (by omega), if_neg (by omega)]; exact e5 i (by omega) (by omega))
            · refine rr_aload F dX7_token_81 rfl ?_
              refine rg_Book_tokens F (by first | rfl | assumption) fl_X7_99 dX7_token_83 ?_
              refine rr_iload_n F dX7_token_86 rfl ?_
              refine rr_lald F (N := 40) (by first | rfl | assumption) (by omega) (by first | rfl | assumption) (by omega) dX7_token_87 ?_
              refine rr_goto F dX7_token_88 (tgt := 94) (by decide) ?_
              refine rr_lret F dX7_token_94 ?_
              refine ⟨_, rfl, ?_, hR⟩
              first | (rw [sp_token, if_pos (by omega), if_pos (by omega), if_pos (by omega)]; done) | (rw [sp_token, if_pos (by omega), if_pos (by omega), if_neg (by omega), if_neg (by omega), if_neg (by omega), if_neg (by omega)]; exact e5 i (by omega) (by omega))
          · refine rr_aload F dX7_token_65 rfl ?_
            refine rg_Book_size F (by first | rfl | assumption) fl_X7_80 dX7_token_67 ?_
            refine rr_i2l F dX7_token_70 ?_
            refine rr_lret F dX7_token_71 ?_
            exact ⟨_, rfl, by rw [sp_token, if_pos (by omega), if_pos (by omega), if_neg (by omega), if_pos (by omega), e2], hR⟩
        · refine rr_aload F dX7_token_53 rfl ?_
          refine rg_Book_language F (by first | rfl | assumption) fl_X7_96 dX7_token_55 ?_
          refine rr_i2l F dX7_token_58 ?_
          refine rr_lret F dX7_token_59 ?_
          exact ⟨_, rfl, by rw [sp_token, if_pos (by omega), if_pos (by omega), if_neg (by omega), if_neg (by omega), if_pos (by omega), e3], hR⟩
      · refine rr_aload F dX7_token_40 rfl ?_
        refine rg_Book_day F (by first | rfl | assumption) fl_X7_93 dX7_token_42 ?_
        refine rr_i2l F dX7_token_45 ?_
        refine rr_lret F dX7_token_46 ?_
        exact ⟨_, rfl, by rw [sp_token, if_pos (by omega), if_pos (by omega), if_neg (by omega), if_neg (by omega), if_neg (by omega), if_pos (by omega), e4], hR⟩
    · refine rr_iload_n F dX7_token_20 rfl ?_
      refine rr_i2l F dX7_token_21 ?_
      refine rr_lret F dX7_token_22 ?_
      refine ⟨_, rfl, ?_, hR⟩
      first | (rw [sp_token, if_neg (by omega)]; rfl) | skip
      try (rcases hc with hc | hc | hc)
      try (exact absurd e12 (by omega))
      try (have z : r_12 = -2 := by omega
           subst z
           rw [sp_token, if_pos (by omega), if_neg (by omega)]
           rfl)
      try (have z : r_12 = -1 := by omega
           subst z
           rw [sp_token, if_neg (by omega)]
           rfl)
  · refine rr_iconst F dX7_token_6 ?_
    refine rr_goto F dX7_token_7 (tgt := 15) (by decide) ?_
    refine rr_istore_n F dX7_token_15 (Nat.le_of_ble_eq_true rfl) rfl ?_
    refine rr_iload_n F dX7_token_16 rfl ?_
    refine rr_if_eq F dX7_token_17 (tgt := 23) (by decide) ⟨by omega, by omega⟩ (fun c_17 => ?_) (fun c_17 => ?_)
    · refine rr_aload_n F dX7_token_23 rfl ?_
      refine rg_BP_shelf F (by first | rfl | assumption) fl_X7_26 dX7_token_24 ?_
      refine rr_cell (k2 := 4) rfl ?_
      refine rg_Shelf_books F (by first | rfl | assumption) fl_X7_63 dX7_token_27 ?_
      refine rr_cell (k2 := 5) rfl ?_
      refine rr_iload_n F dX7_token_30 rfl ?_
      refine rr_aald F (N := 6) (by first | rfl | assumption) (by omega) (by first | rfl | assumption) (by omega) dX7_token_31 ?_
      refine rr_bk ?_
      have hB := bk_isB (b := a) (by omega) (by omega)
      obtain ⟨q1, q2, q3⟩ := hB.f
      obtain ⟨e1, e2⟩ := h3 a (by omega) (by omega)
      obtain ⟨e2, e3, e4, e5⟩ := e2 (by omega)
      have w2 := w4 a
      refine rr_astore F dX7_token_32 (Nat.le_of_ble_eq_true rfl) rfl ?_
      refine rr_iload_n F dX7_token_34 rfl ?_
      refine rr_bipush F dX7_token_35 (by decide) ?_
      refine rr_icmp_ne F dX7_token_37 (tgt := 47) (by decide) ⟨by omega, by omega⟩ ⟨by omega, by omega⟩ (fun c_37 => ?_) (fun c_37 => ?_)
      · refine rr_iload_n F dX7_token_47 rfl ?_
        refine rr_bipush F dX7_token_48 (by decide) ?_
        refine rr_icmp_ne F dX7_token_50 (tgt := 60) (by decide) ⟨by omega, by omega⟩ ⟨by omega, by omega⟩ (fun c_50 => ?_) (fun c_50 => ?_)
        · refine rr_iload_n F dX7_token_60 rfl ?_
          refine rr_iconst F dX7_token_61 ?_
          refine rr_icmp_ne F dX7_token_62 (tgt := 72) (by decide) ⟨by omega, by omega⟩ ⟨by omega, by omega⟩ (fun c_62 => ?_) (fun c_62 => ?_)
          · refine rr_iload_n F dX7_token_72 rfl ?_
            refine rr_aload F dX7_token_73 rfl ?_
            refine rg_Book_size F (by first | rfl | assumption) fl_X7_80 dX7_token_75 ?_
            refine rr_icmp_ge F dX7_token_78 (tgt := 91) (by decide) ⟨by omega, by omega⟩ ⟨by omega, by omega⟩ (fun c_78 => ?_) (fun c_78 => ?_)
            · refine rr_ldc2 F dX7_token_91 co_X7_103 ?_
              refine rr_lret F dX7_token_94 ?_
              refine ⟨_, rfl, ?_, hR⟩
              first | (rw [sp_token, if_pos (by omega), if_pos (by omega), if_pos (by omega)]; done) | (rw [sp_token, if_pos (by omega), if_pos (by omega), if_neg (by omega), if_neg (by omega), if_neg (by omega), if_neg (by omega)]; exact e5 i (by omega) (by omega))
            · refine rr_aload F dX7_token_81 rfl ?_
              refine rg_Book_tokens F (by first | rfl | assumption) fl_X7_99 dX7_token_83 ?_
              refine rr_iload_n F dX7_token_86 rfl ?_
              refine rr_lald F (N := 40) (by first | rfl | assumption) (by omega) (by first | rfl | assumption) (by omega) dX7_token_87 ?_
              refine rr_goto F dX7_token_88 (tgt := 94) (by decide) ?_
              refine rr_lret F dX7_token_94 ?_
              refine ⟨_, rfl, ?_, hR⟩
              first | (rw [sp_token, if_pos (by omega), if_pos (by omega), if_pos (by omega)]; done) | (rw [sp_token, if_pos (by omega), if_pos (by omega), if_neg (by omega), if_neg (by omega), if_neg (by omega), if_neg (by omega)]; exact e5 i (by omega) (by omega))
          · refine rr_aload F dX7_token_65 rfl ?_
            refine rg_Book_size F (by first | rfl | assumption) fl_X7_80 dX7_token_67 ?_
            refine rr_i2l F dX7_token_70 ?_
            refine rr_lret F dX7_token_71 ?_
            exact ⟨_, rfl, by rw [sp_token, if_pos (by omega), if_pos (by omega), if_neg (by omega), if_pos (by omega), e2], hR⟩
        · refine rr_aload F dX7_token_53 rfl ?_
          refine rg_Book_language F (by first | rfl | assumption) fl_X7_96 dX7_token_55 ?_
          refine rr_i2l F dX7_token_58 ?_
          refine rr_lret F dX7_token_59 ?_
          exact ⟨_, rfl, by rw [sp_token, if_pos (by omega), if_pos (by omega), if_neg (by omega), if_neg (by omega), if_pos (by omega), e3], hR⟩
      · refine rr_aload F dX7_token_40 rfl ?_
        refine rg_Book_day F (by first | rfl | assumption) fl_X7_93 dX7_token_42 ?_
        refine rr_i2l F dX7_token_45 ?_
        refine rr_lret F dX7_token_46 ?_
        exact ⟨_, rfl, by rw [sp_token, if_pos (by omega), if_pos (by omega), if_neg (by omega), if_neg (by omega), if_neg (by omega), if_pos (by omega), e4], hR⟩
    · refine rr_iload_n F dX7_token_20 rfl ?_
      refine rr_i2l F dX7_token_21 ?_
      refine rr_lret F dX7_token_22 ?_
      refine ⟨_, rfl, ?_, hR⟩
      first | (rw [sp_token, if_neg (by omega)]; rfl) | skip
      try (rcases hc with hc | hc | hc)
      try (exact absurd e12 (by omega))
      try (have z : r_12 = -2 := by omega
           subst z
           rw [sp_token, if_pos (by omega), if_neg (by omega)]
           rfl)
      try (have z : r_12 = -1 := by omega
           subst z
           rw [sp_token, if_neg (by omega)]
           rfl)
