/-! partOfRun, runs, run of the class -/
def prtF (R : List rT) (n p : Int) : Int := match R[n.toNat]? with
  | some q => if p = 0 then q.1 else if p = 1 then q.2.1 else q.2.2
  | none => -1
noncomputable def sp_runs (σ : sT) (a b : Int) : Int := if rP σ a b = 0 then (runsL σ a b).length else rP σ a b
noncomputable def sp_run (σ : sT) (a b r w : Int) : Int := if r < 0 ∨ w < 0 ∨ 2 < w then -1 else if rP σ a b = 0 then prtF (runsL σ a b) r w else rP σ a b
set_option maxHeartbeats 4000000 in
set_option maxRecDepth 100000 in
theorem mm_X1_partOfRun {l : Launch} {g : gT} {σ : sT} {a b r p : Int} {I : IM} {L : LM} (hC : CmpS σ a b I L) (hW : WF σ) (hM : ∀ i j, 0 ≤ i → i < s_sz σ a → 0 ≤ j → j < s_sz σ b → I 20 (i * 41 + j) = rln σ a b i j) (hr0 : 0 ≤ r) (hr : r < 2147483648) (hp0 : 0 ≤ p) (hp : p ≤ 2) :
    Ct l yX1_partOfRun cX1_partOfRun 7 (some .int) 0 0 lyC g [.ref (g.2.1 18), .int (zI r), .int (zI p)] I L (pI (fun v I' L' => v = prtF (runsL σ a b) r p ∧ I = I' ∧ L = L')) := by
  have w4a := hW.2.2.2.1 a
  have w4b := hW.2.2.2.1 b
  have sA := hC.1.1
  have sB := hC.2.1
  have rb := fun i j => rln_b hW a b i j
  have eR : runsL σ a b = preR (rln σ a b) (s_sz σ b) (s_sz σ a) 0 := rfl
  generalize hf : rln σ a b = f at *
  refine Ct.of RX1 (by decide +kernel) rfl (Nat.le_of_ble_eq_true rfl) (fun x hx F => ?_)
  generalize hpost : (pI (fun (v : Int) (I' : IM) (L' : LM) => v = prtF (runsL σ a b) r p ∧ I = I' ∧ L = L')) = post
  have loop : ∀ (c : Nat) (i : Int) (s : Int), c = (s_sz σ a - i).toNat → 0 ≤ i → i ≤ s_sz σ a → s = (preR f (s_sz σ b) i 0).length → s ≤ r → Rn x lyC g post 5 [vr g 18, vn r, vn p, vn s, vn i, none, none] [] I L := by
    intro c
    induction c with
    | zero =>
      intro i s h1 h2 h3 h4 h5
      have ei : i = s_sz σ a := by omega
      refine rr_iload F dX1_partOfRun_5 rfl ?_
      refine rr_aload_n F dX1_partOfRun_7 rfl ?_
      refine rg_Comparison_left F (by first | rfl | assumption) fl_X1_28 dX1_partOfRun_8 ?_
      refine rr_cell (k2 := 22) rfl ?_
      refine rg_Page_size F (by first | rfl | assumption) fl_X1_88 dX1_partOfRun_11 ?_
      refine rr_icmp_ge F dX1_partOfRun_14 (tgt := 94) (by decide) ⟨by omega, by omega⟩ ⟨by omega, by omega⟩ (fun c_14 => ?_) (fun c_14 => ?_)
      · refine rr_iconst F dX1_partOfRun_94 ?_
        refine rr_iret F dX1_partOfRun_95 ?_
        rw [← hpost]
        refine ⟨_, rfl, ?_, rfl, rfl⟩
        rw [prtF, eR, List.getElem?_eq_none (by rw [← ei]; omega)]
      · exfalso
        omega
    | succ c ih =>
      intro i s h1 h2 h3 h4 h5
      have inner : ∀ (d : Nat) (j s : Int), d = (s_sz σ b - j).toNat → 0 ≤ j → j ≤ s_sz σ b → s = (preR f (s_sz σ b) i j).length → s ≤ r → Rn x lyC g post 20 [vr g 18, vn r, vn p, vn s, vn i, vn j, none] [] I L := by
        intro d
        induction d with
        | zero =>
          intro j s g1 g2 g3 g4 g5
          have ej : j = s_sz σ b := by omega
          refine rr_iload F dX1_partOfRun_20 rfl ?_
          refine rr_aload_n F dX1_partOfRun_22 rfl ?_
          refine rg_Comparison_right F (by first | rfl | assumption) fl_X1_32 dX1_partOfRun_23 ?_
          refine rr_cell (k2 := 28) rfl ?_
          refine rg_Page_size F (by first | rfl | assumption) fl_X1_88 dX1_partOfRun_26 ?_
          refine rr_icmp_ge F dX1_partOfRun_29 (tgt := 88) (by decide) ⟨by omega, by omega⟩ ⟨by omega, by omega⟩ (fun c_29 => ?_) (fun c_29 => ?_)
          · refine rr_iinc F dX1_partOfRun_88 rfl rfl ?_
            refine rr_goto F dX1_partOfRun_91 (tgt := 5) (by decide) ?_
            refine rr_drop 5 ?_
            exact ih (i + 1) s (by omega) (by omega) (by omega) (by rw [g4, preR_i f _ i h2, ej]) g5
          · exfalso
            omega
        | succ d ihd =>
          intro j s g1 g2 g3 g4 g5
          have rbij := rb i j
          have em := hM i j h2 (by omega) g2 (by omega)
          have pl := preR_len f (m := s_sz σ b) w4b.2 h2 g2
          have pj := preR_j f (s_sz σ b) i j g2
          refine rr_iload F dX1_partOfRun_20 rfl ?_
          refine rr_aload_n F dX1_partOfRun_22 rfl ?_
          refine rg_Comparison_right F (by first | rfl | assumption) fl_X1_32 dX1_partOfRun_23 ?_
          refine rr_cell (k2 := 28) rfl ?_
          refine rg_Page_size F (by first | rfl | assumption) fl_X1_88 dX1_partOfRun_26 ?_
          refine rr_icmp_ge F dX1_partOfRun_29 (tgt := 88) (by decide) ⟨by omega, by omega⟩ ⟨by omega, by omega⟩ (fun c_29 => ?_) (fun c_29 => ?_)
          · exfalso
            omega
          · refine rr_aload_n F dX1_partOfRun_32 rfl ?_
            refine rg_Comparison_runLengths F (by first | rfl | assumption) fl_X1_38 dX1_partOfRun_33 ?_
            refine rr_cell (k2 := 20) rfl ?_
            refine rr_iload F dX1_partOfRun_36 rfl ?_
            refine rr_bipush F dX1_partOfRun_38 (by decide) ?_
            refine rr_imul F dX1_partOfRun_40 ?_
            refine rr_iload F dX1_partOfRun_41 rfl ?_
            refine rr_iadd F dX1_partOfRun_43 ?_
            refine rr_iald F (N := 1681) (by first | rfl | assumption) (by omega) (by first | rfl | assumption) (by omega) dX1_partOfRun_44 ?_
            rw [em]
            refine rr_istore F dX1_partOfRun_45 (Nat.le_of_ble_eq_true rfl) rfl ?_
            refine rr_iload F dX1_partOfRun_47 rfl ?_
            refine rr_if_le F dX1_partOfRun_49 (tgt := 82) (by decide) ⟨by omega, by omega⟩ (fun c_49 => ?_) (fun c_49 => ?_)
            · refine rr_iinc F dX1_partOfRun_82 rfl rfl ?_
              refine rr_goto F dX1_partOfRun_85 (tgt := 20) (by decide) ?_
              refine rr_drop 6 ?_
              first
              | exact ihd (j + 1) _ (by omega) (by omega) (by omega) (by rw [pj, if_pos c_49, List.length_append, g4]; simp) (by omega)
              | exact ihd (j + 1) _ (by omega) (by omega) (by omega) (by rw [pj, if_neg (Int.not_lt.mpr c_49), List.append_nil, g4]) (by omega)
            · refine rr_iload_n F dX1_partOfRun_52 rfl ?_
              refine rr_iload_n F dX1_partOfRun_53 rfl ?_
              refine rr_icmp_ne F dX1_partOfRun_54 (tgt := 79) (by decide) ⟨by omega, by omega⟩ ⟨by omega, by omega⟩ (fun c_54 => ?_) (fun c_54 => ?_)
              · refine rr_iinc F dX1_partOfRun_79 rfl rfl ?_
                refine rr_iinc F dX1_partOfRun_82 rfl rfl ?_
                refine rr_goto F dX1_partOfRun_85 (tgt := 20) (by decide) ?_
                refine rr_drop 6 ?_
                first
                | exact ihd (j + 1) _ (by omega) (by omega) (by omega) (by rw [pj, if_pos c_49, List.length_append, g4]; simp) (by omega)
                | exact ihd (j + 1) _ (by omega) (by omega) (by omega) (by rw [pj, if_neg (Int.not_lt.mpr c_49), List.append_nil, g4]) (by omega)
              · refine rr_iload_n F dX1_partOfRun_57 rfl ?_
                refine rr_if_ne F dX1_partOfRun_58 (tgt := 66) (by decide) ⟨by omega, by omega⟩ (fun c_58 => ?_) (fun c_58 => ?_)
                · refine rr_iload_n F dX1_partOfRun_66 rfl ?_
                  refine rr_iconst F dX1_partOfRun_67 ?_
                  refine rr_icmp_ne F dX1_partOfRun_68 (tgt := 76) (by decide) ⟨by omega, by omega⟩ ⟨by omega, by omega⟩ (fun c_68 => ?_) (fun c_68 => ?_)
                  · refine rr_iload F dX1_partOfRun_76 rfl ?_
                    refine rr_iret F dX1_partOfRun_78 ?_
                    rw [← hpost]
                    refine ⟨_, rfl, ?_, rfl, rfl⟩
                    have at' := preR_at f (n := s_sz σ a) (m := s_sz σ b) (by omega) h2 (by omega) g2 (by omega) c_49
                    rw [prtF, eR, show r.toNat = (preR f (s_sz σ b) i j).length by omega, at']
                    first | (show i = (if p = 0 then i else _); rw [if_pos (by omega)]) | (show j = (if p = 0 then i else if p = 1 then j else _); rw [if_neg (by omega), if_pos (by omega)]) | (show f i j = (if p = 0 then i else if p = 1 then j else f i j); rw [if_neg (by omega), if_neg (by omega)])
                  · refine rr_iload F dX1_partOfRun_71 rfl ?_
                    refine rr_goto F dX1_partOfRun_73 (tgt := 78) (by decide) ?_
                    refine rr_iret F dX1_partOfRun_78 ?_
                    rw [← hpost]
                    refine ⟨_, rfl, ?_, rfl, rfl⟩
                    have at' := preR_at f (n := s_sz σ a) (m := s_sz σ b) (by omega) h2 (by omega) g2 (by omega) c_49
                    rw [prtF, eR, show r.toNat = (preR f (s_sz σ b) i j).length by omega, at']
                    first | (show i = (if p = 0 then i else _); rw [if_pos (by omega)]) | (show j = (if p = 0 then i else if p = 1 then j else _); rw [if_neg (by omega), if_pos (by omega)]) | (show f i j = (if p = 0 then i else if p = 1 then j else f i j); rw [if_neg (by omega), if_neg (by omega)])
                · refine rr_iload F dX1_partOfRun_61 rfl ?_
                  refine rr_goto F dX1_partOfRun_63 (tgt := 78) (by decide) ?_
                  refine rr_iret F dX1_partOfRun_78 ?_
                  rw [← hpost]
                  refine ⟨_, rfl, ?_, rfl, rfl⟩
                  have at' := preR_at f (n := s_sz σ a) (m := s_sz σ b) (by omega) h2 (by omega) g2 (by omega) c_49
                  rw [prtF, eR, show r.toNat = (preR f (s_sz σ b) i j).length by omega, at']
                  first | (show i = (if p = 0 then i else _); rw [if_pos (by omega)]) | (show j = (if p = 0 then i else if p = 1 then j else _); rw [if_neg (by omega), if_pos (by omega)]) | (show f i j = (if p = 0 then i else if p = 1 then j else f i j); rw [if_neg (by omega), if_neg (by omega)])
      refine rr_iload F dX1_partOfRun_5 rfl ?_
      refine rr_aload_n F dX1_partOfRun_7 rfl ?_
      refine rg_Comparison_left F (by first | rfl | assumption) fl_X1_28 dX1_partOfRun_8 ?_
      refine rr_cell (k2 := 22) rfl ?_
      refine rg_Page_size F (by first | rfl | assumption) fl_X1_88 dX1_partOfRun_11 ?_
      refine rr_icmp_ge F dX1_partOfRun_14 (tgt := 94) (by decide) ⟨by omega, by omega⟩ ⟨by omega, by omega⟩ (fun c_14 => ?_) (fun c_14 => ?_)
      · exfalso
        omega
      · refine rr_iconst F dX1_partOfRun_17 ?_
        refine rr_istore F dX1_partOfRun_18 (Nat.le_of_ble_eq_true rfl) rfl ?_
        exact inner _ 0 s rfl (by omega) (by omega) h4 h5
  refine rr_iconst F dX1_partOfRun_0 ?_
  refine rr_istore_n F dX1_partOfRun_1 (Nat.le_of_ble_eq_true rfl) rfl ?_
  refine rr_iconst F dX1_partOfRun_2 ?_
  refine rr_istore F dX1_partOfRun_3 (Nat.le_of_ble_eq_true rfl) rfl ?_
  exact loop _ 0 0 rfl (by omega) (by omega) rfl hr0
theorem same_trn (σ : sT) (b : Int) : σ.2.2 = σ.2.2 ∧ s_sz σ = s_sz σ ∧ s_lg σ = s_lg σ ∧ ∀ c, c ≠ b → s_tk σ c = s_tk σ c := ⟨rfl, rfl, rfl, fun _ _ => rfl⟩
theorem zero_trn (σ : sT) (b : Int) : ∀ i, 0 ≤ i → i < s_sz σ b → s_tk σ b ((i + 0) % s_sz σ b) = s_tk σ b i := fun i a c => by rw [show i + 0 = i by omega, Int.emod_eq_of_lt a c]
set_option maxHeartbeats 4000000 in
set_option maxRecDepth 100000 in
theorem mm_X7_runs {l : Launch} {g : gT} {σ : sT} {a b : Int} {I : IM} {L : LM} (ha : rg a) (hb : rg b) (hR : CR σ I L) (hW : WF σ) :
    Ct l yX7_runs cX7_runs 4 (some .int) 4 100 lyC g [.ref (g.2.1 0), .int (zI a), .int (zI b)] I L (pS CR (sp_runs σ a b, σ)) := by
  have hc := rP_cases σ a b
  refine Ct.of RX7 (by decide +kernel) rfl (Nat.le_of_ble_eq_true rfl) (fun x hx F => ?_)
  refine rr_aload_n F dX7_runs_0 rfl ?_
  refine rr_iload_n F dX7_runs_1 rfl ?_
  refine rr_iload_n F dX7_runs_2 rfl ?_
  refine rr_callVI F (ci := 7) (mm_X7_refusalOfPair ha hb hR hW) mf_X7_refusalOfPair ml_X7_142 ⟨by decide, by decide⟩ (by first | rfl | assumption) (by decide) rfl rfl (Nat.le_of_ble_eq_true rfl) dX7_runs_3 (fun r_3 I_3 L_3 h_3 => ?_)
  obtain ⟨e3, rfl, rfl⟩ := h_3
  refine rr_istore_n F dX7_runs_6 (Nat.le_of_ble_eq_true rfl) rfl ?_
  refine rr_iload_n F dX7_runs_7 rfl ?_
  refine rr_if_eq F dX7_runs_8 (tgt := 13) (by decide) ⟨by omega, by omega⟩ (fun c_8 => ?_) (fun c_8 => ?_)
  · refine rr_aload_n F dX7_runs_13 rfl ?_
    refine rg_BP_comparison F (by first | rfl | assumption) fl_X7_33 dX7_runs_14 ?_
    refine rr_cell (k2 := 18) rfl ?_
    refine rr_aload_n F dX7_runs_17 rfl ?_
    refine rg_BP_shelf F (by first | rfl | assumption) fl_X7_26 dX7_runs_18 ?_
    refine rr_cell (k2 := 4) rfl ?_
    refine rr_iload_n F dX7_runs_21 rfl ?_
    refine rr_iload_n F dX7_runs_22 rfl ?_
    refine rr_iconst F dX7_runs_23 ?_
    refine rr_callVV F (ci := 1) (mm_X1_compare hR hW (by omega) (by omega) (by omega) (by omega) (by omega) (by omega) (by omega) (by omega) (by omega) (same_trn σ b) (zero_trn σ b) hW) mf_X1_compare ml_X7_146 ⟨by decide, by decide⟩ (by first | rfl | assumption) (by decide) rfl rfl (Nat.le_of_ble_eq_true rfl) dX7_runs_24 (fun I_24 L_24 h_24 => ?_)
    obtain ⟨c1, c2, c3, c4⟩ := h_24
    refine rr_aload_n F dX7_runs_27 rfl ?_
    refine rg_BP_comparison F (by first | rfl | assumption) fl_X7_33 dX7_runs_28 ?_
    refine rr_cell (k2 := 18) rfl ?_
    refine rg_Comparison_runCount F (by first | rfl | assumption) fl_X7_150 dX7_runs_31 ?_
    refine rr_iret F dX7_runs_34 ?_
    refine ⟨_, rfl, ?_, hR.k c4⟩
    show _ = sp_runs σ a b
    rw [sp_runs, if_pos (by omega)]; exact c3
  · refine rr_iload_n F dX7_runs_11 rfl ?_
    refine rr_iret F dX7_runs_12 ?_
    refine ⟨_, rfl, ?_, hR⟩
    show _ = sp_runs σ a b
    rw [sp_runs, if_neg (by omega)]; exact e3
set_option maxHeartbeats 4000000 in
set_option maxRecDepth 100000 in
theorem mm_X7_run {l : Launch} {g : gT} {σ : sT} {a b r w : Int} {I : IM} {L : LM} (ha : rg a) (hb : rg b) (hr : rg r) (hw : rg w) (hR : CR σ I L) (hW : WF σ) :
    Ct l yX7_run cX7_run 6 (some .int) 4 100 lyC g [.ref (g.2.1 0), .int (zI a), .int (zI b), .int (zI r), .int (zI w)] I L (pS CR (sp_run σ a b r w, σ)) := by
  have hc := rP_cases σ a b
  have hr' := hr
  have hw' := hw
  unfold rg at hr' hw'
  refine Ct.of RX7 (by decide +kernel) rfl (Nat.le_of_ble_eq_true rfl) (fun x hx F => ?_)
  refine rr_iload_n F dX7_run_0 rfl ?_
  refine rr_if_lt F dX7_run_1 (tgt := 15) (by decide) ⟨by omega, by omega⟩ (fun c_1 => ?_) (fun c_1 => ?_)
  · refine rr_iconst F dX7_run_15 ?_
    refine rr_goto F dX7_run_16 (tgt := 25) (by decide) ?_
    refine rr_istore F dX7_run_25 (Nat.le_of_ble_eq_true rfl) rfl ?_
    refine rr_iload F dX7_run_27 rfl ?_
    refine rr_if_eq F dX7_run_29 (tgt := 35) (by decide) ⟨by omega, by omega⟩ (fun c_29 => ?_) (fun c_29 => ?_)
    · refine rr_aload_n F dX7_run_35 rfl ?_
      refine rg_BP_comparison F (by first | rfl | assumption) fl_X7_33 dX7_run_36 ?_
      refine rr_cell (k2 := 18) rfl ?_
      refine rr_aload_n F dX7_run_39 rfl ?_
      refine rg_BP_shelf F (by first | rfl | assumption) fl_X7_26 dX7_run_40 ?_
      refine rr_cell (k2 := 4) rfl ?_
      refine rr_iload_n F dX7_run_43 rfl ?_
      refine rr_iload_n F dX7_run_44 rfl ?_
      refine rr_iconst F dX7_run_45 ?_
      refine rr_callVV F (ci := 1) (mm_X1_compare hR hW (by omega) (by omega) (by omega) (by omega) (by omega) (by omega) (by omega) (by omega) (by omega) (same_trn σ b) (zero_trn σ b) hW) mf_X1_compare ml_X7_146 ⟨by decide, by decide⟩ (by first | rfl | assumption) (by decide) rfl rfl (Nat.le_of_ble_eq_true rfl) dX7_run_46 (fun I_46 L_46 h_46 => ?_)
      obtain ⟨c1, c2, c3, c4⟩ := h_46
      refine rr_aload_n F dX7_run_49 rfl ?_
      refine rg_BP_comparison F (by first | rfl | assumption) fl_X7_33 dX7_run_50 ?_
      refine rr_cell (k2 := 18) rfl ?_
      refine rr_iload_n F dX7_run_53 rfl ?_
      refine rr_iload F dX7_run_54 rfl ?_
      refine rr_callVI F (ci := 1) (mm_X1_partOfRun c1 hW c2 (by omega) (by omega) (by omega) (by omega)) mf_X1_partOfRun ml_X7_153 ⟨by decide, by decide⟩ (by first | rfl | assumption) (by decide) rfl rfl (Nat.le_of_ble_eq_true rfl) dX7_run_56 (fun r_56 I_56 L_56 h_56 => ?_)
      obtain ⟨e56, rfl, rfl⟩ := h_56
      refine rr_iret F dX7_run_59 ?_
      refine ⟨_, rfl, ?_, hR.k c4⟩
      show _ = sp_run σ a b r w
      rw [sp_run, if_neg (by omega), if_pos (by omega)]; exact e56
    · refine rr_iload F dX7_run_32 rfl ?_
      refine rr_iret F dX7_run_34 ?_
      refine ⟨_, rfl, ?_, hR⟩
      show _ = sp_run σ a b r w
      first | (rw [sp_run, if_pos (by omega)]; done) | (rw [sp_run, if_neg (by omega), if_neg (by omega)]; exact e3)
  · refine rr_iload F dX7_run_4 rfl ?_
    refine rr_if_lt F dX7_run_6 (tgt := 15) (by decide) ⟨by omega, by omega⟩ (fun c_6 => ?_) (fun c_6 => ?_)
    · refine rr_iconst F dX7_run_15 ?_
      refine rr_goto F dX7_run_16 (tgt := 25) (by decide) ?_
      refine rr_istore F dX7_run_25 (Nat.le_of_ble_eq_true rfl) rfl ?_
      refine rr_iload F dX7_run_27 rfl ?_
      refine rr_if_eq F dX7_run_29 (tgt := 35) (by decide) ⟨by omega, by omega⟩ (fun c_29 => ?_) (fun c_29 => ?_)
      · refine rr_aload_n F dX7_run_35 rfl ?_
        refine rg_BP_comparison F (by first | rfl | assumption) fl_X7_33 dX7_run_36 ?_
        refine rr_cell (k2 := 18) rfl ?_
        refine rr_aload_n F dX7_run_39 rfl ?_
        refine rg_BP_shelf F (by first | rfl | assumption) fl_X7_26 dX7_run_40 ?_
        refine rr_cell (k2 := 4) rfl ?_
        refine rr_iload_n F dX7_run_43 rfl ?_
        refine rr_iload_n F dX7_run_44 rfl ?_
        refine rr_iconst F dX7_run_45 ?_
        refine rr_callVV F (ci := 1) (mm_X1_compare hR hW (by omega) (by omega) (by omega) (by omega) (by omega) (by omega) (by omega) (by omega) (by omega) (same_trn σ b) (zero_trn σ b) hW) mf_X1_compare ml_X7_146 ⟨by decide, by decide⟩ (by first | rfl | assumption) (by decide) rfl rfl (Nat.le_of_ble_eq_true rfl) dX7_run_46 (fun I_46 L_46 h_46 => ?_)
        obtain ⟨c1, c2, c3, c4⟩ := h_46
        refine rr_aload_n F dX7_run_49 rfl ?_
        refine rg_BP_comparison F (by first | rfl | assumption) fl_X7_33 dX7_run_50 ?_
        refine rr_cell (k2 := 18) rfl ?_
        refine rr_iload_n F dX7_run_53 rfl ?_
        refine rr_iload F dX7_run_54 rfl ?_
        refine rr_callVI F (ci := 1) (mm_X1_partOfRun c1 hW c2 (by omega) (by omega) (by omega) (by omega)) mf_X1_partOfRun ml_X7_153 ⟨by decide, by decide⟩ (by first | rfl | assumption) (by decide) rfl rfl (Nat.le_of_ble_eq_true rfl) dX7_run_56 (fun r_56 I_56 L_56 h_56 => ?_)
        obtain ⟨e56, rfl, rfl⟩ := h_56
        refine rr_iret F dX7_run_59 ?_
        refine ⟨_, rfl, ?_, hR.k c4⟩
        show _ = sp_run σ a b r w
        rw [sp_run, if_neg (by omega), if_pos (by omega)]; exact e56
      · refine rr_iload F dX7_run_32 rfl ?_
        refine rr_iret F dX7_run_34 ?_
        refine ⟨_, rfl, ?_, hR⟩
        show _ = sp_run σ a b r w
        first | (rw [sp_run, if_pos (by omega)]; done) | (rw [sp_run, if_neg (by omega), if_neg (by omega)]; exact e3)
    · refine rr_iload F dX7_run_9 rfl ?_
      refine rr_iconst F dX7_run_11 ?_
      refine rr_icmp_le F dX7_run_12 (tgt := 19) (by decide) ⟨by omega, by omega⟩ ⟨by omega, by omega⟩ (fun c_12 => ?_) (fun c_12 => ?_)
      · refine rr_aload_n F dX7_run_19 rfl ?_
        refine rr_iload_n F dX7_run_20 rfl ?_
        refine rr_iload_n F dX7_run_21 rfl ?_
        refine rr_callVI F (ci := 7) (mm_X7_refusalOfPair ha hb hR hW) mf_X7_refusalOfPair ml_X7_142 ⟨by decide, by decide⟩ (by first | rfl | assumption) (by decide) rfl rfl (Nat.le_of_ble_eq_true rfl) dX7_run_22 (fun r_22 I_22 L_22 h_22 => ?_)
        obtain ⟨e3, rfl, rfl⟩ := h_22
        refine rr_istore F dX7_run_25 (Nat.le_of_ble_eq_true rfl) rfl ?_
        refine rr_iload F dX7_run_27 rfl ?_
        refine rr_if_eq F dX7_run_29 (tgt := 35) (by decide) ⟨by omega, by omega⟩ (fun c_29 => ?_) (fun c_29 => ?_)
        · refine rr_aload_n F dX7_run_35 rfl ?_
          refine rg_BP_comparison F (by first | rfl | assumption) fl_X7_33 dX7_run_36 ?_
          refine rr_cell (k2 := 18) rfl ?_
          refine rr_aload_n F dX7_run_39 rfl ?_
          refine rg_BP_shelf F (by first | rfl | assumption) fl_X7_26 dX7_run_40 ?_
          refine rr_cell (k2 := 4) rfl ?_
          refine rr_iload_n F dX7_run_43 rfl ?_
          refine rr_iload_n F dX7_run_44 rfl ?_
          refine rr_iconst F dX7_run_45 ?_
          refine rr_callVV F (ci := 1) (mm_X1_compare hR hW (by omega) (by omega) (by omega) (by omega) (by omega) (by omega) (by omega) (by omega) (by omega) (same_trn σ b) (zero_trn σ b) hW) mf_X1_compare ml_X7_146 ⟨by decide, by decide⟩ (by first | rfl | assumption) (by decide) rfl rfl (Nat.le_of_ble_eq_true rfl) dX7_run_46 (fun I_46 L_46 h_46 => ?_)
          obtain ⟨c1, c2, c3, c4⟩ := h_46
          refine rr_aload_n F dX7_run_49 rfl ?_
          refine rg_BP_comparison F (by first | rfl | assumption) fl_X7_33 dX7_run_50 ?_
          refine rr_cell (k2 := 18) rfl ?_
          refine rr_iload_n F dX7_run_53 rfl ?_
          refine rr_iload F dX7_run_54 rfl ?_
          refine rr_callVI F (ci := 1) (mm_X1_partOfRun c1 hW c2 (by omega) (by omega) (by omega) (by omega)) mf_X1_partOfRun ml_X7_153 ⟨by decide, by decide⟩ (by first | rfl | assumption) (by decide) rfl rfl (Nat.le_of_ble_eq_true rfl) dX7_run_56 (fun r_56 I_56 L_56 h_56 => ?_)
          obtain ⟨e56, rfl, rfl⟩ := h_56
          refine rr_iret F dX7_run_59 ?_
          refine ⟨_, rfl, ?_, hR.k c4⟩
          show _ = sp_run σ a b r w
          rw [sp_run, if_neg (by omega), if_pos (by omega)]; exact e56
        · refine rr_iload F dX7_run_32 rfl ?_
          refine rr_iret F dX7_run_34 ?_
          refine ⟨_, rfl, ?_, hR⟩
          show _ = sp_run σ a b r w
          first | (rw [sp_run, if_pos (by omega)]; done) | (rw [sp_run, if_neg (by omega), if_neg (by omega)]; exact e3)
      · refine rr_iconst F dX7_run_15 ?_
        refine rr_goto F dX7_run_16 (tgt := 25) (by decide) ?_
        refine rr_istore F dX7_run_25 (Nat.le_of_ble_eq_true rfl) rfl ?_
        refine rr_iload F dX7_run_27 rfl ?_
        refine rr_if_eq F dX7_run_29 (tgt := 35) (by decide) ⟨by omega, by omega⟩ (fun c_29 => ?_) (fun c_29 => ?_)
        · refine rr_aload_n F dX7_run_35 rfl ?_
          refine rg_BP_comparison F (by first | rfl | assumption) fl_X7_33 dX7_run_36 ?_
          refine rr_cell (k2 := 18) rfl ?_
          refine rr_aload_n F dX7_run_39 rfl ?_
          refine rg_BP_shelf F (by first | rfl | assumption) fl_X7_26 dX7_run_40 ?_
          refine rr_cell (k2 := 4) rfl ?_
          refine rr_iload_n F dX7_run_43 rfl ?_
          refine rr_iload_n F dX7_run_44 rfl ?_
          refine rr_iconst F dX7_run_45 ?_
          refine rr_callVV F (ci := 1) (mm_X1_compare hR hW (by omega) (by omega) (by omega) (by omega) (by omega) (by omega) (by omega) (by omega) (by omega) (same_trn σ b) (zero_trn σ b) hW) mf_X1_compare ml_X7_146 ⟨by decide, by decide⟩ (by first | rfl | assumption) (by decide) rfl rfl (Nat.le_of_ble_eq_true rfl) dX7_run_46 (fun I_46 L_46 h_46 => ?_)
          obtain ⟨c1, c2, c3, c4⟩ := h_46
          refine rr_aload_n F dX7_run_49 rfl ?_
          refine rg_BP_comparison F (by first | rfl | assumption) fl_X7_33 dX7_run_50 ?_
          refine rr_cell (k2 := 18) rfl ?_
          refine rr_iload_n F dX7_run_53 rfl ?_
          refine rr_iload F dX7_run_54 rfl ?_
          refine rr_callVI F (ci := 1) (mm_X1_partOfRun c1 hW c2 (by omega) (by omega) (by omega) (by omega)) mf_X1_partOfRun ml_X7_153 ⟨by decide, by decide⟩ (by first | rfl | assumption) (by decide) rfl rfl (Nat.le_of_ble_eq_true rfl) dX7_run_56 (fun r_56 I_56 L_56 h_56 => ?_)
          obtain ⟨e56, rfl, rfl⟩ := h_56
          refine rr_iret F dX7_run_59 ?_
          refine ⟨_, rfl, ?_, hR.k c4⟩
          show _ = sp_run σ a b r w
          rw [sp_run, if_neg (by omega), if_pos (by omega)]; exact e56
        · refine rr_iload F dX7_run_32 rfl ?_
          refine rr_iret F dX7_run_34 ?_
          refine ⟨_, rfl, ?_, hR⟩
          show _ = sp_run σ a b r w
          first | (rw [sp_run, if_pos (by omega)]; done) | (rw [sp_run, if_neg (by omega), if_neg (by omega)]; exact e3)
