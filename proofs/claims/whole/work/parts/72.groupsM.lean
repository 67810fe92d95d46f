/-! the model's groups -/
/-- the model's row of groups: of a held book its leader, of another itself -/
def MG (σ : sT) (G : Int → Int) (I : IM) : Prop := ∀ c, 0 ≤ c → c < 6 → I 16 c = if s_hd σ c = 1 then G c else c
theorem MR.m16 {σ : sT} {J J' : IM} {K : LM} (h : MR σ J K) (k : ∀ q, q ≠ 16 → J' q = J q) : MR σ J' K := by
  obtain ⟨h1, h2, h3, h4⟩ := h
  unfold MR
  rw [k 0 (by omega), k 1 (by omega), k 2 (by omega), k 3 (by omega), k 4 (by omega), k 5 (by omega)]
  exact ⟨h1, h2, h3, h4⟩
theorem MR.mf {σ : sT} {J J' : IM} {K : LM} (h : MR σ J K) (k : ∀ q, q ≠ 0 → J' q = J q) (k0 : ∀ j, j ≠ 26 → J' 0 j = J 0 j) : MR σ J' K := by
  obtain ⟨h1, h2, h3, h4, h5, h6, h7, h8, h9⟩ := h
  unfold MR
  rw [k 1 (by omega), k 2 (by omega), k 3 (by omega), k 4 (by omega), k 5 (by omega), k0 1 (by omega), k0 11 (by omega), k0 7 (by omega), k0 8 (by omega), k0 9 (by omega), k0 10 (by omega)]
  exact ⟨h1, h2, h3, h4, h5, h6, h7, h8, h9⟩
set_option maxHeartbeats 4000000 in
set_option maxRecDepth 100000 in
theorem mm_X8_join {l : Launch} {g : gT} {G : Int → Int} {u v : Int} {I : IM} {L : LM} (hu : rg u) (hv : rg v) (hG : ∀ c, 0 ≤ c → c < 6 → I 16 c = G c) (hr : ∀ c, 0 ≤ c → c < 6 → rg (G c)) :
    Ct l yX8_join cX8_join 5 none 0 0 lyM g [.ref (g.2.1 0), .int (zI u), .int (zI v)] I L (pV (fun I' L' => (∀ c, 0 ≤ c → c < 6 → I' 16 c = jnF G u v c) ∧ (∀ q, q ≠ 16 → I' q = I q) ∧ L = L')) := by
  have hu' := hu
  have hv' := hv
  unfold rg at hu' hv'
  refine Ct.of RX8 (by decide +kernel) rfl (Nat.le_of_ble_eq_true rfl) (fun x hx F => ?_)
  have loop : ∀ (n : Nat) (i w : Int) (I1 : IM), n = (6 - i).toNat → 0 ≤ i → i ≤ 6 → w = min u v → (∀ c, 0 ≤ c → c < i → I1 16 c = jnF G u v c) → (∀ c, i ≤ c → c < 6 → I1 16 c = G c) → (∀ q, q ≠ 16 → I1 q = I q) → Rn x lyM g (pV (fun I' L' => (∀ c, 0 ≤ c → c < 6 → I' 16 c = jnF G u v c) ∧ (∀ q, q ≠ 16 → I' q = I q) ∧ L = L')) 14 [vr g 0, vn u, vn v, vn w, vn i] [] I1 L := by
    intro n
    induction n with
    | zero =>
      intro i w I1 h1 h2 h3 hw h4 h5 h6
      refine rr_iload F dX8_join_14 rfl ?_
      refine rr_bipush F dX8_join_16 (by decide) ?_
      refine rr_icmp_ge F dX8_join_18 (tgt := 67) (by decide) ⟨by omega, by omega⟩ ⟨by omega, by omega⟩ (fun c_18 => ?_) (fun c_18 => ?_)
      · refine rr_vret F dX8_join_67 ?_
        exact ⟨rfl, fun c a b => h4 c a (by omega), h6, rfl⟩
      · exfalso
        omega
    | succ n ih =>
      intro i w I1 h1 h2 h3 hw h4 h5 h6
      have e := h5 i (by omega)
      have er := hr i h2
      have st : ∀ y : Int, y = jnF G u v i → Rn x lyM g (pV (fun I' L' => (∀ c, 0 ≤ c → c < 6 → I' 16 c = jnF G u v c) ∧ (∀ q, q ≠ 16 → I' q = I q) ∧ L = L')) 61 [vr g 0, vn u, vn v, vn w, vn i] [] (up2 I1 16 i y) L := by
        intro y hy
        refine rr_iinc F dX8_join_61 rfl rfl ?_
        refine rr_goto F dX8_join_64 (tgt := 14) (by decide) ?_
        refine ih (i + 1) w _ (by omega) (by omega) (by omega) hw (fun c a b => ?_) (fun c a b => ?_) (fun q a => ?_)
        · by_cases z : c = i
          · subst z; rw [up2_same, hy]
          · rw [up2_ne _ _ _ z]; exact h4 c a (by omega)
        · rw [up2_ne _ _ _ (by omega)]; exact h5 c (by omega) b
        · rw [up2_cell _ _ _ a]; exact h6 q a
      refine rr_iload F dX8_join_14 rfl ?_
      refine rr_bipush F dX8_join_16 (by decide) ?_
      refine rr_icmp_ge F dX8_join_18 (tgt := 67) (by decide) ⟨by omega, by omega⟩ ⟨by omega, by omega⟩ (fun c_18 => ?_) (fun c_18 => ?_)
      · exfalso
        omega
      · refine rr_aload_n F dX8_join_21 rfl ?_
        refine rg_Model_groups F (by first | rfl | assumption) fl_X8_83 dX8_join_22 ?_
        refine rr_cell (k2 := 16) rfl ?_
        refine rr_iload F dX8_join_25 rfl ?_
        refine rr_aload_n F dX8_join_27 rfl ?_
        refine rg_Model_groups F (by first | rfl | assumption) fl_X8_83 dX8_join_28 ?_
        refine rr_cell (k2 := 16) rfl ?_
        refine rr_iload F dX8_join_31 rfl ?_
        refine rr_iald F (N := 6) (by first | rfl | assumption) (by omega) (by first | rfl | assumption) (by omega) dX8_join_33 ?_
        rw [e (by omega)]
        refine rr_iload_n F dX8_join_34 rfl ?_
        refine rr_icmp_eq F dX8_join_35 (tgt := 49) (by decide) (by exact er (by omega)) (by exact hu) (fun c_35 => ?_) (fun c_35 => ?_)
        · refine rr_iload_n F dX8_join_49 rfl ?_
          refine rr_goto F dX8_join_50 (tgt := 60) (by decide) ?_
          refine rr_iast F (N := 6) (by first | rfl | assumption) (by omega) (by first | rfl | assumption) (by omega) dX8_join_60 ?_
          first | exact st _ (by rw [jnF, if_pos (by omega)]; exact hw) | exact st _ (by rw [jnF, if_neg (by omega)]; exact e (by omega))
        · refine rr_aload_n F dX8_join_38 rfl ?_
          refine rg_Model_groups F (by first | rfl | assumption) fl_X8_83 dX8_join_39 ?_
          refine rr_cell (k2 := 16) rfl ?_
          refine rr_iload F dX8_join_42 rfl ?_
          refine rr_iald F (N := 6) (by first | rfl | assumption) (by omega) (by first | rfl | assumption) (by omega) dX8_join_44 ?_
          rw [e (by omega)]
          refine rr_iload_n F dX8_join_45 rfl ?_
          refine rr_icmp_ne F dX8_join_46 (tgt := 53) (by decide) (by exact er (by omega)) (by exact hv) (fun c_46 => ?_) (fun c_46 => ?_)
          · refine rr_aload_n F dX8_join_53 rfl ?_
            refine rg_Model_groups F (by first | rfl | assumption) fl_X8_83 dX8_join_54 ?_
            refine rr_cell (k2 := 16) rfl ?_
            refine rr_iload F dX8_join_57 rfl ?_
            refine rr_iald F (N := 6) (by first | rfl | assumption) (by omega) (by first | rfl | assumption) (by omega) dX8_join_59 ?_
            refine rr_iast F (N := 6) (by first | rfl | assumption) (by omega) (by first | rfl | assumption) (by omega) dX8_join_60 ?_
            first | exact st _ (by rw [jnF, if_pos (by omega)]; exact hw) | exact st _ (by rw [jnF, if_neg (by omega)]; exact e (by omega))
          · refine rr_iload_n F dX8_join_49 rfl ?_
            refine rr_goto F dX8_join_50 (tgt := 60) (by decide) ?_
            refine rr_iast F (N := 6) (by first | rfl | assumption) (by omega) (by first | rfl | assumption) (by omega) dX8_join_60 ?_
            first | exact st _ (by rw [jnF, if_pos (by omega)]; exact hw) | exact st _ (by rw [jnF, if_neg (by omega)]; exact e (by omega))
  refine rr_iload_n F dX8_join_0 rfl ?_
  refine rr_iload_n F dX8_join_1 rfl ?_
  refine rr_icmp_ge F dX8_join_2 (tgt := 9) (by decide) ⟨by omega, by omega⟩ ⟨by omega, by omega⟩ (fun c_2 => ?_) (fun c_2 => ?_)
  · refine rr_iload_n F dX8_join_9 rfl ?_
    refine rr_istore_n F dX8_join_10 (Nat.le_of_ble_eq_true rfl) rfl ?_
    refine rr_iconst F dX8_join_11 ?_
    refine rr_istore F dX8_join_12 (Nat.le_of_ble_eq_true rfl) rfl ?_
    exact loop _ 0 _ I rfl (by omega) (by omega) (by omega) (fun c a b => absurd b (by omega)) (fun c a b => hG c a b) (fun q a => rfl)
  · refine rr_iload_n F dX8_join_5 rfl ?_
    refine rr_goto F dX8_join_6 (tgt := 10) (by decide) ?_
    refine rr_istore_n F dX8_join_10 (Nat.le_of_ble_eq_true rfl) rfl ?_
    refine rr_iconst F dX8_join_11 ?_
    refine rr_istore F dX8_join_12 (Nat.le_of_ble_eq_true rfl) rfl ?_
    exact loop _ 0 _ I rfl (by omega) (by omega) (by omega) (fun c a b => absurd b (by omega)) (fun c a b => hG c a b) (fun q a => rfl)
set_option maxHeartbeats 4000000 in
set_option maxRecDepth 100000 in
theorem mm_X8_findGroups {l : Launch} {g : gT} {σ : sT} {I : IM} {L : LM} (hR : MR σ I L) (hW : WF σ) :
    Ct l yX8_findGroups cX8_findGroups 3 none 4 103 lyM g [.ref (g.2.1 0)] I L (pV (fun I' L' => MG σ (grp σ).1 I' ∧ I' 0 26 = (grp σ).2 ∧ MR σ I' L')) := by
  have w3 := hW.2.2.1
  have wb := hW.2.2.2.2.2.2.2.2.2.1
  refine Ct.of RX8 (by decide +kernel) rfl (Nat.le_of_ble_eq_true rfl) (fun x hx F => ?_)
  generalize hpost : (pV (fun (I' : IM) (L' : LM) => MG σ (grp σ).1 I' ∧ I' 0 26 = (grp σ).2 ∧ MR σ I' L')) = post
  have loopA : ∀ (n : Nat) (a : Int) (s : gS) (I1 : IM), n = (6 - a).toNat → 0 ≤ a → a ≤ 6 → GI σ s.1 → MG σ s.1 I1 → I1 0 26 = s.2 → MR σ I1 L → alG σ n a s = grp σ → Rn x lyM g post 28 [vr g 0, vn a, none] [] I1 L := by
    intro n
    induction n with
    | zero =>
      intro a s I1 h1 h2 h3 h4 h5 h6 h8 h9
      refine rr_iload_n F dX8_findGroups_28 rfl ?_
      refine rr_bipush F dX8_findGroups_29 (by decide) ?_
      refine rr_icmp_ge F dX8_findGroups_31 (tgt := 113) (by decide) ⟨by omega, by omega⟩ ⟨by omega, by omega⟩ (fun c_31 => ?_) (fun c_31 => ?_)
      · refine rr_vret F dX8_findGroups_113 ?_
        rw [← hpost]
        rw [alG] at h9
        exact ⟨rfl, by rw [← h9]; exact h5, by rw [h6, h9], h8⟩
      · exfalso
        omega
    | succ n ih =>
      intro a s I1 h1 h2 h3 h4 h5 h6 h8 h9
      rw [alG] at h9
      have inner : ∀ (m : Nat) (b : Int) (s : gS) (I2 : IM), m = (6 - b).toNat → a < b → b ≤ 6 → GI σ s.1 → MG σ s.1 I2 → I2 0 26 = s.2 → MR σ I2 L → alG σ n (a + 1) (rwG σ a m b s) = grp σ → Rn x lyM g post 38 [vr g 0, vn a, vn b] [] I2 L := by
        intro m
        induction m with
        | zero =>
          intro b s I2 g1 g2 g3 g4 g5 g6 g8 g9
          refine rr_iload_n F dX8_findGroups_38 rfl ?_
          refine rr_bipush F dX8_findGroups_39 (by decide) ?_
          refine rr_icmp_ge F dX8_findGroups_41 (tgt := 107) (by decide) ⟨by omega, by omega⟩ ⟨by omega, by omega⟩ (fun c_41 => ?_) (fun c_41 => ?_)
          · refine rr_iinc F dX8_findGroups_107 rfl rfl ?_
            refine rr_goto F dX8_findGroups_110 (tgt := 28) (by decide) ?_
            refine rr_drop 2 ?_
            exact ih (a + 1) s I2 (by omega) (by omega) (by omega) g4 g5 g6 g8 g9
          · exfalso
            omega
        | succ m ihm =>
          intro b s I2 g1 g2 g3 g4 g5 g6 g8 g9
          rw [rwG] at g9
          have ea := (MRb g8 (b := a) (by omega) (by omega)).1
          have eb := (MRb g8 (b := b) (by omega) (by omega)).1
          have wa := w3 a
          have wbb := w3 b
          have el : I2 0 10 = s_bd σ := g8.2.2.2.2.2.2.2.1
          have sb := sB_b hW a b 0 0 (by omega)
          have skip : ∀ (I3 : IM), kM I2 L I3 L → ¬ ((s_hd σ a = 1 ∧ s_hd σ b = 1) ∧ s_bd σ ≤ sB σ a b 0 0) → Rn x lyM g post 101 [vr g 0, vn a, vn b] [] I3 L := by
            intro I3 k3 hno
            rw [stG, if_neg hno] at g9
            refine rr_iinc F dX8_findGroups_101 rfl rfl ?_
            refine rr_goto F dX8_findGroups_104 (tgt := 38) (by decide) ?_
            exact ihm (b + 1) s I3 (by omega) (by omega) (by omega) g4 (fun c u v => by rw [k3.1 16 (by omega) (by omega)]; exact g5 c u v) (by rw [k3.2.1 26 (by omega)]; exact g6) (g8.k k3) g9
          refine rr_iload_n F dX8_findGroups_38 rfl ?_
          refine rr_bipush F dX8_findGroups_39 (by decide) ?_
          refine rr_icmp_ge F dX8_findGroups_41 (tgt := 107) (by decide) ⟨by omega, by omega⟩ ⟨by omega, by omega⟩ (fun c_41 => ?_) (fun c_41 => ?_)
          · exfalso
            omega
          · refine rr_aload_n F dX8_findGroups_44 rfl ?_
            refine rg_Model_is F (by first | rfl | assumption) fl_X8_13 dX8_findGroups_45 ?_
            refine rr_cell (k2 := 2) rfl ?_
            refine rr_iload_n F dX8_findGroups_48 rfl ?_
            refine rr_zald F (N := 6) (by first | rfl | assumption) (by omega) (by first | rfl | assumption) (by omega) dX8_findGroups_49 ?_
            refine rr_if_eq F dX8_findGroups_50 (tgt := 101) (by decide) ⟨by omega, by omega⟩ (fun c_50 => ?_) (fun c_50 => ?_)
            · first
              | (rw [stG, if_pos (by omega)] at g9
                 have g4' := GI_st (s := s) (a := a) (b := b) (by omega) (by omega) (by omega) (by omega) g4
                 rw [stG, if_pos (by omega)] at g4'
                 refine rr_iinc F dX8_findGroups_101 rfl rfl ?_
                 refine rr_goto F dX8_findGroups_104 (tgt := 38) (by decide) ?_
                 refine ihm (b + 1) _ I_98 (by omega) (by omega) (by omega) g4' (fun c u v => ?_) (by rw [j2 0 (by omega), up2_same]) (((g8.k c5).mf (fun q u => by rw [up2_cell _ _ _ u]) (fun j u => by rw [up2_ne _ _ _ u])).m16 j2) g9
                 · rw [j1 c u v]
                   show (if (if s_hd σ c = 1 then s.1 c else c) = s.1 a ∨ (if s_hd σ c = 1 then s.1 c else c) = s.1 b then min (s.1 a) (s.1 b) else (if s_hd σ c = 1 then s.1 c else c)) = if s_hd σ c = 1 then (if s.1 c = s.1 a ∨ s.1 c = s.1 b then min (s.1 a) (s.1 b) else s.1 c) else c
                   by_cases z : s_hd σ c = 1
                   · rw [if_pos z, if_pos z]
                   · rw [if_neg z, if_neg z, if_neg]
                     rintro (y | y)
                     · rw [y] at z; exact z ra.2.1
                     · rw [y] at z; exact z rb.2.1)
              | exact skip I_65 c5 (by omega)
              | exact skip _ kM.rf (by omega)
            · refine rr_aload_n F dX8_findGroups_53 rfl ?_
              refine rg_Model_is F (by first | rfl | assumption) fl_X8_13 dX8_findGroups_54 ?_
              refine rr_cell (k2 := 2) rfl ?_
              refine rr_iload_n F dX8_findGroups_57 rfl ?_
              refine rr_zald F (N := 6) (by first | rfl | assumption) (by omega) (by first | rfl | assumption) (by omega) dX8_findGroups_58 ?_
              refine rr_if_eq F dX8_findGroups_59 (tgt := 101) (by decide) ⟨by omega, by omega⟩ (fun c_59 => ?_) (fun c_59 => ?_)
              · first
                | (rw [stG, if_pos (by omega)] at g9
                   have g4' := GI_st (s := s) (a := a) (b := b) (by omega) (by omega) (by omega) (by omega) g4
                   rw [stG, if_pos (by omega)] at g4'
                   refine rr_iinc F dX8_findGroups_101 rfl rfl ?_
                   refine rr_goto F dX8_findGroups_104 (tgt := 38) (by decide) ?_
                   refine ihm (b + 1) _ I_98 (by omega) (by omega) (by omega) g4' (fun c u v => ?_) (by rw [j2 0 (by omega), up2_same]) (((g8.k c5).mf (fun q u => by rw [up2_cell _ _ _ u]) (fun j u => by rw [up2_ne _ _ _ u])).m16 j2) g9
                   · rw [j1 c u v]
                     show (if (if s_hd σ c = 1 then s.1 c else c) = s.1 a ∨ (if s_hd σ c = 1 then s.1 c else c) = s.1 b then min (s.1 a) (s.1 b) else (if s_hd σ c = 1 then s.1 c else c)) = if s_hd σ c = 1 then (if s.1 c = s.1 a ∨ s.1 c = s.1 b then min (s.1 a) (s.1 b) else s.1 c) else c
                     by_cases z : s_hd σ c = 1
                     · rw [if_pos z, if_pos z]
                     · rw [if_neg z, if_neg z, if_neg]
                       rintro (y | y)
                       · rw [y] at z; exact z ra.2.1
                       · rw [y] at z; exact z rb.2.1)
                | exact skip I_65 c5 (by omega)
                | exact skip _ kM.rf (by omega)
              · refine rr_aload_n F dX8_findGroups_62 rfl ?_
                refine rr_iload_n F dX8_findGroups_63 rfl ?_
                refine rr_iload_n F dX8_findGroups_64 rfl ?_
                refine rr_callVI F (ci := 8) (mm_X8_findScore g8 hW (by omega) (by omega) (by omega) (by omega) (by omega)) mf_X8_findScore ml_X8_169 ⟨by decide, by decide⟩ (by first | rfl | assumption) (by decide) rfl rfl (Nat.le_of_ble_eq_true rfl) dX8_findGroups_65 (fun r_65 I_65 L_65 h_65 => ?_)
                obtain ⟨c1, c2, c3, c4, c5⟩ := h_65
                obtain ⟨c6, c7, c8⟩ := id c5
                subst c8
                have el2 : I_65 0 10 = s_bd σ := by rw [c7 10 (by omega)]; exact el
                have e16 : I_65 16 = I2 16 := c6 16 (by omega) (by omega)
                have e26 : I_65 0 26 = s.2 := by rw [c7 26 (by omega)]; exact g6
                refine rr_aload_n F dX8_findGroups_68 rfl ?_
                refine rg_Model_bound F (by first | rfl | assumption) fl_X8_40 dX8_findGroups_69 ?_
                rw [el2]
                refine rr_icmp_lt F dX8_findGroups_72 (tgt := 101) (by decide) ⟨by omega, by omega⟩ ⟨by omega, by omega⟩ (fun c_72 => ?_) (fun c_72 => ?_)
                · first
                  | (rw [stG, if_pos (by omega)] at g9
                     have g4' := GI_st (s := s) (a := a) (b := b) (by omega) (by omega) (by omega) (by omega) g4
                     rw [stG, if_pos (by omega)] at g4'
                     refine rr_iinc F dX8_findGroups_101 rfl rfl ?_
                     refine rr_goto F dX8_findGroups_104 (tgt := 38) (by decide) ?_
                     refine ihm (b + 1) _ I_98 (by omega) (by omega) (by omega) g4' (fun c u v => ?_) (by rw [j2 0 (by omega), up2_same]) (((g8.k c5).mf (fun q u => by rw [up2_cell _ _ _ u]) (fun j u => by rw [up2_ne _ _ _ u])).m16 j2) g9
                     · rw [j1 c u v]
                       show (if (if s_hd σ c = 1 then s.1 c else c) = s.1 a ∨ (if s_hd σ c = 1 then s.1 c else c) = s.1 b then min (s.1 a) (s.1 b) else (if s_hd σ c = 1 then s.1 c else c)) = if s_hd σ c = 1 then (if s.1 c = s.1 a ∨ s.1 c = s.1 b then min (s.1 a) (s.1 b) else s.1 c) else c
                       by_cases z : s_hd σ c = 1
                       · rw [if_pos z, if_pos z]
                       · rw [if_neg z, if_neg z, if_neg]
                         rintro (y | y)
                         · rw [y] at z; exact z ra.2.1
                         · rw [y] at z; exact z rb.2.1)
                  | exact skip I_65 c5 (by omega)
                  | exact skip _ kM.rf (by omega)
                · refine rr_aload_n F dX8_findGroups_75 rfl ?_
                  refine rr_dup F dX8_findGroups_76 rfl ?_
                  refine rg_Model_links F (by first | rfl | assumption) fl_X8_172 dX8_findGroups_77 ?_
                  rw [e26]
                  refine rr_iconst F dX8_findGroups_80 ?_
                  refine rr_iadd F dX8_findGroups_81 ?_
                  refine rp_Model_links F (by first | rfl | assumption) fl_X8_172 dX8_findGroups_82 ?_
                  refine rr_aload_n F dX8_findGroups_85 rfl ?_
                  refine rr_aload_n F dX8_findGroups_86 rfl ?_
                  refine rg_Model_groups F (by first | rfl | assumption) fl_X8_83 dX8_findGroups_87 ?_
                  refine rr_cell (k2 := 16) rfl ?_
                  refine rr_iload_n F dX8_findGroups_90 rfl ?_
                  refine rr_iald F (N := 6) (by first | rfl | assumption) (by omega) (by first | rfl | assumption) (by omega) dX8_findGroups_91 ?_
                  refine rr_aload_n F dX8_findGroups_92 rfl ?_
                  refine rg_Model_groups F (by first | rfl | assumption) fl_X8_83 dX8_findGroups_93 ?_
                  refine rr_cell (k2 := 16) rfl ?_
                  refine rr_iload_n F dX8_findGroups_96 rfl ?_
                  refine rr_iald F (N := 6) (by first | rfl | assumption) (by omega) (by first | rfl | assumption) (by omega) dX8_findGroups_97 ?_
                  rw [up2_cell _ _ _ (show (16 : Nat) ≠ 0 by decide), e16, g5 a (by omega) (by omega), g5 b (by omega) (by omega), if_pos (show s_hd σ a = 1 by omega), if_pos (show s_hd σ b = 1 by omega)]
                  have ra := (g4 a (by omega) (by omega)).1 (by omega)
                  have rb := (g4 b (by omega) (by omega)).1 (by omega)
                  refine rr_callVV F (ci := 8) (mm_X8_join (G := fun c => if s_hd σ c = 1 then s.1 c else c) ⟨by omega, by omega⟩ ⟨by omega, by omega⟩ (fun c u v => by rw [up2_cell _ _ _ (by decide), e16]; exact g5 c u v) (fun c u v => by have := GI_rg g4 u v; show rg (if s_hd σ c = 1 then s.1 c else c); split <;> exact ⟨by omega, by omega⟩)) mf_X8_join ml_X8_175 ⟨by decide, by decide⟩ (by first | rfl | assumption) (by decide) rfl rfl (Nat.le_of_ble_eq_true rfl) dX8_findGroups_98 (fun I_98 L_98 h_98 => ?_)
                  obtain ⟨j1, j2, rfl⟩ := h_98
                  first
                  | (rw [stG, if_pos (by omega)] at g9
                     have g4' := GI_st (s := s) (a := a) (b := b) (by omega) (by omega) (by omega) (by omega) g4
                     rw [stG, if_pos (by omega)] at g4'
                     refine rr_iinc F dX8_findGroups_101 rfl rfl ?_
                     refine rr_goto F dX8_findGroups_104 (tgt := 38) (by decide) ?_
                     refine ihm (b + 1) _ I_98 (by omega) (by omega) (by omega) g4' (fun c u v => ?_) (by rw [j2 0 (by omega), up2_same]) (((g8.k c5).mf (fun q u => by rw [up2_cell _ _ _ u]) (fun j u => by rw [up2_ne _ _ _ u])).m16 j2) g9
                     · rw [j1 c u v]
                       show (if (if s_hd σ c = 1 then s.1 c else c) = s.1 a ∨ (if s_hd σ c = 1 then s.1 c else c) = s.1 b then min (s.1 a) (s.1 b) else (if s_hd σ c = 1 then s.1 c else c)) = if s_hd σ c = 1 then (if s.1 c = s.1 a ∨ s.1 c = s.1 b then min (s.1 a) (s.1 b) else s.1 c) else c
                       by_cases z : s_hd σ c = 1
                       · rw [if_pos z, if_pos z]
                       · rw [if_neg z, if_neg z, if_neg]
                         rintro (y | y)
                         · rw [y] at z; exact z ra.2.1
                         · rw [y] at z; exact z rb.2.1)
                  | exact skip I_65 c5 (by omega)
                  | exact skip _ kM.rf (by omega)
      refine rr_iload_n F dX8_findGroups_28 rfl ?_
      refine rr_bipush F dX8_findGroups_29 (by decide) ?_
      refine rr_icmp_ge F dX8_findGroups_31 (tgt := 113) (by decide) ⟨by omega, by omega⟩ ⟨by omega, by omega⟩ (fun c_31 => ?_) (fun c_31 => ?_)
      · exfalso
        omega
      · refine rr_iload_n F dX8_findGroups_34 rfl ?_
        refine rr_iconst F dX8_findGroups_35 ?_
        refine rr_iadd F dX8_findGroups_36 ?_
        refine rr_istore_n F dX8_findGroups_37 (Nat.le_of_ble_eq_true rfl) rfl ?_
        exact inner _ (a + 1) s I1 rfl (by omega) (by omega) h4 h5 h6 h8 (by rw [show (6 - (a + 1)) = 5 - a by omega]; exact h9)
  have loopI : ∀ (n : Nat) (i : Int) (I1 : IM), n = (6 - i).toNat → 0 ≤ i → i ≤ 6 → (∀ c, 0 ≤ c → c < i → I1 16 c = c) → I1 0 26 = 0 → MR σ I1 L → Rn x lyM g post 7 [vr g 0, vn i, none] [] I1 L := by
    intro n
    induction n with
    | zero =>
      intro i I1 h1 h2 h3 h4 h5 h6
      refine rr_iload_n F dX8_findGroups_7 rfl ?_
      refine rr_bipush F dX8_findGroups_8 (by decide) ?_
      refine rr_icmp_ge F dX8_findGroups_10 (tgt := 26) (by decide) ⟨by omega, by omega⟩ ⟨by omega, by omega⟩ (fun c_10 => ?_) (fun c_10 => ?_)
      · refine rr_iconst F dX8_findGroups_26 ?_
        refine rr_istore_n F dX8_findGroups_27 (Nat.le_of_ble_eq_true rfl) rfl ?_
        refine loopA 6 0 (g0F σ, 0) I1 (by omega) (by omega) (by omega) (GI_0 σ) (fun c u v => ?_) h5 h6 rfl
        rw [h4 c u (by omega)]
        show c = if s_hd σ c = 1 then (if s_hd σ c = 1 then c else -1) else c
        by_cases z : s_hd σ c = 1
        · rw [if_pos z, if_pos z]
        · rw [if_neg z]
      · exfalso
        omega
    | succ n ih =>
      intro i I1 h1 h2 h3 h4 h5 h6
      refine rr_iload_n F dX8_findGroups_7 rfl ?_
      refine rr_bipush F dX8_findGroups_8 (by decide) ?_
      refine rr_icmp_ge F dX8_findGroups_10 (tgt := 26) (by decide) ⟨by omega, by omega⟩ ⟨by omega, by omega⟩ (fun c_10 => ?_) (fun c_10 => ?_)
      · exfalso
        omega
      · refine rr_aload_n F dX8_findGroups_13 rfl ?_
        refine rg_Model_groups F (by first | rfl | assumption) fl_X8_83 dX8_findGroups_14 ?_
        refine rr_cell (k2 := 16) rfl ?_
        refine rr_iload_n F dX8_findGroups_17 rfl ?_
        refine rr_iload_n F dX8_findGroups_18 rfl ?_
        refine rr_iast F (N := 6) (by first | rfl | assumption) (by omega) (by first | rfl | assumption) (by omega) dX8_findGroups_19 ?_
        refine rr_iinc F dX8_findGroups_20 rfl rfl ?_
        refine rr_goto F dX8_findGroups_23 (tgt := 7) (by decide) ?_
        refine ih (i + 1) _ (by omega) (by omega) (by omega) (fun c u w => ?_) (by rw [up2_cell _ _ _ (by omega)]; exact h5) (h6.m16 (fun q u => by rw [up2_cell _ _ _ u]))
        by_cases z : c = i
        · subst z; rw [up2_same]
        · rw [up2_ne _ _ _ z]; exact h4 c u (by omega)
  refine rr_aload_n F dX8_findGroups_0 rfl ?_
  refine rr_iconst F dX8_findGroups_1 ?_
  refine rp_Model_links F (by first | rfl | assumption) fl_X8_172 dX8_findGroups_2 ?_
  refine rr_iconst F dX8_findGroups_5 ?_
  refine rr_istore_n F dX8_findGroups_6 (Nat.le_of_ble_eq_true rfl) rfl ?_
  exact loopI _ 0 _ rfl (by omega) (by omega) (fun c u v => absurd v (by omega)) (up2_same _ _ _ _) (hR.mf (fun q u => by rw [up2_cell _ _ _ u]) (fun j u => by rw [up2_ne _ _ _ u]))
set_option maxHeartbeats 4000000 in
set_option maxRecDepth 100000 in
theorem mm_X8_group {l : Launch} {g : gT} {σ : sT} {b : Int} {I : IM} {L : LM} (hb : rg b) (hR : MR σ I L) (hW : WF σ) :
    Ct l yX8_group cX8_group 2 (some .int) 5 125 lyM g [.ref (g.2.1 0), .int (zI b)] I L (pS MR (sp_group σ b, σ)) := by
  have hc := rB_cases σ b
  have w3 := hW.2.2.1 b
  refine Ct.of RX8 (by decide +kernel) rfl (Nat.le_of_ble_eq_true rfl) (fun x hx F => ?_)
  refine rr_iload_n F dX8_group_0 rfl ?_
  refine rr_callSI F (mm_X8_isNumber hb) mf_X8_isNumber ml_X8_123 ⟨by decide, by decide⟩ rfl (Nat.le_of_ble_eq_true rfl) dX8_group_1 (fun r_1 I_1 L_1 h_1 => ?_)
  obtain ⟨e3, rfl, rfl⟩ := h_1
  refine rr_if_ne F dX8_group_4 (tgt := 9) (by decide) ⟨by omega, by omega⟩ (fun c_4 => ?_) (fun c_4 => ?_)
  · refine rr_aload_n F dX8_group_9 rfl ?_
    refine rg_Model_is F (by first | rfl | assumption) fl_X8_13 dX8_group_10 ?_
    refine rr_cell (k2 := 2) rfl ?_
    refine rr_iload_n F dX8_group_13 rfl ?_
    refine rr_zald F (N := 6) (by first | rfl | assumption) (by omega) (by first | rfl | assumption) (by omega) dX8_group_14 ?_
    have e1 := (MRb hR (b := b) (by omega) (by omega)).1
    refine rr_if_ne F dX8_group_15 (tgt := 21) (by decide) ⟨by omega, by omega⟩ (fun c_15 => ?_) (fun c_15 => ?_)
    · refine rr_aload_n F dX8_group_21 rfl ?_
      refine rr_callVV F (ci := 8) (mm_X8_findGroups hR hW) mf_X8_findGroups ml_X8_178 ⟨by decide, by decide⟩ (by first | rfl | assumption) (by decide) rfl rfl (Nat.le_of_ble_eq_true rfl) dX8_group_22 (fun I_22 L_22 h_22 => ?_)
      obtain ⟨c1, c2, c3⟩ := h_22
      refine rr_aload_n F dX8_group_25 rfl ?_
      refine rg_Model_groups F (by first | rfl | assumption) fl_X8_83 dX8_group_26 ?_
      refine rr_cell (k2 := 16) rfl ?_
      refine rr_iload_n F dX8_group_29 rfl ?_
      refine rr_iald F (N := 6) (by first | rfl | assumption) (by omega) (by first | rfl | assumption) (by omega) dX8_group_30 ?_
      refine rr_iret F dX8_group_31 ?_
      refine ⟨_, rfl, ?_, c3⟩
      show _ = sp_group σ b
      rw [sp_group, if_pos (by omega), c1 b (by omega) (by omega), if_pos (by omega)]
    · refine rr_bipush F dX8_group_18 (by decide) ?_
      refine rr_iret F dX8_group_20 ?_
      refine ⟨_, rfl, ?_, hR⟩
      show _ = sp_group σ b
      rw [sp_group, if_neg (by omega)]; omega
  · refine rr_iconst F dX8_group_7 ?_
    refine rr_iret F dX8_group_8 ?_
    refine ⟨_, rfl, ?_, hR⟩
    show _ = sp_group σ b
    rw [sp_group, if_neg (by omega)]; omega
set_option maxHeartbeats 4000000 in
set_option maxRecDepth 100000 in
theorem mm_X8_first {l : Launch} {g : gT} {σ : sT} {b : Int} {I : IM} {L : LM} (hb : rg b) (hR : MR σ I L) (hW : WF σ) :
    Ct l yX8_first cX8_first 4 (some .int) 5 125 lyM g [.ref (g.2.1 0), .int (zI b)] I L (pS MR (sp_first σ b, σ)) := by
  have hc := rB_cases σ b
  have w3 := hW.2.2.1
  have w6 := hW.2.2.2.2.2.1
  have w11 := hW.2.2.2.2.2.2.2.2.2.2.1
  have hI := GI_grp σ
  generalize hG : (grp σ).1 = G at *
  have w3b := w3 b
  refine Ct.of RX8 (by decide +kernel) rfl (Nat.le_of_ble_eq_true rfl) (fun x hx F => ?_)
  have loop : 0 ≤ b → b < 6 → s_hd σ b = 1 → ∀ (I1 : IM) (L1 : LM), MR σ I1 L1 → MG σ G I1 → ∀ (n : Nat) (i f : Int), n = (6 - i).toNat → 0 ≤ i → i ≤ 6 → (-1 ≤ f ∧ f < 6) → erF σ G (G b) n i f = erF σ G (G b) 6 0 (-1) → Rn x lyM g (pS MR (sp_first σ b, σ)) 29 [vr g 0, vn b, vn f, vn i] [] I1 L1 := by
    intro hb0 hb6 hhb I1 L1 R1 hM n
    have eg : I1 0 11 = s_gv σ := R1.2.2.2.1
    have emb := hM b hb0 hb6
    rw [if_pos hhb] at emb
    have lb := (hI b hb0 hb6).1 hhb
    induction n with
    | zero =>
      intro i f h1 h2 h3 h4 h6
      rw [erF] at h6
      refine rr_iload_n F dX8_first_29 rfl ?_
      refine rr_bipush F dX8_first_30 (by decide) ?_
      refine rr_icmp_ge F dX8_first_32 (tgt := 94) (by decide) ⟨by omega, by omega⟩ ⟨by omega, by omega⟩ (fun c_32 => ?_) (fun c_32 => ?_)
      · refine rr_iload_n F dX8_first_94 rfl ?_
        refine rr_if_ge F dX8_first_95 (tgt := 105) (by decide) ⟨by omega, by omega⟩ (fun c_95 => ?_) (fun c_95 => ?_)
        · refine rr_iload_n F dX8_first_105 rfl ?_
          refine rr_iret F dX8_first_106 ?_
          refine ⟨_, rfl, ?_, R1⟩
          show _ = sp_first σ b
          rw [sp_first, if_pos (by omega), hG, fsF, ← h6]
          first | (rw [if_pos (by omega), eg]; done) | (rw [if_neg (by omega)]; done)
        · refine rr_aload_n F dX8_first_98 rfl ?_
          refine rg_Model_given F (by first | rfl | assumption) fl_X8_43 dX8_first_99 ?_
          refine rr_goto F dX8_first_102 (tgt := 106) (by decide) ?_
          refine rr_iret F dX8_first_106 ?_
          refine ⟨_, rfl, ?_, R1⟩
          show _ = sp_first σ b
          rw [sp_first, if_pos (by omega), hG, fsF, ← h6]
          first | (rw [if_pos (by omega), eg]; done) | (rw [if_neg (by omega)]; done)
      · exfalso
        omega
    | succ n ih =>
      intro i f h1 h2 h3 h4 h6
      rw [erF] at h6
      have wi := w6 i
      have wf := w6 f
      have w3i := w3 i
      have em := hM i h2
      have gi := hI i h2
      have gr := GI_rg hI h2
      refine rr_iload_n F dX8_first_29 rfl ?_
      refine rr_bipush F dX8_first_30 (by decide) ?_
      refine rr_icmp_ge F dX8_first_32 (tgt := 94) (by decide) ⟨by omega, by omega⟩ ⟨by omega, by omega⟩ (fun c_32 => ?_) (fun c_32 => ?_)
      · exfalso
        omega
      · refine rr_aload_n F dX8_first_35 rfl ?_
        refine rg_Model_is F (by first | rfl | assumption) fl_X8_13 dX8_first_36 ?_
        refine rr_cell (k2 := 2) rfl ?_
        refine rr_iload_n F dX8_first_39 rfl ?_
        refine rr_zald F (N := 6) (by first | rfl | assumption) (by omega) (by first | rfl | assumption) (by omega) dX8_first_40 ?_
        obtain ⟨e1, -, -, e4, -⟩ := MRb R1 (b := i) (by omega) (by omega)
        have em := em (by omega)
        have gi := gi (by omega)
        have gr := gr (by omega)
        refine rr_if_eq F dX8_first_41 (tgt := 88) (by decide) ⟨by omega, by omega⟩ (fun c_41 => ?_) (fun c_41 => ?_)
        · refine rr_iinc F dX8_first_88 rfl rfl ?_
          refine rr_goto F dX8_first_91 (tgt := 29) (by decide) ?_
          first
          | exact ih (i + 1) f (by omega) (by omega) (by omega) h4 (by rw [if_neg (by omega)] at h6; exact h6)
          | exact ih (i + 1) i (by omega) (by omega) (by omega) (by omega) (by rw [if_pos (by omega)] at h6; exact h6)
          | exact ih (i + 1) f (by omega) (by omega) (by omega) h4 (by rw [if_neg (by have := gi.2 (by omega); omega)] at h6; exact h6)
        · refine rr_aload_n F dX8_first_44 rfl ?_
          refine rg_Model_groups F (by first | rfl | assumption) fl_X8_83 dX8_first_45 ?_
          refine rr_cell (k2 := 16) rfl ?_
          refine rr_iload_n F dX8_first_48 rfl ?_
          refine rr_iald F (N := 6) (by first | rfl | assumption) (by omega) (by first | rfl | assumption) (by omega) dX8_first_49 ?_
          refine rr_aload_n F dX8_first_50 rfl ?_
          refine rg_Model_groups F (by first | rfl | assumption) fl_X8_83 dX8_first_51 ?_
          refine rr_cell (k2 := 16) rfl ?_
          refine rr_iload_n F dX8_first_54 rfl ?_
          refine rr_iald F (N := 6) (by first | rfl | assumption) (by omega) (by first | rfl | assumption) (by omega) dX8_first_55 ?_
          rw [em, emb, if_pos (show s_hd σ i = 1 by omega)]
          refine rr_icmp_ne F dX8_first_56 (tgt := 88) (by decide) ⟨by omega, by omega⟩ ⟨by omega, by omega⟩ (fun c_56 => ?_) (fun c_56 => ?_)
          · refine rr_iinc F dX8_first_88 rfl rfl ?_
            refine rr_goto F dX8_first_91 (tgt := 29) (by decide) ?_
            first
            | exact ih (i + 1) f (by omega) (by omega) (by omega) h4 (by rw [if_neg (by omega)] at h6; exact h6)
            | exact ih (i + 1) i (by omega) (by omega) (by omega) (by omega) (by rw [if_pos (by omega)] at h6; exact h6)
            | exact ih (i + 1) f (by omega) (by omega) (by omega) h4 (by rw [if_neg (by have := gi.2 (by omega); omega)] at h6; exact h6)
          · refine rr_iload_n F dX8_first_59 rfl ?_
            refine rr_aload_n F dX8_first_60 rfl ?_
            refine rg_Model_given F (by first | rfl | assumption) fl_X8_43 dX8_first_61 ?_
            rw [eg]
            refine rr_icmp_eq F dX8_first_64 (tgt := 88) (by decide) ⟨by omega, by omega⟩ ⟨by omega, by omega⟩ (fun c_64 => ?_) (fun c_64 => ?_)
            · refine rr_iinc F dX8_first_88 rfl rfl ?_
              refine rr_goto F dX8_first_91 (tgt := 29) (by decide) ?_
              first
              | exact ih (i + 1) f (by omega) (by omega) (by omega) h4 (by rw [if_neg (by omega)] at h6; exact h6)
              | exact ih (i + 1) i (by omega) (by omega) (by omega) (by omega) (by rw [if_pos (by omega)] at h6; exact h6)
              | exact ih (i + 1) f (by omega) (by omega) (by omega) h4 (by rw [if_neg (by have := gi.2 (by omega); omega)] at h6; exact h6)
            · refine rr_iload_n F dX8_first_67 rfl ?_
              refine rr_if_lt F dX8_first_68 (tgt := 86) (by decide) ⟨by omega, by omega⟩ (fun c_68 => ?_) (fun c_68 => ?_)
              · refine rr_iload_n F dX8_first_86 rfl ?_
                refine rr_istore_n F dX8_first_87 (Nat.le_of_ble_eq_true rfl) rfl ?_
                refine rr_iinc F dX8_first_88 rfl rfl ?_
                refine rr_goto F dX8_first_91 (tgt := 29) (by decide) ?_
                first
                | exact ih (i + 1) f (by omega) (by omega) (by omega) h4 (by rw [if_neg (by omega)] at h6; exact h6)
                | exact ih (i + 1) i (by omega) (by omega) (by omega) (by omega) (by rw [if_pos (by omega)] at h6; exact h6)
                | exact ih (i + 1) f (by omega) (by omega) (by omega) h4 (by rw [if_neg (by have := gi.2 (by omega); omega)] at h6; exact h6)
              · refine rr_aload_n F dX8_first_71 rfl ?_
                refine rg_Model_days F (by first | rfl | assumption) fl_X8_23 dX8_first_72 ?_
                refine rr_cell (k2 := 5) rfl ?_
                refine rr_iload_n F dX8_first_75 rfl ?_
                refine rr_iald F (N := 6) (by first | rfl | assumption) (by omega) (by first | rfl | assumption) (by omega) dX8_first_76 ?_
                refine rr_aload_n F dX8_first_77 rfl ?_
                refine rg_Model_days F (by first | rfl | assumption) fl_X8_23 dX8_first_78 ?_
                refine rr_cell (k2 := 5) rfl ?_
                refine rr_iload_n F dX8_first_81 rfl ?_
                refine rr_iald F (N := 6) (by first | rfl | assumption) (by omega) (by first | rfl | assumption) (by omega) dX8_first_82 ?_
                have e5 := (MRb R1 (b := f) (by omega) (by omega)).2.2.2.1
                rw [e4, e5]
                refine rr_icmp_ge F dX8_first_83 (tgt := 88) (by decide) ⟨by omega, by omega⟩ ⟨by omega, by omega⟩ (fun c_83 => ?_) (fun c_83 => ?_)
                · refine rr_iinc F dX8_first_88 rfl rfl ?_
                  refine rr_goto F dX8_first_91 (tgt := 29) (by decide) ?_
                  first
                  | exact ih (i + 1) f (by omega) (by omega) (by omega) h4 (by rw [if_neg (by omega)] at h6; exact h6)
                  | exact ih (i + 1) i (by omega) (by omega) (by omega) (by omega) (by rw [if_pos (by omega)] at h6; exact h6)
                  | exact ih (i + 1) f (by omega) (by omega) (by omega) h4 (by rw [if_neg (by have := gi.2 (by omega); omega)] at h6; exact h6)
                · refine rr_iload_n F dX8_first_86 rfl ?_
                  refine rr_istore_n F dX8_first_87 (Nat.le_of_ble_eq_true rfl) rfl ?_
                  refine rr_iinc F dX8_first_88 rfl rfl ?_
                  refine rr_goto F dX8_first_91 (tgt := 29) (by decide) ?_
                  first
                  | exact ih (i + 1) f (by omega) (by omega) (by omega) h4 (by rw [if_neg (by omega)] at h6; exact h6)
                  | exact ih (i + 1) i (by omega) (by omega) (by omega) (by omega) (by rw [if_pos (by omega)] at h6; exact h6)
                  | exact ih (i + 1) f (by omega) (by omega) (by omega) h4 (by rw [if_neg (by have := gi.2 (by omega); omega)] at h6; exact h6)
  refine rr_iload_n F dX8_first_0 rfl ?_
  refine rr_callSI F (mm_X8_isNumber hb) mf_X8_isNumber ml_X8_123 ⟨by decide, by decide⟩ rfl (Nat.le_of_ble_eq_true rfl) dX8_first_1 (fun r_1 I_1 L_1 h_1 => ?_)
  obtain ⟨e3, rfl, rfl⟩ := h_1
  refine rr_if_ne F dX8_first_4 (tgt := 9) (by decide) ⟨by omega, by omega⟩ (fun c_4 => ?_) (fun c_4 => ?_)
  · refine rr_aload_n F dX8_first_9 rfl ?_
    refine rg_Model_is F (by first | rfl | assumption) fl_X8_13 dX8_first_10 ?_
    refine rr_cell (k2 := 2) rfl ?_
    refine rr_iload_n F dX8_first_13 rfl ?_
    refine rr_zald F (N := 6) (by first | rfl | assumption) (by omega) (by first | rfl | assumption) (by omega) dX8_first_14 ?_
    have e1 := (MRb hR (b := b) (by omega) (by omega)).1
    refine rr_if_ne F dX8_first_15 (tgt := 21) (by decide) ⟨by omega, by omega⟩ (fun c_15 => ?_) (fun c_15 => ?_)
    · refine rr_aload_n F dX8_first_21 rfl ?_
      refine rr_callVV F (ci := 8) (mm_X8_findGroups hR hW) mf_X8_findGroups ml_X8_178 ⟨by decide, by decide⟩ (by first | rfl | assumption) (by decide) rfl rfl (Nat.le_of_ble_eq_true rfl) dX8_first_22 (fun I_22 L_22 h_22 => ?_)
      obtain ⟨c1, c2, c3⟩ := h_22
      rw [hG] at c1
      refine rr_iconst F dX8_first_25 ?_
      refine rr_istore_n F dX8_first_26 (Nat.le_of_ble_eq_true rfl) rfl ?_
      refine rr_iconst F dX8_first_27 ?_
      refine rr_istore_n F dX8_first_28 (Nat.le_of_ble_eq_true rfl) rfl ?_
      exact loop (by omega) (by omega) (by omega) _ _ c3 c1 _ 0 (-1) rfl (by omega) (by omega) (by omega) rfl
    · refine rr_bipush F dX8_first_18 (by decide) ?_
      refine rr_iret F dX8_first_20 ?_
      refine ⟨_, rfl, ?_, hR⟩
      show _ = sp_first σ b
      rw [sp_first, if_neg (by omega)]; omega
  · refine rr_iconst F dX8_first_7 ?_
    refine rr_iret F dX8_first_8 ?_
    refine ⟨_, rfl, ?_, hR⟩
    show _ = sp_first σ b
    rw [sp_first, if_neg (by omega)]; omega
def mdF (σ : sT) (G : Int → Int) (b c : Int) : Int := if s_hd σ b = 1 ∧ s_hd σ c = 1 ∧ G c = b then 1 else 0
theorem md_ms {σ : sT} {G : Int → Int} (hI : GI σ G) {b : Int} (h0 : 0 ≤ b) (h6 : b < 6) : cntF (mdF σ G b) 6 0 0 = msF G b := by
  have hz : ¬ (s_hd σ b = 1 ∧ G b = b) → cntF (mdF σ G b) 6 0 0 = 0 := fun hn => cntF_zero 6 0 0 (fun c u v => by
    rw [mdF, if_neg]
    rintro ⟨y1, y2, y3⟩
    have := ((hI c u (by omega)).1 y2).2.2
    rw [y3] at this
    exact hn ⟨y1, this⟩)
  rw [msF]
  by_cases e : G b = b
  · rw [if_pos e]
    by_cases hh : s_hd σ b = 1
    · rw [mbF]
      refine cntF_congr 6 0 0 (fun c u v => ?_)
      rw [mdF]
      by_cases z : s_hd σ c = 1
      · by_cases y : G c = b
        · rw [if_pos ⟨hh, z, y⟩, if_pos y]
        · rw [if_neg (fun q => y q.2.2), if_neg y]
      · have := (hI c u (by omega)).2 z
        rw [if_neg (fun q => z q.2.1), if_neg (by omega)]
    · have := (hI b h0 h6).2 hh
      omega
  · rw [if_neg e]
    exact hz (fun q => e q.2)
set_option maxHeartbeats 4000000 in
set_option maxRecDepth 100000 in
theorem mm_X8_count {l : Launch} {g : gT} {σ : sT} {w : Int} {I : IM} {L : LM} (hw : rg w) (hR : MR σ I L) (hW : WF σ) :
    Ct l yX8_count cX8_count 8 (some .int) 5 125 lyM g [.ref (g.2.1 0), .int (zI w)] I L (pS MR (sp_count σ w, σ)) := by
  have hw' := hw
  unfold rg at hw'
  have w3 := hW.2.2.1
  have hI := GI_grp σ
  generalize hG : (grp σ).1 = G at *
  refine Ct.of RX8 (by decide +kernel) rfl (Nat.le_of_ble_eq_true rfl) (fun x hx F => ?_)
  have loop : 0 ≤ w → w ≤ 3 → ∀ (I1 : IM) (L1 : LM), MR σ I1 L1 → MG σ G I1 → I1 0 26 = (grp σ).2 → ∀ (n : Nat) (b x1 x2 x3 : Int), n = (6 - b).toNat → 0 ≤ b → b ≤ 6 → cntF (s_hd σ) n b x1 = cntF (s_hd σ) 6 0 0 → cntF (fun i => if 1 ≤ msF G i ∧ msF G i ≤ 6 then 1 else 0) n b x2 = hmF G 1 6 → cntF (fun i => if 1 ≤ msF G i ∧ msF G i ≤ 1 then 1 else 0) n b x3 = hmF G 1 1 → Rn x lyM g (pS MR (sp_count σ w, σ)) 25 [vr g 0, vn w, vn x1, vn x2, vn x3, vn b, none, none] [] I1 L1 := by
    intro hw0 hw3 I1 L1 R1 hM hL n
    induction n with
    | zero =>
      intro b x1 x2 x3 h1 h2 h3 h4 h5 h6
      rw [cntF] at h4 h5 h6
      refine rr_iload F dX8_count_25 rfl ?_
      refine rr_bipush F dX8_count_27 (by decide) ?_
      refine rr_icmp_ge F dX8_count_29 (tgt := 146) (by decide) ⟨by omega, by omega⟩ ⟨by omega, by omega⟩ (fun c_29 => ?_) (fun c_29 => ?_)
      · refine rr_iload_n F dX8_count_146 rfl ?_
        refine rr_if_ne F dX8_count_147 (tgt := 154) (by decide) ⟨by omega, by omega⟩ (fun c_147 => ?_) (fun c_147 => ?_)
        · refine rr_iload_n F dX8_count_154 rfl ?_
          refine rr_iconst F dX8_count_155 ?_
          refine rr_icmp_ne F dX8_count_156 (tgt := 163) (by decide) ⟨by omega, by omega⟩ ⟨by omega, by omega⟩ (fun c_156 => ?_) (fun c_156 => ?_)
          · refine rr_iload_n F dX8_count_163 rfl ?_
            refine rr_iconst F dX8_count_164 ?_
            refine rr_icmp_ne F dX8_count_165 (tgt := 173) (by decide) ⟨by omega, by omega⟩ ⟨by omega, by omega⟩ (fun c_165 => ?_) (fun c_165 => ?_)
            · refine rr_aload_n F dX8_count_173 rfl ?_
              refine rg_Model_links F (by first | rfl | assumption) fl_X8_172 dX8_count_174 ?_
              refine rr_iret F dX8_count_177 ?_
              refine ⟨_, rfl, ?_, R1⟩
              show _ = sp_count σ w
              rw [sp_count, if_pos (by omega), hG]
              first | (rw [if_pos (by omega)]; exact h4) | (rw [if_neg (by omega), if_neg (by omega), if_pos (by omega)]; exact h5) | (rw [if_neg (by omega), if_neg (by omega), if_neg (by omega)]; exact h6) | (rw [if_neg (by omega), if_pos (by omega)]; exact hL)
            · refine rr_iload F dX8_count_168 rfl ?_
              refine rr_goto F dX8_count_170 (tgt := 177) (by decide) ?_
              refine rr_iret F dX8_count_177 ?_
              refine ⟨_, rfl, ?_, R1⟩
              show _ = sp_count σ w
              rw [sp_count, if_pos (by omega), hG]
              first | (rw [if_pos (by omega)]; exact h4) | (rw [if_neg (by omega), if_neg (by omega), if_pos (by omega)]; exact h5) | (rw [if_neg (by omega), if_neg (by omega), if_neg (by omega)]; exact h6) | (rw [if_neg (by omega), if_pos (by omega)]; exact hL)
          · refine rr_iload_n F dX8_count_159 rfl ?_
            refine rr_goto F dX8_count_160 (tgt := 177) (by decide) ?_
            refine rr_iret F dX8_count_177 ?_
            refine ⟨_, rfl, ?_, R1⟩
            show _ = sp_count σ w
            rw [sp_count, if_pos (by omega), hG]
            first | (rw [if_pos (by omega)]; exact h4) | (rw [if_neg (by omega), if_neg (by omega), if_pos (by omega)]; exact h5) | (rw [if_neg (by omega), if_neg (by omega), if_neg (by omega)]; exact h6) | (rw [if_neg (by omega), if_pos (by omega)]; exact hL)
        · refine rr_iload_n F dX8_count_150 rfl ?_
          refine rr_goto F dX8_count_151 (tgt := 177) (by decide) ?_
          refine rr_iret F dX8_count_177 ?_
          refine ⟨_, rfl, ?_, R1⟩
          show _ = sp_count σ w
          rw [sp_count, if_pos (by omega), hG]
          first | (rw [if_pos (by omega)]; exact h4) | (rw [if_neg (by omega), if_neg (by omega), if_pos (by omega)]; exact h5) | (rw [if_neg (by omega), if_neg (by omega), if_neg (by omega)]; exact h6) | (rw [if_neg (by omega), if_pos (by omega)]; exact hL)
      · exfalso
        omega
    | succ n ih =>
      intro b x1 x2 x3 h1 h2 h3 h4 h5 h6
      rw [cntF] at h4 h5 h6
      have eb := (MRb R1 (b := b) (by omega) (by omega)).1
      have wb := w3 b
      have mb := mbF_b G b
      have tail : ∀ m : Int, m = msF G b → (0 ≤ m ∧ m ≤ 6) → Rn x lyM g (pS MR (sp_count σ w, σ)) 93 [vr g 0, vn w, vn x1, vn x2, vn x3, vn b, vn m, none] [] I1 L1 := by
        intro m hm hmb
        rw [← hm] at h5 h6
        refine rr_iload_n F dX8_count_93 rfl ?_
        refine rr_aload_n F dX8_count_94 rfl ?_
        refine rg_Model_is F (by first | rfl | assumption) fl_X8_13 dX8_count_95 ?_
        refine rr_cell (k2 := 2) rfl ?_
        refine rr_iload F dX8_count_98 rfl ?_
        refine rr_zald F (N := 6) (by first | rfl | assumption) (by omega) (by first | rfl | assumption) (by omega) dX8_count_100 ?_
        rw [eb]
        refine rr_if_eq F dX8_count_101 (tgt := 108) (by decide) ⟨by omega, by omega⟩ (fun c_101 => ?_) (fun c_101 => ?_)
        · refine rr_iconst F dX8_count_108 ?_
          refine rr_iadd F dX8_count_109 ?_
          refine rr_istore_n F dX8_count_110 (Nat.le_of_ble_eq_true rfl) rfl ?_
          refine rr_iload_n F dX8_count_111 rfl ?_
          refine rr_iload F dX8_count_112 rfl ?_
          refine rr_if_le F dX8_count_114 (tgt := 121) (by decide) ⟨by omega, by omega⟩ (fun c_114 => ?_) (fun c_114 => ?_)
          · refine rr_iconst F dX8_count_121 ?_
            refine rr_iadd F dX8_count_122 ?_
            refine rr_istore_n F dX8_count_123 (Nat.le_of_ble_eq_true rfl) rfl ?_
            refine rr_iload F dX8_count_124 rfl ?_
            refine rr_iload F dX8_count_126 rfl ?_
            refine rr_iconst F dX8_count_128 ?_
            refine rr_icmp_ne F dX8_count_129 (tgt := 136) (by decide) ⟨by omega, by omega⟩ ⟨by omega, by omega⟩ (fun c_129 => ?_) (fun c_129 => ?_)
            · refine rr_iconst F dX8_count_136 ?_
              refine rr_iadd F dX8_count_137 ?_
              refine rr_istore F dX8_count_138 (Nat.le_of_ble_eq_true rfl) rfl ?_
              refine rr_iinc F dX8_count_140 rfl rfl ?_
              refine rr_goto F dX8_count_143 (tgt := 25) (by decide) ?_
              refine rr_drop 6 ?_
              refine ih (b + 1) _ _ _ (by omega) (by omega) (by omega) ?_ ?_ ?_
              · first | (rw [if_pos c_101, ← Int.add_zero x1] at h4; exact h4) | (rw [if_neg c_101] at h4; exact h4)
              · first | (rw [if_pos (show 1 ≤ m ∧ m ≤ 6 by omega)] at h5; exact h5) | (rw [if_neg (show ¬ (1 ≤ m ∧ m ≤ 6) by omega), ← Int.add_zero x2] at h5; exact h5)
              · first | (rw [if_pos (show 1 ≤ m ∧ m ≤ 1 by omega)] at h6; exact h6) | (rw [if_neg (show ¬ (1 ≤ m ∧ m ≤ 1) by omega), ← Int.add_zero x3] at h6; exact h6)
            · refine rr_iconst F dX8_count_132 ?_
              refine rr_goto F dX8_count_133 (tgt := 137) (by decide) ?_
              refine rr_iadd F dX8_count_137 ?_
              refine rr_istore F dX8_count_138 (Nat.le_of_ble_eq_true rfl) rfl ?_
              refine rr_iinc F dX8_count_140 rfl rfl ?_
              refine rr_goto F dX8_count_143 (tgt := 25) (by decide) ?_
              refine rr_drop 6 ?_
              refine ih (b + 1) _ _ _ (by omega) (by omega) (by omega) ?_ ?_ ?_
              · first | (rw [if_pos c_101, ← Int.add_zero x1] at h4; exact h4) | (rw [if_neg c_101] at h4; exact h4)
              · first | (rw [if_pos (show 1 ≤ m ∧ m ≤ 6 by omega)] at h5; exact h5) | (rw [if_neg (show ¬ (1 ≤ m ∧ m ≤ 6) by omega), ← Int.add_zero x2] at h5; exact h5)
              · first | (rw [if_pos (show 1 ≤ m ∧ m ≤ 1 by omega)] at h6; exact h6) | (rw [if_neg (show ¬ (1 ≤ m ∧ m ≤ 1) by omega), ← Int.add_zero x3] at h6; exact h6)
          · refine rr_iconst F dX8_count_117 ?_
            refine rr_goto F dX8_count_118 (tgt := 122) (by decide) ?_
            refine rr_iadd F dX8_count_122 ?_
            refine rr_istore_n F dX8_count_123 (Nat.le_of_ble_eq_true rfl) rfl ?_
            refine rr_iload F dX8_count_124 rfl ?_
            refine rr_iload F dX8_count_126 rfl ?_
            refine rr_iconst F dX8_count_128 ?_
            refine rr_icmp_ne F dX8_count_129 (tgt := 136) (by decide) ⟨by omega, by omega⟩ ⟨by omega, by omega⟩ (fun c_129 => ?_) (fun c_129 => ?_)
            · refine rr_iconst F dX8_count_136 ?_
              refine rr_iadd F dX8_count_137 ?_
              refine rr_istore F dX8_count_138 (Nat.le_of_ble_eq_true rfl) rfl ?_
              refine rr_iinc F dX8_count_140 rfl rfl ?_
              refine rr_goto F dX8_count_143 (tgt := 25) (by decide) ?_
              refine rr_drop 6 ?_
              refine ih (b + 1) _ _ _ (by omega) (by omega) (by omega) ?_ ?_ ?_
              · first | (rw [if_pos c_101, ← Int.add_zero x1] at h4; exact h4) | (rw [if_neg c_101] at h4; exact h4)
              · first | (rw [if_pos (show 1 ≤ m ∧ m ≤ 6 by omega)] at h5; exact h5) | (rw [if_neg (show ¬ (1 ≤ m ∧ m ≤ 6) by omega), ← Int.add_zero x2] at h5; exact h5)
              · first | (rw [if_pos (show 1 ≤ m ∧ m ≤ 1 by omega)] at h6; exact h6) | (rw [if_neg (show ¬ (1 ≤ m ∧ m ≤ 1) by omega), ← Int.add_zero x3] at h6; exact h6)
            · refine rr_iconst F dX8_count_132 ?_
              refine rr_goto F dX8_count_133 (tgt := 137) (by decide) ?_
              refine rr_iadd F dX8_count_137 ?_
              refine rr_istore F dX8_count_138 (Nat.le_of_ble_eq_true rfl) rfl ?_
              refine rr_iinc F dX8_count_140 rfl rfl ?_
              refine rr_goto F dX8_count_143 (tgt := 25) (by decide) ?_
              refine rr_drop 6 ?_
              refine ih (b + 1) _ _ _ (by omega) (by omega) (by omega) ?_ ?_ ?_
              · first | (rw [if_pos c_101, ← Int.add_zero x1] at h4; exact h4) | (rw [if_neg c_101] at h4; exact h4)
              · first | (rw [if_pos (show 1 ≤ m ∧ m ≤ 6 by omega)] at h5; exact h5) | (rw [if_neg (show ¬ (1 ≤ m ∧ m ≤ 6) by omega), ← Int.add_zero x2] at h5; exact h5)
              · first | (rw [if_pos (show 1 ≤ m ∧ m ≤ 1 by omega)] at h6; exact h6) | (rw [if_neg (show ¬ (1 ≤ m ∧ m ≤ 1) by omega), ← Int.add_zero x3] at h6; exact h6)
        · refine rr_iconst F dX8_count_104 ?_
          refine rr_goto F dX8_count_105 (tgt := 109) (by decide) ?_
          refine rr_iadd F dX8_count_109 ?_
          refine rr_istore_n F dX8_count_110 (Nat.le_of_ble_eq_true rfl) rfl ?_
          refine rr_iload_n F dX8_count_111 rfl ?_
          refine rr_iload F dX8_count_112 rfl ?_
          refine rr_if_le F dX8_count_114 (tgt := 121) (by decide) ⟨by omega, by omega⟩ (fun c_114 => ?_) (fun c_114 => ?_)
          · refine rr_iconst F dX8_count_121 ?_
            refine rr_iadd F dX8_count_122 ?_
            refine rr_istore_n F dX8_count_123 (Nat.le_of_ble_eq_true rfl) rfl ?_
            refine rr_iload F dX8_count_124 rfl ?_
            refine rr_iload F dX8_count_126 rfl ?_
            refine rr_iconst F dX8_count_128 ?_
            refine rr_icmp_ne F dX8_count_129 (tgt := 136) (by decide) ⟨by omega, by omega⟩ ⟨by omega, by omega⟩ (fun c_129 => ?_) (fun c_129 => ?_)
            · refine rr_iconst F dX8_count_136 ?_
              refine rr_iadd F dX8_count_137 ?_
              refine rr_istore F dX8_count_138 (Nat.le_of_ble_eq_true rfl) rfl ?_
              refine rr_iinc F dX8_count_140 rfl rfl ?_
              refine rr_goto F dX8_count_143 (tgt := 25) (by decide) ?_
              refine rr_drop 6 ?_
              refine ih (b + 1) _ _ _ (by omega) (by omega) (by omega) ?_ ?_ ?_
              · first | (rw [if_pos c_101, ← Int.add_zero x1] at h4; exact h4) | (rw [if_neg c_101] at h4; exact h4)
              · first | (rw [if_pos (show 1 ≤ m ∧ m ≤ 6 by omega)] at h5; exact h5) | (rw [if_neg (show ¬ (1 ≤ m ∧ m ≤ 6) by omega), ← Int.add_zero x2] at h5; exact h5)
              · first | (rw [if_pos (show 1 ≤ m ∧ m ≤ 1 by omega)] at h6; exact h6) | (rw [if_neg (show ¬ (1 ≤ m ∧ m ≤ 1) by omega), ← Int.add_zero x3] at h6; exact h6)
            · refine rr_iconst F dX8_count_132 ?_
              refine rr_goto F dX8_count_133 (tgt := 137) (by decide) ?_
              refine rr_iadd F dX8_count_137 ?_
              refine rr_istore F dX8_count_138 (Nat.le_of_ble_eq_true rfl) rfl ?_
              refine rr_iinc F dX8_count_140 rfl rfl ?_
              refine rr_goto F dX8_count_143 (tgt := 25) (by decide) ?_
              refine rr_drop 6 ?_
              refine ih (b + 1) _ _ _ (by omega) (by omega) (by omega) ?_ ?_ ?_
              · first | (rw [if_pos c_101, ← Int.add_zero x1] at h4; exact h4) | (rw [if_neg c_101] at h4; exact h4)
              · first | (rw [if_pos (show 1 ≤ m ∧ m ≤ 6 by omega)] at h5; exact h5) | (rw [if_neg (show ¬ (1 ≤ m ∧ m ≤ 6) by omega), ← Int.add_zero x2] at h5; exact h5)
              · first | (rw [if_pos (show 1 ≤ m ∧ m ≤ 1 by omega)] at h6; exact h6) | (rw [if_neg (show ¬ (1 ≤ m ∧ m ≤ 1) by omega), ← Int.add_zero x3] at h6; exact h6)
          · refine rr_iconst F dX8_count_117 ?_
            refine rr_goto F dX8_count_118 (tgt := 122) (by decide) ?_
            refine rr_iadd F dX8_count_122 ?_
            refine rr_istore_n F dX8_count_123 (Nat.le_of_ble_eq_true rfl) rfl ?_
            refine rr_iload F dX8_count_124 rfl ?_
            refine rr_iload F dX8_count_126 rfl ?_
            refine rr_iconst F dX8_count_128 ?_
            refine rr_icmp_ne F dX8_count_129 (tgt := 136) (by decide) ⟨by omega, by omega⟩ ⟨by omega, by omega⟩ (fun c_129 => ?_) (fun c_129 => ?_)
            · refine rr_iconst F dX8_count_136 ?_
              refine rr_iadd F dX8_count_137 ?_
              refine rr_istore F dX8_count_138 (Nat.le_of_ble_eq_true rfl) rfl ?_
              refine rr_iinc F dX8_count_140 rfl rfl ?_
              refine rr_goto F dX8_count_143 (tgt := 25) (by decide) ?_
              refine rr_drop 6 ?_
              refine ih (b + 1) _ _ _ (by omega) (by omega) (by omega) ?_ ?_ ?_
              · first | (rw [if_pos c_101, ← Int.add_zero x1] at h4; exact h4) | (rw [if_neg c_101] at h4; exact h4)
              · first | (rw [if_pos (show 1 ≤ m ∧ m ≤ 6 by omega)] at h5; exact h5) | (rw [if_neg (show ¬ (1 ≤ m ∧ m ≤ 6) by omega), ← Int.add_zero x2] at h5; exact h5)
              · first | (rw [if_pos (show 1 ≤ m ∧ m ≤ 1 by omega)] at h6; exact h6) | (rw [if_neg (show ¬ (1 ≤ m ∧ m ≤ 1) by omega), ← Int.add_zero x3] at h6; exact h6)
            · refine rr_iconst F dX8_count_132 ?_
              refine rr_goto F dX8_count_133 (tgt := 137) (by decide) ?_
              refine rr_iadd F dX8_count_137 ?_
              refine rr_istore F dX8_count_138 (Nat.le_of_ble_eq_true rfl) rfl ?_
              refine rr_iinc F dX8_count_140 rfl rfl ?_
              refine rr_goto F dX8_count_143 (tgt := 25) (by decide) ?_
              refine rr_drop 6 ?_
              refine ih (b + 1) _ _ _ (by omega) (by omega) (by omega) ?_ ?_ ?_
              · first | (rw [if_pos c_101, ← Int.add_zero x1] at h4; exact h4) | (rw [if_neg c_101] at h4; exact h4)
              · first | (rw [if_pos (show 1 ≤ m ∧ m ≤ 6 by omega)] at h5; exact h5) | (rw [if_neg (show ¬ (1 ≤ m ∧ m ≤ 6) by omega), ← Int.add_zero x2] at h5; exact h5)
              · first | (rw [if_pos (show 1 ≤ m ∧ m ≤ 1 by omega)] at h6; exact h6) | (rw [if_neg (show ¬ (1 ≤ m ∧ m ≤ 1) by omega), ← Int.add_zero x3] at h6; exact h6)
      have inner : b < 6 → ∀ (d : Nat) (c m : Int), d = (6 - c).toNat → 0 ≤ c → c ≤ 6 → (0 ≤ m ∧ m ≤ c) → cntF (mdF σ G b) d c m = msF G b → Rn x lyM g (pS MR (sp_count σ w, σ)) 38 [vr g 0, vn w, vn x1, vn x2, vn x3, vn b, vn m, vn c] [] I1 L1 := by
        intro hb6 d
        induction d with
        | zero =>
          intro c m g1 g2 g3 g4 g5
          rw [cntF] at g5
          refine rr_iload F dX8_count_38 rfl ?_
          refine rr_bipush F dX8_count_40 (by decide) ?_
          refine rr_icmp_ge F dX8_count_42 (tgt := 93) (by decide) ⟨by omega, by omega⟩ ⟨by omega, by omega⟩ (fun c_42 => ?_) (fun c_42 => ?_)
          · refine rr_drop 7 ?_
            exact tail m g5 (by omega)
          · exfalso
            omega
        | succ d ihd =>
          intro c m g1 g2 g3 g4 g5
          rw [cntF, mdF] at g5
          have ec := (MRb R1 (b := c) (by omega) (by omega)).1
          have wc := w3 c
          have em := hM c g2
          have gr := GI_rg hI g2
          refine rr_iload F dX8_count_38 rfl ?_
          refine rr_bipush F dX8_count_40 (by decide) ?_
          refine rr_icmp_ge F dX8_count_42 (tgt := 93) (by decide) ⟨by omega, by omega⟩ ⟨by omega, by omega⟩ (fun c_42 => ?_) (fun c_42 => ?_)
          · exfalso
            omega
          · refine rr_iload F dX8_count_45 rfl ?_
            refine rr_aload_n F dX8_count_47 rfl ?_
            refine rg_Model_is F (by first | rfl | assumption) fl_X8_13 dX8_count_48 ?_
            refine rr_cell (k2 := 2) rfl ?_
            refine rr_iload F dX8_count_51 rfl ?_
            refine rr_zald F (N := 6) (by first | rfl | assumption) (by omega) (by first | rfl | assumption) (by omega) dX8_count_53 ?_
            rw [eb]
            refine rr_if_eq F dX8_count_54 (tgt := 83) (by decide) ⟨by omega, by omega⟩ (fun c_54 => ?_) (fun c_54 => ?_)
            · refine rr_iconst F dX8_count_83 ?_
              refine rr_iadd F dX8_count_84 ?_
              refine rr_istore F dX8_count_85 (Nat.le_of_ble_eq_true rfl) rfl ?_
              refine rr_iinc F dX8_count_87 rfl rfl ?_
              refine rr_goto F dX8_count_90 (tgt := 38) (by decide) ?_
              first
              | exact ihd (c + 1) _ (by omega) (by omega) (by omega) (by omega) (by rw [if_pos (show s_hd σ b = 1 ∧ s_hd σ c = 1 ∧ G c = b by omega)] at g5; exact g5)
              | (rw [Int.add_zero]
                 exact ihd (c + 1) _ (by omega) (by omega) (by omega) (by omega) (by rw [if_neg (show ¬ (s_hd σ b = 1 ∧ s_hd σ c = 1 ∧ G c = b) by omega)] at g5; exact g5))
            · refine rr_aload_n F dX8_count_57 rfl ?_
              refine rg_Model_is F (by first | rfl | assumption) fl_X8_13 dX8_count_58 ?_
              refine rr_cell (k2 := 2) rfl ?_
              refine rr_iload F dX8_count_61 rfl ?_
              refine rr_zald F (N := 6) (by first | rfl | assumption) (by omega) (by first | rfl | assumption) (by omega) dX8_count_63 ?_
              rw [ec]
              refine rr_if_eq F dX8_count_64 (tgt := 83) (by decide) ⟨by omega, by omega⟩ (fun c_64 => ?_) (fun c_64 => ?_)
              · refine rr_iconst F dX8_count_83 ?_
                refine rr_iadd F dX8_count_84 ?_
                refine rr_istore F dX8_count_85 (Nat.le_of_ble_eq_true rfl) rfl ?_
                refine rr_iinc F dX8_count_87 rfl rfl ?_
                refine rr_goto F dX8_count_90 (tgt := 38) (by decide) ?_
                first
                | exact ihd (c + 1) _ (by omega) (by omega) (by omega) (by omega) (by rw [if_pos (show s_hd σ b = 1 ∧ s_hd σ c = 1 ∧ G c = b by omega)] at g5; exact g5)
                | (rw [Int.add_zero]
                   exact ihd (c + 1) _ (by omega) (by omega) (by omega) (by omega) (by rw [if_neg (show ¬ (s_hd σ b = 1 ∧ s_hd σ c = 1 ∧ G c = b) by omega)] at g5; exact g5))
              · refine rr_aload_n F dX8_count_67 rfl ?_
                refine rg_Model_groups F (by first | rfl | assumption) fl_X8_83 dX8_count_68 ?_
                refine rr_cell (k2 := 16) rfl ?_
                refine rr_iload F dX8_count_71 rfl ?_
                refine rr_iald F (N := 6) (by first | rfl | assumption) (by omega) (by first | rfl | assumption) (by omega) dX8_count_73 ?_
                rw [em (by omega), if_pos (show s_hd σ c = 1 by omega)]
                have gr := gr (by omega)
                refine rr_iload F dX8_count_74 rfl ?_
                refine rr_icmp_ne F dX8_count_76 (tgt := 83) (by decide) ⟨by omega, by omega⟩ ⟨by omega, by omega⟩ (fun c_76 => ?_) (fun c_76 => ?_)
                · refine rr_iconst F dX8_count_83 ?_
                  refine rr_iadd F dX8_count_84 ?_
                  refine rr_istore F dX8_count_85 (Nat.le_of_ble_eq_true rfl) rfl ?_
                  refine rr_iinc F dX8_count_87 rfl rfl ?_
                  refine rr_goto F dX8_count_90 (tgt := 38) (by decide) ?_
                  first
                  | exact ihd (c + 1) _ (by omega) (by omega) (by omega) (by omega) (by rw [if_pos (show s_hd σ b = 1 ∧ s_hd σ c = 1 ∧ G c = b by omega)] at g5; exact g5)
                  | (rw [Int.add_zero]
                     exact ihd (c + 1) _ (by omega) (by omega) (by omega) (by omega) (by rw [if_neg (show ¬ (s_hd σ b = 1 ∧ s_hd σ c = 1 ∧ G c = b) by omega)] at g5; exact g5))
                · refine rr_iconst F dX8_count_79 ?_
                  refine rr_goto F dX8_count_80 (tgt := 84) (by decide) ?_
                  refine rr_iadd F dX8_count_84 ?_
                  refine rr_istore F dX8_count_85 (Nat.le_of_ble_eq_true rfl) rfl ?_
                  refine rr_iinc F dX8_count_87 rfl rfl ?_
                  refine rr_goto F dX8_count_90 (tgt := 38) (by decide) ?_
                  first
                  | exact ihd (c + 1) _ (by omega) (by omega) (by omega) (by omega) (by rw [if_pos (show s_hd σ b = 1 ∧ s_hd σ c = 1 ∧ G c = b by omega)] at g5; exact g5)
                  | (rw [Int.add_zero]
                     exact ihd (c + 1) _ (by omega) (by omega) (by omega) (by omega) (by rw [if_neg (show ¬ (s_hd σ b = 1 ∧ s_hd σ c = 1 ∧ G c = b) by omega)] at g5; exact g5))
      refine rr_iload F dX8_count_25 rfl ?_
      refine rr_bipush F dX8_count_27 (by decide) ?_
      refine rr_icmp_ge F dX8_count_29 (tgt := 146) (by decide) ⟨by omega, by omega⟩ ⟨by omega, by omega⟩ (fun c_29 => ?_) (fun c_29 => ?_)
      · exfalso
        omega
      · refine rr_iconst F dX8_count_32 ?_
        refine rr_istore F dX8_count_33 (Nat.le_of_ble_eq_true rfl) rfl ?_
        refine rr_iconst F dX8_count_35 ?_
        refine rr_istore F dX8_count_36 (Nat.le_of_ble_eq_true rfl) rfl ?_
        exact inner (by omega) _ 0 0 rfl (by omega) (by omega) (by omega) (md_ms hI (by omega) (by omega))
  refine rr_iload_n F dX8_count_0 rfl ?_
  refine rr_iconst F dX8_count_1 ?_
  refine rr_iconst F dX8_count_2 ?_
  refine rr_callSI F (mm_X8_in hw ⟨by omega, by omega⟩ ⟨by omega, by omega⟩) mf_X8_in ml_X8_86 ⟨by decide, by decide⟩ rfl (Nat.le_of_ble_eq_true rfl) dX8_count_3 (fun r_3 I_3 L_3 h_3 => ?_)
  obtain ⟨e3, rfl, rfl⟩ := h_3
  refine rr_if_ne F dX8_count_6 (tgt := 11) (by decide) ⟨by omega, by omega⟩ (fun c_6 => ?_) (fun c_6 => ?_)
  · refine rr_aload_n F dX8_count_11 rfl ?_
    refine rr_callVV F (ci := 8) (mm_X8_findGroups hR hW) mf_X8_findGroups ml_X8_178 ⟨by decide, by decide⟩ (by first | rfl | assumption) (by decide) rfl rfl (Nat.le_of_ble_eq_true rfl) dX8_count_12 (fun I_12 L_12 h_12 => ?_)
    obtain ⟨c1, c2, c3⟩ := h_12
    rw [hG] at c1
    refine rr_iconst F dX8_count_15 ?_
    refine rr_istore_n F dX8_count_16 (Nat.le_of_ble_eq_true rfl) rfl ?_
    refine rr_iconst F dX8_count_17 ?_
    refine rr_istore_n F dX8_count_18 (Nat.le_of_ble_eq_true rfl) rfl ?_
    refine rr_iconst F dX8_count_19 ?_
    refine rr_istore F dX8_count_20 (Nat.le_of_ble_eq_true rfl) rfl ?_
    refine rr_iconst F dX8_count_22 ?_
    refine rr_istore F dX8_count_23 (Nat.le_of_ble_eq_true rfl) rfl ?_
    exact loop (by omega) (by omega) _ _ c3 c1 c2 _ 0 0 0 0 rfl (by omega) (by omega) rfl rfl rfl
  · refine rr_iconst F dX8_count_9 ?_
    refine rr_iret F dX8_count_10 ?_
    refine ⟨_, rfl, ?_, hR⟩
    show _ = sp_count σ w
    rw [sp_count, if_neg (by omega)]
