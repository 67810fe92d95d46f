/-! what is asked of the class's groups -/
theorem cntF_b (m : Int → Int) : ∀ (n : Nat) (i a : Int), a ≤ cntF m n i a ∧ cntF m n i a ≤ a + n := by
  intro n
  induction n with
  | zero => intro i a; rw [cntF]; omega
  | succ n ih =>
    intro i a
    rw [cntF]
    split
    · have := ih (i + 1) a; omega
    · have := ih (i + 1) (a + 1); omega
def mbF (G : Int → Int) (i : Int) : Int := cntF (fun c => if G c = i then 1 else 0) 6 0 0
def msF (G : Int → Int) (i : Int) : Int := if G i = i then mbF G i else 0
def hmF (G : Int → Int) (lo hi : Int) : Int := cntF (fun i => if lo ≤ msF G i ∧ msF G i ≤ hi then 1 else 0) 6 0 0
theorem mbF_b (G : Int → Int) (i : Int) : 0 ≤ mbF G i ∧ mbF G i ≤ 6 := by have := cntF_b (fun c => if G c = i then 1 else 0) 6 0 0; unfold mbF; omega
def erF (σ : sT) (G : Int → Int) (ld : Int) : Nat → Int → Int → Int
  | 0, _, f => f
  | n + 1, i, f => erF σ G ld n (i + 1) (if G i = ld ∧ ¬ i = s_gv σ ∧ (f = -1 ∨ s_dy σ i < s_dy σ f) then i else f)
def fsF (σ : sT) (G : Int → Int) (ld : Int) : Int := if erF σ G ld 6 0 (-1) = -1 then s_gv σ else erF σ G ld 6 0 (-1)
noncomputable def sp_group (σ : sT) (b : Int) : Int := if rB σ b = 0 then (grp σ).1 b else rB σ b
noncomputable def sp_first (σ : sT) (b : Int) : Int := if rB σ b = 0 then fsF σ (grp σ).1 ((grp σ).1 b) else rB σ b
noncomputable def sp_count (σ : sT) (w : Int) : Int := if 0 ≤ w ∧ w ≤ 3 then (if w = 0 then cntF (s_hd σ) 6 0 0 else if w = 3 then (grp σ).2 else if w = 1 then hmF (grp σ).1 1 6 else hmF (grp σ).1 1 1) else -1
set_option maxHeartbeats 4000000 in
set_option maxRecDepth 100000 in
theorem mm_X2_membersOf {l : Launch} {g : gT} {G : Int → Int} {ld : Int} {I : IM} {L : LM} (hl : rg ld) (hG : ∀ c, 0 ≤ c → c < 6 → I 41 c = G c) (hr : ∀ c, 0 ≤ c → c < 6 → rg (G c)) :
    Ct l yX2_membersOf cX2_membersOf 4 (some .int) 0 0 lyC g [.ref (g.2.1 40), .int (zI ld)] I L (pI (fun r I' L' => r = mbF G ld ∧ I = I' ∧ L = L')) := by
  refine Ct.of RX2 (by decide +kernel) rfl (Nat.le_of_ble_eq_true rfl) (fun x hx F => ?_)
  have loop : ∀ (n : Nat) (i a : Int), n = (6 - i).toNat → 0 ≤ i → i ≤ 6 → cntF (fun c => if G c = ld then 1 else 0) n i a = mbF G ld → Rn x lyC g (pI (fun r I' L' => r = mbF G ld ∧ I = I' ∧ L = L')) 4 [vr g 40, vn ld, vn a, vn i] [] I L := by
    intro n
    induction n with
    | zero =>
      intro i a h1 h2 h3 h4
      refine rr_iload_n F dX2_membersOf_4 rfl ?_
      refine rr_bipush F dX2_membersOf_5 (by decide) ?_
      refine rr_icmp_ge F dX2_membersOf_7 (tgt := 29) (by decide) ⟨by omega, by omega⟩ ⟨by omega, by omega⟩ (fun c_7 => ?_) (fun c_7 => ?_)
      · refine rr_iload_n F dX2_membersOf_29 rfl ?_
        refine rr_iret F dX2_membersOf_30 ?_
        exact ⟨_, rfl, by rw [← h4, cntF], rfl, rfl⟩
      · exfalso
        omega
    | succ n ih =>
      intro i a h1 h2 h3 h4
      rw [cntF] at h4
      have e := hG i (by omega)
      have er := hr i h2
      refine rr_iload_n F dX2_membersOf_4 rfl ?_
      refine rr_bipush F dX2_membersOf_5 (by decide) ?_
      refine rr_icmp_ge F dX2_membersOf_7 (tgt := 29) (by decide) ⟨by omega, by omega⟩ ⟨by omega, by omega⟩ (fun c_7 => ?_) (fun c_7 => ?_)
      · exfalso
        omega
      · refine rr_aload_n F dX2_membersOf_10 rfl ?_
        refine rg_Groups_leaders F (by first | rfl | assumption) fl_X2_9 dX2_membersOf_11 ?_
        refine rr_cell (k2 := 41) rfl ?_
        refine rr_iload_n F dX2_membersOf_14 rfl ?_
        refine rr_iald F (N := 6) (by first | rfl | assumption) (by omega) (by first | rfl | assumption) (by omega) dX2_membersOf_15 ?_
        rw [e (by omega)]
        refine rr_iload_n F dX2_membersOf_16 rfl ?_
        refine rr_icmp_ne F dX2_membersOf_17 (tgt := 23) (by decide) (by exact er (by omega)) (by exact hl) (fun c_17 => ?_) (fun c_17 => ?_)
        · refine rr_iinc F dX2_membersOf_23 rfl rfl ?_
          refine rr_goto F dX2_membersOf_26 (tgt := 4) (by decide) ?_
          first | exact ih (i + 1) _ (by omega) (by omega) (by omega) (by rw [if_pos c_17] at h4; exact h4) | exact ih (i + 1) _ (by omega) (by omega) (by omega) (by rw [if_neg c_17] at h4; exact h4)
        · refine rr_iinc F dX2_membersOf_20 rfl rfl ?_
          refine rr_iinc F dX2_membersOf_23 rfl rfl ?_
          refine rr_goto F dX2_membersOf_26 (tgt := 4) (by decide) ?_
          first | exact ih (i + 1) _ (by omega) (by omega) (by omega) (by rw [if_pos c_17] at h4; exact h4) | exact ih (i + 1) _ (by omega) (by omega) (by omega) (by rw [if_neg c_17] at h4; exact h4)
  refine rr_iconst F dX2_membersOf_0 ?_
  refine rr_istore_n F dX2_membersOf_1 (Nat.le_of_ble_eq_true rfl) rfl ?_
  refine rr_iconst F dX2_membersOf_2 ?_
  refine rr_istore_n F dX2_membersOf_3 (Nat.le_of_ble_eq_true rfl) rfl ?_
  exact loop _ 0 0 rfl (by omega) (by omega) rfl
set_option maxHeartbeats 4000000 in
set_option maxRecDepth 100000 in
theorem mm_X2_howMany {l : Launch} {g : gT} {G : Int → Int} {lo hi : Int} {I : IM} {L : LM} (hlo : rg lo) (hhi : rg hi) (hG : ∀ c, 0 ≤ c → c < 6 → I 41 c = G c) (hr : ∀ c, 0 ≤ c → c < 6 → rg (G c)) :
    Ct l yX2_howMany cX2_howMany 6 (some .int) 1 23 lyC g [.ref (g.2.1 40), .int (zI lo), .int (zI hi)] I L (pI (fun r I' L' => r = hmF G lo hi ∧ I = I' ∧ L = L')) := by
  refine Ct.of RX2 (by decide +kernel) rfl (Nat.le_of_ble_eq_true rfl) (fun x hx F => ?_)
  have loop : ∀ (n : Nat) (i a : Int), n = (6 - i).toNat → 0 ≤ i → i ≤ 6 → cntF (fun i => if lo ≤ msF G i ∧ msF G i ≤ hi then 1 else 0) n i a = hmF G lo hi → Rn x lyC g (pI (fun r I' L' => r = hmF G lo hi ∧ I = I' ∧ L = L')) 5 [vr g 40, vn lo, vn hi, vn a, vn i, none] [] I L := by
    intro n
    induction n with
    | zero =>
      intro i a h1 h2 h3 h4
      refine rr_iload F dX2_howMany_5 rfl ?_
      refine rr_bipush F dX2_howMany_7 (by decide) ?_
      refine rr_icmp_ge F dX2_howMany_9 (tgt := 57) (by decide) ⟨by omega, by omega⟩ ⟨by omega, by omega⟩ (fun c_9 => ?_) (fun c_9 => ?_)
      · refine rr_iload_n F dX2_howMany_57 rfl ?_
        refine rr_iret F dX2_howMany_58 ?_
        exact ⟨_, rfl, by rw [← h4, cntF], rfl, rfl⟩
      · exfalso
        omega
    | succ n ih =>
      intro i a h1 h2 h3 h4
      rw [cntF] at h4
      have e := hG i (by omega)
      have er := hr i h2
      have mb := mbF_b G i
      have tail : ∀ m : Int, m = msF G i → (0 ≤ m ∧ m ≤ 6) → Rn x lyC g (pI (fun r I' L' => r = hmF G lo hi ∧ I = I' ∧ L = L')) 36 [vr g 40, vn lo, vn hi, vn a, vn i, vn m] [] I L := by
        intro m hm hmb
        rw [← hm] at h4
        refine rr_iload F dX2_howMany_36 rfl ?_
        refine rr_iload_n F dX2_howMany_38 rfl ?_
        refine rr_icmp_lt F dX2_howMany_39 (tgt := 51) (by decide) (by exact ⟨by omega, by omega⟩) (by exact hlo) (fun c_39 => ?_) (fun c_39 => ?_)
        · refine rr_iinc F dX2_howMany_51 rfl rfl ?_
          refine rr_goto F dX2_howMany_54 (tgt := 5) (by decide) ?_
          refine rr_drop 5 ?_
          first | exact ih (i + 1) _ (by omega) (by omega) (by omega) (by rw [if_pos (show lo ≤ m ∧ m ≤ hi by omega)] at h4; exact h4) | exact ih (i + 1) _ (by omega) (by omega) (by omega) (by rw [if_neg (show ¬ (lo ≤ m ∧ m ≤ hi) by omega)] at h4; exact h4)
        · refine rr_iload F dX2_howMany_42 rfl ?_
          refine rr_iload_n F dX2_howMany_44 rfl ?_
          refine rr_icmp_gt F dX2_howMany_45 (tgt := 51) (by decide) (by exact ⟨by omega, by omega⟩) (by exact hhi) (fun c_45 => ?_) (fun c_45 => ?_)
          · refine rr_iinc F dX2_howMany_51 rfl rfl ?_
            refine rr_goto F dX2_howMany_54 (tgt := 5) (by decide) ?_
            refine rr_drop 5 ?_
            first | exact ih (i + 1) _ (by omega) (by omega) (by omega) (by rw [if_pos (show lo ≤ m ∧ m ≤ hi by omega)] at h4; exact h4) | exact ih (i + 1) _ (by omega) (by omega) (by omega) (by rw [if_neg (show ¬ (lo ≤ m ∧ m ≤ hi) by omega)] at h4; exact h4)
          · refine rr_iinc F dX2_howMany_48 rfl rfl ?_
            refine rr_iinc F dX2_howMany_51 rfl rfl ?_
            refine rr_goto F dX2_howMany_54 (tgt := 5) (by decide) ?_
            refine rr_drop 5 ?_
            first | exact ih (i + 1) _ (by omega) (by omega) (by omega) (by rw [if_pos (show lo ≤ m ∧ m ≤ hi by omega)] at h4; exact h4) | exact ih (i + 1) _ (by omega) (by omega) (by omega) (by rw [if_neg (show ¬ (lo ≤ m ∧ m ≤ hi) by omega)] at h4; exact h4)
      refine rr_iload F dX2_howMany_5 rfl ?_
      refine rr_bipush F dX2_howMany_7 (by decide) ?_
      refine rr_icmp_ge F dX2_howMany_9 (tgt := 57) (by decide) ⟨by omega, by omega⟩ ⟨by omega, by omega⟩ (fun c_9 => ?_) (fun c_9 => ?_)
      · exfalso
        omega
      · refine rr_aload_n F dX2_howMany_12 rfl ?_
        refine rg_Groups_leaders F (by first | rfl | assumption) fl_X2_9 dX2_howMany_13 ?_
        refine rr_cell (k2 := 41) rfl ?_
        refine rr_iload F dX2_howMany_16 rfl ?_
        refine rr_iald F (N := 6) (by first | rfl | assumption) (by omega) (by first | rfl | assumption) (by omega) dX2_howMany_18 ?_
        rw [e (by omega)]
        refine rr_iload F dX2_howMany_19 rfl ?_
        refine rr_icmp_ne F dX2_howMany_21 (tgt := 33) (by decide) (by exact er (by omega)) (by exact ⟨by omega, by omega⟩) (fun c_21 => ?_) (fun c_21 => ?_)
        · refine rr_iconst F dX2_howMany_33 ?_
          refine rr_istore F dX2_howMany_34 (Nat.le_of_ble_eq_true rfl) rfl ?_
          first | exact tail _ (by rw [msF, if_pos c_21]; exact e27) (by omega) | exact tail 0 (by rw [msF, if_neg c_21]) (by omega)
        · refine rr_aload_n F dX2_howMany_24 rfl ?_
          refine rr_iload F dX2_howMany_25 rfl ?_
          refine rr_callVI F (ci := 2) (mm_X2_membersOf (G := G) ⟨by omega, by omega⟩ hG hr) mf_X2_membersOf ml_X2_44 ⟨by decide, by decide⟩ (by first | rfl | assumption) (by decide) rfl rfl (Nat.le_of_ble_eq_true rfl) dX2_howMany_27 (fun r_27 I_27 L_27 h_27 => ?_)
          obtain ⟨e27, rfl, rfl⟩ := h_27
          refine rr_goto F dX2_howMany_30 (tgt := 34) (by decide) ?_
          refine rr_istore F dX2_howMany_34 (Nat.le_of_ble_eq_true rfl) rfl ?_
          first | exact tail _ (by rw [msF, if_pos c_21]; exact e27) (by omega) | exact tail 0 (by rw [msF, if_neg c_21]) (by omega)
  refine rr_iconst F dX2_howMany_0 ?_
  refine rr_istore_n F dX2_howMany_1 (Nat.le_of_ble_eq_true rfl) rfl ?_
  refine rr_iconst F dX2_howMany_2 ?_
  refine rr_istore F dX2_howMany_3 (Nat.le_of_ble_eq_true rfl) rfl ?_
  exact loop _ 0 0 rfl (by omega) (by omega) rfl
set_option maxHeartbeats 4000000 in
set_option maxRecDepth 100000 in
theorem mm_X2_earliest {l : Launch} {g : gT} {σ : sT} {G : Int → Int} {ld : Int} {I : IM} {L : LM} (hR : CR σ I L) (hW : WF σ) (hl0 : 0 ≤ ld) (hl : ld < 6) (hG : ∀ c, 0 ≤ c → c < 6 → I 41 c = G c) (hI : GI σ G) :
    Ct l yX2_earliest cX2_earliest 5 (some .int) 0 0 lyC g [.ref (g.2.1 40), .ref (g.2.1 4), .int (zI ld)] I L (pI (fun r I' L' => r = fsF σ G ld ∧ I = I' ∧ L = L')) := by
  have w6 := hW.2.2.2.2.2.1
  have w11 := hW.2.2.2.2.2.2.2.2.2.2.1
  have eg := hR.2.2.2.1
  refine Ct.of RX2 (by decide +kernel) rfl (Nat.le_of_ble_eq_true rfl) (fun x hx F => ?_)
  have loop : ∀ (n : Nat) (i f : Int), n = (6 - i).toNat → 0 ≤ i → i ≤ 6 → (-1 ≤ f ∧ f < 6) → (0 ≤ f → s_hd σ f = 1) → erF σ G ld n i f = erF σ G ld 6 0 (-1) → Rn x lyC g (pI (fun r I' L' => r = fsF σ G ld ∧ I = I' ∧ L = L')) 5 [vr g 40, vr g 4, vn ld, vn f, vn i] [] I L := by
    intro n
    induction n with
    | zero =>
      intro i f h1 h2 h3 h4 h5 h6
      rw [erF] at h6
      refine rr_iload F dX2_earliest_5 rfl ?_
      refine rr_bipush F dX2_earliest_7 (by decide) ?_
      refine rr_icmp_ge F dX2_earliest_9 (tgt := 68) (by decide) ⟨by omega, by omega⟩ ⟨by omega, by omega⟩ (fun c_9 => ?_) (fun c_9 => ?_)
      · refine rr_iload_n F dX2_earliest_68 rfl ?_
        refine rr_iconst F dX2_earliest_69 ?_
        refine rr_icmp_ne F dX2_earliest_70 (tgt := 80) (by decide) ⟨by omega, by omega⟩ ⟨by omega, by omega⟩ (fun c_70 => ?_) (fun c_70 => ?_)
        · refine rr_iload_n F dX2_earliest_80 rfl ?_
          refine rr_iret F dX2_earliest_81 ?_
          refine ⟨_, rfl, ?_, rfl, rfl⟩
          rw [fsF, ← h6]
          first | (rw [if_pos (by omega), eg]; done) | (rw [if_neg (by omega)]; done)
        · refine rr_aload_n F dX2_earliest_73 rfl ?_
          refine rg_Shelf_givenNumber F (by first | rfl | assumption) fl_X2_48 dX2_earliest_74 ?_
          refine rr_goto F dX2_earliest_77 (tgt := 81) (by decide) ?_
          refine rr_iret F dX2_earliest_81 ?_
          refine ⟨_, rfl, ?_, rfl, rfl⟩
          rw [fsF, ← h6]
          first | (rw [if_pos (by omega), eg]; done) | (rw [if_neg (by omega)]; done)
      · exfalso
        omega
    | succ n ih =>
      intro i f h1 h2 h3 h4 h5 h6
      rw [erF] at h6
      have e := hG i h2
      have hi := hI i h2
      have er := GI_rg hI h2
      have wi := w6 i
      have wf := w6 f
      refine rr_iload F dX2_earliest_5 rfl ?_
      refine rr_bipush F dX2_earliest_7 (by decide) ?_
      refine rr_icmp_ge F dX2_earliest_9 (tgt := 68) (by decide) ⟨by omega, by omega⟩ ⟨by omega, by omega⟩ (fun c_9 => ?_) (fun c_9 => ?_)
      · exfalso
        omega
      · refine rr_aload_n F dX2_earliest_12 rfl ?_
        refine rg_Groups_leaders F (by first | rfl | assumption) fl_X2_9 dX2_earliest_13 ?_
        refine rr_cell (k2 := 41) rfl ?_
        refine rr_iload F dX2_earliest_16 rfl ?_
        refine rr_iald F (N := 6) (by first | rfl | assumption) (by omega) (by first | rfl | assumption) (by omega) dX2_earliest_18 ?_
        rw [e (by omega)]
        have er := er (by omega)
        refine rr_iload_n F dX2_earliest_19 rfl ?_
        refine rr_icmp_ne F dX2_earliest_20 (tgt := 62) (by decide) ⟨by omega, by omega⟩ ⟨by omega, by omega⟩ (fun c_20 => ?_) (fun c_20 => ?_)
        · refine rr_iinc F dX2_earliest_62 rfl rfl ?_
          refine rr_goto F dX2_earliest_65 (tgt := 5) (by decide) ?_
          first
          | exact ih (i + 1) f (by omega) (by omega) (by omega) h4 h5 (by rw [if_neg (by omega)] at h6; exact h6)
          | (refine ih (i + 1) i (by omega) (by omega) (by omega) (by omega) (fun _ => ?_) (by rw [if_pos (by omega)] at h6; exact h6)
             by_cases z : s_hd σ i = 1
             · exact z
             · have := (hi (by omega)).2 z; omega)
        · refine rr_iload F dX2_earliest_23 rfl ?_
          refine rr_aload_n F dX2_earliest_25 rfl ?_
          refine rg_Shelf_givenNumber F (by first | rfl | assumption) fl_X2_48 dX2_earliest_26 ?_
          rw [eg]
          refine rr_icmp_eq F dX2_earliest_29 (tgt := 62) (by decide) ⟨by omega, by omega⟩ ⟨by omega, by omega⟩ (fun c_29 => ?_) (fun c_29 => ?_)
          · refine rr_iinc F dX2_earliest_62 rfl rfl ?_
            refine rr_goto F dX2_earliest_65 (tgt := 5) (by decide) ?_
            first
            | exact ih (i + 1) f (by omega) (by omega) (by omega) h4 h5 (by rw [if_neg (by omega)] at h6; exact h6)
            | (refine ih (i + 1) i (by omega) (by omega) (by omega) (by omega) (fun _ => ?_) (by rw [if_pos (by omega)] at h6; exact h6)
               by_cases z : s_hd σ i = 1
               · exact z
               · have := (hi (by omega)).2 z; omega)
          · refine rr_iload_n F dX2_earliest_32 rfl ?_
            refine rr_iconst F dX2_earliest_33 ?_
            refine rr_icmp_eq F dX2_earliest_34 (tgt := 59) (by decide) ⟨by omega, by omega⟩ ⟨by omega, by omega⟩ (fun c_34 => ?_) (fun c_34 => ?_)
            · refine rr_iload F dX2_earliest_59 rfl ?_
              refine rr_istore_n F dX2_earliest_61 (Nat.le_of_ble_eq_true rfl) rfl ?_
              refine rr_iinc F dX2_earliest_62 rfl rfl ?_
              refine rr_goto F dX2_earliest_65 (tgt := 5) (by decide) ?_
              first
              | exact ih (i + 1) f (by omega) (by omega) (by omega) h4 h5 (by rw [if_neg (by omega)] at h6; exact h6)
              | (refine ih (i + 1) i (by omega) (by omega) (by omega) (by omega) (fun _ => ?_) (by rw [if_pos (by omega)] at h6; exact h6)
                 by_cases z : s_hd σ i = 1
                 · exact z
                 · have := (hi (by omega)).2 z; omega)
            · refine rr_aload_n F dX2_earliest_37 rfl ?_
              refine rg_Shelf_books F (by first | rfl | assumption) fl_X2_51 dX2_earliest_38 ?_
              refine rr_cell (k2 := 5) rfl ?_
              refine rr_iload F dX2_earliest_41 rfl ?_
              refine rr_aald F (N := 6) (by first | rfl | assumption) (by omega) (by first | rfl | assumption) (by omega) dX2_earliest_43 ?_
              refine rr_bk ?_
              obtain ⟨q1, q2, q3⟩ := (bk_isB (b := i) (by omega) (by omega)).f
              have hhi : s_hd σ i = 1 := by
                by_cases z : s_hd σ i = 1
                · exact z
                · have := (hi (by omega)).2 z; omega
              have d1 := ((hR.2.2.1 i (by omega) (by omega)).2 hhi).2.2.1
              have hBf := bk_isB (b := f) (by omega) (by omega)
              obtain ⟨q4, q5, q6⟩ := hBf.f
              have d2 := ((hR.2.2.1 f (by omega) (by omega)).2 (h5 (by omega))).2.2.1
              refine rg_Book_day F (by first | rfl | assumption) fl_X2_55 dX2_earliest_44 ?_
              refine rr_aload_n F dX2_earliest_47 rfl ?_
              refine rg_Shelf_books F (by first | rfl | assumption) fl_X2_51 dX2_earliest_48 ?_
              refine rr_cell (k2 := 5) rfl ?_
              refine rr_iload_n F dX2_earliest_51 rfl ?_
              refine rr_aald F (N := 6) (by first | rfl | assumption) (by omega) (by first | rfl | assumption) (by omega) dX2_earliest_52 ?_
              refine rr_bk ?_
              refine rg_Book_day F (by first | rfl | assumption) fl_X2_55 dX2_earliest_53 ?_
              rw [d1, d2]
              refine rr_icmp_ge F dX2_earliest_56 (tgt := 62) (by decide) ⟨by omega, by omega⟩ ⟨by omega, by omega⟩ (fun c_56 => ?_) (fun c_56 => ?_)
              · refine rr_iinc F dX2_earliest_62 rfl rfl ?_
                refine rr_goto F dX2_earliest_65 (tgt := 5) (by decide) ?_
                first
                | exact ih (i + 1) f (by omega) (by omega) (by omega) h4 h5 (by rw [if_neg (by omega)] at h6; exact h6)
                | (refine ih (i + 1) i (by omega) (by omega) (by omega) (by omega) (fun _ => ?_) (by rw [if_pos (by omega)] at h6; exact h6)
                   by_cases z : s_hd σ i = 1
                   · exact z
                   · have := (hi (by omega)).2 z; omega)
              · refine rr_iload F dX2_earliest_59 rfl ?_
                refine rr_istore_n F dX2_earliest_61 (Nat.le_of_ble_eq_true rfl) rfl ?_
                refine rr_iinc F dX2_earliest_62 rfl rfl ?_
                refine rr_goto F dX2_earliest_65 (tgt := 5) (by decide) ?_
                first
                | exact ih (i + 1) f (by omega) (by omega) (by omega) h4 h5 (by rw [if_neg (by omega)] at h6; exact h6)
                | (refine ih (i + 1) i (by omega) (by omega) (by omega) (by omega) (fun _ => ?_) (by rw [if_pos (by omega)] at h6; exact h6)
                   by_cases z : s_hd σ i = 1
                   · exact z
                   · have := (hi (by omega)).2 z; omega)
  refine rr_iconst F dX2_earliest_0 ?_
  refine rr_istore_n F dX2_earliest_1 (Nat.le_of_ble_eq_true rfl) rfl ?_
  refine rr_iconst F dX2_earliest_2 ?_
  refine rr_istore F dX2_earliest_3 (Nat.le_of_ble_eq_true rfl) rfl ?_
  exact loop _ 0 (-1) rfl (by omega) (by omega) (by omega) (fun z => absurd z (by omega)) rfl
set_option maxHeartbeats 4000000 in
set_option maxRecDepth 100000 in
theorem mm_X5_howManyBooks {l : Launch} {g : gT} {σ : sT} {I : IM} {L : LM} (hR : CR σ I L) (hW : WF σ) :
    Ct l yX5_howManyBooks cX5_howManyBooks 3 (some .int) 0 0 lyC g [.ref (g.2.1 4)] I L (pI (fun r I' L' => r = cntF (s_hd σ) 6 0 0 ∧ I = I' ∧ L = L')) := by
  have w3 := hW.2.2.1
  refine Ct.of RX5 (by decide +kernel) rfl (Nat.le_of_ble_eq_true rfl) (fun x hx F => ?_)
  have loop : ∀ (n : Nat) (i a : Int), n = (6 - i).toNat → 0 ≤ i → i ≤ 6 → cntF (s_hd σ) n i a = cntF (s_hd σ) 6 0 0 → Rn x lyC g (pI (fun r I' L' => r = cntF (s_hd σ) 6 0 0 ∧ I = I' ∧ L = L')) 4 [vr g 4, vn a, vn i] [] I L := by
    intro n
    induction n with
    | zero =>
      intro i a h1 h2 h3 h4
      refine rr_iload_n F dX5_howManyBooks_4 rfl ?_
      refine rr_bipush F dX5_howManyBooks_5 (by decide) ?_
      refine rr_icmp_ge F dX5_howManyBooks_7 (tgt := 31) (by decide) ⟨by omega, by omega⟩ ⟨by omega, by omega⟩ (fun c_7 => ?_) (fun c_7 => ?_)
      · refine rr_iload_n F dX5_howManyBooks_31 rfl ?_
        refine rr_iret F dX5_howManyBooks_32 ?_
        exact ⟨_, rfl, by rw [← h4, cntF], rfl, rfl⟩
      · exfalso
        omega
    | succ n ih =>
      intro i a h1 h2 h3 h4
      rw [cntF] at h4
      have wi := w3 i
      refine rr_iload_n F dX5_howManyBooks_4 rfl ?_
      refine rr_bipush F dX5_howManyBooks_5 (by decide) ?_
      refine rr_icmp_ge F dX5_howManyBooks_7 (tgt := 31) (by decide) ⟨by omega, by omega⟩ ⟨by omega, by omega⟩ (fun c_7 => ?_) (fun c_7 => ?_)
      · exfalso
        omega
      · refine rr_aload_n F dX5_howManyBooks_10 rfl ?_
        refine rg_Shelf_books F (by first | rfl | assumption) fl_X5_11 dX5_howManyBooks_11 ?_
        refine rr_cell (k2 := 5) rfl ?_
        refine rr_iload_n F dX5_howManyBooks_14 rfl ?_
        refine rr_aald F (N := 6) (by first | rfl | assumption) (by omega) (by first | rfl | assumption) (by omega) dX5_howManyBooks_15 ?_
        refine rr_bk ?_
        obtain ⟨q1, q2, q3⟩ := (bk_isB (b := i) (by omega) (by omega)).f
        have e := (hR.2.2.1 i (by omega) (by omega)).1
        refine rg_Book_held F (by first | rfl | assumption) fl_X5_38 dX5_howManyBooks_16 ?_
        rw [e]
        refine rr_if_eq F dX5_howManyBooks_19 (tgt := 25) (by decide) ⟨by omega, by omega⟩ (fun c_19 => ?_) (fun c_19 => ?_)
        · refine rr_iinc F dX5_howManyBooks_25 rfl rfl ?_
          refine rr_goto F dX5_howManyBooks_28 (tgt := 4) (by decide) ?_
          first | exact ih (i + 1) _ (by omega) (by omega) (by omega) (by rw [if_pos c_19] at h4; exact h4) | exact ih (i + 1) _ (by omega) (by omega) (by omega) (by rw [if_neg c_19] at h4; exact h4)
        · refine rr_iinc F dX5_howManyBooks_22 rfl rfl ?_
          refine rr_iinc F dX5_howManyBooks_25 rfl rfl ?_
          refine rr_goto F dX5_howManyBooks_28 (tgt := 4) (by decide) ?_
          first | exact ih (i + 1) _ (by omega) (by omega) (by omega) (by rw [if_pos c_19] at h4; exact h4) | exact ih (i + 1) _ (by omega) (by omega) (by omega) (by rw [if_neg c_19] at h4; exact h4)
  refine rr_iconst F dX5_howManyBooks_0 ?_
  refine rr_istore_n F dX5_howManyBooks_1 (Nat.le_of_ble_eq_true rfl) rfl ?_
  refine rr_iconst F dX5_howManyBooks_2 ?_
  refine rr_istore_n F dX5_howManyBooks_3 (Nat.le_of_ble_eq_true rfl) rfl ?_
  exact loop _ 0 0 rfl (by omega) (by omega) rfl
set_option maxHeartbeats 4000000 in
set_option maxRecDepth 100000 in
theorem mm_X7_group {l : Launch} {g : gT} {σ : sT} {b : Int} {I : IM} {L : LM} (hb : rg b) (hR : CR σ I L) (hW : WF σ) :
    Ct l yX7_group cX7_group 3 (some .int) 6 148 lyC g [.ref (g.2.1 0), .int (zI b)] I L (pS CR (sp_group σ b, σ)) := by
  have hc := rB_cases σ b
  refine Ct.of RX7 (by decide +kernel) rfl (Nat.le_of_ble_eq_true rfl) (fun x hx F => ?_)
  refine rr_aload_n F dX7_group_0 rfl ?_
  refine rr_iload_n F dX7_group_1 rfl ?_
  refine rr_callVI F (ci := 7) (mm_X7_refusalOfBook hb hR hW) mf_X7_refusalOfBook ml_X7_83 ⟨by decide, by decide⟩ (by first | rfl | assumption) (by decide) rfl rfl (Nat.le_of_ble_eq_true rfl) dX7_group_2 (fun r_2 I_2 L_2 h_2 => ?_)
  obtain ⟨e2, rfl, rfl⟩ := h_2
  refine rr_istore_n F dX7_group_5 (Nat.le_of_ble_eq_true rfl) rfl ?_
  refine rr_iload_n F dX7_group_6 rfl ?_
  refine rr_if_eq F dX7_group_7 (tgt := 12) (by decide) ⟨by omega, by omega⟩ (fun c_7 => ?_) (fun c_7 => ?_)
  · refine rr_aload_n F dX7_group_12 rfl ?_
    refine rg_BP_groups F (by first | rfl | assumption) fl_X7_40 dX7_group_13 ?_
    refine rr_cell (k2 := 40) rfl ?_
    refine rr_aload_n F dX7_group_16 rfl ?_
    refine rg_BP_shelf F (by first | rfl | assumption) fl_X7_26 dX7_group_17 ?_
    refine rr_cell (k2 := 4) rfl ?_
    refine rr_aload_n F dX7_group_20 rfl ?_
    refine rg_BP_comparison F (by first | rfl | assumption) fl_X7_33 dX7_group_21 ?_
    refine rr_cell (k2 := 18) rfl ?_
    refine rr_callVV F (ci := 2) (mm_X2_form hR hW) mf_X2_form ml_X7_173 ⟨by decide, by decide⟩ (by first | rfl | assumption) (by decide) rfl rfl (Nat.le_of_ble_eq_true rfl) dX7_group_24 (fun I_24 L_24 h_24 => ?_)
    obtain ⟨c1, c2, c3⟩ := h_24
    refine rr_aload_n F dX7_group_27 rfl ?_
    refine rg_BP_groups F (by first | rfl | assumption) fl_X7_40 dX7_group_28 ?_
    refine rr_cell (k2 := 40) rfl ?_
    refine rg_Groups_leaders F (by first | rfl | assumption) fl_X7_177 dX7_group_31 ?_
    refine rr_cell (k2 := 41) rfl ?_
    refine rr_iload_n F dX7_group_34 rfl ?_
    refine rr_iald F (N := 6) (by first | rfl | assumption) (by omega) (by first | rfl | assumption) (by omega) dX7_group_35 ?_
    refine rr_iret F dX7_group_36 ?_
    refine ⟨_, rfl, ?_, hR.kk c3⟩
    show _ = sp_group σ b
    rw [sp_group, if_pos (by omega)]; exact c1 b (by omega) (by omega)
  · refine rr_iload_n F dX7_group_10 rfl ?_
    refine rr_iret F dX7_group_11 ?_
    refine ⟨_, rfl, ?_, hR⟩
    show _ = sp_group σ b
    rw [sp_group, if_neg (by omega)]; exact e2
set_option maxHeartbeats 4000000 in
set_option maxRecDepth 100000 in
theorem mm_X7_first {l : Launch} {g : gT} {σ : sT} {b : Int} {I : IM} {L : LM} (hb : rg b) (hR : CR σ I L) (hW : WF σ) :
    Ct l yX7_first cX7_first 3 (some .int) 6 148 lyC g [.ref (g.2.1 0), .int (zI b)] I L (pS CR (sp_first σ b, σ)) := by
  have hc := rB_cases σ b
  refine Ct.of RX7 (by decide +kernel) rfl (Nat.le_of_ble_eq_true rfl) (fun x hx F => ?_)
  refine rr_aload_n F dX7_first_0 rfl ?_
  refine rr_iload_n F dX7_first_1 rfl ?_
  refine rr_callVI F (ci := 7) (mm_X7_refusalOfBook hb hR hW) mf_X7_refusalOfBook ml_X7_83 ⟨by decide, by decide⟩ (by first | rfl | assumption) (by decide) rfl rfl (Nat.le_of_ble_eq_true rfl) dX7_first_2 (fun r_2 I_2 L_2 h_2 => ?_)
  obtain ⟨e2, rfl, rfl⟩ := h_2
  refine rr_istore_n F dX7_first_5 (Nat.le_of_ble_eq_true rfl) rfl ?_
  refine rr_iload_n F dX7_first_6 rfl ?_
  refine rr_if_eq F dX7_first_7 (tgt := 12) (by decide) ⟨by omega, by omega⟩ (fun c_7 => ?_) (fun c_7 => ?_)
  · refine rr_aload_n F dX7_first_12 rfl ?_
    refine rg_BP_groups F (by first | rfl | assumption) fl_X7_40 dX7_first_13 ?_
    refine rr_cell (k2 := 40) rfl ?_
    refine rr_aload_n F dX7_first_16 rfl ?_
    refine rg_BP_shelf F (by first | rfl | assumption) fl_X7_26 dX7_first_17 ?_
    refine rr_cell (k2 := 4) rfl ?_
    refine rr_aload_n F dX7_first_20 rfl ?_
    refine rg_BP_comparison F (by first | rfl | assumption) fl_X7_33 dX7_first_21 ?_
    refine rr_cell (k2 := 18) rfl ?_
    refine rr_callVV F (ci := 2) (mm_X2_form hR hW) mf_X2_form ml_X7_173 ⟨by decide, by decide⟩ (by first | rfl | assumption) (by decide) rfl rfl (Nat.le_of_ble_eq_true rfl) dX7_first_24 (fun I_24 L_24 h_24 => ?_)
    obtain ⟨c1, c2, c3⟩ := h_24
    have eb := c1 b (by omega) (by omega)
    have lb := ((GI_grp σ) b (by omega) (by omega)).1 (by omega)
    refine rr_aload_n F dX7_first_27 rfl ?_
    refine rg_BP_groups F (by first | rfl | assumption) fl_X7_40 dX7_first_28 ?_
    refine rr_cell (k2 := 40) rfl ?_
    refine rr_aload_n F dX7_first_31 rfl ?_
    refine rg_BP_shelf F (by first | rfl | assumption) fl_X7_26 dX7_first_32 ?_
    refine rr_cell (k2 := 4) rfl ?_
    refine rr_aload_n F dX7_first_35 rfl ?_
    refine rg_BP_groups F (by first | rfl | assumption) fl_X7_40 dX7_first_36 ?_
    refine rr_cell (k2 := 40) rfl ?_
    refine rg_Groups_leaders F (by first | rfl | assumption) fl_X7_177 dX7_first_39 ?_
    refine rr_cell (k2 := 41) rfl ?_
    refine rr_iload_n F dX7_first_42 rfl ?_
    refine rr_iald F (N := 6) (by first | rfl | assumption) (by omega) (by first | rfl | assumption) (by omega) dX7_first_43 ?_
    rw [eb]
    refine rr_callVI F (ci := 2) (mm_X2_earliest (hR.kk c3) hW lb.1.1 lb.1.2 c1 (GI_grp σ)) mf_X2_earliest ml_X7_180 ⟨by decide, by decide⟩ (by first | rfl | assumption) (by decide) rfl rfl (Nat.le_of_ble_eq_true rfl) dX7_first_44 (fun r_44 I_44 L_44 h_44 => ?_)
    obtain ⟨e44, rfl, rfl⟩ := h_44
    refine rr_iret F dX7_first_47 ?_
    refine ⟨_, rfl, ?_, hR.kk c3⟩
    show _ = sp_first σ b
    rw [sp_first, if_pos (by omega)]; exact e44
  · refine rr_iload_n F dX7_first_10 rfl ?_
    refine rr_iret F dX7_first_11 ?_
    refine ⟨_, rfl, ?_, hR⟩
    show _ = sp_first σ b
    rw [sp_first, if_neg (by omega)]; exact e2
set_option maxHeartbeats 4000000 in
set_option maxRecDepth 100000 in
theorem mm_X7_count {l : Launch} {g : gT} {σ : sT} {w : Int} {I : IM} {L : LM} (hw : rg w) (hR : CR σ I L) (hW : WF σ) :
    Ct l yX7_count cX7_count 2 (some .int) 6 148 lyC g [.ref (g.2.1 0), .int (zI w)] I L (pS CR (sp_count σ w, σ)) := by
  have hw' := hw
  unfold rg at hw'
  have hr : ∀ c, 0 ≤ c → c < 6 → rg ((grp σ).1 c) := fun c u v => ⟨by have := GI_rg (GI_grp σ) u v; omega, by have := GI_rg (GI_grp σ) u v; omega⟩
  refine Ct.of RX7 (by decide +kernel) rfl (Nat.le_of_ble_eq_true rfl) (fun x hx F => ?_)
  refine rr_iload_n F dX7_count_0 rfl ?_
  refine rr_if_lt F dX7_count_1 (tgt := 9) (by decide) ⟨by omega, by omega⟩ (fun c_1 => ?_) (fun c_1 => ?_)
  · refine rr_iconst F dX7_count_9 ?_
    refine rr_iret F dX7_count_10 ?_
    refine ⟨_, rfl, ?_, hR⟩
    show _ = sp_count σ w
    rw [sp_count, if_neg (by omega)]
  · refine rr_iload_n F dX7_count_4 rfl ?_
    refine rr_iconst F dX7_count_5 ?_
    refine rr_icmp_le F dX7_count_6 (tgt := 11) (by decide) ⟨by omega, by omega⟩ ⟨by omega, by omega⟩ (fun c_6 => ?_) (fun c_6 => ?_)
    · refine rr_iload_n F dX7_count_11 rfl ?_
      refine rr_if_ne F dX7_count_12 (tgt := 23) (by decide) ⟨by omega, by omega⟩ (fun c_12 => ?_) (fun c_12 => ?_)
      · refine rr_aload_n F dX7_count_23 rfl ?_
        refine rg_BP_groups F (by first | rfl | assumption) fl_X7_40 dX7_count_24 ?_
        refine rr_cell (k2 := 40) rfl ?_
        refine rr_aload_n F dX7_count_27 rfl ?_
        refine rg_BP_shelf F (by first | rfl | assumption) fl_X7_26 dX7_count_28 ?_
        refine rr_cell (k2 := 4) rfl ?_
        refine rr_aload_n F dX7_count_31 rfl ?_
        refine rg_BP_comparison F (by first | rfl | assumption) fl_X7_33 dX7_count_32 ?_
        refine rr_cell (k2 := 18) rfl ?_
        refine rr_callVV F (ci := 2) (mm_X2_form hR hW) mf_X2_form ml_X7_173 ⟨by decide, by decide⟩ (by first | rfl | assumption) (by decide) rfl rfl (Nat.le_of_ble_eq_true rfl) dX7_count_35 (fun I_35 L_35 h_35 => ?_)
        obtain ⟨c1, c2, c3⟩ := h_35
        refine rr_iload_n F dX7_count_38 rfl ?_
        refine rr_iconst F dX7_count_39 ?_
        refine rr_icmp_ne F dX7_count_40 (tgt := 51) (by decide) ⟨by omega, by omega⟩ ⟨by omega, by omega⟩ (fun c_40 => ?_) (fun c_40 => ?_)
        · refine rr_iload_n F dX7_count_51 rfl ?_
          refine rr_iconst F dX7_count_52 ?_
          refine rr_icmp_ne F dX7_count_53 (tgt := 69) (by decide) ⟨by omega, by omega⟩ ⟨by omega, by omega⟩ (fun c_53 => ?_) (fun c_53 => ?_)
          · refine rr_aload_n F dX7_count_69 rfl ?_
            refine rg_BP_groups F (by first | rfl | assumption) fl_X7_40 dX7_count_70 ?_
            refine rr_cell (k2 := 40) rfl ?_
            refine rr_iconst F dX7_count_73 ?_
            refine rr_iconst F dX7_count_74 ?_
            refine rr_callVI F (ci := 2) (mm_X2_howMany ⟨by omega, by omega⟩ ⟨by omega, by omega⟩ c1 hr) mf_X2_howMany ml_X7_190 ⟨by decide, by decide⟩ (by first | rfl | assumption) (by decide) rfl rfl (Nat.le_of_ble_eq_true rfl) dX7_count_75 (fun r_75 I_75 L_75 h_75 => ?_)
            obtain ⟨e75, rfl, rfl⟩ := h_75
            refine rr_iret F dX7_count_78 ?_
            refine ⟨_, rfl, ?_, hR.kk c3⟩
            show _ = sp_count σ w
            rw [sp_count, if_pos (by omega), if_neg (by omega), if_neg (by omega)]
            first | (rw [if_pos (by omega)]; exact e63) | (rw [if_neg (by omega)]; exact e75)
          · refine rr_aload_n F dX7_count_56 rfl ?_
            refine rg_BP_groups F (by first | rfl | assumption) fl_X7_40 dX7_count_57 ?_
            refine rr_cell (k2 := 40) rfl ?_
            refine rr_iconst F dX7_count_60 ?_
            refine rr_bipush F dX7_count_61 (by decide) ?_
            refine rr_callVI F (ci := 2) (mm_X2_howMany ⟨by omega, by omega⟩ ⟨by omega, by omega⟩ c1 hr) mf_X2_howMany ml_X7_190 ⟨by decide, by decide⟩ (by first | rfl | assumption) (by decide) rfl rfl (Nat.le_of_ble_eq_true rfl) dX7_count_63 (fun r_63 I_63 L_63 h_63 => ?_)
            obtain ⟨e63, rfl, rfl⟩ := h_63
            refine rr_goto F dX7_count_66 (tgt := 78) (by decide) ?_
            refine rr_iret F dX7_count_78 ?_
            refine ⟨_, rfl, ?_, hR.kk c3⟩
            show _ = sp_count σ w
            rw [sp_count, if_pos (by omega), if_neg (by omega), if_neg (by omega)]
            first | (rw [if_pos (by omega)]; exact e63) | (rw [if_neg (by omega)]; exact e75)
        · refine rr_aload_n F dX7_count_43 rfl ?_
          refine rg_BP_groups F (by first | rfl | assumption) fl_X7_40 dX7_count_44 ?_
          refine rr_cell (k2 := 40) rfl ?_
          refine rg_Groups_links F (by first | rfl | assumption) fl_X7_187 dX7_count_47 ?_
          refine rr_iret F dX7_count_50 ?_
          refine ⟨_, rfl, ?_, hR.kk c3⟩
          show _ = sp_count σ w
          rw [sp_count, if_pos (by omega), if_neg (by omega), if_pos (by omega)]; exact c2
      · refine rr_aload_n F dX7_count_15 rfl ?_
        refine rg_BP_shelf F (by first | rfl | assumption) fl_X7_26 dX7_count_16 ?_
        refine rr_cell (k2 := 4) rfl ?_
        refine rr_callVI F (ci := 5) (mm_X5_howManyBooks hR hW) mf_X5_howManyBooks ml_X7_184 ⟨by decide, by decide⟩ (by first | rfl | assumption) (by decide) rfl rfl (Nat.le_of_ble_eq_true rfl) dX7_count_19 (fun r_19 I_19 L_19 h_19 => ?_)
        obtain ⟨e19, rfl, rfl⟩ := h_19
        refine rr_iret F dX7_count_22 ?_
        refine ⟨_, rfl, ?_, hR⟩
        show _ = sp_count σ w
        rw [sp_count, if_pos (by omega), if_pos (by omega)]; exact e19
    · refine rr_iconst F dX7_count_9 ?_
      refine rr_iret F dX7_count_10 ?_
      refine ⟨_, rfl, ?_, hR⟩
      show _ = sp_count σ w
      rw [sp_count, if_neg (by omega)]
