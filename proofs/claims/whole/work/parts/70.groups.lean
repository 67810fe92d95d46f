/-! groups: what they are -/
abbrev gS : Type := (Int → Int) × Int
def jnF (G : Int → Int) (x y : Int) : Int → Int := fun c => if G c = x ∨ G c = y then min x y else G c
noncomputable def stG (σ : sT) (s : gS) (a b : Int) : gS := if (s_hd σ a = 1 ∧ s_hd σ b = 1) ∧ s_bd σ ≤ sB σ a b 0 0 then (jnF s.1 (s.1 a) (s.1 b), s.2 + 1) else s
noncomputable def rwG (σ : sT) (a : Int) : Nat → Int → gS → gS
  | 0, _, s => s
  | n + 1, b, s => rwG σ a n (b + 1) (stG σ s a b)
noncomputable def alG (σ : sT) : Nat → Int → gS → gS
  | 0, _, s => s
  | n + 1, a, s => alG σ n (a + 1) (rwG σ a (5 - a).toNat (a + 1) s)
def g0F (σ : sT) : Int → Int := fun c => if s_hd σ c = 1 then c else -1
noncomputable def grp (σ : sT) : gS := alG σ 6 0 (g0F σ, 0)
/-- of a held book the leader is held and leads itself; of another there is none -/
def GI (σ : sT) (G : Int → Int) : Prop := ∀ c, 0 ≤ c → c < 6 → (s_hd σ c = 1 → (0 ≤ G c ∧ G c < 6) ∧ s_hd σ (G c) = 1 ∧ G (G c) = G c) ∧ (¬ s_hd σ c = 1 → G c = -1)
theorem GI_0 (σ : sT) : GI σ (g0F σ) := by
  intro c h0 h6
  refine ⟨fun h => ?_, fun h => by rw [g0F, if_neg h]⟩
  have e : g0F σ c = c := by rw [g0F, if_pos h]
  rw [e, e]
  exact ⟨⟨h0, h6⟩, h, rfl⟩
theorem GI_st {σ : sT} {s : gS} {a b : Int} (ha0 : 0 ≤ a) (ha : a < 6) (hb0 : 0 ≤ b) (hb : b < 6) (h : GI σ s.1) : GI σ (stG σ s a b).1 := by
  unfold stG
  split
  · next hc =>
    obtain ⟨x1, x2, x3⟩ := (h a ha0 ha).1 hc.1.1
    obtain ⟨y1, y2, y3⟩ := (h b hb0 hb).1 hc.1.2
    intro c h0 h6
    obtain ⟨z1, z2⟩ := h c h0 h6
    show (s_hd σ c = 1 → (0 ≤ jnF s.1 (s.1 a) (s.1 b) c ∧ jnF s.1 (s.1 a) (s.1 b) c < 6) ∧ s_hd σ (jnF s.1 (s.1 a) (s.1 b) c) = 1 ∧ jnF s.1 (s.1 a) (s.1 b) (jnF s.1 (s.1 a) (s.1 b) c) = jnF s.1 (s.1 a) (s.1 b) c) ∧ (¬ s_hd σ c = 1 → jnF s.1 (s.1 a) (s.1 b) c = -1)
    refine ⟨fun hh => ?_, fun hh => ?_⟩
    · obtain ⟨u1, u2, u3⟩ := z1 hh
      by_cases e : s.1 c = s.1 a ∨ s.1 c = s.1 b
      · have ec : jnF s.1 (s.1 a) (s.1 b) c = min (s.1 a) (s.1 b) := by rw [jnF, if_pos e]
        rw [ec]
        rcases Int.le_total (s.1 a) (s.1 b) with w | w
        · rw [Int.min_eq_left w]
          exact ⟨x1, x2, by rw [jnF, if_pos (Or.inl x3), Int.min_eq_left w]⟩
        · rw [Int.min_eq_right w]
          exact ⟨y1, y2, by rw [jnF, if_pos (Or.inr y3), Int.min_eq_right w]⟩
      · have ec : jnF s.1 (s.1 a) (s.1 b) c = s.1 c := by rw [jnF, if_neg e]
        rw [ec]
        exact ⟨u1, u2, by rw [jnF, u3, if_neg e]⟩
    · have := z2 hh
      rw [jnF, if_neg (by omega)]
      exact this
  · exact h
theorem GI_rw {σ : sT} {a : Int} (ha0 : 0 ≤ a) (ha : a < 6) : ∀ (n : Nat) (b : Int) (s : gS), 0 ≤ b → b + n ≤ 6 → GI σ s.1 → GI σ (rwG σ a n b s).1 := by
  intro n
  induction n with
  | zero => intro b s h0 h6 h; exact h
  | succ n ih => intro b s h0 h6 h; rw [rwG]; exact ih _ _ (by omega) (by omega) (GI_st ha0 ha h0 (by omega) h)
theorem GI_al {σ : sT} : ∀ (n : Nat) (a : Int) (s : gS), 0 ≤ a → a + n ≤ 6 → GI σ s.1 → GI σ (alG σ n a s).1 := by
  intro n
  induction n with
  | zero => intro a s h0 h6 h; exact h
  | succ n ih => intro a s h0 h6 h; rw [alG]; exact ih _ _ (by omega) (by omega) (GI_rw h0 (by omega) _ _ _ (by omega) (by omega) h)
theorem GI_grp (σ : sT) : GI σ (grp σ).1 := GI_al 6 0 _ (by omega) (by omega) (GI_0 σ)
theorem GI_rg {σ : sT} {G : Int → Int} (h : GI σ G) {c : Int} (h0 : 0 ≤ c) (h6 : c < 6) : -1 ≤ G c ∧ G c < 6 := by
  obtain ⟨z1, z2⟩ := h c h0 h6
  by_cases e : s_hd σ c = 1
  · have := (z1 e).1; omega
  · have := z2 e; omega
/-! the class's groups -/
set_option maxHeartbeats 4000000 in
set_option maxRecDepth 100000 in
theorem mm_X2_join {l : Launch} {g : gT} {G : Int → Int} {u v : Int} {I : IM} {L : LM} (hu : rg u) (hv : rg v) (hG : ∀ c, 0 ≤ c → c < 6 → I 41 c = G c) (hr : ∀ c, 0 ≤ c → c < 6 → rg (G c)) :
    Ct l yX2_join cX2_join 5 none 1 21 lyC g [.ref (g.2.1 40), .int (zI u), .int (zI v)] I L (pV (fun I' L' => (∀ c, 0 ≤ c → c < 6 → I' 41 c = jnF G u v c) ∧ (∀ q, q ≠ 41 → I' q = I q) ∧ L = L')) := by
  have hu' := hu
  have hv' := hv
  unfold rg at hu' hv'
  refine Ct.of RX2 (by decide +kernel) rfl (Nat.le_of_ble_eq_true rfl) (fun x hx F => ?_)
  have loop : ∀ (n : Nat) (i : Int) (I1 : IM), n = (6 - i).toNat → 0 ≤ i → i ≤ 6 → (∀ c, 0 ≤ c → c < i → I1 41 c = jnF G u v c) → (∀ c, i ≤ c → c < 6 → I1 41 c = G c) → (∀ q, q ≠ 41 → I1 q = I q) → Rn x lyC g (pV (fun I' L' => (∀ c, 0 ≤ c → c < 6 → I' 41 c = jnF G u v c) ∧ (∀ q, q ≠ 41 → I' q = I q) ∧ L = L')) 9 [vr g 40, vn u, vn v, vn (min u v), vn i] [] I1 L := by
    intro n
    induction n with
    | zero =>
      intro i I1 h1 h2 h3 h4 h5 h6
      refine rr_iload F dX2_join_9 rfl ?_
      refine rr_bipush F dX2_join_11 (by decide) ?_
      refine rr_icmp_ge F dX2_join_13 (tgt := 52) (by decide) ⟨by omega, by omega⟩ ⟨by omega, by omega⟩ (fun c_13 => ?_) (fun c_13 => ?_)
      · refine rr_vret F dX2_join_52 ?_
        exact ⟨rfl, fun c a b => h4 c a (by omega), h6, rfl⟩
      · exfalso
        omega
    | succ n ih =>
      intro i I1 h1 h2 h3 h4 h5 h6
      have e := h5 i (by omega) (by omega)
      have er := hr i h2 (by omega)
      refine rr_iload F dX2_join_9 rfl ?_
      refine rr_bipush F dX2_join_11 (by decide) ?_
      refine rr_icmp_ge F dX2_join_13 (tgt := 52) (by decide) ⟨by omega, by omega⟩ ⟨by omega, by omega⟩ (fun c_13 => ?_) (fun c_13 => ?_)
      · exfalso
        omega
      · refine rr_aload_n F dX2_join_16 rfl ?_
        refine rg_Groups_leaders F (by first | rfl | assumption) fl_X2_9 dX2_join_17 ?_
        refine rr_cell (k2 := 41) rfl ?_
        refine rr_iload F dX2_join_20 rfl ?_
        refine rr_iald F (N := 6) (by first | rfl | assumption) (by omega) (by first | rfl | assumption) (by omega) dX2_join_22 ?_
        rw [e]
        refine rr_iload_n F dX2_join_23 rfl ?_
        refine rr_icmp_eq F dX2_join_24 (tgt := 38) (by decide) (by exact er) (by exact hu) (fun c_24 => ?_) (fun c_24 => ?_)
        · refine rr_aload_n F dX2_join_38 rfl ?_
          refine rg_Groups_leaders F (by first | rfl | assumption) fl_X2_9 dX2_join_39 ?_
          refine rr_cell (k2 := 41) rfl ?_
          refine rr_iload F dX2_join_42 rfl ?_
          refine rr_iload_n F dX2_join_44 rfl ?_
          refine rr_iast F (N := 6) (by first | rfl | assumption) (by omega) (by first | rfl | assumption) (by omega) dX2_join_45 ?_
          refine rr_iinc F dX2_join_46 rfl rfl ?_
          refine rr_goto F dX2_join_49 (tgt := 9) (by decide) ?_
          first
          | (refine ih (i + 1) _ (by omega) (by omega) (by omega) (fun c a b => ?_) (fun c a b => ?_) (fun q a => ?_)
             · by_cases z : c = i
               · subst z; rw [up2_same, jnF, if_pos (by omega)]
               · rw [up2_ne _ _ _ z]; exact h4 c a (by omega)
             · rw [up2_ne _ _ _ (by omega)]; exact h5 c (by omega) b
             · rw [up2_cell _ _ _ a]; exact h6 q a)
          | (refine ih (i + 1) I1 (by omega) (by omega) (by omega) (fun c a b => ?_) (fun c a b => h5 c (by omega) b) h6
             by_cases z : c = i
             · subst z; rw [e, jnF, if_neg (by omega)]
             · exact h4 c a (by omega))
        · refine rr_aload_n F dX2_join_27 rfl ?_
          refine rg_Groups_leaders F (by first | rfl | assumption) fl_X2_9 dX2_join_28 ?_
          refine rr_cell (k2 := 41) rfl ?_
          refine rr_iload F dX2_join_31 rfl ?_
          refine rr_iald F (N := 6) (by first | rfl | assumption) (by omega) (by first | rfl | assumption) (by omega) dX2_join_33 ?_
          rw [e]
          refine rr_iload_n F dX2_join_34 rfl ?_
          refine rr_icmp_ne F dX2_join_35 (tgt := 46) (by decide) (by exact er) (by exact hv) (fun c_35 => ?_) (fun c_35 => ?_)
          · refine rr_iinc F dX2_join_46 rfl rfl ?_
            refine rr_goto F dX2_join_49 (tgt := 9) (by decide) ?_
            first
            | (refine ih (i + 1) _ (by omega) (by omega) (by omega) (fun c a b => ?_) (fun c a b => ?_) (fun q a => ?_)
               · by_cases z : c = i
                 · subst z; rw [up2_same, jnF, if_pos (by omega)]
                 · rw [up2_ne _ _ _ z]; exact h4 c a (by omega)
               · rw [up2_ne _ _ _ (by omega)]; exact h5 c (by omega) b
               · rw [up2_cell _ _ _ a]; exact h6 q a)
            | (refine ih (i + 1) I1 (by omega) (by omega) (by omega) (fun c a b => ?_) (fun c a b => h5 c (by omega) b) h6
               by_cases z : c = i
               · subst z; rw [e, jnF, if_neg (by omega)]
               · exact h4 c a (by omega))
          · refine rr_aload_n F dX2_join_38 rfl ?_
            refine rg_Groups_leaders F (by first | rfl | assumption) fl_X2_9 dX2_join_39 ?_
            refine rr_cell (k2 := 41) rfl ?_
            refine rr_iload F dX2_join_42 rfl ?_
            refine rr_iload_n F dX2_join_44 rfl ?_
            refine rr_iast F (N := 6) (by first | rfl | assumption) (by omega) (by first | rfl | assumption) (by omega) dX2_join_45 ?_
            refine rr_iinc F dX2_join_46 rfl rfl ?_
            refine rr_goto F dX2_join_49 (tgt := 9) (by decide) ?_
            first
            | (refine ih (i + 1) _ (by omega) (by omega) (by omega) (fun c a b => ?_) (fun c a b => ?_) (fun q a => ?_)
               · by_cases z : c = i
                 · subst z; rw [up2_same, jnF, if_pos (by omega)]
                 · rw [up2_ne _ _ _ z]; exact h4 c a (by omega)
               · rw [up2_ne _ _ _ (by omega)]; exact h5 c (by omega) b
               · rw [up2_cell _ _ _ a]; exact h6 q a)
            | (refine ih (i + 1) I1 (by omega) (by omega) (by omega) (fun c a b => ?_) (fun c a b => h5 c (by omega) b) h6
               by_cases z : c = i
               · subst z; rw [e, jnF, if_neg (by omega)]
               · exact h4 c a (by omega))
  refine rr_iload_n F dX2_join_0 rfl ?_
  refine rr_iload_n F dX2_join_1 rfl ?_
  refine rr_min F ml_X2_38 ⟨by omega, by omega⟩ ⟨by omega, by omega⟩ (by decide) (Nat.le_of_ble_eq_true rfl) dX2_join_2 ?_
  refine rr_istore_n F dX2_join_5 (Nat.le_of_ble_eq_true rfl) rfl ?_
  refine rr_iconst F dX2_join_6 ?_
  refine rr_istore F dX2_join_7 (Nat.le_of_ble_eq_true rfl) rfl ?_
  exact loop _ 0 I rfl (by omega) (by omega) (fun c a b => absurd b (by omega)) (fun c a b => hG c a b) (fun q a => rfl)
set_option maxHeartbeats 4000000 in
set_option maxRecDepth 100000 in
theorem mm_X2_form {l : Launch} {g : gT} {σ : sT} {I : IM} {L : LM} (hR : CR σ I L) (hW : WF σ) :
    Ct l yX2_form cX2_form 5 none 5 124 lyC g [.ref (g.2.1 40), .ref (g.2.1 4), .ref (g.2.1 18)] I L (pV (fun I' L' => (∀ c, 0 ≤ c → c < 6 → I' 41 c = (grp σ).1 c) ∧ I' 40 1 = (grp σ).2 ∧ (∀ q, q < 18 → I' q = I q ∧ L' q = L q))) := by
  have w3 := hW.2.2.1
  have wb := hW.2.2.2.2.2.2.2.2.2.1
  refine Ct.of RX2 (by decide +kernel) rfl (Nat.le_of_ble_eq_true rfl) (fun x hx F => ?_)
  generalize hpost : (pV (fun (I' : IM) (L' : LM) => (∀ c, 0 ≤ c → c < 6 → I' 41 c = (grp σ).1 c) ∧ I' 40 1 = (grp σ).2 ∧ (∀ q, q < 18 → I' q = I q ∧ L' q = L q))) = post
  have loopA : ∀ (n : Nat) (a : Int) (s : gS) (I1 : IM) (L1 : LM), n = (6 - a).toNat → 0 ≤ a → a ≤ 6 → GI σ s.1 → (∀ c, 0 ≤ c → c < 6 → I1 41 c = s.1 c) → I1 40 1 = s.2 → (0 ≤ s.2 ∧ s.2 ≤ 100 * a) → (∀ q, q < 18 → I1 q = I q ∧ L1 q = L q) → alG σ n a s = grp σ → Rn x lyC g post 40 [vr g 40, vr g 4, vr g 18, vn a, none] [] I1 L1 := by
    intro n
    induction n with
    | zero =>
      intro a s I1 L1 h1 h2 h3 h4 h5 h6 h7 h8 h9
      refine rr_iload_n F dX2_form_40 rfl ?_
      refine rr_bipush F dX2_form_41 (by decide) ?_
      refine rr_icmp_ge F dX2_form_43 (tgt := 130) (by decide) ⟨by omega, by omega⟩ ⟨by omega, by omega⟩ (fun c_43 => ?_) (fun c_43 => ?_)
      · refine rr_vret F dX2_form_130 ?_
        rw [← hpost]
        rw [alG] at h9
        exact ⟨rfl, fun c u v => by rw [h5 c u v, h9], by rw [h6, h9], h8⟩
      · exfalso
        omega
    | succ n ih =>
      intro a s I1 L1 h1 h2 h3 h4 h5 h6 h7 h8 h9
      rw [alG] at h9
      have inner : ∀ (m : Nat) (b : Int) (s : gS) (I2 : IM) (L2 : LM), m = (6 - b).toNat → a < b → b ≤ 6 → GI σ s.1 → (∀ c, 0 ≤ c → c < 6 → I2 41 c = s.1 c) → I2 40 1 = s.2 → (0 ≤ s.2 ∧ s.2 ≤ 100 * a + b) → (∀ q, q < 18 → I2 q = I q ∧ L2 q = L q) → alG σ n (a + 1) (rwG σ a m b s) = grp σ → Rn x lyC g post 51 [vr g 40, vr g 4, vr g 18, vn a, vn b] [] I2 L2 := by
        intro m
        induction m with
        | zero =>
          intro b s I2 L2 g1 g2 g3 g4 g5 g6 g7 g8 g9
          refine rr_iload F dX2_form_51 rfl ?_
          refine rr_bipush F dX2_form_53 (by decide) ?_
          refine rr_icmp_ge F dX2_form_55 (tgt := 124) (by decide) ⟨by omega, by omega⟩ ⟨by omega, by omega⟩ (fun c_55 => ?_) (fun c_55 => ?_)
          · refine rr_iinc F dX2_form_124 rfl rfl ?_
            refine rr_goto F dX2_form_127 (tgt := 40) (by decide) ?_
            refine rr_drop 4 ?_
            exact ih (a + 1) s I2 L2 (by omega) (by omega) (by omega) g4 g5 g6 (by omega) g8 g9
          · exfalso
            omega
        | succ m ihm =>
          intro b s I2 L2 g1 g2 g3 g4 g5 g6 g7 g8 g9
          rw [rwG] at g9
          have R2 := hR.kk g8
          have el : I2 4 5 = s_bd σ := R2.2.2.2.2.2.2.2
          have sb := sB_b hW a b 0 0 (by omega)
          have skip : ∀ (I3 : IM) (L3 : LM), kC I2 L2 I3 L3 → ¬ ((s_hd σ a = 1 ∧ s_hd σ b = 1) ∧ s_bd σ ≤ sB σ a b 0 0) → Rn x lyC g post 118 [vr g 40, vr g 4, vr g 18, vn a, vn b] [] I3 L3 := by
            intro I3 L3 k3 hno
            rw [stG, if_neg hno] at g9
            refine rr_iinc F dX2_form_118 rfl rfl ?_
            refine rr_goto F dX2_form_121 (tgt := 51) (by decide) ?_
            exact ihm (b + 1) s I3 L3 (by omega) (by omega) (by omega) g4 (fun c u v => by rw [(k3 41 (by omega)).1]; exact g5 c u v) (by rw [(k3 40 (by omega)).1]; exact g6) (by omega) (fun q hq => ⟨(k3 q (by omega)).1.trans (g8 q hq).1, (k3 q (by omega)).2.trans (g8 q hq).2⟩) g9
          refine rr_iload F dX2_form_51 rfl ?_
          refine rr_bipush F dX2_form_53 (by decide) ?_
          refine rr_icmp_ge F dX2_form_55 (tgt := 124) (by decide) ⟨by omega, by omega⟩ ⟨by omega, by omega⟩ (fun c_55 => ?_) (fun c_55 => ?_)
          · exfalso
            omega
          · refine rr_aload_n F dX2_form_58 rfl ?_
            refine rr_iload_n F dX2_form_59 rfl ?_
            refine rr_callVI F (ci := 5) (mm_X5_holds (σ := σ) ⟨by omega, by omega⟩ R2 hW) mf_X5_holds ml_X2_19 ⟨by decide, by decide⟩ (by first | rfl | assumption) (by decide) rfl rfl (Nat.le_of_ble_eq_true rfl) dX2_form_60 (fun r_60 I_60 L_60 h_60 => ?_)
            obtain ⟨e60, rfl, rfl⟩ := h_60
            refine rr_if_eq F dX2_form_63 (tgt := 118) (by decide) ⟨by omega, by omega⟩ (fun c_63 => ?_) (fun c_63 => ?_)
            · first
              | (rw [stG, if_pos (by omega)] at g9
                 have g4' := GI_st (s := s) (a := a) (b := b) (by omega) (by omega) (by omega) (by omega) g4
                 rw [stG, if_pos (by omega)] at g4'
                 refine rr_iinc F dX2_form_118 rfl rfl ?_
                 refine rr_goto F dX2_form_121 (tgt := 51) (by decide) ?_
                 exact ihm (b + 1) _ I_115 _ (by omega) (by omega) (by omega) g4' j1 (by rw [j2 40 (by omega), up2_same]) (by show 0 ≤ s.2 + 1 ∧ s.2 + 1 ≤ _; omega) (fun q hq => ⟨by rw [j2 q (by omega), up2_cell _ _ _ (by omega), (c5 q (by omega)).1]; exact (g8 q hq).1, by rw [(c5 q (by omega)).2]; exact (g8 q hq).2⟩) g9)
              | exact skip I_81 L_81 c5 (by omega)
              | exact skip _ _ kC.rf (by omega)
            · refine rr_aload_n F dX2_form_66 rfl ?_
              refine rr_iload F dX2_form_67 rfl ?_
              refine rr_callVI F (ci := 5) (mm_X5_holds (σ := σ) ⟨by omega, by omega⟩ R2 hW) mf_X5_holds ml_X2_19 ⟨by decide, by decide⟩ (by first | rfl | assumption) (by decide) rfl rfl (Nat.le_of_ble_eq_true rfl) dX2_form_69 (fun r_69 I_69 L_69 h_69 => ?_)
              obtain ⟨e69, rfl, rfl⟩ := h_69
              refine rr_if_eq F dX2_form_72 (tgt := 118) (by decide) ⟨by omega, by omega⟩ (fun c_72 => ?_) (fun c_72 => ?_)
              · first
                | (rw [stG, if_pos (by omega)] at g9
                   have g4' := GI_st (s := s) (a := a) (b := b) (by omega) (by omega) (by omega) (by omega) g4
                   rw [stG, if_pos (by omega)] at g4'
                   refine rr_iinc F dX2_form_118 rfl rfl ?_
                   refine rr_goto F dX2_form_121 (tgt := 51) (by decide) ?_
                   exact ihm (b + 1) _ I_115 _ (by omega) (by omega) (by omega) g4' j1 (by rw [j2 40 (by omega), up2_same]) (by show 0 ≤ s.2 + 1 ∧ s.2 + 1 ≤ _; omega) (fun q hq => ⟨by rw [j2 q (by omega), up2_cell _ _ _ (by omega), (c5 q (by omega)).1]; exact (g8 q hq).1, by rw [(c5 q (by omega)).2]; exact (g8 q hq).2⟩) g9)
                | exact skip I_81 L_81 c5 (by omega)
                | exact skip _ _ kC.rf (by omega)
              · refine rr_aload_n F dX2_form_75 rfl ?_
                refine rr_aload_n F dX2_form_76 rfl ?_
                refine rr_iload_n F dX2_form_77 rfl ?_
                refine rr_iload F dX2_form_78 rfl ?_
                refine rr_iconst F dX2_form_80 ?_
                refine rr_callVI F (ci := 1) (mm_X1_scoreOf R2 hW (by omega) (by omega) (by omega) (by omega) (by omega) (by omega) (by omega) (by omega) (by omega) (same_trn σ b) (zero_trn σ b) hW) mf_X1_scoreOf ml_X2_25 ⟨by decide, by decide⟩ (by first | rfl | assumption) (by decide) rfl rfl (Nat.le_of_ble_eq_true rfl) dX2_form_81 (fun r_81 I_81 L_81 h_81 => ?_)
                obtain ⟨c1, c2, c3, c4, c5⟩ := h_81
                have el2 : I_81 4 5 = s_bd σ := by rw [(c5 4 (by omega)).1]; exact el
                have e41 : I_81 41 = I2 41 := (c5 41 (by omega)).1
                have e40 : I_81 40 1 = s.2 := by rw [(c5 40 (by omega)).1]; exact g6
                refine rr_aload_n F dX2_form_84 rfl ?_
                refine rg_Shelf_linkScore F (by first | rfl | assumption) fl_X2_31 dX2_form_85 ?_
                rw [el2]
                refine rr_icmp_lt F dX2_form_88 (tgt := 118) (by decide) ⟨by omega, by omega⟩ ⟨by omega, by omega⟩ (fun c_88 => ?_) (fun c_88 => ?_)
                · first
                  | (rw [stG, if_pos (by omega)] at g9
                     have g4' := GI_st (s := s) (a := a) (b := b) (by omega) (by omega) (by omega) (by omega) g4
                     rw [stG, if_pos (by omega)] at g4'
                     refine rr_iinc F dX2_form_118 rfl rfl ?_
                     refine rr_goto F dX2_form_121 (tgt := 51) (by decide) ?_
                     exact ihm (b + 1) _ I_115 _ (by omega) (by omega) (by omega) g4' j1 (by rw [j2 40 (by omega), up2_same]) (by show 0 ≤ s.2 + 1 ∧ s.2 + 1 ≤ _; omega) (fun q hq => ⟨by rw [j2 q (by omega), up2_cell _ _ _ (by omega), (c5 q (by omega)).1]; exact (g8 q hq).1, by rw [(c5 q (by omega)).2]; exact (g8 q hq).2⟩) g9)
                  | exact skip I_81 L_81 c5 (by omega)
                  | exact skip _ _ kC.rf (by omega)
                · refine rr_aload_n F dX2_form_91 rfl ?_
                  refine rr_dup F dX2_form_92 rfl ?_
                  refine rg_Groups_links F (by first | rfl | assumption) fl_X2_15 dX2_form_93 ?_
                  refine rr_iconst F dX2_form_96 ?_
                  rw [e40]
                  refine rr_iadd F dX2_form_97 ?_
                  refine rp_Groups_links F (by first | rfl | assumption) fl_X2_15 dX2_form_98 ?_
                  refine rr_aload_n F dX2_form_101 rfl ?_
                  refine rr_aload_n F dX2_form_102 rfl ?_
                  refine rg_Groups_leaders F (by first | rfl | assumption) fl_X2_9 dX2_form_103 ?_
                  refine rr_cell (k2 := 41) rfl ?_
                  refine rr_iload_n F dX2_form_106 rfl ?_
                  refine rr_iald F (N := 6) (by first | rfl | assumption) (by omega) (by first | rfl | assumption) (by omega) dX2_form_107 ?_
                  refine rr_aload_n F dX2_form_108 rfl ?_
                  refine rg_Groups_leaders F (by first | rfl | assumption) fl_X2_9 dX2_form_109 ?_
                  refine rr_cell (k2 := 41) rfl ?_
                  refine rr_iload F dX2_form_112 rfl ?_
                  refine rr_iald F (N := 6) (by first | rfl | assumption) (by omega) (by first | rfl | assumption) (by omega) dX2_form_114 ?_
                  rw [up2_cell _ _ _ (show (41 : Nat) ≠ 40 by decide), e41, g5 a (by omega) (by omega), g5 b (by omega) (by omega)]
                  have ra := GI_rg g4 (c := a) (by omega) (by omega)
                  have rb := GI_rg g4 (c := b) (by omega) (by omega)
                  refine rr_callVV F (ci := 2) (mm_X2_join (G := s.1) ⟨by omega, by omega⟩ ⟨by omega, by omega⟩ (fun c u v => by rw [up2_cell _ _ _ (by decide), e41]; exact g5 c u v) (fun c u v => ⟨by have := GI_rg g4 u v; omega, by have := GI_rg g4 u v; omega⟩)) mf_X2_join ml_X2_34 ⟨by decide, by decide⟩ (by first | rfl | assumption) (by decide) rfl rfl (Nat.le_of_ble_eq_true rfl) dX2_form_115 (fun I_115 L_115 h_115 => ?_)
                  obtain ⟨j1, j2, rfl⟩ := h_115
                  first
                  | (rw [stG, if_pos (by omega)] at g9
                     have g4' := GI_st (s := s) (a := a) (b := b) (by omega) (by omega) (by omega) (by omega) g4
                     rw [stG, if_pos (by omega)] at g4'
                     refine rr_iinc F dX2_form_118 rfl rfl ?_
                     refine rr_goto F dX2_form_121 (tgt := 51) (by decide) ?_
                     exact ihm (b + 1) _ I_115 _ (by omega) (by omega) (by omega) g4' j1 (by rw [j2 40 (by omega), up2_same]) (by show 0 ≤ s.2 + 1 ∧ s.2 + 1 ≤ _; omega) (fun q hq => ⟨by rw [j2 q (by omega), up2_cell _ _ _ (by omega), (c5 q (by omega)).1]; exact (g8 q hq).1, by rw [(c5 q (by omega)).2]; exact (g8 q hq).2⟩) g9)
                  | exact skip I_81 L_81 c5 (by omega)
                  | exact skip _ _ kC.rf (by omega)
      refine rr_iload_n F dX2_form_40 rfl ?_
      refine rr_bipush F dX2_form_41 (by decide) ?_
      refine rr_icmp_ge F dX2_form_43 (tgt := 130) (by decide) ⟨by omega, by omega⟩ ⟨by omega, by omega⟩ (fun c_43 => ?_) (fun c_43 => ?_)
      · exfalso
        omega
      · refine rr_iload_n F dX2_form_46 rfl ?_
        refine rr_iconst F dX2_form_47 ?_
        refine rr_iadd F dX2_form_48 ?_
        refine rr_istore F dX2_form_49 (Nat.le_of_ble_eq_true rfl) rfl ?_
        exact inner _ (a + 1) s I1 L1 rfl (by omega) (by omega) h4 h5 h6 (by omega) h8 (by rw [show (6 - (a + 1)) = 5 - a by omega]; exact h9)
  have loopI : ∀ (n : Nat) (i : Int) (I1 : IM), n = (6 - i).toNat → 0 ≤ i → i ≤ 6 → (∀ c, 0 ≤ c → c < i → I1 41 c = g0F σ c) → I1 40 1 = 0 → (∀ q, q ≠ 40 → q ≠ 41 → I1 q = I q) → Rn x lyC g post 7 [vr g 40, vr g 4, vr g 18, vn i, none] [] I1 L := by
    intro n
    induction n with
    | zero =>
      intro i I1 h1 h2 h3 h4 h5 h6
      refine rr_iload_n F dX2_form_7 rfl ?_
      refine rr_bipush F dX2_form_8 (by decide) ?_
      refine rr_icmp_ge F dX2_form_10 (tgt := 38) (by decide) ⟨by omega, by omega⟩ ⟨by omega, by omega⟩ (fun c_10 => ?_) (fun c_10 => ?_)
      · refine rr_iconst F dX2_form_38 ?_
        refine rr_istore_n F dX2_form_39 (Nat.le_of_ble_eq_true rfl) rfl ?_
        exact loopA 6 0 (g0F σ, 0) I1 L (by omega) (by omega) (by omega) (GI_0 σ) (fun c u v => h4 c u (by omega)) h5 (by show (0 : Int) ≤ 0 ∧ (0 : Int) ≤ 100 * 0; omega) (fun q hq => ⟨h6 q (by omega) (by omega), rfl⟩) rfl
      · exfalso
        omega
    | succ n ih =>
      intro i I1 h1 h2 h3 h4 h5 h6
      have R1 : CR σ I1 L := hR.kk (fun q hq => ⟨h6 q (by omega) (by omega), rfl⟩)
      have st : ∀ v : Int, v = g0F σ i → Rn x lyC g post 32 [vr g 40, vr g 4, vr g 18, vn i, none] [] (up2 I1 41 i v) L := by
        intro v hv
        refine rr_iinc F dX2_form_32 rfl rfl ?_
        refine rr_goto F dX2_form_35 (tgt := 7) (by decide) ?_
        refine ih (i + 1) _ (by omega) (by omega) (by omega) (fun c u w => ?_) (by rw [up2_cell _ _ _ (by omega)]; exact h5) (fun q u w => by rw [up2_cell _ _ _ w]; exact h6 q u w)
        by_cases z : c = i
        · subst z; rw [up2_same, hv]
        · rw [up2_ne _ _ _ z]; exact h4 c u (by omega)
      refine rr_iload_n F dX2_form_7 rfl ?_
      refine rr_bipush F dX2_form_8 (by decide) ?_
      refine rr_icmp_ge F dX2_form_10 (tgt := 38) (by decide) ⟨by omega, by omega⟩ ⟨by omega, by omega⟩ (fun c_10 => ?_) (fun c_10 => ?_)
      · exfalso
        omega
      · refine rr_aload_n F dX2_form_13 rfl ?_
        refine rg_Groups_leaders F (by first | rfl | assumption) fl_X2_9 dX2_form_14 ?_
        refine rr_cell (k2 := 41) rfl ?_
        refine rr_iload_n F dX2_form_17 rfl ?_
        refine rr_aload_n F dX2_form_18 rfl ?_
        refine rr_iload_n F dX2_form_19 rfl ?_
        refine rr_callVI F (ci := 5) (mm_X5_holds (σ := σ) ⟨by omega, by omega⟩ R1 hW) mf_X5_holds ml_X2_19 ⟨by decide, by decide⟩ (by first | rfl | assumption) (by decide) rfl rfl (Nat.le_of_ble_eq_true rfl) dX2_form_20 (fun r_20 I_20 L_20 h_20 => ?_)
        obtain ⟨e20, rfl, rfl⟩ := h_20
        refine rr_if_eq F dX2_form_23 (tgt := 30) (by decide) ⟨by omega, by omega⟩ (fun c_23 => ?_) (fun c_23 => ?_)
        · refine rr_iconst F dX2_form_30 ?_
          refine rr_iast F (N := 6) (by first | rfl | assumption) (by omega) (by first | rfl | assumption) (by omega) dX2_form_31 ?_
          first | exact st i (by rw [g0F, if_pos (by omega)]) | exact st (-1) (by rw [g0F, if_neg (by omega)])
        · refine rr_iload_n F dX2_form_26 rfl ?_
          refine rr_goto F dX2_form_27 (tgt := 31) (by decide) ?_
          refine rr_iast F (N := 6) (by first | rfl | assumption) (by omega) (by first | rfl | assumption) (by omega) dX2_form_31 ?_
          first | exact st i (by rw [g0F, if_pos (by omega)]) | exact st (-1) (by rw [g0F, if_neg (by omega)])
  refine rr_aload_n F dX2_form_0 rfl ?_
  refine rr_iconst F dX2_form_1 ?_
  refine rp_Groups_links F (by first | rfl | assumption) fl_X2_15 dX2_form_2 ?_
  refine rr_iconst F dX2_form_5 ?_
  refine rr_istore_n F dX2_form_6 (Nat.le_of_ble_eq_true rfl) rfl ?_
  exact loopI _ 0 _ rfl (by omega) (by omega) (fun c u v => absurd v (by omega)) (up2_same _ _ _ _) (fun q u v => by rw [up2_cell _ _ _ u])
