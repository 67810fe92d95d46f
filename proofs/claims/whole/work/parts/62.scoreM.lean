/-! the model: the best score -/
/-- y is behind x in both books -/
def bhR (x y : rT) : Prop := x.1 + x.2.2 ≤ y.1 ∧ x.2.1 + x.2.2 ≤ y.2.1
def InP (σ : sT) (a b : Int) (x : rT) (q bv nx : Int) : Prop := (nx = -1 ∧ bv = x.2.2 ∧ ∀ (q' : Nat) (y : rT), (runsL σ a b)[q']? = some y → q < q' → bhR x y → sW σ a b y.1 y.2.1 < s_gp σ) ∨ (∃ (k : Nat) (z : rT), nx = k ∧ (runsL σ a b)[k]? = some z ∧ q < k ∧ bhR x z ∧ s_gp σ ≤ sW σ a b z.1 z.2.1 ∧ bv = x.2.2 + sW σ a b z.1 z.2.1 - s_gp σ ∧ ∀ (q' : Nat) (y : rT), (runsL σ a b)[q']? = some y → q < q' → bhR x y → sW σ a b y.1 y.2.1 ≤ sW σ a b z.1 z.2.1 ∧ (q' < k → sW σ a b y.1 y.2.1 < sW σ a b z.1 z.2.1))
def FsP (σ : sT) (a b r s fs : Int) : Prop := (fs = -1 ∧ s = 0 ∧ ∀ (q' : Nat) (y : rT), (runsL σ a b)[q']? = some y → ¬ r < q') ∨ (∃ (k : Nat) (z : rT), fs = k ∧ (runsL σ a b)[k]? = some z ∧ r < k ∧ s = sW σ a b z.1 z.2.1 ∧ ∀ (q' : Nat) (y : rT), (runsL σ a b)[q']? = some y → r < q' → sW σ a b y.1 y.2.1 ≤ s ∧ (q' < k → sW σ a b y.1 y.2.1 < s))
theorem sW_ub {σ : sT} (hW : WF σ) {a b i j : Int} (hi : 0 ≤ i) (hj : 0 ≤ j) {y : rT} (hy : y ∈ runsL σ a b) (h1 : i ≤ y.1) (h2 : j ≤ y.2.1) : sW σ a b y.1 y.2.1 ≤ sB σ a b i j := by
  obtain ⟨z1, z2, z3, z4⟩ := runsL_el hW hy
  exact bB_ub (rln_H hW a b) _ i j y.1 y.2.1 rfl hi hj h1 h2 z1.2 z2.2 (by rw [← z3]; exact z4)
theorem sW_b {σ : sT} (hW : WF σ) {a b : Int} {y : rT} (hy : y ∈ runsL σ a b) : 0 < sW σ a b y.1 y.2.1 ∧ sW σ a b y.1 y.2.1 ≤ 40 := by
  obtain ⟨z1, z2, z3, z4⟩ := runsL_el hW hy
  exact wB_b (rln_H hW a b) (by rw [← z3]; exact z4)
theorem sW_eq {σ : sT} (hW : WF σ) {a b : Int} {y : rT} (hy : y ∈ runsL σ a b) : sW σ a b y.1 y.2.1 = y.2.2 + max 0 (sB σ a b (y.1 + y.2.2) (y.2.1 + y.2.2) - s_gp σ) := by
  obtain ⟨z1, z2, z3, z4⟩ := runsL_el hW hy
  rw [z3]
  rfl
theorem bh_lt {σ : sT} (hW : WF σ) {a b : Int} {r q : Nat} {x y : rT} (hx : (runsL σ a b)[r]? = some x) (hy : (runsL σ a b)[q]? = some y) (h : bhR x y) : r < q := by
  obtain ⟨z1, z2, z3, z4⟩ := runsL_el hW (List.mem_of_getElem? hx)
  rcases Nat.lt_trichotomy r q with e | e | e
  · exact e
  · subst e
    rw [hx] at hy
    cases hy
    have := h.1
    omega
  · have := runsL_lt e hy hx
    have := h.1
    rcases runsL_lt e hy hx with w | w <;> omega
theorem InP_end {σ : sT} (hW : WF σ) {a b : Int} {r : Nat} {x : rT} {bv nx : Int} (hx : (runsL σ a b)[r]? = some x) (h : InP σ a b x r bv nx) : bv = sW σ a b x.1 x.2.1 ∧ nx = nxQ σ a b x := by
  have hm := List.mem_of_getElem? hx
  obtain ⟨z1, z2, z3, z4⟩ := runsL_el hW hm
  have wg := hW.2.2.2.2.2.2.2.2.1
  have hb := sB_b hW a b (x.1 + x.2.2) (x.2.1 + x.2.2) (by omega)
  rw [sW_eq hW hm]
  rcases h with ⟨h1, h2, h3⟩ | ⟨k, z, h1, h2, h3, h4, h5, h6, h7⟩
  · by_cases c : 0 < sB σ a b (x.1 + x.2.2) (x.2.1 + x.2.2)
    · obtain ⟨q, y, e1, e2, e3, e4, e5, e6⟩ := nxF_of hW (i := x.1 + x.2.2) (j := x.2.1 + x.2.2) (by omega) (by omega) c
      have lt := bh_lt hW hx e2 ⟨e3, e4⟩
      have := h3 q y e2 (by omega) ⟨e3, e4⟩
      rw [e5] at this
      exact ⟨by omega, by rw [h1, nxQ, if_neg (by omega)]⟩
    · refine ⟨by omega, ?_⟩
      rw [h1, nxQ]
      split
      · rw [nxF, if_neg c]
      · rfl
  · have hzm := List.mem_of_getElem? h2
    have ub := sW_ub hW (a := a) (b := b) (i := x.1 + x.2.2) (j := x.2.1 + x.2.2) (by omega) (by omega) hzm h4.1 h4.2
    have zp := sW_b hW hzm
    obtain ⟨q, y, e1, e2, e3, e4, e5, e6⟩ := nxF_of hW (a := a) (b := b) (i := x.1 + x.2.2) (j := x.2.1 + x.2.2) (by omega) (by omega) (by omega)
    have lt := bh_lt hW hx e2 ⟨e3, e4⟩
    have le := (h7 q y e2 (by omega) ⟨e3, e4⟩).1
    rw [e5] at le
    refine ⟨by omega, ?_⟩
    rw [h1, nxQ, if_pos (by omega)]
    refine (nxF_is (by omega) h2 h4.1 h4.2 (by omega) (fun q' w hq' hw z => ?_)).symm
    have lt2 := bh_lt hW hx hw ⟨z.1, z.2.1⟩
    have := (h7 q' w hw (by omega) ⟨z.1, z.2.1⟩).2 hq'
    rw [z.2.2] at this
    omega
theorem FsP_end {σ : sT} (hW : WF σ) {a b s fs : Int} (h : FsP σ a b (-1) s fs) : s = sB σ a b 0 0 ∧ fs = nxF σ a b 0 0 := by
  have hb := sB_b hW a b 0 0 (by omega)
  rcases h with ⟨h1, h2, h3⟩ | ⟨k, z, h1, h2, h3, h4, h5⟩
  · by_cases c : 0 < sB σ a b 0 0
    · obtain ⟨q, y, e1, e2, -⟩ := nxF_of hW (i := 0) (j := 0) (by omega) (by omega) c
      exact absurd (h3 q y e2) (by omega)
    · exact ⟨by omega, by rw [h1, nxF, if_neg c]⟩
  · have hzm := List.mem_of_getElem? h2
    have el := runsL_el hW hzm
    have ub := sW_ub hW (a := a) (b := b) (i := 0) (j := 0) (by omega) (by omega) hzm el.1.1 el.2.1.1
    have zp := sW_b hW hzm
    obtain ⟨q, y, e1, e2, e3, e4, e5, e6⟩ := nxF_of hW (a := a) (b := b) (i := 0) (j := 0) (by omega) (by omega) (by omega)
    have le := (h5 q y e2 (by omega)).1
    rw [e5] at le
    refine ⟨by omega, ?_⟩
    rw [h1]
    refine (nxF_is (by omega) h2 el.1.1 el.2.1.1 (by omega) (fun q' w hq' hw z => ?_)).symm
    have := (h5 q' w hw (by omega)).2 hq'
    rw [z.2.2] at this
    omega
theorem InP_yes {σ : sT} {a b : Int} {x y : rT} {q : Nat} {bv nx : Int} (h : InP σ a b x q bv nx) (hy : (runsL σ a b)[q]? = some y) (hb : bhR x y) (hc : bv ≤ x.2.2 + sW σ a b y.1 y.2.1 - s_gp σ) : InP σ a b x ((q : Int) + -1) (x.2.2 + sW σ a b y.1 y.2.1 - s_gp σ) q := by
  refine Or.inr ⟨q, y, rfl, hy, by omega, hb, ?_, rfl, fun q' w hw hq hbw => ?_⟩
  · rcases h with ⟨h1, h2, h3⟩ | ⟨k, z, h1, h2, h3, h4, h5, h6, h7⟩ <;> omega
  · by_cases e : q' = q
    · subst e
      rw [hy] at hw
      cases hw
      exact ⟨Int.le_refl _, fun z => absurd z (Nat.lt_irrefl _)⟩
    · refine ⟨?_, fun z => by omega⟩
      rcases h with ⟨h1, h2, h3⟩ | ⟨k, z, h1, h2, h3, h4, h5, h6, h7⟩
      · have := h3 q' w hw (by omega) hbw
        omega
      · have := (h7 q' w hw (by omega) hbw).1
        omega
theorem InP_no {σ : sT} {a b : Int} {x y : rT} {q : Nat} {bv nx : Int} (h : InP σ a b x q bv nx) (hy : (runsL σ a b)[q]? = some y) (hc : bhR x y → x.2.2 + sW σ a b y.1 y.2.1 - s_gp σ < bv) : InP σ a b x ((q : Int) + -1) bv nx := by
  rcases h with ⟨h1, h2, h3⟩ | ⟨k, z, h1, h2, h3, h4, h5, h6, h7⟩
  · refine Or.inl ⟨h1, h2, fun q' w hw hq hbw => ?_⟩
    by_cases e : q' = q
    · subst e
      rw [hy] at hw
      cases hw
      have := hc hbw
      omega
    · exact h3 q' w hw (by omega) hbw
  · refine Or.inr ⟨k, z, h1, h2, by omega, h4, h5, h6, fun q' w hw hq hbw => ?_⟩
    by_cases e : q' = q
    · subst e
      rw [hy] at hw
      cases hw
      have := hc hbw
      exact ⟨by omega, fun _ => by omega⟩
    · exact h7 q' w hw (by omega) hbw
theorem FsP_yes {σ : sT} {a b s fs : Int} {r : Nat} {x : rT} (h : FsP σ a b r s fs) (hx : (runsL σ a b)[r]? = some x) (hc : s ≤ sW σ a b x.1 x.2.1) : FsP σ a b ((r : Int) + -1) (sW σ a b x.1 x.2.1) r := by
  refine Or.inr ⟨r, x, rfl, hx, by omega, rfl, fun q' w hw hq => ?_⟩
  by_cases e : q' = r
  · subst e
    rw [hx] at hw
    cases hw
    exact ⟨Int.le_refl _, fun z => absurd z (Nat.lt_irrefl _)⟩
  · refine ⟨?_, fun z => by omega⟩
    rcases h with ⟨h1, h2, h3⟩ | ⟨k, z, h1, h2, h3, h4, h5⟩
    · exact absurd (h3 q' w hw) (by omega)
    · have := (h5 q' w hw (by omega)).1
      omega
theorem FsP_no {σ : sT} {a b s fs : Int} {r : Nat} {x : rT} (h : FsP σ a b r s fs) (hx : (runsL σ a b)[r]? = some x) (hp : 0 < sW σ a b x.1 x.2.1) (hc : sW σ a b x.1 x.2.1 < s) : FsP σ a b ((r : Int) + -1) s fs := by
  rcases h with ⟨h1, h2, h3⟩ | ⟨k, z, h1, h2, h3, h4, h5⟩
  · omega
  · refine Or.inr ⟨k, z, h1, h2, by omega, h4, fun q' w hw hq => ?_⟩
    by_cases e : q' = r
    · subst e
      rw [hx] at hw
      cases hw
      exact ⟨by omega, fun _ => hc⟩
    · exact h5 q' w hw (by omega)
set_option maxHeartbeats 8000000 in
set_option maxRecDepth 100000 in
theorem mm_X8_findScore {l : Launch} {g : gT} {σ : sT} {a b : Int} {I : IM} {L : LM} (hR : MR σ I L) (hW : WF σ) (ha0 : 0 ≤ a) (ha : a < 6) (hb0 : 0 ≤ b) (hb : b < 6) (hab : ¬ a = b) :
    Ct l yX8_findScore cX8_findScore 7 (some .int) 3 77 lyM g [.ref (g.2.1 0), .int (zI a), .int (zI b)] I L (pI (fun r I' L' => r = sB σ a b 0 0 ∧ RwS (runsL σ a b) I' ∧ (∀ (q : Nat) (x : rT), (runsL σ a b)[q]? = some x → I' 15 q = nxQ σ a b x) ∧ I' 0 24 = nxF σ a b 0 0 ∧ kM I L I' L')) := by
  have rl := runsL_len hW a b
  have wg := hW.2.2.2.2.2.2.2.2.1
  have w4a := hW.2.2.2.1 a
  have w4b := hW.2.2.2.1 b
  refine Ct.of RX8 (by decide +kernel) rfl (Nat.le_of_ble_eq_true rfl) (fun x hx F => ?_)
  generalize hpost : (pI (fun (r : Int) (I' : IM) (L' : LM) => r = sB σ a b 0 0 ∧ RwS (runsL σ a b) I' ∧ (∀ (q : Nat) (x : rT), (runsL σ a b)[q]? = some x → I' 15 q = nxQ σ a b x) ∧ I' 0 24 = nxF σ a b 0 0 ∧ kM I L I' L')) = post
  have acc : ∀ I1 : IM, RwS (runsL σ a b) I1 → ∀ q : Int, 0 ≤ q → q < (runsL σ a b).length → ∃ x : rT, (runsL σ a b)[q.toNat]? = some x ∧ I1 11 q = x.1 ∧ I1 12 q = x.2.1 ∧ I1 13 q = x.2.2 := by
    intro I1 h q h0 h1
    have hq := List.getElem?_eq_getElem (l := runsL σ a b) (i := q.toNat) (by omega)
    have := h.2 _ _ hq
    rw [show ((q.toNat : Nat) : Int) = q by omega] at this
    exact ⟨_, hq, this⟩
  have loop : ∀ (c : Nat) (r s : Int) (I1 : IM), c = (r + 1).toNat → -1 ≤ r → r < (runsL σ a b).length → (0 ≤ s ∧ s ≤ 40) → RwS (runsL σ a b) I1 → (∀ (q : Nat) (x : rT), (runsL σ a b)[q]? = some x → r < q → I1 14 q = sW σ a b x.1 x.2.1 ∧ I1 15 q = nxQ σ a b x) → FsP σ a b r s (I1 0 24) → I1 0 9 = s_gp σ → kM I L I1 L → Rn x lyM g post 21 [vr g 0, vn a, vn b, vn s, vn r, none, none] [] I1 L := by
    intro c
    induction c with
    | zero =>
      intro r s I1 h1 h2 h3 h4 h5 h6 h7 h8 h9
      have er : r = -1 := by omega
      subst er
      obtain ⟨e1, e2⟩ := FsP_end hW h7
      refine rr_iload F dX8_findScore_21 rfl ?_
      refine rr_if_lt F dX8_findScore_23 (tgt := 228) (by decide) ⟨by omega, by omega⟩ (fun c_23 => ?_) (fun c_23 => ?_)
      · refine rr_iload_n F dX8_findScore_228 rfl ?_
        refine rr_iret F dX8_findScore_229 ?_
        rw [← hpost]
        exact ⟨_, rfl, e1, h5, fun q x hx => (h6 q x hx (by omega)).2, e2, h9⟩
      · exfalso
        omega
    | succ c ih =>
      intro r s I1 h1 h2 h3 h4 h5 h6 h7 h8 h9
      obtain ⟨rx, hrx, ra, rb, rn⟩ := acc I1 h5 r (by omega) h3
      have hrm := List.mem_of_getElem? hrx
      obtain ⟨z1, z2, z3, z4⟩ := runsL_el hW hrm
      have zz := rln_b hW a b rx.1 rx.2.1
      rw [← z3] at zz
      have zz2 := zz.2.2 z4
      have er : ((r.toNat : Nat) : Int) = r := by omega
      have hM := h5.1
      have inner : ∀ (d : Nat) (q : Int) (I2 : IM), d = (q - r).toNat → r ≤ q → q < (runsL σ a b).length → (∀ k, k ≠ 14 → k ≠ 15 → I2 k = I1 k) → (∀ k, k ≠ r → I2 14 k = I1 14 k ∧ I2 15 k = I1 15 k) → InP σ a b rx q (I2 14 r) (I2 15 r) → (0 ≤ I2 14 r ∧ I2 14 r ≤ 100) → Rn x lyM g post 56 [vr g 0, vn a, vn b, vn s, vn r, vn q, none] [] I2 L := by
        intro d
        induction d with
        | zero =>
          intro q I2 g1 g2 g3 g4 g5 g6 g7
          have eq : q = r := by omega
          subst eq
          rw [← er] at g6
          obtain ⟨f1, f2⟩ := InP_end hW hrx g6
          rw [er] at f1 f2
          have zp := sW_b hW hrm
          have R2 : RwS (runsL σ a b) I2 := ⟨by rw [g4 0 (by omega) (by omega)]; exact h5.1, fun q x hx => by rw [g4 11 (by omega) (by omega), g4 12 (by omega) (by omega), g4 13 (by omega) (by omega)]; exact h5.2 q x hx⟩
          have k2 : kM I1 L I2 L := ⟨fun k u v => g4 k (by omega) (by omega), fun j hj => by rw [g4 0 (by omega) (by omega)], rfl⟩
          have n2 : ∀ I3 : IM, I3 14 = I2 14 → I3 15 = I2 15 → ∀ (k : Nat) (x : rT), (runsL σ a b)[k]? = some x → q + -1 < k → I3 14 k = sW σ a b x.1 x.2.1 ∧ I3 15 k = nxQ σ a b x := by
            intro I3 t1 t2 k x hx hk
            rw [t1, t2]
            by_cases e : (k : Int) = q
            · rw [e, f1, f2]
              have : k = q.toNat := by omega
              rw [this, hrx] at hx
              cases hx
              exact ⟨rfl, rfl⟩
            · rw [(g5 k e).1, (g5 k e).2]
              exact h6 k x hx (by omega)
          have h7' : FsP σ a b ((q.toNat : Nat) : Int) s (I1 0 24) := by rw [er]; exact h7
          refine rr_iload F dX8_findScore_56 rfl ?_
          refine rr_iload F dX8_findScore_58 rfl ?_
          refine rr_icmp_le F dX8_findScore_60 (tgt := 197) (by decide) ⟨by omega, by omega⟩ ⟨by omega, by omega⟩ (fun c_60 => ?_) (fun c_60 => ?_)
          · refine rr_aload_n F dX8_findScore_197 rfl ?_
            refine rg_Model_best F (by first | rfl | assumption) fl_X8_77 dX8_findScore_198 ?_
            refine rr_cell (k2 := 14) rfl ?_
            refine rr_iload F dX8_findScore_201 rfl ?_
            refine rr_iald F (N := 1600) (by first | rfl | assumption) (by omega) (by first | rfl | assumption) (by omega) dX8_findScore_203 ?_
            refine rr_iload_n F dX8_findScore_204 rfl ?_
            refine rr_icmp_lt F dX8_findScore_205 (tgt := 222) (by decide) ⟨by omega, by omega⟩ ⟨by omega, by omega⟩ (fun c_205 => ?_) (fun c_205 => ?_)
            · refine rr_iinc F dX8_findScore_222 rfl rfl ?_
              refine rr_goto F dX8_findScore_225 (tgt := 21) (by decide) ?_
              refine rr_drop 5 ?_
              first
              | (refine ih (q + -1) (I2 14 q) _ (by omega) (by omega) (by omega) (by omega) ⟨by rw [up2_ne _ _ _ (by decide)]; exact R2.1, fun k x hx => by rw [up2_cell _ _ _ (by omega), up2_cell _ _ _ (by omega), up2_cell _ _ _ (by omega)]; exact R2.2 k x hx⟩ (n2 _ (by rw [up2_cell _ _ _ (by omega)]) (by rw [up2_cell _ _ _ (by omega)])) ?_ ?_ (h9.tr (k2.tr ⟨fun k u v => by rw [up2_cell _ _ _ (by omega)], fun j hj => by rw [up2_ne _ _ _ (by omega)], rfl⟩))
                 · rw [up2_same, f1]
                   have := FsP_yes h7' hrx (by omega)
                   rw [er] at this
                   exact this
                 · rw [up2_ne _ _ _ (by decide), g4 0 (by omega) (by omega)]; exact h8)
              | (refine ih (q + -1) s I2 (by omega) (by omega) (by omega) h4 R2 (n2 I2 rfl rfl) ?_ ?_ (h9.tr k2)
                 · rw [g4 0 (by omega) (by omega)]
                   have := FsP_no h7' hrx zp.1 (by omega)
                   rw [er] at this
                   exact this
                 · rw [g4 0 (by omega) (by omega)]; exact h8)
            · refine rr_aload_n F dX8_findScore_208 rfl ?_
              refine rg_Model_best F (by first | rfl | assumption) fl_X8_77 dX8_findScore_209 ?_
              refine rr_cell (k2 := 14) rfl ?_
              refine rr_iload F dX8_findScore_212 rfl ?_
              refine rr_iald F (N := 1600) (by first | rfl | assumption) (by omega) (by first | rfl | assumption) (by omega) dX8_findScore_214 ?_
              refine rr_istore_n F dX8_findScore_215 (Nat.le_of_ble_eq_true rfl) rfl ?_
              refine rr_aload_n F dX8_findScore_216 rfl ?_
              refine rr_iload F dX8_findScore_217 rfl ?_
              refine rp_Model_first F (by first | rfl | assumption) fl_X8_166 dX8_findScore_219 ?_
              refine rr_iinc F dX8_findScore_222 rfl rfl ?_
              refine rr_goto F dX8_findScore_225 (tgt := 21) (by decide) ?_
              refine rr_drop 5 ?_
              first
              | (refine ih (q + -1) (I2 14 q) _ (by omega) (by omega) (by omega) (by omega) ⟨by rw [up2_ne _ _ _ (by decide)]; exact R2.1, fun k x hx => by rw [up2_cell _ _ _ (by omega), up2_cell _ _ _ (by omega), up2_cell _ _ _ (by omega)]; exact R2.2 k x hx⟩ (n2 _ (by rw [up2_cell _ _ _ (by omega)]) (by rw [up2_cell _ _ _ (by omega)])) ?_ ?_ (h9.tr (k2.tr ⟨fun k u v => by rw [up2_cell _ _ _ (by omega)], fun j hj => by rw [up2_ne _ _ _ (by omega)], rfl⟩))
                 · rw [up2_same, f1]
                   have := FsP_yes h7' hrx (by omega)
                   rw [er] at this
                   exact this
                 · rw [up2_ne _ _ _ (by decide), g4 0 (by omega) (by omega)]; exact h8)
              | (refine ih (q + -1) s I2 (by omega) (by omega) (by omega) h4 R2 (n2 I2 rfl rfl) ?_ ?_ (h9.tr k2)
                 · rw [g4 0 (by omega) (by omega)]
                   have := FsP_no h7' hrx zp.1 (by omega)
                   rw [er] at this
                   exact this
                 · rw [g4 0 (by omega) (by omega)]; exact h8)
          · exfalso
            omega
        | succ d ihd =>
          intro q I2 g1 g2 g3 g4 g5 g6 g7
          obtain ⟨qx, hqx, qa, qb, qn⟩ := acc I1 h5 q (by omega) g3
          have hqm := List.mem_of_getElem? hqx
          obtain ⟨y1, y2, y3, y4⟩ := runsL_el hW hqm
          have eq : ((q.toNat : Nat) : Int) = q := by omega
          have wq := h6 q.toNat qx hqx (by omega)
          rw [eq] at wq
          have bq := (g5 q (by omega)).1
          rw [wq.1] at bq
          have yp := sW_b hW hqm
          have m11 : I2 11 = I1 11 := g4 11 (by omega) (by omega)
          have m12 : I2 12 = I1 12 := g4 12 (by omega) (by omega)
          have m13 : I2 13 = I1 13 := g4 13 (by omega) (by omega)
          have m09 : I2 0 9 = s_gp σ := by rw [g4 0 (by omega) (by omega)]; exact h8
          rw [← eq] at g6
          have skip : (bhR rx qx → rx.2.2 + sW σ a b qx.1 qx.2.1 - s_gp σ < I2 14 r) → ∀ v6 : Int, Rn x lyM g post 191 [vr g 0, vn a, vn b, vn s, vn r, vn q, vn v6] [] I2 L := by
            intro hno v6
            refine rr_iinc F dX8_findScore_191 rfl rfl ?_
            refine rr_goto F dX8_findScore_194 (tgt := 56) (by decide) ?_
            refine rr_drop 6 ?_
            refine ihd (q + -1) I2 (by omega) (by omega) (by omega) g4 g5 ?_ g7
            have := InP_no g6 hqx hno
            rw [eq] at this
            exact this
          have yes : bhR rx qx → ∀ v6 : Int, Rn x lyM g post 125 [vr g 0, vn a, vn b, vn s, vn r, vn q, vn v6] [] I2 L := by
            intro hbh v6
            refine rr_aload_n F dX8_findScore_125 rfl ?_
            refine rg_Model_runN F (by first | rfl | assumption) fl_X8_74 dX8_findScore_126 ?_
            refine rr_cell (k2 := 13) rfl ?_
            refine rr_iload F dX8_findScore_129 rfl ?_
            refine rr_iald F (N := 1600) (by first | rfl | assumption) (by omega) (by first | rfl | assumption) (by omega) dX8_findScore_131 ?_
            refine rr_aload_n F dX8_findScore_132 rfl ?_
            refine rg_Model_best F (by first | rfl | assumption) fl_X8_77 dX8_findScore_133 ?_
            refine rr_cell (k2 := 14) rfl ?_
            refine rr_iload F dX8_findScore_136 rfl ?_
            refine rr_iald F (N := 1600) (by first | rfl | assumption) (by omega) (by first | rfl | assumption) (by omega) dX8_findScore_138 ?_
            rw [m13, rn, bq]
            refine rr_iadd F dX8_findScore_139 ?_
            refine rr_aload_n F dX8_findScore_140 rfl ?_
            refine rg_Model_gap F (by first | rfl | assumption) fl_X8_37 dX8_findScore_141 ?_
            rw [m09]
            refine rr_isub F dX8_findScore_144 ?_
            refine rr_aload_n F dX8_findScore_145 rfl ?_
            refine rg_Model_best F (by first | rfl | assumption) fl_X8_77 dX8_findScore_146 ?_
            refine rr_cell (k2 := 14) rfl ?_
            refine rr_iload F dX8_findScore_149 rfl ?_
            refine rr_iald F (N := 1600) (by first | rfl | assumption) (by omega) (by first | rfl | assumption) (by omega) dX8_findScore_151 ?_
            refine rr_icmp_lt F dX8_findScore_152 (tgt := 191) (by decide) ⟨by omega, by omega⟩ ⟨by omega, by omega⟩ (fun c_152 => ?_) (fun c_152 => ?_)
            · first
              | exact skip (fun _ => by omega) v6
              | (refine rr_iinc F dX8_findScore_191 rfl rfl ?_
                 refine rr_goto F dX8_findScore_194 (tgt := 56) (by decide) ?_
                 refine rr_drop 6 ?_
                 refine ihd (q + -1) _ (by omega) (by omega) (by omega) (fun k u v => by rw [up2_cell _ _ _ v, up2_cell _ _ _ u]; exact g4 k u v) (fun k u => ⟨?_, ?_⟩) ?_ ?_
                 · rw [up2_cell _ _ _ (by omega), up2_ne _ _ _ u]; exact (g5 k u).1
                 · rw [up2_ne _ _ _ u, up2_cell _ _ _ (by omega)]; exact (g5 k u).2
                 · rw [up2_cell _ _ _ (show (14 : Nat) ≠ 15 by decide), up2_same, up2_same]
                   have := InP_yes g6 hqx hbh (by omega)
                   rw [eq] at this
                   exact this
                 · rw [up2_cell _ _ _ (show (14 : Nat) ≠ 15 by decide), up2_same]; omega)
            · refine rr_aload_n F dX8_findScore_155 rfl ?_
              refine rg_Model_best F (by first | rfl | assumption) fl_X8_77 dX8_findScore_156 ?_
              refine rr_cell (k2 := 14) rfl ?_
              refine rr_iload F dX8_findScore_159 rfl ?_
              refine rr_aload_n F dX8_findScore_161 rfl ?_
              refine rg_Model_runN F (by first | rfl | assumption) fl_X8_74 dX8_findScore_162 ?_
              refine rr_cell (k2 := 13) rfl ?_
              refine rr_iload F dX8_findScore_165 rfl ?_
              refine rr_iald F (N := 1600) (by first | rfl | assumption) (by omega) (by first | rfl | assumption) (by omega) dX8_findScore_167 ?_
              rw [m13, rn]
              refine rr_aload_n F dX8_findScore_168 rfl ?_
              refine rg_Model_best F (by first | rfl | assumption) fl_X8_77 dX8_findScore_169 ?_
              refine rr_cell (k2 := 14) rfl ?_
              refine rr_iload F dX8_findScore_172 rfl ?_
              refine rr_iald F (N := 1600) (by first | rfl | assumption) (by omega) (by first | rfl | assumption) (by omega) dX8_findScore_174 ?_
              rw [bq]
              refine rr_iadd F dX8_findScore_175 ?_
              refine rr_aload_n F dX8_findScore_176 rfl ?_
              refine rg_Model_gap F (by first | rfl | assumption) fl_X8_37 dX8_findScore_177 ?_
              rw [m09]
              refine rr_isub F dX8_findScore_180 ?_
              refine rr_iast F (N := 1600) (by first | rfl | assumption) (by omega) (by first | rfl | assumption) (by omega) dX8_findScore_181 ?_
              refine rr_aload_n F dX8_findScore_182 rfl ?_
              refine rg_Model_next F (by first | rfl | assumption) fl_X8_80 dX8_findScore_183 ?_
              refine rr_cell (k2 := 15) rfl ?_
              refine rr_iload F dX8_findScore_186 rfl ?_
              refine rr_iload F dX8_findScore_188 rfl ?_
              refine rr_iast F (N := 1600) (by first | rfl | assumption) (by omega) (by first | rfl | assumption) (by omega) dX8_findScore_190 ?_
              first
              | exact skip (fun _ => by omega) v6
              | (refine rr_iinc F dX8_findScore_191 rfl rfl ?_
                 refine rr_goto F dX8_findScore_194 (tgt := 56) (by decide) ?_
                 refine rr_drop 6 ?_
                 refine ihd (q + -1) _ (by omega) (by omega) (by omega) (fun k u v => by rw [up2_cell _ _ _ v, up2_cell _ _ _ u]; exact g4 k u v) (fun k u => ⟨?_, ?_⟩) ?_ ?_
                 · rw [up2_cell _ _ _ (by omega), up2_ne _ _ _ u]; exact (g5 k u).1
                 · rw [up2_ne _ _ _ u, up2_cell _ _ _ (by omega)]; exact (g5 k u).2
                 · rw [up2_cell _ _ _ (show (14 : Nat) ≠ 15 by decide), up2_same, up2_same]
                   have := InP_yes g6 hqx hbh (by omega)
                   rw [eq] at this
                   exact this
                 · rw [up2_cell _ _ _ (show (14 : Nat) ≠ 15 by decide), up2_same]; omega)
          have bhi : bhR rx qx ↔ (rx.1 + rx.2.2 ≤ qx.1 ∧ rx.2.1 + rx.2.2 ≤ qx.2.1) := Iff.rfl
          refine rr_iload F dX8_findScore_56 rfl ?_
          refine rr_iload F dX8_findScore_58 rfl ?_
          refine rr_icmp_le F dX8_findScore_60 (tgt := 197) (by decide) ⟨by omega, by omega⟩ ⟨by omega, by omega⟩ (fun c_60 => ?_) (fun c_60 => ?_)
          · exfalso
            omega
          · refine rr_aload_n F dX8_findScore_63 rfl ?_
            refine rg_Model_runA F (by first | rfl | assumption) fl_X8_68 dX8_findScore_64 ?_
            refine rr_cell (k2 := 11) rfl ?_
            refine rr_iload F dX8_findScore_67 rfl ?_
            refine rr_iald F (N := 1600) (by first | rfl | assumption) (by omega) (by first | rfl | assumption) (by omega) dX8_findScore_69 ?_
            refine rr_aload_n F dX8_findScore_70 rfl ?_
            refine rg_Model_runA F (by first | rfl | assumption) fl_X8_68 dX8_findScore_71 ?_
            refine rr_cell (k2 := 11) rfl ?_
            refine rr_iload F dX8_findScore_74 rfl ?_
            refine rr_iald F (N := 1600) (by first | rfl | assumption) (by omega) (by first | rfl | assumption) (by omega) dX8_findScore_76 ?_
            refine rr_aload_n F dX8_findScore_77 rfl ?_
            refine rg_Model_runN F (by first | rfl | assumption) fl_X8_74 dX8_findScore_78 ?_
            refine rr_cell (k2 := 13) rfl ?_
            refine rr_iload F dX8_findScore_81 rfl ?_
            refine rr_iald F (N := 1600) (by first | rfl | assumption) (by omega) (by first | rfl | assumption) (by omega) dX8_findScore_83 ?_
            refine rr_iadd F dX8_findScore_84 ?_
            rw [m11, m13, qa, ra, rn]
            refine rr_icmp_lt F dX8_findScore_85 (tgt := 117) (by decide) ⟨by omega, by omega⟩ ⟨by omega, by omega⟩ (fun c_85 => ?_) (fun c_85 => ?_)
            · refine rr_iconst F dX8_findScore_117 ?_
              refine rr_istore F dX8_findScore_118 (Nat.le_of_ble_eq_true rfl) rfl ?_
              refine rr_iload F dX8_findScore_120 rfl ?_
              refine rr_if_eq F dX8_findScore_122 (tgt := 191) (by decide) ⟨by omega, by omega⟩ (fun c_122 => ?_) (fun c_122 => ?_)
              · first | (exfalso; omega) | exact skip (fun z => absurd (bhi.mp z) (by omega)) _
              · exact yes ⟨by omega, by omega⟩ _
            · refine rr_aload_n F dX8_findScore_88 rfl ?_
              refine rg_Model_runB F (by first | rfl | assumption) fl_X8_71 dX8_findScore_89 ?_
              refine rr_cell (k2 := 12) rfl ?_
              refine rr_iload F dX8_findScore_92 rfl ?_
              refine rr_iald F (N := 1600) (by first | rfl | assumption) (by omega) (by first | rfl | assumption) (by omega) dX8_findScore_94 ?_
              refine rr_aload_n F dX8_findScore_95 rfl ?_
              refine rg_Model_runB F (by first | rfl | assumption) fl_X8_71 dX8_findScore_96 ?_
              refine rr_cell (k2 := 12) rfl ?_
              refine rr_iload F dX8_findScore_99 rfl ?_
              refine rr_iald F (N := 1600) (by first | rfl | assumption) (by omega) (by first | rfl | assumption) (by omega) dX8_findScore_101 ?_
              refine rr_aload_n F dX8_findScore_102 rfl ?_
              refine rg_Model_runN F (by first | rfl | assumption) fl_X8_74 dX8_findScore_103 ?_
              refine rr_cell (k2 := 13) rfl ?_
              refine rr_iload F dX8_findScore_106 rfl ?_
              refine rr_iald F (N := 1600) (by first | rfl | assumption) (by omega) (by first | rfl | assumption) (by omega) dX8_findScore_108 ?_
              refine rr_iadd F dX8_findScore_109 ?_
              rw [m12, m13, qb, rb, rn]
              refine rr_icmp_lt F dX8_findScore_110 (tgt := 117) (by decide) ⟨by omega, by omega⟩ ⟨by omega, by omega⟩ (fun c_110 => ?_) (fun c_110 => ?_)
              · refine rr_iconst F dX8_findScore_117 ?_
                refine rr_istore F dX8_findScore_118 (Nat.le_of_ble_eq_true rfl) rfl ?_
                refine rr_iload F dX8_findScore_120 rfl ?_
                refine rr_if_eq F dX8_findScore_122 (tgt := 191) (by decide) ⟨by omega, by omega⟩ (fun c_122 => ?_) (fun c_122 => ?_)
                · first | (exfalso; omega) | exact skip (fun z => absurd (bhi.mp z) (by omega)) _
                · exact yes ⟨by omega, by omega⟩ _
              · refine rr_iconst F dX8_findScore_113 ?_
                refine rr_goto F dX8_findScore_114 (tgt := 118) (by decide) ?_
                refine rr_istore F dX8_findScore_118 (Nat.le_of_ble_eq_true rfl) rfl ?_
                refine rr_iload F dX8_findScore_120 rfl ?_
                refine rr_if_eq F dX8_findScore_122 (tgt := 191) (by decide) ⟨by omega, by omega⟩ (fun c_122 => ?_) (fun c_122 => ?_)
                · first | (exfalso; omega) | exact skip (fun z => absurd (bhi.mp z) (by omega)) _
                · exact yes ⟨by omega, by omega⟩ _
      refine rr_iload F dX8_findScore_21 rfl ?_
      refine rr_if_lt F dX8_findScore_23 (tgt := 228) (by decide) ⟨by omega, by omega⟩ (fun c_23 => ?_) (fun c_23 => ?_)
      · exfalso
        omega
      · refine rr_aload_n F dX8_findScore_26 rfl ?_
        refine rg_Model_best F (by first | rfl | assumption) fl_X8_77 dX8_findScore_27 ?_
        refine rr_cell (k2 := 14) rfl ?_
        refine rr_iload F dX8_findScore_30 rfl ?_
        refine rr_aload_n F dX8_findScore_32 rfl ?_
        refine rg_Model_runN F (by first | rfl | assumption) fl_X8_74 dX8_findScore_33 ?_
        refine rr_cell (k2 := 13) rfl ?_
        refine rr_iload F dX8_findScore_36 rfl ?_
        refine rr_iald F (N := 1600) (by first | rfl | assumption) (by omega) (by first | rfl | assumption) (by omega) dX8_findScore_38 ?_
        rw [rn]
        refine rr_iast F (N := 1600) (by first | rfl | assumption) (by omega) (by first | rfl | assumption) (by omega) dX8_findScore_39 ?_
        refine rr_aload_n F dX8_findScore_40 rfl ?_
        refine rg_Model_next F (by first | rfl | assumption) fl_X8_80 dX8_findScore_41 ?_
        refine rr_cell (k2 := 15) rfl ?_
        refine rr_iload F dX8_findScore_44 rfl ?_
        refine rr_iconst F dX8_findScore_46 ?_
        refine rr_iast F (N := 1600) (by first | rfl | assumption) (by omega) (by first | rfl | assumption) (by omega) dX8_findScore_47 ?_
        refine rr_aload_n F dX8_findScore_48 rfl ?_
        refine rg_Model_many F (by first | rfl | assumption) fl_X8_153 dX8_findScore_49 ?_
        refine rr_iconst F dX8_findScore_52 ?_
        refine rr_isub F dX8_findScore_53 ?_
        refine rr_istore F dX8_findScore_54 (Nat.le_of_ble_eq_true rfl) rfl ?_
        rw [up2_cell _ _ _ (show (0 : Nat) ≠ 15 by decide), up2_cell _ _ _ (show (0 : Nat) ≠ 14 by decide), hM]
        refine inner _ _ _ rfl (by omega) (by omega) (fun k u v => by rw [up2_cell _ _ _ v, up2_cell _ _ _ u]) (fun k u => ⟨?_, ?_⟩) ?_ ?_
        · rw [up2_cell _ _ _ (by omega), up2_ne _ _ _ u]
        · rw [up2_ne _ _ _ u, up2_cell _ _ _ (by omega)]
        · rw [up2_cell _ _ _ (show (14 : Nat) ≠ 15 by decide), up2_same, up2_same]
          refine Or.inl ⟨rfl, rfl, fun q' y hy hq => ?_⟩
          have := (List.getElem?_eq_some_iff.mp hy).1
          omega
        · rw [up2_cell _ _ _ (show (14 : Nat) ≠ 15 by decide), up2_same]; omega
  refine rr_aload_n F dX8_findScore_0 rfl ?_
  refine rr_iload_n F dX8_findScore_1 rfl ?_
  refine rr_iload_n F dX8_findScore_2 rfl ?_
  refine rr_callVV F (ci := 8) (mm_X8_findRuns hR hW ha0 ha hb0 hb hab) mf_X8_findRuns ml_X8_163 ⟨by decide, by decide⟩ (by first | rfl | assumption) (by decide) rfl rfl (Nat.le_of_ble_eq_true rfl) dX8_findScore_3 (fun I_3 L_3 h_3 => ?_)
  obtain ⟨c1, c2⟩ := h_3
  obtain ⟨c3, c4, rfl⟩ := id c2
  refine rr_iconst F dX8_findScore_6 ?_
  refine rr_istore_n F dX8_findScore_7 (Nat.le_of_ble_eq_true rfl) rfl ?_
  refine rr_aload_n F dX8_findScore_8 rfl ?_
  refine rr_iconst F dX8_findScore_9 ?_
  refine rp_Model_first F (by first | rfl | assumption) fl_X8_166 dX8_findScore_10 ?_
  refine rr_aload_n F dX8_findScore_13 rfl ?_
  refine rg_Model_many F (by first | rfl | assumption) fl_X8_153 dX8_findScore_14 ?_
  rw [up2_ne _ _ _ (by decide), c1.1]
  refine rr_iconst F dX8_findScore_17 ?_
  refine rr_isub F dX8_findScore_18 ?_
  refine rr_istore F dX8_findScore_19 (Nat.le_of_ble_eq_true rfl) rfl ?_
  refine loop _ _ 0 _ rfl (by omega) (by omega) (by omega) ⟨by rw [up2_ne _ _ _ (by decide)]; exact c1.1, fun k x hx => by rw [up2_cell _ _ _ (by omega), up2_cell _ _ _ (by omega), up2_cell _ _ _ (by omega)]; exact c1.2 k x hx⟩ (fun q x hx hq => ?_) (Or.inl ⟨up2_same _ _ _ _, rfl, fun q' y hy => ?_⟩) ?_ (c2.tr ⟨fun k u v => by rw [up2_cell _ _ _ (by omega)], fun j hj => by rw [up2_ne _ _ _ (by omega)], rfl⟩)
  · have := (List.getElem?_eq_some_iff.mp hx).1
    omega
  · have := (List.getElem?_eq_some_iff.mp hy).1
    omega
  · rw [up2_ne _ _ _ (by decide), c4 9 (by omega)]; exact hR.2.2.2.2.2.2.1
set_option maxHeartbeats 4000000 in
set_option maxRecDepth 100000 in
theorem mm_X8_score {l : Launch} {g : gT} {σ : sT} {a b : Int} {I : IM} {L : LM} (ha : rg a) (hb : rg b) (hR : MR σ I L) (hW : WF σ) :
    Ct l yX8_score cX8_score 4 (some .int) 4 103 lyM g [.ref (g.2.1 0), .int (zI a), .int (zI b)] I L (pS MR (sp_score σ a b, σ)) := by
  have hc := rP_cases σ a b
  refine Ct.of RX8 (by decide +kernel) rfl (Nat.le_of_ble_eq_true rfl) (fun x hx F => ?_)
  refine rr_aload_n F dX8_score_0 rfl ?_
  refine rr_iload_n F dX8_score_1 rfl ?_
  refine rr_iload_n F dX8_score_2 rfl ?_
  refine rr_callVI F (ci := 8) (mm_X8_against ha hb hR hW) mf_X8_against ml_X8_160 ⟨by decide, by decide⟩ (by first | rfl | assumption) (by decide) rfl rfl (Nat.le_of_ble_eq_true rfl) dX8_score_3 (fun r_3 I_3 L_3 h_3 => ?_)
  obtain ⟨e3, rfl, rfl⟩ := h_3
  refine rr_istore_n F dX8_score_6 (Nat.le_of_ble_eq_true rfl) rfl ?_
  refine rr_iload_n F dX8_score_7 rfl ?_
  refine rr_if_ge F dX8_score_8 (tgt := 15) (by decide) ⟨by omega, by omega⟩ (fun c_8 => ?_) (fun c_8 => ?_)
  · refine rr_aload_n F dX8_score_15 rfl ?_
    refine rr_iload_n F dX8_score_16 rfl ?_
    refine rr_iload_n F dX8_score_17 rfl ?_
    refine rr_callVI F (ci := 8) (mm_X8_findScore hR hW (by omega) (by omega) (by omega) (by omega) (by omega)) mf_X8_findScore ml_X8_169 ⟨by decide, by decide⟩ (by first | rfl | assumption) (by decide) rfl rfl (Nat.le_of_ble_eq_true rfl) dX8_score_18 (fun r_18 I_18 L_18 h_18 => ?_)
    obtain ⟨c1, c2, c3, c4, c5⟩ := h_18
    refine rr_iret F dX8_score_21 ?_
    first
    | (refine ⟨_, rfl, ?_, hR.k c5⟩
       show _ = sp_score σ a b
       rw [sp_score, if_pos (by omega)]; exact c1)
    | (refine ⟨_, rfl, ?_, hR⟩
       show _ = sp_score σ a b
       rw [sp_score, if_neg (by omega)]; exact e3)
  · refine rr_iload_n F dX8_score_11 rfl ?_
    refine rr_goto F dX8_score_12 (tgt := 21) (by decide) ?_
    refine rr_iret F dX8_score_21 ?_
    first
    | (refine ⟨_, rfl, ?_, hR.k c5⟩
       show _ = sp_score σ a b
       rw [sp_score, if_pos (by omega)]; exact c1)
    | (refine ⟨_, rfl, ?_, hR⟩
       show _ = sp_score σ a b
       rw [sp_score, if_neg (by omega)]; exact e3)
