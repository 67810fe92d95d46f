/-! the best chain -/
noncomputable def chQ (σ : sT) (a b : Int) : Nat → Int → List Int
  | 0, _ => []
  | c + 1, q => if q < 0 then [] else match (runsL σ a b)[q.toNat]? with
    | some x => q :: chQ σ a b c (nxQ σ a b x)
    | none => []
noncomputable def chL (σ : sT) (a b : Int) : List Int := chQ σ a b 41 (nxF σ a b 0 0)
def covF (R : List rT) : List Int → Int
  | [] => 0
  | q :: t => (match R[q.toNat]? with | some x => x.2.2 | none => 0) + covF R t
theorem covF_app (R : List rT) : ∀ l l' : List Int, covF R (l ++ l') = covF R l + covF R l' := by
  intro l
  induction l with
  | nil => intro l'; show covF R l' = 0 + covF R l'; omega
  | cons q t ih => intro l'; rw [List.cons_append, covF, covF, ih]; omega
noncomputable def sp_chain (σ : sT) (a b r : Int) : Int := if r < -1 then -1 else if rP σ a b = 0 then (if r = -1 then (chL σ a b).length else match (chL σ a b)[r.toNat]? with | some q => q | none => -1) else rP σ a b
noncomputable def sp_covered (σ : sT) (a b : Int) : Int := if rP σ a b = 0 then covF (runsL σ a b) (chL σ a b) else rP σ a b
theorem chQ_neg {σ : sT} {a b q : Int} (h : q < 0) : ∀ c : Nat, chQ σ a b c q = [] := by
  intro c
  cases c with
  | zero => rfl
  | succ c => rw [chQ, if_pos h]
theorem chQ_at {σ : sT} {a b : Int} {q : Nat} {x : rT} (h : (runsL σ a b)[q]? = some x) (c : Nat) : chQ σ a b (c + 1) q = (q : Int) :: chQ σ a b c (nxQ σ a b x) := by
  rw [chQ, if_neg (by omega), show ((q : Int)).toNat = q by omega, h]
/-- q is none, or a run from row i on, with room enough for the chain from it -/
def QvP (σ : sT) (a b q i : Int) (c : Nat) : Prop := q = -1 ∨ ∃ (k : Nat) (x : rT), q = k ∧ (runsL σ a b)[k]? = some x ∧ i ≤ x.1 ∧ s_sz σ a - x.1 < c
theorem nxF_v {σ : sT} (hW : WF σ) {a b i j : Int} (hi : 0 ≤ i) (hj : 0 ≤ j) {c : Nat} (hc : s_sz σ a - i < c) : QvP σ a b (nxF σ a b i j) i c := by
  by_cases z : 0 < sB σ a b i j
  · obtain ⟨q, x, e1, e2, e3, -⟩ := nxF_of hW hi hj z
    exact Or.inr ⟨q, x, e1, e2, e3, by omega⟩
  · exact Or.inl (by rw [nxF, if_neg z])
theorem nxQ_v {σ : sT} (hW : WF σ) {a b : Int} {x : rT} (hx : x ∈ runsL σ a b) {c : Nat} (hc : s_sz σ a - x.1 < c + 1) : QvP σ a b (nxQ σ a b x) (x.1 + 1) c := by
  obtain ⟨z1, z2, z3, z4⟩ := runsL_el hW hx
  rw [nxQ]
  split
  · rcases nxF_v hW (a := a) (b := b) (i := x.1 + x.2.2) (j := x.2.1 + x.2.2) (c := c) (by omega) (by omega) (by omega) with h | ⟨k, y, h1, h2, h3, h4⟩
    · exact Or.inl h
    · exact Or.inr ⟨k, y, h1, h2, by omega, h4⟩
  · exact Or.inl rfl
set_option maxHeartbeats 4000000 in
set_option maxRecDepth 100000 in
theorem mm_X8_chain {l : Launch} {g : gT} {σ : sT} {a b r : Int} {I : IM} {L : LM} (ha : rg a) (hb : rg b) (hr : rg r) (hR : MR σ I L) (hW : WF σ) :
    Ct l yX8_chain cX8_chain 8 (some .int) 4 103 lyM g [.ref (g.2.1 0), .int (zI a), .int (zI b), .int (zI r)] I L (pS MR (sp_chain σ a b r, σ)) := by
  have hc := rP_cases σ a b
  have rl := runsL_len hW a b
  have w4a := hW.2.2.2.1 a
  have hr' := hr
  unfold rg at hr'
  refine Ct.of RX8 (by decide +kernel) rfl (Nat.le_of_ble_eq_true rfl) (fun x hx F => ?_)
  have loop : ∀ I1 : IM, MR σ I1 L → (∀ (q : Nat) (x : rT), (runsL σ a b)[q]? = some x → I1 15 q = nxQ σ a b x) → rP σ a b = 0 → -1 ≤ r → ∀ (s1 s2 : Int) (c : Nat) (q n : Int) (Cp : List Int), chL σ a b = Cp ++ chQ σ a b c q → n = Cp.length → (0 ≤ r → n ≤ r) → n ≤ 100 - c → c ≤ 41 → QvP σ a b q 0 c → Rn x lyM g (pS MR (sp_chain σ a b r, σ)) 42 [vr g 0, vn a, vn b, vn r, vn s1, vn s2, vn n, vn q] [] I1 L := by
    intro I1 R1 hn hP hr1 s1 s2 c
    induction c with
    | zero =>
      intro q n Cp h1 h2 h3 h4 h5 h6
      have hq : q = -1 := by
        rcases h6 with e | ⟨k, x, e1, e2, e3, e4⟩
        · exact e
        · have := (runsL_el hW (List.mem_of_getElem? e2)).1
          exfalso
          omega
      refine rr_iload F dX8_chain_42 rfl ?_
      refine rr_if_lt F dX8_chain_44 (tgt := 71) (by decide) ⟨by omega, by omega⟩ (fun c_44 => ?_) (fun c_44 => ?_)
      · refine rr_iload_n F dX8_chain_71 rfl ?_
        refine rr_if_ge F dX8_chain_72 (tgt := 80) (by decide) ⟨by omega, by omega⟩ (fun c_72 => ?_) (fun c_72 => ?_)
        · refine rr_iconst F dX8_chain_80 ?_
          refine rr_iret F dX8_chain_81 ?_
          refine ⟨_, rfl, ?_, R1⟩
          show _ = sp_chain σ a b r
          rw [sp_chain, if_neg (by omega), if_pos hP, h1, chQ, List.append_nil]
          first | (rw [if_pos (by omega), h2]; done) | (rw [if_neg (by omega), List.getElem?_eq_none (by omega)])
        · refine rr_iload F dX8_chain_75 rfl ?_
          refine rr_goto F dX8_chain_77 (tgt := 81) (by decide) ?_
          refine rr_iret F dX8_chain_81 ?_
          refine ⟨_, rfl, ?_, R1⟩
          show _ = sp_chain σ a b r
          rw [sp_chain, if_neg (by omega), if_pos hP, h1, chQ, List.append_nil]
          first | (rw [if_pos (by omega), h2]; done) | (rw [if_neg (by omega), List.getElem?_eq_none (by omega)])
      · exfalso
        omega
    | succ c ih =>
      intro q n Cp h1 h2 h3 h4 h5 h6
      have hqb : -1 ≤ q ∧ q < 1600 := by
        rcases h6 with e | ⟨k, x, e1, e2, e3, e4⟩
        · omega
        · have := (List.getElem?_eq_some_iff.mp e2).1
          omega
      refine rr_iload F dX8_chain_42 rfl ?_
      refine rr_if_lt F dX8_chain_44 (tgt := 71) (by decide) ⟨by omega, by omega⟩ (fun c_44 => ?_) (fun c_44 => ?_)
      · refine rr_iload_n F dX8_chain_71 rfl ?_
        refine rr_if_ge F dX8_chain_72 (tgt := 80) (by decide) ⟨by omega, by omega⟩ (fun c_72 => ?_) (fun c_72 => ?_)
        · refine rr_iconst F dX8_chain_80 ?_
          refine rr_iret F dX8_chain_81 ?_
          refine ⟨_, rfl, ?_, R1⟩
          show _ = sp_chain σ a b r
          rw [sp_chain, if_neg (by omega), if_pos hP, h1, chQ_neg c_44, List.append_nil]
          first | (rw [if_pos (by omega), h2]; done) | (rw [if_neg (by omega), List.getElem?_eq_none (by omega)])
        · refine rr_iload F dX8_chain_75 rfl ?_
          refine rr_goto F dX8_chain_77 (tgt := 81) (by decide) ?_
          refine rr_iret F dX8_chain_81 ?_
          refine ⟨_, rfl, ?_, R1⟩
          show _ = sp_chain σ a b r
          rw [sp_chain, if_neg (by omega), if_pos hP, h1, chQ_neg c_44, List.append_nil]
          first | (rw [if_pos (by omega), h2]; done) | (rw [if_neg (by omega), List.getElem?_eq_none (by omega)])
      · rcases h6 with e | ⟨k, y, e1, e2, e3, e4⟩
        · exfalso; omega
        subst e1
        rw [chQ_at e2] at h1
        have hnx := hn k y e2
        refine rr_iload F dX8_chain_47 rfl ?_
        refine rr_iload_n F dX8_chain_49 rfl ?_
        refine rr_icmp_ne F dX8_chain_50 (tgt := 56) (by decide) ⟨by omega, by omega⟩ ⟨by omega, by omega⟩ (fun c_50 => ?_) (fun c_50 => ?_)
        · refine rr_iinc F dX8_chain_56 rfl rfl ?_
          refine rr_aload_n F dX8_chain_59 rfl ?_
          refine rg_Model_next F (by first | rfl | assumption) fl_X8_80 dX8_chain_60 ?_
          refine rr_cell (k2 := 15) rfl ?_
          refine rr_iload F dX8_chain_63 rfl ?_
          refine rr_iald F (N := 1600) (by first | rfl | assumption) (by omega) (by first | rfl | assumption) (by omega) dX8_chain_65 ?_
          refine rr_istore F dX8_chain_66 (Nat.le_of_ble_eq_true rfl) rfl ?_
          refine rr_goto F dX8_chain_68 (tgt := 42) (by decide) ?_
          rw [hnx]
          refine ih (nxQ σ a b y) (n + 1) (Cp ++ [(k : Int)]) (by rw [h1, List.append_assoc]; rfl) (by rw [List.length_append, h2]; simp) (by omega) (by omega) (by omega) ?_
          rcases nxQ_v hW (List.mem_of_getElem? e2) (c := c) (by omega) with z | ⟨k2, y2, z1, z2, z3, z4⟩
          · exact Or.inl z
          · exact Or.inr ⟨k2, y2, z1, z2, by have := (runsL_el hW (List.mem_of_getElem? e2)).1; omega, z4⟩
        · refine rr_iload F dX8_chain_53 rfl ?_
          refine rr_iret F dX8_chain_55 ?_
          refine ⟨_, rfl, ?_, R1⟩
          show _ = sp_chain σ a b r
          rw [sp_chain, if_neg (by omega), if_pos hP, if_neg (by omega), h1, show r.toNat = Cp.length by omega, List.getElem?_append_right (Nat.le_refl _), Nat.sub_self]
          rfl
  refine rr_iload_n F dX8_chain_0 rfl ?_
  refine rr_iconst F dX8_chain_1 ?_
  refine rr_icmp_ge F dX8_chain_2 (tgt := 9) (by decide) ⟨by omega, by omega⟩ ⟨by omega, by omega⟩ (fun c_2 => ?_) (fun c_2 => ?_)
  · refine rr_aload_n F dX8_chain_9 rfl ?_
    refine rr_iload_n F dX8_chain_10 rfl ?_
    refine rr_iload_n F dX8_chain_11 rfl ?_
    refine rr_callVI F (ci := 8) (mm_X8_against ha hb hR hW) mf_X8_against ml_X8_160 ⟨by decide, by decide⟩ (by first | rfl | assumption) (by decide) rfl rfl (Nat.le_of_ble_eq_true rfl) dX8_chain_12 (fun r_12 I_12 L_12 h_12 => ?_)
    obtain ⟨e3, rfl, rfl⟩ := h_12
    refine rr_istore F dX8_chain_15 (Nat.le_of_ble_eq_true rfl) rfl ?_
    refine rr_iload F dX8_chain_17 rfl ?_
    refine rr_if_ge F dX8_chain_19 (tgt := 25) (by decide) ⟨by omega, by omega⟩ (fun c_19 => ?_) (fun c_19 => ?_)
    · refine rr_aload_n F dX8_chain_25 rfl ?_
      refine rr_iload_n F dX8_chain_26 rfl ?_
      refine rr_iload_n F dX8_chain_27 rfl ?_
      refine rr_callVI F (ci := 8) (mm_X8_findScore hR hW (by omega) (by omega) (by omega) (by omega) (by omega)) mf_X8_findScore ml_X8_169 ⟨by decide, by decide⟩ (by first | rfl | assumption) (by decide) rfl rfl (Nat.le_of_ble_eq_true rfl) dX8_chain_28 (fun r_28 I_28 L_28 h_28 => ?_)
      obtain ⟨c1, c2, c3, c4, c5⟩ := h_28
      obtain ⟨-, -, rfl⟩ := id c5
      refine rr_istore F dX8_chain_31 (Nat.le_of_ble_eq_true rfl) rfl ?_
      refine rr_iconst F dX8_chain_33 ?_
      refine rr_istore F dX8_chain_34 (Nat.le_of_ble_eq_true rfl) rfl ?_
      refine rr_aload_n F dX8_chain_36 rfl ?_
      refine rg_Model_first F (by first | rfl | assumption) fl_X8_166 dX8_chain_37 ?_
      refine rr_istore F dX8_chain_40 (Nat.le_of_ble_eq_true rfl) rfl ?_
      rw [c4]
      exact loop I_28 (hR.k c5) c3 (by omega) (by omega) _ _ 41 (nxF σ a b 0 0) 0 [] rfl rfl (fun z => z) (by omega) (by omega) (nxF_v hW (by omega) (by omega) (by omega))
    · refine rr_iload F dX8_chain_22 rfl ?_
      refine rr_iret F dX8_chain_24 ?_
      refine ⟨_, rfl, ?_, hR⟩
      show _ = sp_chain σ a b r
      first | (rw [sp_chain, if_pos (by omega)]; done) | (rw [sp_chain, if_neg (by omega), if_neg (by omega)]; exact e3)
  · refine rr_iconst F dX8_chain_5 ?_
    refine rr_goto F dX8_chain_6 (tgt := 15) (by decide) ?_
    refine rr_istore F dX8_chain_15 (Nat.le_of_ble_eq_true rfl) rfl ?_
    refine rr_iload F dX8_chain_17 rfl ?_
    refine rr_if_ge F dX8_chain_19 (tgt := 25) (by decide) ⟨by omega, by omega⟩ (fun c_19 => ?_) (fun c_19 => ?_)
    · refine rr_aload_n F dX8_chain_25 rfl ?_
      refine rr_iload_n F dX8_chain_26 rfl ?_
      refine rr_iload_n F dX8_chain_27 rfl ?_
      refine rr_callVI F (ci := 8) (mm_X8_findScore hR hW (by omega) (by omega) (by omega) (by omega) (by omega)) mf_X8_findScore ml_X8_169 ⟨by decide, by decide⟩ (by first | rfl | assumption) (by decide) rfl rfl (Nat.le_of_ble_eq_true rfl) dX8_chain_28 (fun r_28 I_28 L_28 h_28 => ?_)
      obtain ⟨c1, c2, c3, c4, c5⟩ := h_28
      obtain ⟨-, -, rfl⟩ := id c5
      refine rr_istore F dX8_chain_31 (Nat.le_of_ble_eq_true rfl) rfl ?_
      refine rr_iconst F dX8_chain_33 ?_
      refine rr_istore F dX8_chain_34 (Nat.le_of_ble_eq_true rfl) rfl ?_
      refine rr_aload_n F dX8_chain_36 rfl ?_
      refine rg_Model_first F (by first | rfl | assumption) fl_X8_166 dX8_chain_37 ?_
      refine rr_istore F dX8_chain_40 (Nat.le_of_ble_eq_true rfl) rfl ?_
      rw [c4]
      exact loop I_28 (hR.k c5) c3 (by omega) (by omega) _ _ 41 (nxF σ a b 0 0) 0 [] rfl rfl (fun z => z) (by omega) (by omega) (nxF_v hW (by omega) (by omega) (by omega))
    · refine rr_iload F dX8_chain_22 rfl ?_
      refine rr_iret F dX8_chain_24 ?_
      refine ⟨_, rfl, ?_, hR⟩
      show _ = sp_chain σ a b r
      first | (rw [sp_chain, if_pos (by omega)]; done) | (rw [sp_chain, if_neg (by omega), if_neg (by omega)]; exact e3)
set_option maxHeartbeats 4000000 in
set_option maxRecDepth 100000 in
theorem mm_X8_covered {l : Launch} {g : gT} {σ : sT} {a b : Int} {I : IM} {L : LM} (ha : rg a) (hb : rg b) (hR : MR σ I L) (hW : WF σ) :
    Ct l yX8_covered cX8_covered 7 (some .int) 4 103 lyM g [.ref (g.2.1 0), .int (zI a), .int (zI b)] I L (pS MR (sp_covered σ a b, σ)) := by
  have hc := rP_cases σ a b
  have rl := runsL_len hW a b
  have w4a := hW.2.2.2.1 a
  refine Ct.of RX8 (by decide +kernel) rfl (Nat.le_of_ble_eq_true rfl) (fun x hx F => ?_)
  have loop : ∀ I1 : IM, MR σ I1 L → RwS (runsL σ a b) I1 → (∀ (q : Nat) (x : rT), (runsL σ a b)[q]? = some x → I1 15 q = nxQ σ a b x) → rP σ a b = 0 → ∀ (s1 s2 : Int) (c : Nat) (q n : Int) (Cp : List Int), chL σ a b = Cp ++ chQ σ a b c q → n = covF (runsL σ a b) Cp → QvP σ a b q 0 c → Rn x lyM g (pS MR (sp_covered σ a b, σ)) 30 [vr g 0, vn a, vn b, vn s1, vn s2, vn n, vn q] [] I1 L := by
    intro I1 R1 hw hn hP s1 s2 c
    induction c with
    | zero =>
      intro q n Cp h1 h2 h6
      have hq : q = -1 := by
        rcases h6 with e | ⟨k, x, e1, e2, e3, e4⟩
        · exact e
        · have := (runsL_el hW (List.mem_of_getElem? e2)).1
          exfalso
          omega
      refine rr_iload F dX8_covered_30 rfl ?_
      refine rr_if_lt F dX8_covered_32 (tgt := 59) (by decide) ⟨by omega, by omega⟩ (fun c_32 => ?_) (fun c_32 => ?_)
      · refine rr_iload F dX8_covered_59 rfl ?_
        refine rr_iret F dX8_covered_61 ?_
        refine ⟨_, rfl, ?_, R1⟩
        show _ = sp_covered σ a b
        rw [sp_covered, if_pos hP, h1, chQ, List.append_nil, h2]
      · exfalso
        omega
    | succ c ih =>
      intro q n Cp h1 h2 h6
      have hqb : -1 ≤ q ∧ q < 1600 := by
        rcases h6 with e | ⟨k, x, e1, e2, e3, e4⟩
        · omega
        · have := (List.getElem?_eq_some_iff.mp e2).1
          omega
      refine rr_iload F dX8_covered_30 rfl ?_
      refine rr_if_lt F dX8_covered_32 (tgt := 59) (by decide) ⟨by omega, by omega⟩ (fun c_32 => ?_) (fun c_32 => ?_)
      · refine rr_iload F dX8_covered_59 rfl ?_
        refine rr_iret F dX8_covered_61 ?_
        refine ⟨_, rfl, ?_, R1⟩
        show _ = sp_covered σ a b
        rw [sp_covered, if_pos hP, h1, chQ_neg c_32, List.append_nil, h2]
      · rcases h6 with e | ⟨k, y, e1, e2, e3, e4⟩
        · exfalso; omega
        subst e1
        rw [chQ_at e2] at h1
        have hnx := hn k y e2
        have hrn := (hw.2 k y e2).2.2
        refine rr_iload F dX8_covered_35 rfl ?_
        refine rr_aload_n F dX8_covered_37 rfl ?_
        refine rg_Model_runN F (by first | rfl | assumption) fl_X8_74 dX8_covered_38 ?_
        refine rr_cell (k2 := 13) rfl ?_
        refine rr_iload F dX8_covered_41 rfl ?_
        refine rr_iald F (N := 1600) (by first | rfl | assumption) (by omega) (by first | rfl | assumption) (by omega) dX8_covered_43 ?_
        refine rr_iadd F dX8_covered_44 ?_
        refine rr_istore F dX8_covered_45 (Nat.le_of_ble_eq_true rfl) rfl ?_
        refine rr_aload_n F dX8_covered_47 rfl ?_
        refine rg_Model_next F (by first | rfl | assumption) fl_X8_80 dX8_covered_48 ?_
        refine rr_cell (k2 := 15) rfl ?_
        refine rr_iload F dX8_covered_51 rfl ?_
        refine rr_iald F (N := 1600) (by first | rfl | assumption) (by omega) (by first | rfl | assumption) (by omega) dX8_covered_53 ?_
        refine rr_istore F dX8_covered_54 (Nat.le_of_ble_eq_true rfl) rfl ?_
        refine rr_goto F dX8_covered_56 (tgt := 30) (by decide) ?_
        rw [hnx, hrn]
        refine ih (nxQ σ a b y) _ (Cp ++ [(k : Int)]) (by rw [h1, List.append_assoc]; rfl) (by rw [covF_app, h2, covF, covF, show ((k : Int)).toNat = k by omega, e2]; simp) ?_
        rcases nxQ_v hW (List.mem_of_getElem? e2) (c := c) (by omega) with z | ⟨k2, y2, z1, z2, z3, z4⟩
        · exact Or.inl z
        · exact Or.inr ⟨k2, y2, z1, z2, by have := (runsL_el hW (List.mem_of_getElem? e2)).1; omega, z4⟩
  refine rr_aload_n F dX8_covered_0 rfl ?_
  refine rr_iload_n F dX8_covered_1 rfl ?_
  refine rr_iload_n F dX8_covered_2 rfl ?_
  refine rr_callVI F (ci := 8) (mm_X8_against ha hb hR hW) mf_X8_against ml_X8_160 ⟨by decide, by decide⟩ (by first | rfl | assumption) (by decide) rfl rfl (Nat.le_of_ble_eq_true rfl) dX8_covered_3 (fun r_3 I_3 L_3 h_3 => ?_)
  obtain ⟨e3, rfl, rfl⟩ := h_3
  refine rr_istore_n F dX8_covered_6 (Nat.le_of_ble_eq_true rfl) rfl ?_
  refine rr_iload_n F dX8_covered_7 rfl ?_
  refine rr_if_ge F dX8_covered_8 (tgt := 13) (by decide) ⟨by omega, by omega⟩ (fun c_8 => ?_) (fun c_8 => ?_)
  · refine rr_aload_n F dX8_covered_13 rfl ?_
    refine rr_iload_n F dX8_covered_14 rfl ?_
    refine rr_iload_n F dX8_covered_15 rfl ?_
    refine rr_callVI F (ci := 8) (mm_X8_findScore hR hW (by omega) (by omega) (by omega) (by omega) (by omega)) mf_X8_findScore ml_X8_169 ⟨by decide, by decide⟩ (by first | rfl | assumption) (by decide) rfl rfl (Nat.le_of_ble_eq_true rfl) dX8_covered_16 (fun r_16 I_16 L_16 h_16 => ?_)
    obtain ⟨c1, c2, c3, c4, c5⟩ := h_16
    obtain ⟨-, -, rfl⟩ := id c5
    refine rr_istore F dX8_covered_19 (Nat.le_of_ble_eq_true rfl) rfl ?_
    refine rr_iconst F dX8_covered_21 ?_
    refine rr_istore F dX8_covered_22 (Nat.le_of_ble_eq_true rfl) rfl ?_
    refine rr_aload_n F dX8_covered_24 rfl ?_
    refine rg_Model_first F (by first | rfl | assumption) fl_X8_166 dX8_covered_25 ?_
    refine rr_istore F dX8_covered_28 (Nat.le_of_ble_eq_true rfl) rfl ?_
    rw [c4]
    exact loop I_16 (hR.k c5) c2 c3 (by omega) _ _ 41 (nxF σ a b 0 0) 0 [] rfl rfl (nxF_v hW (by omega) (by omega) (by omega))
  · refine rr_iload_n F dX8_covered_11 rfl ?_
    refine rr_iret F dX8_covered_12 ?_
    refine ⟨_, rfl, ?_, hR⟩
    show _ = sp_covered σ a b
    rw [sp_covered, if_neg (by omega)]; exact e3
set_option maxHeartbeats 4000000 in
set_option maxRecDepth 100000 in
theorem mm_X1_addToChain {l : Launch} {g : gT} {q n c : Int} {I : IM} {L : LM} (hc0 : 0 ≤ c) (hc : c < 40) (hI : I 18 1 = c) :
    Ct l yX1_addToChain cX1_addToChain 3 none 0 0 lyC g [.ref (g.2.1 18), .int (zI q), .int (zI n)] I L (pV (fun I' L' => I' = up2 (up2 (up2 I 19 c q) 18 1 (c + 1)) 18 2 (I 18 2 + n) ∧ L = L')) := by
  refine Ct.of RX1 (by decide +kernel) rfl (Nat.le_of_ble_eq_true rfl) (fun x hx F => ?_)
  refine rr_aload_n F dX1_addToChain_0 rfl ?_
  refine rg_Comparison_chainLength F (by first | rfl | assumption) fl_X1_15 dX1_addToChain_1 ?_
  refine rr_bipush F dX1_addToChain_4 (by decide) ?_
  refine rr_icmp_ge F dX1_addToChain_6 (tgt := 39) (by decide) ⟨by omega, by omega⟩ ⟨by omega, by omega⟩ (fun c_6 => ?_) (fun c_6 => ?_)
  · refine rr_vret F dX1_addToChain_39 ?_
    first | (exfalso; omega) | exact ⟨rfl, rfl, rfl⟩
  · refine rr_aload_n F dX1_addToChain_9 rfl ?_
    refine rg_Comparison_chainRuns F (by first | rfl | assumption) fl_X1_9 dX1_addToChain_10 ?_
    refine rr_cell (k2 := 19) rfl ?_
    refine rr_aload_n F dX1_addToChain_13 rfl ?_
    refine rg_Comparison_chainLength F (by first | rfl | assumption) fl_X1_15 dX1_addToChain_14 ?_
    refine rr_iload_n F dX1_addToChain_17 rfl ?_
    rw [hI]
    refine rr_iast F (N := 40) (by first | rfl | assumption) (by omega) (by first | rfl | assumption) (by omega) dX1_addToChain_18 ?_
    refine rr_aload_n F dX1_addToChain_19 rfl ?_
    refine rr_dup F dX1_addToChain_20 rfl ?_
    refine rg_Comparison_chainLength F (by first | rfl | assumption) fl_X1_15 dX1_addToChain_21 ?_
    refine rr_iconst F dX1_addToChain_24 ?_
    rw [up2_cell _ _ _ (show (18 : Nat) ≠ 19 by decide), hI]
    refine rr_iadd F dX1_addToChain_25 ?_
    refine rp_Comparison_chainLength F (by first | rfl | assumption) fl_X1_15 dX1_addToChain_26 ?_
    refine rr_aload_n F dX1_addToChain_29 rfl ?_
    refine rr_dup F dX1_addToChain_30 rfl ?_
    refine rg_Comparison_chainTokens F (by first | rfl | assumption) fl_X1_19 dX1_addToChain_31 ?_
    refine rr_iload_n F dX1_addToChain_34 rfl ?_
    rw [up2_ne _ _ _ (show (2 : Int) ≠ 1 by decide), up2_cell _ _ _ (show (18 : Nat) ≠ 19 by decide)]
    refine rr_iadd F dX1_addToChain_35 ?_
    refine rp_Comparison_chainTokens F (by first | rfl | assumption) fl_X1_19 dX1_addToChain_36 ?_
    refine rr_vret F dX1_addToChain_39 ?_
    first | (exfalso; omega) | exact ⟨rfl, rfl, rfl⟩
