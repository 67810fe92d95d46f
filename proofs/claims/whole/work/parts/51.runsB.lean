/-! the list of runs; compare, partOfRun, runs, run of the class -/
abbrev rT : Type := Int × Int × Int
def rowR (f : Int → Int → Int) (i : Int) : Nat → List rT
  | 0 => []
  | n + 1 => rowR f i n ++ (if 0 < f i n then [(i, (n : Int), f i n)] else [])
def matR (f : Int → Int → Int) (m : Nat) : Nat → List rT
  | 0 => []
  | n + 1 => matR f m n ++ rowR f n m
/-- the runs ahead of (i, j), row by row -/
def preR (f : Int → Int → Int) (m i j : Int) : List rT := matR f m.toNat i.toNat ++ rowR f i j.toNat
theorem preR_0 (f : Int → Int → Int) (m : Int) : preR f m 0 0 = [] := rfl
theorem preR_j (f : Int → Int → Int) (m i j : Int) (h : 0 ≤ j) : preR f m i (j + 1) = preR f m i j ++ (if 0 < f i j then [(i, j, f i j)] else []) := by
  unfold preR
  rw [show (j + 1).toNat = j.toNat + 1 by omega, rowR, show ((j.toNat : Nat) : Int) = j by omega, List.append_assoc]
theorem preR_i (f : Int → Int → Int) (m i : Int) (h : 0 ≤ i) : preR f m (i + 1) 0 = preR f m i m := by
  unfold preR
  rw [show (i + 1).toNat = i.toNat + 1 by omega, matR, show ((i.toNat : Nat) : Int) = i by omega]
  show _ ++ rowR f (i + 1) 0 = _
  rw [rowR, List.append_nil]
theorem rowR_len (f : Int → Int → Int) (i : Int) : ∀ n : Nat, (rowR f i n).length ≤ n := by
  intro n
  induction n with
  | zero => exact Nat.le_refl _
  | succ n ih =>
    rw [rowR, List.length_append]
    split <;> simp <;> omega
theorem matR_len (f : Int → Int → Int) (m : Nat) (hm : m ≤ 40) : ∀ n : Nat, (matR f m n).length ≤ 40 * n := by
  intro n
  induction n with
  | zero => exact Nat.le_refl _
  | succ n ih =>
    rw [matR, List.length_append]
    have := rowR_len f n m
    omega
theorem preR_len (f : Int → Int → Int) {m i j : Int} (hm : m ≤ 40) (hi : 0 ≤ i) (hj : 0 ≤ j) : ((preR f m i j).length : Int) ≤ 40 * i + j := by
  unfold preR
  rw [List.length_append]
  have := rowR_len f i j.toNat
  have := matR_len f m.toNat (by omega) i.toNat
  omega
theorem preR_up (f : Int → Int → Int) (m i : Int) : ∀ (c : Nat) (j : Int), 0 ≤ j → preR f m i j <+: preR f m i (j + c) := by
  intro c
  induction c with
  | zero => intro j hj; rw [show j + ((0 : Nat) : Int) = j by omega]; exact List.prefix_rfl
  | succ c ih =>
    intro j hj
    refine (ih j hj).trans ?_
    rw [show j + ((c + 1 : Nat) : Int) = j + c + 1 by omega, preR_j f m i (j + c) (by omega)]
    exact List.prefix_append _ _
theorem preR_full (f : Int → Int → Int) {m : Int} (hm : 0 ≤ m) : ∀ (c : Nat) (i j : Int), 0 ≤ i → 0 ≤ j → j ≤ m → preR f m i j <+: preR f m (i + c) m := by
  intro c
  induction c with
  | zero => intro i j hi hj hjm; rw [show i + ((0 : Nat) : Int) = i by omega]; have := preR_up f m i (m - j).toNat j hj; rwa [show j + (((m - j).toNat : Nat) : Int) = m by omega] at this
  | succ c ih =>
    intro i j hi hj hjm
    refine (ih i j hi hj hjm).trans ?_
    rw [← preR_i f m (i + c) (by omega), show i + ((c + 1 : Nat) : Int) = i + c + 1 by omega]
    have := preR_up f m (i + c + 1) m.toNat 0 (by omega)
    rwa [show (0 : Int) + ((m.toNat : Nat) : Int) = m by omega] at this
/-- all runs of two books -/
noncomputable def runsL (σ : sT) (a b : Int) : List rT := preR (rln σ a b) (s_sz σ b) (s_sz σ a) 0
theorem preR_all (f : Int → Int → Int) {n m i j : Int} (hm : 0 ≤ m) (hi : 0 ≤ i) (hin : i < n) (hj : 0 ≤ j) (hjm : j ≤ m) : preR f m i j <+: preR f m n 0 := by
  rw [show n = (n - 1) + 1 by omega, preR_i f m (n - 1) (by omega)]
  have := preR_full f hm (n - 1 - i).toNat i j hi hj hjm
  rwa [show i + (((n - 1 - i).toNat : Nat) : Int) = n - 1 by omega] at this
/-- at a run, the list of runs has it at the place that tells how many are ahead -/
theorem preR_at (f : Int → Int → Int) {n m i j : Int} (hm : 0 ≤ m) (hi : 0 ≤ i) (hin : i < n) (hj : 0 ≤ j) (hjm : j < m) (hf : 0 < f i j) : (preR f m n 0)[(preR f m i j).length]? = some (i, j, f i j) := by
  have h := preR_all f (n := n) hm hi hin (show 0 ≤ j + 1 by omega) (show j + 1 ≤ m by omega)
  rw [preR_j f m i j hj, if_pos hf] at h
  obtain ⟨t, ht⟩ := h
  rw [← ht, List.append_assoc, List.getElem?_append_right (Nat.le_refl _), Nat.sub_self]
  rfl
theorem preR_mem (f : Int → Int → Int) (m i : Int) (hi : 0 ≤ i) {r : Nat} {q : rT} : ∀ (c : Nat) (j : Int), j = c → (rowR f i j.toNat)[r]? = some q → q.1 = i ∧ (0 ≤ q.2.1 ∧ q.2.1 < j) ∧ q.2.2 = f q.1 q.2.1 ∧ 0 < q.2.2 := by
  intro c
  induction c with
  | zero => intro j hj h; subst hj; simp [rowR] at h
  | succ c ih =>
    intro j hj h
    rw [show j.toNat = c + 1 by omega, rowR] at h
    rcases List.mem_append.mp (List.mem_of_getElem? h) with h1 | h1
    · obtain ⟨r', hr'⟩ := List.getElem?_of_mem h1
      have ih' : ∀ r : Nat, (rowR f i c)[r]? = some q → q.1 = i ∧ (0 ≤ q.2.1 ∧ q.2.1 < (c : Int)) ∧ q.2.2 = f q.1 q.2.1 ∧ 0 < q.2.2 := by
        clear ih h hr' h1
        intro r hr
        have key : ∀ (d : Nat) (r : Nat), (rowR f i d)[r]? = some q → q.1 = i ∧ (0 ≤ q.2.1 ∧ q.2.1 < (d : Int)) ∧ q.2.2 = f q.1 q.2.1 ∧ 0 < q.2.2 := by
          intro d
          induction d with
          | zero => intro r hr; simp [rowR] at hr
          | succ d ihd =>
            intro r hr
            rw [rowR] at hr
            rcases List.mem_append.mp (List.mem_of_getElem? hr) with h1 | h1
            · obtain ⟨r', hr'⟩ := List.getElem?_of_mem h1
              have := ihd r' hr'
              exact ⟨this.1, ⟨this.2.1.1, by omega⟩, this.2.2⟩
            · split at h1
              · next hp =>
                rcases List.mem_cons.mp h1 with e | e
                · subst e; exact ⟨rfl, ⟨by show (0 : Int) ≤ d; omega, by show (d : Int) < _; omega⟩, rfl, hp⟩
                · cases e
              · cases h1
        exact key c r hr
      have := ih' r' hr'
      exact ⟨this.1, ⟨this.2.1.1, by omega⟩, this.2.2⟩
    · split at h1
      · next hp =>
        rcases List.mem_cons.mp h1 with e | e
        · subst e; exact ⟨rfl, ⟨by show (0 : Int) ≤ c; omega, by show (c : Int) < _; omega⟩, rfl, hp⟩
        · cases e
      · cases h1
set_option maxHeartbeats 4000000 in
set_option maxRecDepth 100000 in
/-- compare: the matrix of run lengths of a and of b turned, and how many runs -/
theorem mm_X1_compare {l : Launch} {g : gT} {σ σ' : sT} {a b t : Int} {I : IM} {L : LM} (hR : CR σ I L) (hW : WF σ) (ha0 : 0 ≤ a) (ha : a < 6) (hb0 : 0 ≤ b) (hb : b < 6) (hab : a ≠ b) (hha : s_hd σ a = 1) (hhb : s_hd σ b = 1) (ht0 : 0 ≤ t) (ht : t ≤ 40)
    (hs : σ'.2.2 = σ.2.2 ∧ s_sz σ' = s_sz σ ∧ s_lg σ' = s_lg σ ∧ ∀ c, c ≠ b → s_tk σ' c = s_tk σ c) (hst : ∀ i, 0 ≤ i → i < s_sz σ b → s_tk σ b ((i + t) % s_sz σ b) = s_tk σ' b i) (hW' : WF σ') :
    Ct l yX1_compare cX1_compare 8 none 3 73 lyC g [.ref (g.2.1 18), .ref (g.2.1 4), .int (zI a), .int (zI b), .int (zI t)] I L (pV (fun I' L' => CmpS σ' a b I' L' ∧ (∀ i j, 0 ≤ i → i < s_sz σ a → 0 ≤ j → j < s_sz σ b → I' 20 (i * 41 + j) = rln σ' a b i j) ∧ I' 18 3 = (runsL σ' a b).length ∧ kC I L I' L')) := by
  have P22 : isP 22 := Or.inl rfl
  have P28 : isP 28 := Or.inr (Or.inl rfl)
  have w4a := hW.2.2.2.1 a
  have w4b := hW.2.2.2.1 b
  have w7 := hW.2.2.2.2.2.2.1
  have e1 : s_sz σ' = s_sz σ := hs.2.1
  have ek : s_k σ' = s_k σ := by show σ'.2.2.1 = σ.2.2.1; rw [hs.1]
  have ew : s_w σ' = s_w σ := by show σ'.2.2.2.1 = σ.2.2.2.1; rw [hs.1]
  have rb := fun i j => rln_b hW' a b i j
  have eR : runsL σ' a b = preR (rln σ' a b) (s_sz σ b) (s_sz σ a) 0 := by rw [runsL, e1]
  generalize hf : rln σ' a b = f at *
  refine Ct.of RX1 (by decide +kernel) rfl (Nat.le_of_ble_eq_true rfl) (fun x hx F => ?_)
  generalize hpost : (pV (fun (I' : IM) (L' : LM) => CmpS σ' a b I' L' ∧ (∀ i j, 0 ≤ i → i < s_sz σ a → 0 ≤ j → j < s_sz σ b → I' 20 (i * 41 + j) = f i j) ∧ I' 18 3 = (runsL σ' a b).length ∧ kC I L I' L')) = post
  have loop : ∀ L1 : LM, ∀ (c : Nat) (i : Int) (I1 : IM), c = (s_sz σ a - i).toNat → 0 ≤ i → i ≤ s_sz σ a → CmpS σ' a b I1 L1 → (∀ i' j, 0 ≤ i' → i' < i → 0 ≤ j → j < s_sz σ b → I1 20 (i' * 41 + j) = f i' j) → I1 18 3 = (preR f (s_sz σ b) i 0).length → kC I L I1 L1 → Rn x lyC g post 36 [vr g 18, vr g 4, vn a, vn b, vn t, vn i, none, none] [] I1 L1 := by
    intro L1 c
    induction c with
    | zero =>
      intro i I1 h1 h2 h3 h4 h5 h6 h7
      have sA := h4.1.1
      rw [e1] at sA
      have ei : i = s_sz σ a := by omega
      refine rr_iload F dX1_compare_36 rfl ?_
      refine rr_aload_n F dX1_compare_38 rfl ?_
      refine rg_Comparison_left F (by first | rfl | assumption) fl_X1_28 dX1_compare_39 ?_
      refine rr_cell (k2 := 22) rfl ?_
      refine rg_Page_size F (by first | rfl | assumption) fl_X1_88 dX1_compare_42 ?_
      refine rr_icmp_ge F dX1_compare_45 (tgt := 119) (by decide) ⟨by omega, by omega⟩ ⟨by omega, by omega⟩ (fun c_45 => ?_) (fun c_45 => ?_)
      · refine rr_vret F dX1_compare_119 ?_
        rw [← hpost]
        exact ⟨rfl, h4, fun i' j u v p q => h5 i' j u (by omega) p q, by rw [h6, eR, ei], h7⟩
      · exfalso
        omega
    | succ c ih =>
      intro i I1 h1 h2 h3 h4 h5 h6 h7
      have sA := h4.1.1
      rw [e1] at sA
      have inner : ∀ (d : Nat) (j : Int) (I2 : IM), d = (s_sz σ b - j).toNat → 0 ≤ j → j ≤ s_sz σ b → CmpS σ' a b I2 L1 → (∀ i' j', 0 ≤ i' → (i' < i ∨ (i' = i ∧ j' < j)) → 0 ≤ j' → j' < s_sz σ b → I2 20 (i' * 41 + j') = f i' j') → I2 18 3 = (preR f (s_sz σ b) i j).length → kC I L I2 L1 → Rn x lyC g post 51 [vr g 18, vr g 4, vn a, vn b, vn t, vn i, vn j, none] [] I2 L1 := by
        intro d
        induction d with
        | zero =>
          intro j I2 g1 g2 g3 g4 g5 g6 g7
          have sB := g4.2.1
          rw [e1] at sB
          have ej : j = s_sz σ b := by omega
          refine rr_iload F dX1_compare_51 rfl ?_
          refine rr_aload_n F dX1_compare_53 rfl ?_
          refine rg_Comparison_right F (by first | rfl | assumption) fl_X1_32 dX1_compare_54 ?_
          refine rr_cell (k2 := 28) rfl ?_
          refine rg_Page_size F (by first | rfl | assumption) fl_X1_88 dX1_compare_57 ?_
          refine rr_icmp_ge F dX1_compare_60 (tgt := 113) (by decide) ⟨by omega, by omega⟩ ⟨by omega, by omega⟩ (fun c_60 => ?_) (fun c_60 => ?_)
          · refine rr_iinc F dX1_compare_113 rfl rfl ?_
            refine rr_goto F dX1_compare_116 (tgt := 36) (by decide) ?_
            refine rr_drop 6 ?_
            exact ih (i + 1) I2 (by omega) (by omega) (by omega) g4 (fun i' j' u v p q => g5 i' j' u (by omega) p q) (by rw [g6, preR_i f _ i h2, ej]) g7
          · exfalso
            omega
        | succ d ihd =>
          intro j I2 g1 g2 g3 g4 g5 g6 g7
          have sB := g4.2.1
          rw [e1] at sB
          have ekk : I2 4 2 = s_k σ' := by rw [(g7 4 (by omega)).1, ek]; exact hR.2.2.2.2.1
          have rbij := rb i j
          have pl := preR_len f (m := s_sz σ b) w4b.2 h2 g2
          have upd20 : ∀ I3 : IM, (∀ q, q ≠ 20 → q ≠ 18 → I3 q = I2 q) → (I3 20 = up2 I2 20 (i * 41 + j) (f i j) 20) → ∀ i' j', 0 ≤ i' → (i' < i ∨ (i' = i ∧ j' < j + 1)) → 0 ≤ j' → j' < s_sz σ b → I3 20 (i' * 41 + j') = f i' j' := by
            intro I3 z1 z2 i' j' u v p q
            rw [z2]
            by_cases e : i' = i ∧ j' = j
            · rw [e.1, e.2, up2_same]
            · rw [up2_ne _ _ _ (by omega)]; exact g5 i' j' u (by omega) p q
          refine rr_iload F dX1_compare_51 rfl ?_
          refine rr_aload_n F dX1_compare_53 rfl ?_
          refine rg_Comparison_right F (by first | rfl | assumption) fl_X1_32 dX1_compare_54 ?_
          refine rr_cell (k2 := 28) rfl ?_
          refine rg_Page_size F (by first | rfl | assumption) fl_X1_88 dX1_compare_57 ?_
          refine rr_icmp_ge F dX1_compare_60 (tgt := 113) (by decide) ⟨by omega, by omega⟩ ⟨by omega, by omega⟩ (fun c_60 => ?_) (fun c_60 => ?_)
          · exfalso
            omega
          · refine rr_aload_n F dX1_compare_63 rfl ?_
            refine rr_iload F dX1_compare_64 rfl ?_
            refine rr_iload F dX1_compare_66 rfl ?_
            refine rr_aload_n F dX1_compare_68 rfl ?_
            refine rg_Shelf_gramLength F (by first | rfl | assumption) fl_X1_91 dX1_compare_69 ?_
            rw [ekk]
            refine rr_callVI F (ci := 1) (mm_X1_runLengthAt g4 hW' h2 (by rw [e1]; omega) g2 (by rw [e1]; omega)) mf_X1_runLengthAt ml_X1_94 ⟨by decide, by decide⟩ (by first | rfl | assumption) (by decide) rfl rfl (Nat.le_of_ble_eq_true rfl) dX1_compare_72 (fun r_72 I_72 L_72 h_72 => ?_)
            obtain ⟨e72, rfl, rfl⟩ := h_72
            rw [hf] at e72
            subst e72
            refine rr_istore F dX1_compare_75 (Nat.le_of_ble_eq_true rfl) rfl ?_
            refine rr_aload_n F dX1_compare_77 rfl ?_
            refine rg_Comparison_runLengths F (by first | rfl | assumption) fl_X1_38 dX1_compare_78 ?_
            refine rr_cell (k2 := 20) rfl ?_
            refine rr_iload F dX1_compare_81 rfl ?_
            refine rr_bipush F dX1_compare_83 (by decide) ?_
            refine rr_imul F dX1_compare_85 ?_
            refine rr_iload F dX1_compare_86 rfl ?_
            refine rr_iadd F dX1_compare_88 ?_
            refine rr_iload F dX1_compare_89 rfl ?_
            refine rr_iast F (N := 1681) (by first | rfl | assumption) (by omega) (by first | rfl | assumption) (by omega) dX1_compare_91 ?_
            refine rr_iload F dX1_compare_92 rfl ?_
            refine rr_if_le F dX1_compare_94 (tgt := 107) (by decide) ⟨by omega, by omega⟩ (fun c_94 => ?_) (fun c_94 => ?_)
            · refine rr_iinc F dX1_compare_107 rfl rfl ?_
              refine rr_goto F dX1_compare_110 (tgt := 51) (by decide) ?_
              refine rr_drop 7 ?_
              first
              | exact ihd (j + 1) _ (by omega) (by omega) (by omega) (g4.fr (fun q u v => by rw [up2_cell _ _ _ (by omega), up2_cell _ _ _ (by omega)])) (upd20 _ (fun q u v => by rw [up2_cell _ _ _ v, up2_cell _ _ _ u]) (by rw [up2_cell _ _ _ (by omega)])) (by rw [up2_same, e3, preR_j f _ i j g2, if_pos c_94, List.length_append]; simp) (g7.tr (fun q u => ⟨by rw [up2_cell _ _ _ (by omega), up2_cell _ _ _ (by omega)], rfl⟩))
              | exact ihd (j + 1) _ (by omega) (by omega) (by omega) (g4.fr (fun q u v => by rw [up2_cell _ _ _ (by omega)])) (upd20 _ (fun q u v => by rw [up2_cell _ _ _ u]) rfl) (by rw [up2_cell _ _ _ (by omega), g6, preR_j f _ i j g2, if_neg (Int.not_lt.mpr c_94), List.append_nil]) (g7.tr (fun q u => ⟨by rw [up2_cell _ _ _ (by omega)], rfl⟩))
            · refine rr_aload_n F dX1_compare_97 rfl ?_
              refine rr_dup F dX1_compare_98 rfl ?_
              have e3 : up2 I2 20 (i * 41 + j) (f i j) 18 3 = (preR f (s_sz σ b) i j).length := by rw [up2_cell _ _ _ (by omega)]; exact g6
              refine rg_Comparison_runCount F (by first | rfl | assumption) fl_X1_22 dX1_compare_99 ?_
              refine rr_iconst F dX1_compare_102 ?_
              refine rr_iadd F dX1_compare_103 ?_
              refine rp_Comparison_runCount F (by first | rfl | assumption) fl_X1_22 dX1_compare_104 ?_
              refine rr_iinc F dX1_compare_107 rfl rfl ?_
              refine rr_goto F dX1_compare_110 (tgt := 51) (by decide) ?_
              refine rr_drop 7 ?_
              first
              | exact ihd (j + 1) _ (by omega) (by omega) (by omega) (g4.fr (fun q u v => by rw [up2_cell _ _ _ (by omega), up2_cell _ _ _ (by omega)])) (upd20 _ (fun q u v => by rw [up2_cell _ _ _ v, up2_cell _ _ _ u]) (by rw [up2_cell _ _ _ (by omega)])) (by rw [up2_same, e3, preR_j f _ i j g2, if_pos c_94, List.length_append]; simp) (g7.tr (fun q u => ⟨by rw [up2_cell _ _ _ (by omega), up2_cell _ _ _ (by omega)], rfl⟩))
              | exact ihd (j + 1) _ (by omega) (by omega) (by omega) (g4.fr (fun q u v => by rw [up2_cell _ _ _ (by omega)])) (upd20 _ (fun q u v => by rw [up2_cell _ _ _ u]) rfl) (by rw [up2_cell _ _ _ (by omega), g6, preR_j f _ i j g2, if_neg (Int.not_lt.mpr c_94), List.append_nil]) (g7.tr (fun q u => ⟨by rw [up2_cell _ _ _ (by omega)], rfl⟩))
      refine rr_iload F dX1_compare_36 rfl ?_
      refine rr_aload_n F dX1_compare_38 rfl ?_
      refine rg_Comparison_left F (by first | rfl | assumption) fl_X1_28 dX1_compare_39 ?_
      refine rr_cell (k2 := 22) rfl ?_
      refine rg_Page_size F (by first | rfl | assumption) fl_X1_88 dX1_compare_42 ?_
      refine rr_icmp_ge F dX1_compare_45 (tgt := 119) (by decide) ⟨by omega, by omega⟩ ⟨by omega, by omega⟩ (fun c_45 => ?_) (fun c_45 => ?_)
      · exfalso
        omega
      · refine rr_iconst F dX1_compare_48 ?_
        refine rr_istore F dX1_compare_49 (Nat.le_of_ble_eq_true rfl) rfl ?_
        exact inner _ 0 I1 rfl (by omega) (by omega) h4 (fun i' j' u v p q => h5 i' j' u (by omega) p q) h6 h7
  refine rr_aload_n F dX1_compare_0 rfl ?_
  refine rg_Comparison_left F (by first | rfl | assumption) fl_X1_28 dX1_compare_1 ?_
  refine rr_cell (k2 := 22) rfl ?_
  refine rr_aload_n F dX1_compare_4 rfl ?_
  refine rr_iload_n F dX1_compare_5 rfl ?_
  refine rr_iconst F dX1_compare_6 ?_
  refine rr_callSV F (mm_X1_layWithMarks P22 hR hW ha0 ha hha (by omega) (by omega) (T := s_tk σ' a) (fun i u v => by rw [show i + 0 = i by omega, Int.emod_eq_of_lt u v, hs.2.2.2 a hab])) mf_X1_layWithMarks ml_X1_44 ⟨by decide, by decide⟩ rfl (Nat.le_of_ble_eq_true rfl) dX1_compare_7 (fun I_7 L_7 h_7 => ?_)
  obtain ⟨g1, g2⟩ := h_7
  have k1 : kC I L I_7 L_7 := fr_kC (by omega) g2
  have R1 := hR.k k1
  refine rr_aload_n F dX1_compare_10 rfl ?_
  refine rg_Comparison_right F (by first | rfl | assumption) fl_X1_32 dX1_compare_11 ?_
  refine rr_cell (k2 := 28) rfl ?_
  refine rr_aload_n F dX1_compare_14 rfl ?_
  refine rr_iload_n F dX1_compare_15 rfl ?_
  refine rr_iload F dX1_compare_16 rfl ?_
  refine rr_callSV F (mm_X1_layWithMarks P28 R1 hW hb0 hb hhb ht0 ht (T := s_tk σ' b) hst) mf_X1_layWithMarks ml_X1_44 ⟨by decide, by decide⟩ rfl (Nat.le_of_ble_eq_true rfl) dX1_compare_18 (fun I_18 L_18 h_18 => ?_)
  obtain ⟨g3, g4⟩ := h_18
  have k2 : kC I_7 L_7 I_18 L_18 := fr_kC (by omega) g4
  have R2 := R1.k k2
  have g1' := g1.fr (g4 22 (by omega)).1 (g4 23 (by omega)).2 (g4 24 (by omega)).1 (g4 25 (by omega)).1 (g4 26 (by omega)).1
  refine rr_aload_n F dX1_compare_21 rfl ?_
  refine rr_aload_n F dX1_compare_22 rfl ?_
  refine rr_iload_n F dX1_compare_23 rfl ?_
  refine rr_iload_n F dX1_compare_24 rfl ?_
  refine rr_callVV F (ci := 1) (mm_X1_setBothAside R2 hW ha0 ha hb0 hb hab hs g1' g3) mf_X1_setBothAside ml_X1_84 ⟨by decide, by decide⟩ (by first | rfl | assumption) (by decide) rfl rfl (Nat.le_of_ble_eq_true rfl) dX1_compare_25 (fun I_25 L_25 h_25 => ?_)
  obtain ⟨g5, g6, g7⟩ := h_25
  have hC : CmpS σ' a b I_25 L_25 := by
    unfold CmpS
    rw [e1, hs.2.2.1, ek, ew]
    exact ⟨g5, g6⟩
  have k3 : kC I_18 L_18 I_25 L_25 := fun q hq => g7 q (by omega)
  refine rr_aload_n F dX1_compare_28 rfl ?_
  refine rr_iconst F dX1_compare_29 ?_
  refine rp_Comparison_runCount F (by first | rfl | assumption) fl_X1_22 dX1_compare_30 ?_
  refine rr_iconst F dX1_compare_33 ?_
  refine rr_istore F dX1_compare_34 (Nat.le_of_ble_eq_true rfl) rfl ?_
  refine loop _ _ 0 _ rfl (by omega) (by omega) (hC.fr (fun q u v => by rw [up2_cell _ _ _ (by omega)])) (fun i' j u v p q => absurd v (by omega)) (by rw [up2_same, preR_0]; rfl) (k1.tr (k2.tr (k3.tr (fun q u => ⟨by rw [up2_cell _ _ _ (by omega)], rfl⟩))))
