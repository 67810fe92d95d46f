/-! the best score of chains: what it is -/
/-- the best score of chains that begin at (i, j) or behind it in both -/
def bF (f : Int → Int → Int) (gp sa sb : Int) : Nat → Int → Int → Int
  | 0, _, _ => 0
  | c + 1, i, j => if i < sa ∧ j < sb then (if 0 < f i j then max (max (bF f gp sa sb c (i + 1) j) (bF f gp sa sb c i (j + 1))) (f i j + max 0 (bF f gp sa sb c (i + f i j) (j + f i j) - gp)) else max (bF f gp sa sb c (i + 1) j) (bF f gp sa sb c i (j + 1))) else 0
def Hf (f : Int → Int → Int) (gp sa sb : Int) : Prop := (0 ≤ sa ∧ sa ≤ 40) ∧ (0 ≤ sb ∧ sb ≤ 40) ∧ (0 ≤ gp ∧ gp ≤ 20) ∧ ∀ i j, 0 ≤ f i j ∧ (0 < f i j → (0 ≤ i ∧ 0 ≤ j) ∧ i + f i j ≤ sa ∧ j + f i j ≤ sb)
section BFS
variable {f : Int → Int → Int} {gp sa sb : Int}
theorem bF_out {i j : Int} (h : ¬ (i < sa ∧ j < sb)) : ∀ c : Nat, bF f gp sa sb c i j = 0 := by
  intro c
  cases c with
  | zero => rfl
  | succ c => rw [bF, if_neg h]
theorem bF_st (H : Hf f gp sa sb) : ∀ (c : Nat) (i j : Int), (sa - i).toNat + (sb - j).toNat ≤ c → bF f gp sa sb (c + 1) i j = bF f gp sa sb c i j := by
  intro c
  induction c with
  | zero => intro i j h; rw [bF_out (by omega), bF_out (by omega)]
  | succ c ih =>
    intro i j h
    by_cases hr : i < sa ∧ j < sb
    · rw [bF, if_pos hr]
      conv => rhs; rw [bF, if_pos hr]
      rw [ih (i + 1) j (by omega), ih i (j + 1) (by omega)]
      by_cases hf : 0 < f i j
      · rw [if_pos hf, if_pos hf, ih (i + f i j) (j + f i j) (by omega)]
      · rw [if_neg hf, if_neg hf]
    · rw [bF_out hr, bF_out hr]
theorem bF_b (H : Hf f gp sa sb) : ∀ (c : Nat) (i j : Int), 0 ≤ bF f gp sa sb c i j ∧ bF f gp sa sb c i j ≤ max 0 (sa - i) := by
  intro c
  induction c with
  | zero => intro i j; rw [bF]; omega
  | succ c ih =>
    intro i j
    by_cases hr : i < sa ∧ j < sb
    · rw [bF, if_pos hr]
      have h1 := ih (i + 1) j
      have h2 := ih i (j + 1)
      have h3 := ih (i + f i j) (j + f i j)
      have h4 := H.2.2.2 i j
      have h5 := H.2.2.1
      split <;> omega
    · rw [bF_out hr]; omega
/-- with room enough -/
def bB (f : Int → Int → Int) (gp sa sb i j : Int) : Int := bF f gp sa sb 100 i j
def wB (f : Int → Int → Int) (gp sa sb i j : Int) : Int := f i j + max 0 (bB f gp sa sb (i + f i j) (j + f i j) - gp)
theorem bB_out {i j : Int} (h : ¬ (i < sa ∧ j < sb)) : bB f gp sa sb i j = 0 := bF_out h 100
theorem bB_eq (H : Hf f gp sa sb) {i j : Int} (hi0 : 0 ≤ i) (hi : i < sa) (hj0 : 0 ≤ j) (hj : j < sb) : bB f gp sa sb i j = if 0 < f i j then max (max (bB f gp sa sb (i + 1) j) (bB f gp sa sb i (j + 1))) (wB f gp sa sb i j) else max (bB f gp sa sb (i + 1) j) (bB f gp sa sb i (j + 1)) := by
  have w := H.1
  have w2 := H.2.1
  have w3 := H.2.2.2 i j
  unfold wB bB
  conv => lhs; rw [bF, if_pos ⟨hi, hj⟩]
  rw [bF_st H 99 (i + 1) j (by omega), bF_st H 99 i (j + 1) (by omega)]
  by_cases hf : 0 < f i j
  · rw [if_pos hf, if_pos hf, bF_st H 99 (i + f i j) (j + f i j) (by omega)]
  · rw [if_neg hf, if_neg hf]
theorem bB_b (H : Hf f gp sa sb) (i j : Int) : 0 ≤ bB f gp sa sb i j ∧ bB f gp sa sb i j ≤ max 0 (sa - i) := bF_b H 100 i j
theorem wB_b (H : Hf f gp sa sb) {i j : Int} (h : 0 < f i j) : 0 < wB f gp sa sb i j ∧ wB f gp sa sb i j ≤ 40 := by
  have h1 := bB_b H (i + f i j) (j + f i j)
  have h2 := H.2.2.2 i j
  have h3 := H.2.2.1
  have h4 := H.1
  unfold wB
  omega
theorem bB_ub (H : Hf f gp sa sb) : ∀ (c : Nat) (i j i' j' : Int), c = (i' - i).toNat + (j' - j).toNat → 0 ≤ i → 0 ≤ j → i ≤ i' → j ≤ j' → i' < sa → j' < sb → 0 < f i' j' → wB f gp sa sb i' j' ≤ bB f gp sa sb i j := by
  intro c
  induction c with
  | zero =>
    intro i j i' j' hc h1 h2 h3 h4 h5 h6 h7
    have e1 : i' = i := by omega
    have e2 : j' = j := by omega
    subst e1; subst e2
    rw [bB_eq H h1 h5 h2 h6, if_pos h7]
    omega
  | succ c ih =>
    intro i j i' j' hc h1 h2 h3 h4 h5 h6 h7
    have e := bB_eq H h1 (show i < sa by omega) h2 (show j < sb by omega)
    by_cases hi : i < i'
    · have := ih (i + 1) j i' j' (by omega) (by omega) h2 (by omega) h4 h5 h6 h7
      rw [e]
      split <;> omega
    · have := ih i (j + 1) i' j' (by omega) h1 (by omega) h3 (by omega) h5 h6 h7
      rw [e]
      split <;> omega
/-- a run at (i', j') is behind (i, j) and has the best score there -/
def Ach (f : Int → Int → Int) (gp sa sb i j i' j' : Int) : Prop := i ≤ i' ∧ j ≤ j' ∧ i' < sa ∧ j' < sb ∧ 0 < f i' j' ∧ bB f gp sa sb i j = wB f gp sa sb i' j'
theorem bB_at (H : Hf f gp sa sb) : ∀ (c : Nat) (i j : Int), c = (sa - i).toNat + (sb - j).toNat → 0 ≤ i → 0 ≤ j → 0 < bB f gp sa sb i j → ∃ i' j', Ach f gp sa sb i j i' j' := by
  intro c
  induction c with
  | zero => intro i j hc h1 h2 h3; rw [bB_out (by omega)] at h3; omega
  | succ c ih =>
    intro i j hc h1 h2 h3
    by_cases hr : i < sa ∧ j < sb
    · have e := bB_eq H h1 hr.1 h2 hr.2
      by_cases c1 : bB f gp sa sb i j = bB f gp sa sb (i + 1) j
      · obtain ⟨i', j', z1, z2, z3, z4, z5, z6⟩ := ih (i + 1) j (by omega) (by omega) h2 (by omega)
        exact ⟨i', j', by omega, z2, z3, z4, z5, by rw [c1]; exact z6⟩
      · by_cases c2 : bB f gp sa sb i j = bB f gp sa sb i (j + 1)
        · obtain ⟨i', j', z1, z2, z3, z4, z5, z6⟩ := ih i (j + 1) (by omega) h1 (by omega) (by omega)
          exact ⟨i', j', z1, by omega, z3, z4, z5, by rw [c2]; exact z6⟩
        · by_cases hf : 0 < f i j
          · rw [if_pos hf] at e
            exact ⟨i, j, Int.le_refl _, Int.le_refl _, hr.1, hr.2, hf, by omega⟩
          · rw [if_neg hf] at e
            exfalso
            omega
    · rw [bB_out hr] at h3; omega
end BFS
/-! the list of runs is in order -/
def ltR (x y : rT) : Prop := x.1 < y.1 ∨ (x.1 = y.1 ∧ x.2.1 < y.2.1)
def okR (f : Int → Int → Int) (x : rT) : Prop := x.2.2 = f x.1 x.2.1 ∧ 0 < x.2.2
theorem rowR_el (f : Int → Int → Int) (i : Int) : ∀ (n : Nat) (x : rT), x ∈ rowR f i n → x.1 = i ∧ (0 ≤ x.2.1 ∧ x.2.1 < (n : Int)) ∧ okR f x := by
  intro n
  induction n with
  | zero => intro x h; cases h
  | succ n ih =>
    intro x h
    rw [rowR] at h
    rcases List.mem_append.mp h with h1 | h1
    · have := ih x h1
      exact ⟨this.1, ⟨this.2.1.1, by omega⟩, this.2.2⟩
    · split at h1
      · next hp =>
        rcases List.mem_cons.mp h1 with e | e
        · subst e; exact ⟨rfl, ⟨by show (0 : Int) ≤ n; omega, by show (n : Int) < _; omega⟩, rfl, hp⟩
        · cases e
      · cases h1
theorem matR_el (f : Int → Int → Int) (m : Nat) : ∀ (n : Nat) (x : rT), x ∈ matR f m n → (0 ≤ x.1 ∧ x.1 < (n : Int)) ∧ (0 ≤ x.2.1 ∧ x.2.1 < (m : Int)) ∧ okR f x := by
  intro n
  induction n with
  | zero => intro x h; cases h
  | succ n ih =>
    intro x h
    rw [matR] at h
    rcases List.mem_append.mp h with h1 | h1
    · have := ih x h1
      exact ⟨⟨this.1.1, by omega⟩, this.2⟩
    · have := rowR_el f n m x h1
      exact ⟨⟨by omega, by omega⟩, this.2⟩
theorem rowR_pw (f : Int → Int → Int) (i : Int) : ∀ n : Nat, (rowR f i n).Pairwise ltR := by
  intro n
  induction n with
  | zero => exact List.Pairwise.nil
  | succ n ih =>
    rw [rowR]
    refine List.pairwise_append.mpr ⟨ih, ?_, fun x hx y hy => ?_⟩
    · split
      · exact List.pairwise_singleton _ _
      · exact List.Pairwise.nil
    · split at hy
      · rcases List.mem_cons.mp hy with e | e
        · subst e
          have := rowR_el f i n x hx
          exact Or.inr ⟨this.1, this.2.1.2⟩
        · cases e
      · cases hy
theorem matR_pw (f : Int → Int → Int) (m : Nat) : ∀ n : Nat, (matR f m n).Pairwise ltR := by
  intro n
  induction n with
  | zero => exact List.Pairwise.nil
  | succ n ih =>
    rw [matR]
    refine List.pairwise_append.mpr ⟨ih, rowR_pw f n m, fun x hx y hy => ?_⟩
    have h1 := matR_el f m n x hx
    have h2 := rowR_el f n m y hy
    exact Or.inl (by omega)
theorem preR_n0 (f : Int → Int → Int) (m n : Int) : preR f m n 0 = matR f m.toNat n.toNat := by
  unfold preR
  show _ ++ rowR f n 0 = _
  rw [rowR, List.append_nil]
theorem preR_pre (f : Int → Int → Int) (m i j : Int) (hi : 0 ≤ i) (x : rT) (h : x ∈ preR f m i j) : (x.1 < i ∨ (x.1 = i ∧ x.2.1 < j)) ∧ okR f x := by
  unfold preR at h
  rcases List.mem_append.mp h with h1 | h1
  · have := matR_el f _ _ x h1
    exact ⟨Or.inl (by omega), this.2.2⟩
  · have := rowR_el f _ _ x h1
    exact ⟨Or.inr ⟨this.1, by omega⟩, this.2.2⟩
/-- the first that p holds of, counted from k on -/
def fdx (p : rT → Bool) : List rT → Int → Int
  | [], _ => -1
  | x :: t, k => if p x = true then k else fdx p t (k + 1)
theorem fdx_spec (p : rT → Bool) : ∀ (l : List rT) (k : Int), (fdx p l k = -1 ∧ ∀ x ∈ l, p x = false) ∨ (∃ q : Nat, fdx p l k = k + q ∧ (∃ x, l[q]? = some x ∧ p x = true) ∧ ∀ (q' : Nat) (x : rT), q' < q → l[q']? = some x → p x = false) := by
  intro l
  induction l with
  | nil => intro k; exact Or.inl ⟨rfl, fun x h => by cases h⟩
  | cons y t ih =>
    intro k
    rw [fdx]
    by_cases hp : p y = true
    · rw [if_pos hp]
      exact Or.inr ⟨0, by omega, ⟨y, rfl, hp⟩, fun q' x h => by omega⟩
    · rw [if_neg hp]
      have hp' : p y = false := by cases h : p y with
        | true => exact absurd h hp
        | false => rfl
      rcases ih (k + 1) with ⟨h1, h2⟩ | ⟨q, h1, h2, h3⟩
      · exact Or.inl ⟨h1, fun x hx => (List.mem_cons.mp hx).elim (fun e => e ▸ hp') (h2 x)⟩
      · refine Or.inr ⟨q + 1, by rw [h1]; omega, h2, fun q' x hq hx => ?_⟩
        cases q' with
        | zero => cases hx; exact hp'
        | succ q' => exact h3 q' x (by omega) hx
/-- the found one is the only one that is a first -/
theorem fdx_is {p : rT → Bool} {l : List rT} {q : Nat} {x : rT} (h1 : l[q]? = some x) (h2 : p x = true) (h3 : ∀ (q' : Nat) (x : rT), q' < q → l[q']? = some x → p x = false) : fdx p l 0 = q := by
  rcases fdx_spec p l 0 with ⟨e1, e2⟩ | ⟨r, e1, ⟨y, e2, e3⟩, e4⟩
  · have := e2 x (List.mem_of_getElem? h1)
    rw [h2] at this
    cases this
  · rcases Nat.lt_trichotomy q r with z | z | z
    · have := e4 q x z h1
      rw [h2] at this
      cases this
    · rw [e1, z]; omega
    · have := h3 r y z e2
      rw [e3] at this
      cases this
/-! of two books -/
noncomputable def sB (σ : sT) (a b i j : Int) : Int := bB (rln σ a b) (s_gp σ) (s_sz σ a) (s_sz σ b) i j
noncomputable def sW (σ : sT) (a b i j : Int) : Int := wB (rln σ a b) (s_gp σ) (s_sz σ a) (s_sz σ b) i j
noncomputable def nxP (σ : sT) (a b i j : Int) (x : rT) : Bool := decide (i ≤ x.1) && (decide (j ≤ x.2.1) && decide (sW σ a b x.1 x.2.1 = sB σ a b i j))
/-- the first run from (i, j) on that the best score can be had from; -1: none -/
noncomputable def nxF (σ : sT) (a b i j : Int) : Int := if 0 < sB σ a b i j then fdx (nxP σ a b i j) (runsL σ a b) 0 else -1
/-- the run that follows run x in the best chain from x on -/
noncomputable def nxQ (σ : sT) (a b : Int) (x : rT) : Int := if s_gp σ ≤ sB σ a b (x.1 + x.2.2) (x.2.1 + x.2.2) then nxF σ a b (x.1 + x.2.2) (x.2.1 + x.2.2) else -1
theorem rln_H {σ : sT} (hW : WF σ) (a b : Int) : Hf (rln σ a b) (s_gp σ) (s_sz σ a) (s_sz σ b) := ⟨hW.2.2.2.1 a, hW.2.2.2.1 b, hW.2.2.2.2.2.2.2.2.1, fun i j => ⟨(rln_b hW a b i j).1, (rln_b hW a b i j).2.2⟩⟩
theorem nxP_iff {σ : sT} {a b i j : Int} {x : rT} : nxP σ a b i j x = true ↔ i ≤ x.1 ∧ j ≤ x.2.1 ∧ sW σ a b x.1 x.2.1 = sB σ a b i j := by simp [nxP]
theorem nxP_no {σ : sT} {a b i j : Int} {x : rT} (h : ¬ (i ≤ x.1 ∧ j ≤ x.2.1 ∧ sW σ a b x.1 x.2.1 = sB σ a b i j)) : nxP σ a b i j x = false := by
  cases e : nxP σ a b i j x with
  | false => rfl
  | true => exact absurd (nxP_iff.mp e) h
theorem runsL_el {σ : sT} (hW : WF σ) {a b : Int} {x : rT} (h : x ∈ runsL σ a b) : (0 ≤ x.1 ∧ x.1 < s_sz σ a) ∧ (0 ≤ x.2.1 ∧ x.2.1 < s_sz σ b) ∧ okR (rln σ a b) x := by
  have w4a := hW.2.2.2.1 a
  have w4b := hW.2.2.2.1 b
  rw [runsL, preR_n0] at h
  have := matR_el _ _ _ x h
  exact ⟨by omega, by omega, this.2.2⟩
theorem runsL_in {σ : sT} (hW : WF σ) {a b i j : Int} (hi0 : 0 ≤ i) (hi : i < s_sz σ a) (hj0 : 0 ≤ j) (hj : j < s_sz σ b) (hf : 0 < rln σ a b i j) : ∃ q : Nat, (runsL σ a b)[q]? = some (i, j, rln σ a b i j) := by
  have w4b := hW.2.2.2.1 b
  exact ⟨_, preR_at (rln σ a b) (n := s_sz σ a) (m := s_sz σ b) w4b.1 hi0 hi hj0 hj hf⟩
theorem runsL_lt {σ : sT} {a b : Int} {q r : Nat} {x y : rT} (h : q < r) (hx : (runsL σ a b)[q]? = some x) (hy : (runsL σ a b)[r]? = some y) : ltR x y := by
  have pw : (runsL σ a b).Pairwise ltR := by rw [runsL, preR_n0]; exact matR_pw _ _ _
  obtain ⟨h1, rfl⟩ := List.getElem?_eq_some_iff.mp hx
  obtain ⟨h2, rfl⟩ := List.getElem?_eq_some_iff.mp hy
  exact List.pairwise_iff_getElem.mp pw q r h1 h2 h
/-- how a first is known -/
theorem nxF_is {σ : sT} {a b i j : Int} {q : Nat} {x : rT} (hB : 0 < sB σ a b i j) (hx : (runsL σ a b)[q]? = some x) (h1 : i ≤ x.1) (h2 : j ≤ x.2.1) (h3 : sW σ a b x.1 x.2.1 = sB σ a b i j) (hl : ∀ (q' : Nat) (y : rT), q' < q → (runsL σ a b)[q']? = some y → ¬ (i ≤ y.1 ∧ j ≤ y.2.1 ∧ sW σ a b y.1 y.2.1 = sB σ a b i j)) : nxF σ a b i j = q := by
  rw [nxF, if_pos hB]
  exact fdx_is hx (nxP_iff.mpr ⟨h1, h2, h3⟩) (fun q' y hq hy => nxP_no (hl q' y hq hy))
theorem nxF_of {σ : sT} (hW : WF σ) {a b i j : Int} (hi : 0 ≤ i) (hj : 0 ≤ j) (hB : 0 < sB σ a b i j) : ∃ (q : Nat) (x : rT), nxF σ a b i j = q ∧ (runsL σ a b)[q]? = some x ∧ i ≤ x.1 ∧ j ≤ x.2.1 ∧ sW σ a b x.1 x.2.1 = sB σ a b i j ∧ ∀ (q' : Nat) (y : rT), q' < q → (runsL σ a b)[q']? = some y → ¬ (i ≤ y.1 ∧ j ≤ y.2.1 ∧ sW σ a b y.1 y.2.1 = sB σ a b i j) := by
  rcases fdx_spec (nxP σ a b i j) (runsL σ a b) 0 with ⟨e1, e2⟩ | ⟨q, e1, ⟨x, e2, e3⟩, e4⟩
  · obtain ⟨i', j', z1, z2, z3, z4, z5, z6⟩ := bB_at (rln_H hW a b) _ i j rfl hi hj hB
    obtain ⟨q, hq⟩ := runsL_in hW (by omega) z3 (by omega) z4 z5
    have := e2 _ (List.mem_of_getElem? hq)
    have y : nxP σ a b i j (i', j', rln σ a b i' j') = true := nxP_iff.mpr ⟨z1, z2, z6.symm⟩
    rw [y] at this
    cases this
  · refine ⟨q, x, by rw [nxF, if_pos hB, e1]; omega, e2, (nxP_iff.mp e3).1, (nxP_iff.mp e3).2.1, (nxP_iff.mp e3).2.2, fun q' y hq hy z => ?_⟩
    have := e4 q' y hq hy
    rw [nxP_iff.mpr z] at this
    cases this
