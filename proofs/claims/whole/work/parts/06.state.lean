/-! the abstract state, and what it is to each side -/
abbrev sT : Type := (Int × (Int → Int)) × ((Int → Int) × (Int → Int) × (Int → Int) × (Int → Int) × (Int → Int → Int64)) × (Int × Int × Int × Int × Int)
abbrev s_tl (σ : sT) : Int := σ.1.1
abbrev s_tb (σ : sT) : Int → Int := σ.1.2
abbrev s_hd (σ : sT) : Int → Int := σ.2.1.1
abbrev s_sz (σ : sT) : Int → Int := σ.2.1.2.1
abbrev s_lg (σ : sT) : Int → Int := σ.2.1.2.2.1
abbrev s_dy (σ : sT) : Int → Int := σ.2.1.2.2.2.1
abbrev s_tk (σ : sT) : Int → Int → Int64 := σ.2.1.2.2.2.2
abbrev s_k (σ : sT) : Int := σ.2.2.1
abbrev s_w (σ : sT) : Int := σ.2.2.2.1
abbrev s_gp (σ : sT) : Int := σ.2.2.2.2.1
abbrev s_bd (σ : sT) : Int := σ.2.2.2.2.2.1
abbrev s_gv (σ : sT) : Int := σ.2.2.2.2.2.2
def u1 {α : Type} (f : Int → α) (k : Int) (v : α) : Int → α := fun j => if j = k then v else f j
theorem u1_same {α : Type} (f : Int → α) (k : Int) (v : α) : u1 f k v k = v := by simp [u1]
theorem u1_ne {α : Type} (f : Int → α) {k j : Int} (v : α) (h : j ≠ k) : u1 f k v j = f j := by simp [u1, h]
/-- what the numbers of a state keep to -/
def WF (σ : sT) : Prop := (0 ≤ s_tl σ ∧ s_tl σ ≤ 240) ∧ (∀ i, 0 ≤ i → i < s_tl σ → 32 ≤ s_tb σ i ∧ s_tb σ i ≤ 126) ∧ (∀ b, 0 ≤ s_hd σ b ∧ s_hd σ b ≤ 1) ∧ (∀ b, 0 ≤ s_sz σ b ∧ s_sz σ b ≤ 40) ∧ (∀ b, 0 ≤ s_lg σ b ∧ s_lg σ b ≤ 1) ∧ (∀ b, 0 ≤ s_dy σ b ∧ s_dy σ b ≤ 9999) ∧ (2 ≤ s_k σ ∧ s_k σ ≤ 5) ∧ (1 ≤ s_w σ ∧ s_w σ ≤ 8) ∧ (0 ≤ s_gp σ ∧ s_gp σ ≤ 20) ∧ (1 ≤ s_bd σ ∧ s_bd σ ≤ 200) ∧ (-1 ≤ s_gv σ ∧ s_gv σ ≤ 5) ∧ (0 ≤ s_gv σ → s_hd σ (s_gv σ) = 1)
/-- the class's cells hold the state -/
def CR (σ : sT) (I : IM) (L : LM) : Prop := I 1 1 = s_tl σ ∧ (∀ i, 0 ≤ i → i < s_tl σ → I 2 i = s_tb σ i) ∧ (∀ b, 0 ≤ b → b < 6 → I (bk b) 4 = s_hd σ b ∧ (s_hd σ b = 1 → I (bk b) 1 = s_sz σ b ∧ I (bk b) 2 = s_lg σ b ∧ I (bk b) 3 = s_dy σ b ∧ ∀ i, 0 ≤ i → i < s_sz σ b → L (bk b + 1) i = s_tk σ b i)) ∧ I 4 1 = s_gv σ ∧ I 4 2 = s_k σ ∧ I 4 3 = s_w σ ∧ I 4 4 = s_gp σ ∧ I 4 5 = s_bd σ
/-- the model's cells hold the state -/
def MR (σ : sT) (J : IM) (K : LM) : Prop := J 0 1 = s_tl σ ∧ (∀ i, 0 ≤ i → i < s_tl σ → J 1 i = s_tb σ i) ∧ (∀ b, 0 ≤ b → b < 6 → J 2 b = s_hd σ b ∧ J 3 b = s_sz σ b ∧ J 4 b = s_lg σ b ∧ J 5 b = s_dy σ b ∧ ∀ i, 0 ≤ i → i < s_sz σ b → K 6 (40 * b + i) = s_tk σ b i) ∧ J 0 11 = s_gv σ ∧ J 0 7 = s_k σ ∧ J 0 8 = s_w σ ∧ J 0 9 = s_gp σ ∧ J 0 10 = s_bd σ ∧ (K 7 0 = 339 ∧ K 7 1 = 8787 ∧ K 7 2 = 236 ∧ K 7 3 = 16633 ∧ K 7 4 = 7367)
/-- only scratch has changed -/
def kC (I : IM) (L : LM) (I' : IM) (L' : LM) : Prop := ∀ q, q < 18 ∨ 40 ≤ q → I' q = I q ∧ L' q = L q
def kM (J : IM) (K : LM) (J' : IM) (K' : LM) : Prop := (∀ q, 1 ≤ q → (q ≤ 5 ∨ q = 16) → J' q = J q) ∧ (∀ j, j = 1 ∨ j = 7 ∨ j = 8 ∨ j = 9 ∨ j = 10 ∨ j = 11 ∨ j = 26 → J' 0 j = J 0 j) ∧ K' = K
theorem kC.rf {I : IM} {L : LM} : kC I L I L := fun _ _ => ⟨rfl, rfl⟩
theorem kM.rf {J : IM} {K : LM} : kM J K J K := ⟨fun _ _ _ => rfl, fun _ _ => rfl, rfl⟩
theorem kC.tr {I I1 I2 : IM} {L L1 L2 : LM} (h : kC I L I1 L1) (h2 : kC I1 L1 I2 L2) : kC I L I2 L2 := fun q hq => ⟨(h2 q hq).1.trans (h q hq).1, (h2 q hq).2.trans (h q hq).2⟩
theorem kM.tr {J J1 J2 : IM} {K K1 K2 : LM} (h : kM J K J1 K1) (h2 : kM J1 K1 J2 K2) : kM J K J2 K2 := ⟨fun q a b => (h2.1 q a b).trans (h.1 q a b), fun j hj => (h2.2.1 j hj).trans (h.2.1 j hj), h2.2.2.trans h.2.2⟩
theorem CR.kk {σ : sT} {I I' : IM} {L L' : LM} (h : CR σ I L) (k : ∀ q, q < 18 → I' q = I q ∧ L' q = L q) : CR σ I' L' := by
  obtain ⟨h1, h2, h3, h4⟩ := h
  refine ⟨by rw [(k 1 (by omega)).1]; exact h1, fun i a b => by rw [(k 2 (by omega)).1]; exact h2 i a b, fun b h0 h6 => ?_, by rw [(k 4 (by omega)).1]; exact h4⟩
  have e1 := k (bk b) (by unfold bk; omega)
  have e2 := k (bk b + 1) (by unfold bk; omega)
  rw [e1.1, e2.2]
  exact h3 b h0 h6
theorem CR.k {σ : sT} {I I' : IM} {L L' : LM} (h : CR σ I L) (k : kC I L I' L') : CR σ I' L' := h.kk (fun q hq => k q (Or.inl hq))
theorem MR.k {σ : sT} {J J' : IM} {K K' : LM} (h : MR σ J K) (k : kM J K J' K') : MR σ J' K' := by
  obtain ⟨h1, h2, h3, h4, h5, h6, h7, h8, h9⟩ := h
  obtain ⟨k1, k2, rfl⟩ := k
  refine ⟨(k2 1 (by omega)).trans h1, fun i a b => by rw [k1 1 (by omega) (by omega)]; exact h2 i a b, fun b h0 h6 => ?_, (k2 11 (by omega)).trans h4, (k2 7 (by omega)).trans h5, (k2 8 (by omega)).trans h6, (k2 9 (by omega)).trans h7, (k2 10 (by omega)).trans h8, h9⟩
  rw [k1 2 (by omega) (by omega), k1 3 (by omega) (by omega), k1 4 (by omega) (by omega), k1 5 (by omega) (by omega)]
  exact h3 b h0 h6
/-- refusals of one book, of a pair -/
def rB (σ : sT) (b : Int) : Int := if 0 ≤ b ∧ b < 6 then (if s_hd σ b = 1 then 0 else -2) else -1
def rP (σ : sT) (a b : Int) : Int := if (0 ≤ a ∧ a < 6) ∧ (0 ≤ b ∧ b < 6) ∧ ¬ a = b then (if s_hd σ a = 1 ∧ s_hd σ b = 1 then 0 else -2) else -1
theorem bk_inj {a b : Int} (ha : 0 ≤ a) (hb : 0 ≤ b) (h : bk a = bk b) : a = b := by unfold bk at h; omega
