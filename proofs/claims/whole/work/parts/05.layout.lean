/-! the two layouts: the class's cells, the model's cells -/
def lyC : lyT := [(7, 0), (6, 0), (9, 240), (4, 0), (5, 0), (13, 6), (0, 0), (11, 40), (0, 0), (11, 40), (0, 0), (11, 40), (0, 0), (11, 40), (0, 0), (11, 40), (0, 0), (11, 40), (1, 0), (10, 40), (10, 1681), (10, 1681), (3, 0), (11, 40), (10, 40), (12, 40), (12, 40), (10, 40), (3, 0), (11, 40), (10, 40), (12, 40), (12, 40), (10, 40), (3, 0), (11, 40), (10, 40), (12, 40), (12, 40), (10, 40), (2, 0), (10, 6)]
def lyM : lyT := [(8, 0), (10, 240), (12, 6), (10, 6), (10, 6), (10, 6), (11, 240), (11, 5), (12, 240), (10, 40), (12, 240), (10, 1600), (10, 1600), (10, 1600), (10, 1600), (10, 1600), (10, 6)]
/-- a page's cell, a book's cell -/
def isP (k : Nat) : Prop := k = 22 ∨ k = 28 ∨ k = 34
def isB (k : Nat) : Prop := k = 6 ∨ k = 8 ∨ k = 10 ∨ k = 12 ∨ k = 14 ∨ k = 16
theorem isP.f {k : Nat} (h : isP k) : kd lyC k = 3 ∧ kd lyC (k + 1) = 11 ∧ kd lyC (k + 2) = 10 ∧ kd lyC (k + 3) = 12 ∧ kd lyC (k + 4) = 12 ∧ kd lyC (k + 5) = 10 ∧ ln lyC (k + 1) = 40 ∧ ln lyC (k + 2) = 40 ∧ ln lyC (k + 3) = 40 ∧ ln lyC (k + 4) = 40 ∧ ln lyC (k + 5) = 40 := by
  rcases h with rfl | rfl | rfl <;> decide
theorem isB.f {k : Nat} (h : isB k) : kd lyC k = 0 ∧ kd lyC (k + 1) = 11 ∧ ln lyC (k + 1) = 40 := by
  rcases h with rfl | rfl | rfl | rfl | rfl | rfl <;> decide
/-- book b's cell -/
def bk (b : Int) : Nat := 5 + 1 + 2 * b.toNat
theorem bk_isB {b : Int} (h0 : 0 ≤ b) (h : b < 6) : isB (bk b) := by
  unfold isB bk
  omega
abbrev vn (z : Int) : Option Value := some (.int (zI z))
abbrev vr (g : gT) (k : Nat) : Option Value := some (.ref (g.2.1 k))
abbrev vl (z : Int64) : Option Value := some (.long z)
theorem rr_bk {x : cT} {ly : lyT} {g : gT} {post : poT} {pc : Nat} {lv : lvT} {st : List Value} {I : IM} {L : LM} {b : Int} (kk : Rn x ly g post pc lv (.ref (g.2.1 (bk b)) :: st) I L) : Rn x ly g post pc lv (.ref (g.2.1 (5 + 1 + 2 * b.toNat)) :: st) I L := kk
