/-! what the small calls answer, and the state behind them -/
def pS (Rl : sT → IM → LM → Prop) (q : Int × sT) : poT := pI (fun r I' L' => r = q.1 ∧ Rl q.2 I' L')
def pSJ (Rl : sT → IM → LM → Prop) (q : Int64 × sT) : poT := pJ (fun r I' L' => r = q.1 ∧ Rl q.2 I' L')
def sp_windows (σ : sT) (k w : Int) : Int × sT := if (2 ≤ k ∧ k ≤ 5) ∧ (1 ≤ w ∧ w ≤ 8) then (1, (σ.1, σ.2.1, (k, w, s_gp σ, s_bd σ, s_gv σ))) else (-1, σ)
def sp_gap (σ : sT) (t : Int) : Int × sT := if 0 ≤ t ∧ t ≤ 20 then (s_gp σ, (σ.1, σ.2.1, (s_k σ, s_w σ, t, s_bd σ, s_gv σ))) else (-1, σ)
def sp_link (σ : sT) (t : Int) : Int × sT := if 1 ≤ t ∧ t ≤ 200 then (s_bd σ, (σ.1, σ.2.1, (s_k σ, s_w σ, s_gp σ, t, s_gv σ))) else (-1, σ)
def sp_given (σ : sT) (b : Int) : Int × sT := if b = -1 ∨ ((0 ≤ b ∧ b < 6) ∧ s_hd σ b = 1) then (s_gv σ, (σ.1, σ.2.1, (s_k σ, s_w σ, s_gp σ, s_bd σ, b))) else (rB σ b - 10, σ)
def sp_withdraw (σ : sT) (b : Int) : Int × sT := if (0 ≤ b ∧ b < 6) ∧ s_hd σ b = 1 then (s_sz σ b, (σ.1, (u1 (s_hd σ) b 0, s_sz σ, s_lg σ, s_dy σ, s_tk σ), (s_k σ, s_w σ, s_gp σ, s_bd σ, if s_gv σ = b then -1 else s_gv σ))) else (rB σ b, σ)
def sp_token (σ : sT) (b i : Int) : Int64 := if (0 ≤ b ∧ b < 6) ∧ -3 ≤ i then (if s_hd σ b = 1 then (if s_sz σ b ≤ i then -1 else if i = -1 then (zI (s_sz σ b)).toInt64 else if i = -2 then (zI (s_lg σ b)).toInt64 else if i = -3 then (zI (s_dy σ b)).toInt64 else s_tk σ b i) else -2) else -1
theorem WF_windows {σ : sT} (h : WF σ) (k w : Int) : WF (sp_windows σ k w).2 := by
  unfold sp_windows
  split
  · next q => exact ⟨h.1, h.2.1, h.2.2.1, h.2.2.2.1, h.2.2.2.2.1, h.2.2.2.2.2.1, q.1, q.2, h.2.2.2.2.2.2.2.2.1, h.2.2.2.2.2.2.2.2.2.1, h.2.2.2.2.2.2.2.2.2.2.1, h.2.2.2.2.2.2.2.2.2.2.2⟩
  · exact h
theorem WF_gap {σ : sT} (h : WF σ) (t : Int) : WF (sp_gap σ t).2 := by
  unfold sp_gap
  split
  · next q => exact ⟨h.1, h.2.1, h.2.2.1, h.2.2.2.1, h.2.2.2.2.1, h.2.2.2.2.2.1, h.2.2.2.2.2.2.1, h.2.2.2.2.2.2.2.1, q, h.2.2.2.2.2.2.2.2.2.1, h.2.2.2.2.2.2.2.2.2.2.1, h.2.2.2.2.2.2.2.2.2.2.2⟩
  · exact h
theorem WF_link {σ : sT} (h : WF σ) (t : Int) : WF (sp_link σ t).2 := by
  unfold sp_link
  split
  · next q => exact ⟨h.1, h.2.1, h.2.2.1, h.2.2.2.1, h.2.2.2.2.1, h.2.2.2.2.2.1, h.2.2.2.2.2.2.1, h.2.2.2.2.2.2.2.1, h.2.2.2.2.2.2.2.2.1, q, h.2.2.2.2.2.2.2.2.2.2.1, h.2.2.2.2.2.2.2.2.2.2.2⟩
  · exact h
theorem WF_given {σ : sT} (h : WF σ) (b : Int) : WF (sp_given σ b).2 := by
  unfold sp_given
  split
  · next q => exact ⟨h.1, h.2.1, h.2.2.1, h.2.2.2.1, h.2.2.2.2.1, h.2.2.2.2.2.1, h.2.2.2.2.2.2.1, h.2.2.2.2.2.2.2.1, h.2.2.2.2.2.2.2.2.1, h.2.2.2.2.2.2.2.2.2.1, (by show -1 ≤ b ∧ b ≤ 5; omega), fun z => (by have z : 0 ≤ b := z; rcases q with q | q; omega; exact q.2)⟩
  · exact h
theorem WF_withdraw {σ : sT} (h : WF σ) (b : Int) : WF (sp_withdraw σ b).2 := by
  unfold sp_withdraw
  split
  · next q =>
    have w := h.2.2.2.2.2.2.2.2.2.2.1
    have hg := h.2.2.2.2.2.2.2.2.2.2.2
    have w3 := h.2.2.1
    refine ⟨h.1, h.2.1, fun c => ?_, h.2.2.2.1, h.2.2.2.2.1, h.2.2.2.2.2.1, h.2.2.2.2.2.2.1, h.2.2.2.2.2.2.2.1, h.2.2.2.2.2.2.2.2.1, h.2.2.2.2.2.2.2.2.2.1, ?_, fun z => ?_⟩
    · show 0 ≤ u1 (s_hd σ) b 0 c ∧ u1 (s_hd σ) b 0 c ≤ 1
      unfold u1
      split
      · omega
      · exact w3 c
    · show -1 ≤ (if s_gv σ = b then -1 else s_gv σ) ∧ (if s_gv σ = b then -1 else s_gv σ) ≤ 5
      split <;> omega
    · have z : 0 ≤ (if s_gv σ = b then -1 else s_gv σ) := z
      show u1 (s_hd σ) b 0 (if s_gv σ = b then -1 else s_gv σ) = 1
      by_cases e : s_gv σ = b
      · rw [if_pos e] at z; omega
      · rw [if_neg e] at z ⊢
        rw [u1_ne _ _ e]
        exact hg z
  · exact h
