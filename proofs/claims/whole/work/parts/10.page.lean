/-! BorrowedPages$Page: leaves -/
set_option maxHeartbeats 4000000 in
set_option maxRecDepth 100000 in
/-- the last of the least of h at a .. i-1, beginning with b -/
theorem mm_X3_lastOfLeast_0 : True := trivial
def lolF (h : Int → Int) : Nat → Int → Int → Int
  | 0, _, b => b
  | n + 1, i, b => lolF h n (i + 1) (if h i ≤ h b then i else b)
set_option maxHeartbeats 4000000 in
set_option maxRecDepth 100000 in
theorem mm_X3_lastOfLeast {l : Launch} {g : gT} {k : Nat} {a e : Int} {I : IM} {L : LM} (hk : isP k) (ha : 0 ≤ a) (hae : a < e) (he : e ≤ 40) (hr : ∀ j, a ≤ j → j < e → rg (I (k + 2) j)) :
    Ct l yX3_lastOfLeast cX3_lastOfLeast 5 (some .int) 0 0 lyC g [.ref (g.2.1 k), .int (zI a), .int (zI e)] I L (pI (fun r I' L' => r = lolF (I (k + 2)) (e - (a + 1)).toNat (a + 1) a ∧ I = I' ∧ L = L')) := by
  obtain ⟨q1, q2, q3, q4, q5, q6, q7, q8, q9, q10, q11⟩ := hk.f
  refine Ct.of RX3 (by decide +kernel) rfl (Nat.le_of_ble_eq_true rfl) (fun x hx F => ?_)
  have loop : ∀ (n : Nat) (i b : Int), n = (e - i).toNat → a < i → i ≤ e → a ≤ b → b < i → lolF (I (k + 2)) n i b = lolF (I (k + 2)) (e - (a + 1)).toNat (a + 1) a → Rn x lyC g (pI (fun r I' L' => r = lolF (I (k + 2)) (e - (a + 1)).toNat (a + 1) a ∧ I = I' ∧ L = L')) 7 [vr g k, vn a, vn e, vn b, vn i] [] I L := by
    intro n
    induction n with
    | zero =>
      intro i b h1 h2 h3 h4 h5 h6
      refine rr_iload F dX3_lastOfLeast_7 rfl ?_
      refine rr_iload_n F dX3_lastOfLeast_9 rfl ?_
      refine rr_icmp_ge F dX3_lastOfLeast_10 (tgt := 38) (by decide) ⟨by omega, by omega⟩ ⟨by omega, by omega⟩ (fun c_10 => ?_) (fun c_10 => ?_)
      · refine rr_iload_n F dX3_lastOfLeast_38 rfl ?_
        refine rr_iret F dX3_lastOfLeast_39 ?_
        exact ⟨_, rfl, h6, rfl, rfl⟩
      · exact absurd c_10 (by omega)
    | succ n ih =>
      intro i b h1 h2 h3 h4 h5 h6
      have hi : i < e → rg (I (k + 2) i) := fun z => hr i (by omega) z
      have hb := hr b (by omega) (by omega)
      unfold rg at hi hb
      refine rr_iload F dX3_lastOfLeast_7 rfl ?_
      refine rr_iload_n F dX3_lastOfLeast_9 rfl ?_
      refine rr_icmp_ge F dX3_lastOfLeast_10 (tgt := 38) (by decide) ⟨by omega, by omega⟩ ⟨by omega, by omega⟩ (fun c_10 => ?_) (fun c_10 => ?_)
      · exact absurd c_10 (by omega)
      · have hi := hi (by omega)
        refine rr_aload_n F dX3_lastOfLeast_13 rfl ?_
        refine rg_Page_hashes F (by first | rfl | assumption) fl_X3_15 dX3_lastOfLeast_14 ?_
        refine rr_iload F dX3_lastOfLeast_17 rfl ?_
        refine rr_iald F (N := 40) (by first | rfl | assumption) (by omega) (by first | rfl | assumption) (by omega) dX3_lastOfLeast_19 ?_
        refine rr_aload_n F dX3_lastOfLeast_20 rfl ?_
        refine rg_Page_hashes F (by first | rfl | assumption) fl_X3_15 dX3_lastOfLeast_21 ?_
        refine rr_iload_n F dX3_lastOfLeast_24 rfl ?_
        refine rr_iald F (N := 40) (by first | rfl | assumption) (by omega) (by first | rfl | assumption) (by omega) dX3_lastOfLeast_25 ?_
        refine rr_icmp_gt F dX3_lastOfLeast_26 (tgt := 32) (by decide) ⟨by omega, by omega⟩ ⟨by omega, by omega⟩ (fun c_26 => ?_) (fun c_26 => ?_)
        · refine rr_iinc F dX3_lastOfLeast_32 rfl rfl ?_
          refine rr_goto F dX3_lastOfLeast_35 (tgt := 7) (by decide) ?_
          exact ih (i + 1) _ (by omega) (by omega) (by omega) (by first | omega | assumption) (by omega) (by rw [← h6, lolF]; first | rw [if_pos (by omega)] | rw [if_neg (by omega)])
        · refine rr_iload F dX3_lastOfLeast_29 rfl ?_
          refine rr_istore_n F dX3_lastOfLeast_31 (Nat.le_of_ble_eq_true rfl) rfl ?_
          refine rr_iinc F dX3_lastOfLeast_32 rfl rfl ?_
          refine rr_goto F dX3_lastOfLeast_35 (tgt := 7) (by decide) ?_
          exact ih (i + 1) _ (by omega) (by omega) (by omega) (by first | omega | assumption) (by omega) (by rw [← h6, lolF]; first | rw [if_pos (by omega)] | rw [if_neg (by omega)])
  refine rr_iload_n F dX3_lastOfLeast_0 rfl ?_
  refine rr_istore_n F dX3_lastOfLeast_1 (Nat.le_of_ble_eq_true rfl) rfl ?_
  refine rr_iload_n F dX3_lastOfLeast_2 rfl ?_
  refine rr_iconst F dX3_lastOfLeast_3 ?_
  refine rr_iadd F dX3_lastOfLeast_4 ?_
  refine rr_istore F dX3_lastOfLeast_5 (Nat.le_of_ble_eq_true rfl) rfl ?_
  exact loop _ (a + 1) a rfl (by omega) (by omega) (by omega) (by omega) rfl
