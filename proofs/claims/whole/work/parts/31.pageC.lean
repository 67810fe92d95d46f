/-! counting marks; setting aside -/
set_option maxHeartbeats 4000000 in
set_option maxRecDepth 100000 in
theorem mm_X3_howManyMarks {l : Launch} {g : gT} {k : Nat} {G : Int} {I : IM} {L : LM} {m : Int → Int} (hk : isP k) (hG0 : 0 ≤ G) (hG : G ≤ 40) (hg : I k 7 = G) (hm : ∀ j, 0 ≤ j → j < G → I (k + 3) j = m j) (h01 : ∀ j, m j = 0 ∨ m j = 1) :
    Ct l yX3_howManyMarks cX3_howManyMarks 3 (some .int) 0 0 lyC g [.ref (g.2.1 k)] I L (pI (fun r I' L' => r = cntF m G.toNat 0 0 ∧ I = I' ∧ L = L')) := by
  obtain ⟨q1, q2, q3, q4, q5, q6, q7, q8, q9, q10, q11⟩ := hk.f
  refine Ct.of RX3 (by decide +kernel) rfl (Nat.le_of_ble_eq_true rfl) (fun x hx F => ?_)
  have loop : ∀ (c : Nat) (i a : Int), c = (G - i).toNat → 0 ≤ i → i ≤ G → 0 ≤ a → a ≤ i → cntF m c i a = cntF m G.toNat 0 0 → Rn x lyC g (pI (fun r I' L' => r = cntF m G.toNat 0 0 ∧ I = I' ∧ L = L')) 4 [vr g k, vn a, vn i] [] I L := by
    intro c
    induction c with
    | zero =>
      intro i a h1 h2 h3 h4 h5 h6
      refine rr_iload_n F dX3_howManyMarks_4 rfl ?_
      refine rr_aload_n F dX3_howManyMarks_5 rfl ?_
      refine rg_Page_grams F (by first | rfl | assumption) fl_X3_36 dX3_howManyMarks_6 ?_
      refine rr_icmp_ge F dX3_howManyMarks_9 (tgt := 30) (by decide) ⟨by omega, by omega⟩ ⟨by omega, by omega⟩ (fun c_9 => ?_) (fun c_9 => ?_)
      · refine rr_iload_n F dX3_howManyMarks_30 rfl ?_
        refine rr_iret F dX3_howManyMarks_31 ?_
        exact ⟨_, rfl, by rw [← h6, cntF], rfl, rfl⟩
      · exact absurd c_9 (by omega)
    | succ c ih =>
      intro i a h1 h2 h3 h4 h5 h6
      have z := h01 i
      refine rr_iload_n F dX3_howManyMarks_4 rfl ?_
      refine rr_aload_n F dX3_howManyMarks_5 rfl ?_
      refine rg_Page_grams F (by first | rfl | assumption) fl_X3_36 dX3_howManyMarks_6 ?_
      refine rr_icmp_ge F dX3_howManyMarks_9 (tgt := 30) (by decide) ⟨by omega, by omega⟩ ⟨by omega, by omega⟩ (fun c_9 => ?_) (fun c_9 => ?_)
      · exact absurd c_9 (by omega)
      · refine rr_aload_n F dX3_howManyMarks_12 rfl ?_
        refine rg_Page_isMark F (by first | rfl | assumption) fl_X3_19 dX3_howManyMarks_13 ?_
        refine rr_iload_n F dX3_howManyMarks_16 rfl ?_
        refine rr_zald F (N := 40) (by first | rfl | assumption) (by omega) (by first | rfl | assumption) (by omega) dX3_howManyMarks_17 ?_
        rw [hm i (by omega) (by omega)]
        refine rr_if_eq F dX3_howManyMarks_18 (tgt := 24) (by decide) ⟨by omega, by omega⟩ (fun c_18 => ?_) (fun c_18 => ?_)
        · refine rr_iinc F dX3_howManyMarks_24 rfl rfl ?_
          refine rr_goto F dX3_howManyMarks_27 (tgt := 4) (by decide) ?_
          exact ih (i + 1) _ (by omega) (by omega) (by omega) (by omega) (by omega) (by rw [← h6, cntF]; first | rw [if_pos c_18] | rw [if_neg c_18])
        · refine rr_iinc F dX3_howManyMarks_21 rfl rfl ?_
          refine rr_iinc F dX3_howManyMarks_24 rfl rfl ?_
          refine rr_goto F dX3_howManyMarks_27 (tgt := 4) (by decide) ?_
          exact ih (i + 1) _ (by omega) (by omega) (by omega) (by omega) (by omega) (by rw [← h6, cntF]; first | rw [if_pos c_18] | rw [if_neg c_18])
  refine rr_iconst F dX3_howManyMarks_0 ?_
  refine rr_istore_n F dX3_howManyMarks_1 (Nat.le_of_ble_eq_true rfl) rfl ?_
  refine rr_iconst F dX3_howManyMarks_2 ?_
  refine rr_istore_n F dX3_howManyMarks_3 (Nat.le_of_ble_eq_true rfl) rfl ?_
  exact loop _ 0 0 rfl (by omega) (by omega) (by omega) (by omega) (by rw [show G - 0 = G by omega])
set_option maxHeartbeats 4000000 in
set_option maxRecDepth 100000 in
theorem mm_X3_gramOfMark {l : Launch} {g : gT} {k : Nat} {G t : Int} {I : IM} {L : LM} {m : Int → Int} (hk : isP k) (hG0 : 0 ≤ G) (hG : G ≤ 40) (ht : rg t) (hg : I k 7 = G) (hm : ∀ j, 0 ≤ j → j < G → I (k + 3) j = m j) (h01 : ∀ j, m j = 0 ∨ m j = 1) :
    Ct l yX3_gramOfMark cX3_gramOfMark 4 (some .int) 0 0 lyC g [.ref (g.2.1 k), .int (zI t)] I L (pI (fun r I' L' => r = nthF m t G.toNat 0 0 ∧ I = I' ∧ L = L')) := by
  obtain ⟨q1, q2, q3, q4, q5, q6, q7, q8, q9, q10, q11⟩ := hk.f
  unfold rg at ht
  refine Ct.of RX3 (by decide +kernel) rfl (Nat.le_of_ble_eq_true rfl) (fun x hx F => ?_)
  have loop : ∀ (c : Nat) (i a : Int), c = (G - i).toNat → 0 ≤ i → i ≤ G → 0 ≤ a → a ≤ i → nthF m t c i a = nthF m t G.toNat 0 0 → Rn x lyC g (pI (fun r I' L' => r = nthF m t G.toNat 0 0 ∧ I = I' ∧ L = L')) 4 [vr g k, vn t, vn a, vn i] [] I L := by
    intro c
    induction c with
    | zero =>
      intro i a h1 h2 h3 h4 h5 h6
      refine rr_iload_n F dX3_gramOfMark_4 rfl ?_
      refine rr_aload_n F dX3_gramOfMark_5 rfl ?_
      refine rg_Page_grams F (by first | rfl | assumption) fl_X3_36 dX3_gramOfMark_6 ?_
      refine rr_icmp_ge F dX3_gramOfMark_9 (tgt := 37) (by decide) ⟨by omega, by omega⟩ ⟨by omega, by omega⟩ (fun c_9 => ?_) (fun c_9 => ?_)
      · refine rr_iconst F dX3_gramOfMark_37 ?_
        refine rr_iret F dX3_gramOfMark_38 ?_
        exact ⟨_, rfl, by rw [← h6, nthF], rfl, rfl⟩
      · exact absurd c_9 (by omega)
    | succ c ih =>
      intro i a h1 h2 h3 h4 h5 h6
      have z := h01 i
      rw [nthF] at h6
      refine rr_iload_n F dX3_gramOfMark_4 rfl ?_
      refine rr_aload_n F dX3_gramOfMark_5 rfl ?_
      refine rg_Page_grams F (by first | rfl | assumption) fl_X3_36 dX3_gramOfMark_6 ?_
      refine rr_icmp_ge F dX3_gramOfMark_9 (tgt := 37) (by decide) ⟨by omega, by omega⟩ ⟨by omega, by omega⟩ (fun c_9 => ?_) (fun c_9 => ?_)
      · exact absurd c_9 (by omega)
      · refine rr_aload_n F dX3_gramOfMark_12 rfl ?_
        refine rg_Page_isMark F (by first | rfl | assumption) fl_X3_19 dX3_gramOfMark_13 ?_
        refine rr_iload_n F dX3_gramOfMark_16 rfl ?_
        refine rr_zald F (N := 40) (by first | rfl | assumption) (by omega) (by first | rfl | assumption) (by omega) dX3_gramOfMark_17 ?_
        rw [hm i (by omega) (by omega)]
        refine rr_if_eq F dX3_gramOfMark_18 (tgt := 31) (by decide) ⟨by omega, by omega⟩ (fun c_18 => ?_) (fun c_18 => ?_)
        · refine rr_iinc F dX3_gramOfMark_31 rfl rfl ?_
          refine rr_goto F dX3_gramOfMark_34 (tgt := 4) (by decide) ?_
          exact ih (i + 1) _ (by omega) (by omega) (by omega) (by omega) (by omega) (by first | rw [← h6, if_pos c_18] | rw [← h6, if_neg c_18, if_neg c_23])
        · refine rr_iload_n F dX3_gramOfMark_21 rfl ?_
          refine rr_iload_n F dX3_gramOfMark_22 rfl ?_
          refine rr_icmp_ne F dX3_gramOfMark_23 (tgt := 28) (by decide) ⟨by omega, by omega⟩ ⟨by omega, by omega⟩ (fun c_23 => ?_) (fun c_23 => ?_)
          · refine rr_iinc F dX3_gramOfMark_28 rfl rfl ?_
            refine rr_iinc F dX3_gramOfMark_31 rfl rfl ?_
            refine rr_goto F dX3_gramOfMark_34 (tgt := 4) (by decide) ?_
            exact ih (i + 1) _ (by omega) (by omega) (by omega) (by omega) (by omega) (by first | rw [← h6, if_pos c_18] | rw [← h6, if_neg c_18, if_neg c_23])
          · refine rr_iload_n F dX3_gramOfMark_26 rfl ?_
            refine rr_iret F dX3_gramOfMark_27 ?_
            exact ⟨_, rfl, by rw [← h6, if_neg c_18, if_pos c_23], rfl, rfl⟩
  refine rr_iconst F dX3_gramOfMark_0 ?_
  refine rr_istore_n F dX3_gramOfMark_1 (Nat.le_of_ble_eq_true rfl) rfl ?_
  refine rr_iconst F dX3_gramOfMark_2 ?_
  refine rr_istore_n F dX3_gramOfMark_3 (Nat.le_of_ble_eq_true rfl) rfl ?_
  exact loop _ 0 0 rfl (by omega) (by omega) (by omega) (by omega) (by rw [show G - 0 = G by omega])
/-- v is the length of the longest run that ends at i and at j -/
def Sf (T G : Int → Int64) (i j v : Int) : Prop := 0 ≤ v ∧ v ≤ i + 1 ∧ v ≤ j + 1 ∧ (∀ t, 0 ≤ t → t < v → T (i - t) = G (j - t)) ∧ (v = i + 1 ∨ v = j + 1 ∨ T (i - v) ≠ G (j - v))
theorem Sf_ge {T G : Int → Int64} {i j v : Int} (h : Sf T G i j v) (len : Int) (hl : 1 ≤ len) : len ≤ v ↔ len ≤ i + 1 ∧ len ≤ j + 1 ∧ ∀ t, 0 ≤ t → t < len → T (i - t) = G (j - t) := by
  obtain ⟨h1, h2, h3, h4, h5⟩ := h
  constructor
  · intro z; exact ⟨by omega, by omega, fun t a b => h4 t a (by omega)⟩
  · intro ⟨z1, z2, z3⟩
    rcases h5 with e | e | e
    · omega
    · omega
    · exact Classical.byContradiction (fun y => e (z3 v h1 (by omega)))
theorem Sf_up {T G : Int → Int64} {i j v : Int} (h : Sf T G (i - 1) (j - 1) v) (e : T i = G j) : Sf T G i j (v + 1) := by
  obtain ⟨h1, h2, h3, h4, h5⟩ := h
  refine ⟨by omega, by omega, by omega, fun t a b => ?_, ?_⟩
  · by_cases z : t = 0
    · subst z; rw [Int.sub_zero, Int.sub_zero]; exact e
    · have := h4 (t - 1) (by omega) (by omega)
      rw [show i - 1 - (t - 1) = i - t by omega, show j - 1 - (t - 1) = j - t by omega] at this
      exact this
  · rcases h5 with q | q | q
    · left; omega
    · right; left; omega
    · right; right
      rw [show i - (v + 1) = i - 1 - v by omega, show j - (v + 1) = j - 1 - v by omega]
      exact q
theorem Sf_no {T G : Int → Int64} {i j : Int} (hi : 0 ≤ i) (hj : 0 ≤ j) (e : ¬ T i = G j) : Sf T G i j 0 :=
  ⟨by omega, by omega, by omega, fun t a b => absurd b (by omega), Or.inr (Or.inr (by rw [Int.sub_zero, Int.sub_zero]; exact e))⟩
theorem Sf_z1 (T G : Int → Int64) {j : Int} (hj : 0 ≤ j) : Sf T G (-1) j 0 := ⟨by omega, by omega, by omega, fun t a b => absurd b (by omega), Or.inl (by omega)⟩
theorem Sf_z2 (T G : Int → Int64) {i : Int} (hi : -1 ≤ i) : Sf T G i (-1) 0 := ⟨by omega, by omega, by omega, fun t a b => absurd b (by omega), Or.inr (Or.inl (by omega))⟩
/-- a stretch of length len that ends at i stands in G -/
def Ed (T G : Int → Int64) (m len i : Int) : Prop := ∃ j, 0 ≤ j ∧ j < m ∧ len ≤ i + 1 ∧ len ≤ j + 1 ∧ ∀ t, 0 ≤ t → t < len → T (i - t) = G (j - t)
/-- token c is within a stretch of length len that stands in G -/
def AsP (T : Int → Int64) (n : Int) (G : Int → Int64) (m len c : Int) : Prop := ∃ a b, 0 ≤ a ∧ a + len ≤ n ∧ 0 ≤ b ∧ b + len ≤ m ∧ a ≤ c ∧ c < a + len ∧ ∀ t, 0 ≤ t → t < len → T (a + t) = G (b + t)
theorem AsP_Ed {T G : Int → Int64} {n m len c : Int} (hl : 1 ≤ len) : AsP T n G m len c ↔ ∃ e, 0 ≤ e ∧ e < n ∧ Ed T G m len e ∧ e - len < c ∧ c ≤ e := by
  constructor
  · intro ⟨a, b, h1, h2, h3, h4, h5, h6, h7⟩
    refine ⟨a + len - 1, by omega, by omega, ⟨b + len - 1, by omega, by omega, by omega, by omega, fun t x y => ?_⟩, by omega, by omega⟩
    have := h7 (len - 1 - t) (by omega) (by omega)
    rw [show a + (len - 1 - t) = a + len - 1 - t by omega, show b + (len - 1 - t) = b + len - 1 - t by omega] at this
    exact this
  · intro ⟨e, h1, h2, ⟨j, g1, g2, g3, g4, g5⟩, h4, h5⟩
    refine ⟨e - len + 1, j - len + 1, by omega, by omega, by omega, by omega, by omega, by omega, fun t x y => ?_⟩
    have := g5 (len - 1 - t) (by omega) (by omega)
    rw [show e - (len - 1 - t) = e - len + 1 + t by omega, show j - (len - 1 - t) = j - len + 1 + t by omega] at this
    exact this
/-- v is nothing, or one of f's behind j -/
def Mx (f : Int → Int) (j m v : Int) : Prop := v = 0 ∨ ∃ j', j < j' ∧ j' < m ∧ v = f j'
set_option maxHeartbeats 4000000 in
set_option maxRecDepth 100000 in
theorem mm_X3_longestSharedUpTo {l : Launch} {g : gT} {k q : Nat} {n m i : Int} {I : IM} {L : LM} {T G : Int → Int64} (hk : isP k) (hq : isP q) (hkq : q ≠ k) (hn : n ≤ 40) (hm0 : 0 ≤ m) (hm : m ≤ 40) (hi0 : 0 ≤ i) (hi : i < n) (hsz : I q 5 = m) (hT : ∀ j, 0 ≤ j → j < n → L (k + 1) j = T j) (hG : ∀ j, 0 ≤ j → j < m → L (q + 1) j = G j) (hS : ∀ j, 0 ≤ j → j < m → Sf T G (i - 1) j (I (k + 5) j)) :
    Ct l yX3_longestSharedUpTo cX3_longestSharedUpTo 6 (some .int) 0 0 lyC g [.ref (g.2.1 k), .int (zI i), .ref (g.2.1 q)] I L (pI (fun r I' L' => (0 ≤ r ∧ r ≤ 40) ∧ (∀ len, 1 ≤ len → (len ≤ r ↔ Ed T G m len i)) ∧ (∀ j, 0 ≤ j → j < m → Sf T G i j (I' (k + 5) j)) ∧ (∀ c, c ≠ k + 5 → I' c = I c) ∧ L = L')) := by
  obtain ⟨q1, q2, q3, q4, q5, q6, q7, q8, q9, q10, q11⟩ := hk.f
  obtain ⟨p1, p2, p3, p4, p5, p6, p7, p8, p9, p10, p11⟩ := hq.f
  have hne : q ≠ k + 5 := by rcases hk with rfl | rfl | rfl <;> rcases hq with rfl | rfl | rfl <;> decide
  refine Ct.of RX3 (by decide +kernel) rfl (Nat.le_of_ble_eq_true rfl) (fun x hx F => ?_)
  have loop : ∀ (c : Nat) (j v : Int) (I1 : IM), c = (j + 1).toNat → -1 ≤ j → j < m → (0 ≤ v ∧ v ≤ 40) → (∀ j', j < j' → j' < m → Sf T G i j' (I1 (k + 5) j')) → (∀ j', 0 ≤ j' → j' ≤ j → Sf T G (i - 1) j' (I1 (k + 5) j')) → (∀ j', j < j' → j' < m → I1 (k + 5) j' ≤ v) → Mx (I1 (k + 5)) j m v → (∀ c, c ≠ k + 5 → I1 c = I c) → Rn x lyC g (pI (fun r I' L' => (0 ≤ r ∧ r ≤ 40) ∧ (∀ len, 1 ≤ len → (len ≤ r ↔ Ed T G m len i)) ∧ (∀ j, 0 ≤ j → j < m → Sf T G i j (I' (k + 5) j)) ∧ (∀ c, c ≠ k + 5 → I' c = I c) ∧ L = L')) 10 [vr g k, vn i, vr g q, vn v, vn j, none] [] I1 L := by
    intro c
    induction c with
    | zero =>
      intro j v I1 h1 h2 h3 h4 h5 h6 h7 h8 h9
      have e : j = -1 := by omega
      refine rr_iload F dX3_longestSharedUpTo_10 rfl ?_
      refine rr_if_lt F dX3_longestSharedUpTo_12 (tgt := 92) (by decide) ⟨by omega, by omega⟩ (fun c_12 => ?_) (fun c_12 => ?_)
      · refine rr_iload_n F dX3_longestSharedUpTo_92 rfl ?_
        refine rr_iret F dX3_longestSharedUpTo_93 ?_
        refine ⟨_, rfl, h4, fun len hl => ⟨fun z => ?_, fun ⟨j', g1, g2, g3⟩ => ?_⟩, fun j' a b => h5 j' (by omega) b, h9, rfl⟩
        · rcases h8 with y | ⟨j', y1, y2, y3⟩
          · omega
          · exact ⟨j', by omega, y2, (Sf_ge (h5 j' (by omega) y2) len hl).mp (by omega)⟩
        · have y1 := (Sf_ge (h5 j' (by omega) g2) len hl).mpr g3
          have y2 := h7 j' (by omega) g2
          omega
      · exact absurd c_12 (by omega)
    | succ c ih =>
      intro j v I1 h1 h2 h3 h4 h5 h6 h7 h8 h9
      have hsz1 : I1 q 5 = m := by rw [h9 q hne]; exact hsz
      have fin : ∀ nv v' : Int, Sf T G i j nv → v' = max v nv → Rn x lyC g (pI (fun r I' L' => (0 ≤ r ∧ r ≤ 40) ∧ (∀ len, 1 ≤ len → (len ≤ r ↔ Ed T G m len i)) ∧ (∀ j, 0 ≤ j → j < m → Sf T G i j (I' (k + 5) j)) ∧ (∀ c, c ≠ k + 5 → I' c = I c) ∧ L = L')) 10 [vr g k, vn i, vr g q, vn v', vn (j + -1), none] [] (up2 I1 (k + 5) j nv) L := by
        intro nv v' hs hv
        have hs' := hs
        obtain ⟨s1, s2, s3, -⟩ := hs'
        refine ih (j + -1) v' _ (by omega) (by omega) (by omega) (by omega) (fun j' a b => ?_) (fun j' a b => ?_) (fun j' a b => ?_) ?_ (fun c a => ?_)
        · by_cases e : j' = j
          · subst e; rw [up2_same]; exact hs
          · rw [up2_ne _ _ _ e]; exact h5 j' (by omega) b
        · rw [up2_ne _ _ _ (by omega)]; exact h6 j' a (by omega)
        · by_cases e : j' = j
          · subst e; rw [up2_same]; omega
          · rw [up2_ne _ _ _ e]; have := h7 j' (by omega) b; omega
        · by_cases e : v ≤ nv
          · right; exact ⟨j, by omega, by omega, by rw [up2_same]; omega⟩
          · rcases h8 with y | ⟨j', y1, y2, y3⟩
            · omega
            · right; exact ⟨j', by omega, y2, by rw [up2_ne _ _ _ (by omega)]; omega⟩
        · rw [up2_cell _ _ _ a]; exact h9 c a
      have tail : ∀ b : Int, Sf T G (i - 1) (j - 1) b → Rn x lyC g (pI (fun r I' L' => (0 ≤ r ∧ r ≤ 40) ∧ (∀ len, 1 ≤ len → (len ≤ r ↔ Ed T G m len i)) ∧ (∀ j, 0 ≤ j → j < m → Sf T G i j (I' (k + 5) j)) ∧ (∀ c, c ≠ k + 5 → I' c = I c) ∧ L = L')) 35 [vr g k, vn i, vr g q, vn v, vn j, vn b] [] I1 L := by
        intro b hb
        have hb' := hb
        obtain ⟨b1, b2, b3, -⟩ := hb'
        have t1 := hT i hi0 hi
        have t2 := hG j (by omega) h3
        refine rr_aload_n F dX3_longestSharedUpTo_35 rfl ?_
        refine rg_Page_sharedLengths F (by first | rfl | assumption) fl_X3_26 dX3_longestSharedUpTo_36 ?_
        refine rr_iload F dX3_longestSharedUpTo_39 rfl ?_
        refine rr_aload_n F dX3_longestSharedUpTo_41 rfl ?_
        refine rg_Page_tokens F (by first | rfl | assumption) fl_X3_9 dX3_longestSharedUpTo_42 ?_
        refine rr_iload_n F dX3_longestSharedUpTo_45 rfl ?_
        refine rr_lald F (N := 40) (by first | rfl | assumption) (by omega) (by first | rfl | assumption) (by omega) dX3_longestSharedUpTo_46 ?_
        refine rr_aload_n F dX3_longestSharedUpTo_47 rfl ?_
        refine rg_Page_tokens F (by first | rfl | assumption) fl_X3_9 dX3_longestSharedUpTo_48 ?_
        refine rr_iload F dX3_longestSharedUpTo_51 rfl ?_
        refine rr_lald F (N := 40) (by first | rfl | assumption) (by omega) (by first | rfl | assumption) (by omega) dX3_longestSharedUpTo_53 ?_
        rw [t1, t2]
        refine rr_lcmp F dX3_longestSharedUpTo_54 ?_
        refine rr_lif_ne F dX3_longestSharedUpTo_55 (tgt := 65) (by decide) (fun c_55 => ?_) (fun c_55 => ?_)
        · refine rr_iconst F dX3_longestSharedUpTo_65 ?_
          refine rr_iast F (N := 40) (by first | rfl | assumption) (by omega) (by first | rfl | assumption) (by omega) dX3_longestSharedUpTo_66 ?_
          refine rr_aload_n F dX3_longestSharedUpTo_67 rfl ?_
          refine rg_Page_sharedLengths F (by first | rfl | assumption) fl_X3_26 dX3_longestSharedUpTo_68 ?_
          refine rr_iload F dX3_longestSharedUpTo_71 rfl ?_
          refine rr_iald F (N := 40) (by first | rfl | assumption) (by omega) (by first | rfl | assumption) (by omega) dX3_longestSharedUpTo_73 ?_
          rw [up2_same]
          refine rr_iload_n F dX3_longestSharedUpTo_74 rfl ?_
          refine rr_icmp_le F dX3_longestSharedUpTo_75 (tgt := 86) (by decide) ⟨by omega, by omega⟩ ⟨by omega, by omega⟩ (fun c_75 => ?_) (fun c_75 => ?_)
          · refine rr_iinc F dX3_longestSharedUpTo_86 rfl rfl ?_
            refine rr_goto F dX3_longestSharedUpTo_89 (tgt := 10) (by decide) ?_
            refine rr_drop 5 ?_
            first | exact fin _ _ (Sf_up hb c_55) (by omega) | exact fin _ _ (Sf_no hi0 (by omega) c_55) (by omega)
          · refine rr_aload_n F dX3_longestSharedUpTo_78 rfl ?_
            refine rg_Page_sharedLengths F (by first | rfl | assumption) fl_X3_26 dX3_longestSharedUpTo_79 ?_
            refine rr_iload F dX3_longestSharedUpTo_82 rfl ?_
            refine rr_iald F (N := 40) (by first | rfl | assumption) (by omega) (by first | rfl | assumption) (by omega) dX3_longestSharedUpTo_84 ?_
            rw [up2_same]
            refine rr_istore_n F dX3_longestSharedUpTo_85 (Nat.le_of_ble_eq_true rfl) rfl ?_
            refine rr_iinc F dX3_longestSharedUpTo_86 rfl rfl ?_
            refine rr_goto F dX3_longestSharedUpTo_89 (tgt := 10) (by decide) ?_
            refine rr_drop 5 ?_
            first | exact fin _ _ (Sf_up hb c_55) (by omega) | exact fin _ _ (Sf_no hi0 (by omega) c_55) (by omega)
        · refine rr_iload F dX3_longestSharedUpTo_58 rfl ?_
          refine rr_iconst F dX3_longestSharedUpTo_60 ?_
          refine rr_iadd F dX3_longestSharedUpTo_61 ?_
          refine rr_goto F dX3_longestSharedUpTo_62 (tgt := 66) (by decide) ?_
          refine rr_iast F (N := 40) (by first | rfl | assumption) (by omega) (by first | rfl | assumption) (by omega) dX3_longestSharedUpTo_66 ?_
          refine rr_aload_n F dX3_longestSharedUpTo_67 rfl ?_
          refine rg_Page_sharedLengths F (by first | rfl | assumption) fl_X3_26 dX3_longestSharedUpTo_68 ?_
          refine rr_iload F dX3_longestSharedUpTo_71 rfl ?_
          refine rr_iald F (N := 40) (by first | rfl | assumption) (by omega) (by first | rfl | assumption) (by omega) dX3_longestSharedUpTo_73 ?_
          rw [up2_same]
          refine rr_iload_n F dX3_longestSharedUpTo_74 rfl ?_
          refine rr_icmp_le F dX3_longestSharedUpTo_75 (tgt := 86) (by decide) ⟨by omega, by omega⟩ ⟨by omega, by omega⟩ (fun c_75 => ?_) (fun c_75 => ?_)
          · refine rr_iinc F dX3_longestSharedUpTo_86 rfl rfl ?_
            refine rr_goto F dX3_longestSharedUpTo_89 (tgt := 10) (by decide) ?_
            refine rr_drop 5 ?_
            first | exact fin _ _ (Sf_up hb c_55) (by omega) | exact fin _ _ (Sf_no hi0 (by omega) c_55) (by omega)
          · refine rr_aload_n F dX3_longestSharedUpTo_78 rfl ?_
            refine rg_Page_sharedLengths F (by first | rfl | assumption) fl_X3_26 dX3_longestSharedUpTo_79 ?_
            refine rr_iload F dX3_longestSharedUpTo_82 rfl ?_
            refine rr_iald F (N := 40) (by first | rfl | assumption) (by omega) (by first | rfl | assumption) (by omega) dX3_longestSharedUpTo_84 ?_
            rw [up2_same]
            refine rr_istore_n F dX3_longestSharedUpTo_85 (Nat.le_of_ble_eq_true rfl) rfl ?_
            refine rr_iinc F dX3_longestSharedUpTo_86 rfl rfl ?_
            refine rr_goto F dX3_longestSharedUpTo_89 (tgt := 10) (by decide) ?_
            refine rr_drop 5 ?_
            first | exact fin _ _ (Sf_up hb c_55) (by omega) | exact fin _ _ (Sf_no hi0 (by omega) c_55) (by omega)
      refine rr_iload F dX3_longestSharedUpTo_10 rfl ?_
      refine rr_if_lt F dX3_longestSharedUpTo_12 (tgt := 92) (by decide) ⟨by omega, by omega⟩ (fun c_12 => ?_) (fun c_12 => ?_)
      · exact absurd c_12 (by omega)
      · refine rr_iload F dX3_longestSharedUpTo_15 rfl ?_
        refine rr_if_le F dX3_longestSharedUpTo_17 (tgt := 32) (by decide) ⟨by omega, by omega⟩ (fun c_17 => ?_) (fun c_17 => ?_)
        · refine rr_iconst F dX3_longestSharedUpTo_32 ?_
          refine rr_istore F dX3_longestSharedUpTo_33 (Nat.le_of_ble_eq_true rfl) rfl ?_
          first | exact tail _ (h6 (j - 1) (by omega) (by omega)) | (have e : j - 1 = -1 := (by omega); exact tail 0 (by rw [e]; exact Sf_z2 T G (by omega)))
        · refine rr_aload_n F dX3_longestSharedUpTo_20 rfl ?_
          refine rg_Page_sharedLengths F (by first | rfl | assumption) fl_X3_26 dX3_longestSharedUpTo_21 ?_
          refine rr_iload F dX3_longestSharedUpTo_24 rfl ?_
          refine rr_iconst F dX3_longestSharedUpTo_26 ?_
          refine rr_isub F dX3_longestSharedUpTo_27 ?_
          refine rr_iald F (N := 40) (by first | rfl | assumption) (by omega) (by first | rfl | assumption) (by omega) dX3_longestSharedUpTo_28 ?_
          have y := h6 (j - 1) (by omega) (by omega)
          refine rr_goto F dX3_longestSharedUpTo_29 (tgt := 33) (by decide) ?_
          refine rr_istore F dX3_longestSharedUpTo_33 (Nat.le_of_ble_eq_true rfl) rfl ?_
          first | exact tail _ (h6 (j - 1) (by omega) (by omega)) | (have e : j - 1 = -1 := (by omega); exact tail 0 (by rw [e]; exact Sf_z2 T G (by omega)))
  refine rr_iconst F dX3_longestSharedUpTo_0 ?_
  refine rr_istore_n F dX3_longestSharedUpTo_1 (Nat.le_of_ble_eq_true rfl) rfl ?_
  refine rr_aload_n F dX3_longestSharedUpTo_2 rfl ?_
  refine rg_Page_size F (by first | rfl | assumption) fl_X3_29 dX3_longestSharedUpTo_3 ?_
  refine rr_iconst F dX3_longestSharedUpTo_6 ?_
  refine rr_isub F dX3_longestSharedUpTo_7 ?_
  refine rr_istore F dX3_longestSharedUpTo_8 (Nat.le_of_ble_eq_true rfl) rfl ?_
  rw [hsz]
  refine loop _ (m - 1) 0 I rfl (by omega) (by omega) (by omega) (fun j' a b => absurd a (by omega)) (fun j' a b => hS j' a (by omega)) (fun j' a b => absurd a (by omega)) (Or.inl rfl) (fun c a => rfl)
set_option maxHeartbeats 4000000 in
set_option maxRecDepth 100000 in
theorem mm_X3_setAside {l : Launch} {g : gT} {k q : Nat} {n m len : Int} {I : IM} {L : LM} {T G : Int → Int64} (hk : isP k) (hq : isP q) (hkq : q ≠ k) (hn0 : 0 ≤ n) (hn : n ≤ 40) (hm0 : 0 ≤ m) (hm : m ≤ 40) (hl0 : 1 ≤ len) (hl : len ≤ 40) (hsz : I k 5 = n) (hszq : I q 5 = m) (hla : rg (I k 6)) (hlb : rg (I q 6)) (hT : ∀ j, 0 ≤ j → j < n → L (k + 1) j = T j) (hG : ∀ j, 0 ≤ j → j < m → L (q + 1) j = G j) (hz : ∀ j, 0 ≤ j → j < n → I (k + 4) j = 0) :
    Ct l yX3_setAside cX3_setAside 5 none 1 25 lyC g [.ref (g.2.1 k), .ref (g.2.1 q), .int (zI len)] I L (pV (fun I' L' => (∀ c, 0 ≤ c → c < n → I' (k + 4) c = bi (I k 6 = I q 6 ∧ AsP T n G m len c)) ∧ (∀ c, c ≠ k + 4 → c ≠ k + 5 → I' c = I c) ∧ L = L')) := by
  obtain ⟨q1, q2, q3, q4, q5, q6, q7, q8, q9, q10, q11⟩ := hk.f
  obtain ⟨p1, p2, p3, p4, p5, p6, p7, p8, p9, p10, p11⟩ := hq.f
  have hne : q ≠ k + 5 ∧ q ≠ k + 4 := by rcases hk with rfl | rfl | rfl <;> rcases hq with rfl | rfl | rfl <;> decide
  refine Ct.of RX3 (by decide +kernel) rfl (Nat.le_of_ble_eq_true rfl) (fun x hx F => ?_)
  generalize hpost : (pV (fun (I' : IM) (L' : LM) => (∀ c, 0 ≤ c → c < n → I' (k + 4) c = bi (I k 6 = I q 6 ∧ AsP T n G m len c)) ∧ (∀ c, c ≠ k + 4 → c ≠ k + 5 → I' c = I c) ∧ L = L')) = post
  have loop2 : I k 6 = I q 6 → ∀ (c : Nat) (i : Int) (I1 : IM), c = (n - i).toNat → 0 ≤ i → i ≤ n → (∀ j, 0 ≤ j → j < m → Sf T G (i - 1) j (I1 (k + 5) j)) → (∀ c, 0 ≤ c → c < n → I1 (k + 4) c = bi (∃ e, 0 ≤ e ∧ e < i ∧ Ed T G m len e ∧ e - len < c ∧ c ≤ e)) → (∀ c, c ≠ k + 4 → c ≠ k + 5 → I1 c = I c) → Rn x lyC g post 37 [vr g k, vr g q, vn len, vn i, none] [] I1 L := by
    intro hll c
    induction c with
    | zero =>
      intro i I1 h1 h2 h3 h4 h5 h6
      have hs1 : I1 k 5 = n := by rw [h6 k (by omega) (by omega)]; exact hsz
      have e : i = n := by omega
      refine rr_iload_n F dX3_setAside_37 rfl ?_
      refine rr_aload_n F dX3_setAside_38 rfl ?_
      refine rg_Page_size F (by first | rfl | assumption) fl_X3_29 dX3_setAside_39 ?_
      refine rr_icmp_ge F dX3_setAside_42 (tgt := 92) (by decide) ⟨by omega, by omega⟩ ⟨by omega, by omega⟩ (fun c_42 => ?_) (fun c_42 => ?_)
      · refine rr_vret F dX3_setAside_92 ?_
        rw [← hpost]
        refine ⟨rfl, fun c a b => ?_, h6, rfl⟩
        rw [h5 c a b, e]
        refine bi_congr ⟨fun z => ⟨hll, (AsP_Ed hl0).mpr z⟩, fun z => (AsP_Ed hl0).mp z.2⟩
      · exact absurd c_42 (by omega)
    | succ c ih =>
      intro i I1 h1 h2 h3 h4 h5 h6
      have hs1 : I1 k 5 = n := by rw [h6 k (by omega) (by omega)]; exact hsz
      have hs2 : I1 q 5 = m := by rw [h6 q hne.2 hne.1]; exact hszq
      have inner : ∀ (I2 : IM), Ed T G m len i → (∀ j, 0 ≤ j → j < m → Sf T G i j (I2 (k + 5) j)) → (∀ c, c ≠ k + 5 → I2 c = I1 c) → ∀ (d : Nat) (t : Int) (I3 : IM), d = (len - t).toNat → 0 ≤ t → t ≤ len → (∀ c, 0 ≤ c → c < n → I3 (k + 4) c = bi ((∃ e, 0 ≤ e ∧ e < i ∧ Ed T G m len e ∧ e - len < c ∧ c ≤ e) ∨ (i - t < c ∧ c ≤ i))) → (∀ c, c ≠ k + 4 → I3 c = I2 c) → Rn x lyC g post 58 [vr g k, vr g q, vn len, vn i, vn t] [] I3 L := by
        intro I2 hE g1 g2 d
        have hE' := hE
        obtain ⟨j0, y1, y2, y3, y4, -⟩ := hE'
        induction d with
        | zero =>
          intro t I3 e1 e2 e3 e4 e5
          have et : t = len := by omega
          refine rr_iload F dX3_setAside_58 rfl ?_
          refine rr_iload_n F dX3_setAside_60 rfl ?_
          refine rr_icmp_ge F dX3_setAside_61 (tgt := 86) (by decide) ⟨by omega, by omega⟩ ⟨by omega, by omega⟩ (fun c_61 => ?_) (fun c_61 => ?_)
          · refine rr_iinc F dX3_setAside_86 rfl rfl ?_
            refine rr_goto F dX3_setAside_89 (tgt := 37) (by decide) ?_
            refine rr_drop 4 ?_
            refine ih (i + 1) I3 (by omega) (by omega) (by omega) (fun j a b => ?_) (fun c a b => ?_) (fun c a b => ?_)
            · rw [e5 _ (by omega), show i + 1 - 1 = i by omega]; exact g1 j a b
            · rw [e4 c a b, et]
              refine bi_congr ⟨fun z => ?_, fun ⟨e, z1, z2, z3, z4, z5⟩ => ?_⟩
              · rcases z with ⟨e, z1, z2, z3⟩ | z
                · exact ⟨e, z1, by omega, z3⟩
                · exact ⟨i, h2, by omega, hE, z⟩
              · by_cases y : e = i
                · subst y; exact Or.inr ⟨z4, z5⟩
                · exact Or.inl ⟨e, z1, by omega, z3, z4, z5⟩
            · rw [e5 _ a, g2 _ b]; exact h6 c a b
          · exact absurd c_61 (by omega)
        | succ d ihd =>
          intro t I3 e1 e2 e3 e4 e5
          refine rr_iload F dX3_setAside_58 rfl ?_
          refine rr_iload_n F dX3_setAside_60 rfl ?_
          refine rr_icmp_ge F dX3_setAside_61 (tgt := 86) (by decide) ⟨by omega, by omega⟩ ⟨by omega, by omega⟩ (fun c_61 => ?_) (fun c_61 => ?_)
          · exact absurd c_61 (by omega)
          · refine rr_iload F dX3_setAside_64 rfl ?_
            refine rr_iload_n F dX3_setAside_66 rfl ?_
            skip
            refine rr_icmp_gt F dX3_setAside_67 (tgt := 86) (by decide) ⟨by omega, by omega⟩ ⟨by omega, by omega⟩ (fun c_67 => ?_) (fun c_67 => ?_)
            · exact absurd c_61 (by omega)
            · refine rr_aload_n F dX3_setAside_70 rfl ?_
              refine rg_Page_isAside F (by first | rfl | assumption) fl_X3_23 dX3_setAside_71 ?_
              refine rr_iload_n F dX3_setAside_74 rfl ?_
              refine rr_iload F dX3_setAside_75 rfl ?_
              refine rr_isub F dX3_setAside_77 ?_
              refine rr_iconst F dX3_setAside_78 ?_
              refine rr_zast F (N := 40) (by first | rfl | assumption) (by omega) (by first | rfl | assumption) (by omega) (by decide) dX3_setAside_79 ?_
              refine rr_iinc F dX3_setAside_80 rfl rfl ?_
              refine rr_goto F dX3_setAside_83 (tgt := 58) (by decide) ?_
              refine ihd (t + 1) _ (by omega) (by omega) (by omega) (fun c a b => ?_) (fun c a => ?_)
              · by_cases z : c = i - t
                · subst z; rw [up2_same, bi_pos (Or.inr ⟨by omega, by omega⟩)]
                · rw [up2_ne _ _ _ z, e4 c a b]
                  refine bi_congr ⟨fun y => y.elim Or.inl (fun y => Or.inr ⟨by omega, by omega⟩), fun y => y.elim Or.inl (fun y => Or.inr ⟨by omega, by omega⟩)⟩
              · rw [up2_cell _ _ _ a]; exact e5 c a
      refine rr_iload_n F dX3_setAside_37 rfl ?_
      refine rr_aload_n F dX3_setAside_38 rfl ?_
      refine rg_Page_size F (by first | rfl | assumption) fl_X3_29 dX3_setAside_39 ?_
      refine rr_icmp_ge F dX3_setAside_42 (tgt := 92) (by decide) ⟨by omega, by omega⟩ ⟨by omega, by omega⟩ (fun c_42 => ?_) (fun c_42 => ?_)
      · exact absurd c_42 (by omega)
      · refine rr_aload_n F dX3_setAside_45 rfl ?_
        refine rr_iload_n F dX3_setAside_46 rfl ?_
        refine rr_aload_n F dX3_setAside_47 rfl ?_
        refine rr_callVI F (ci := 3) (mm_X3_longestSharedUpTo hk hq hkq hn hm0 hm (by omega) (by omega) hs2 hT hG h4) mf_X3_longestSharedUpTo ml_X3_65 ⟨by decide, by decide⟩ (by first | rfl | assumption) (by decide) rfl rfl (Nat.le_of_ble_eq_true rfl) dX3_setAside_48 (fun r_48 I_48 L_48 h_48 => ?_)
        obtain ⟨r1, r2, r3, r4, rfl⟩ := h_48
        refine rr_iload_n F dX3_setAside_51 rfl ?_
        refine rr_icmp_lt F dX3_setAside_52 (tgt := 86) (by decide) ⟨by omega, by omega⟩ ⟨by omega, by omega⟩ (fun c_52 => ?_) (fun c_52 => ?_)
        · refine rr_iinc F dX3_setAside_86 rfl rfl ?_
          refine rr_goto F dX3_setAside_89 (tgt := 37) (by decide) ?_
          refine ih (i + 1) I_48 (by omega) (by omega) (by omega) (fun j a b => ?_) (fun c a b => ?_) (fun c a b => ?_)
          · rw [show i + 1 - 1 = i by omega]; exact r3 j a b
          · rw [r4 _ (by omega), h5 c a b]
            refine bi_congr ⟨fun ⟨e, z1, z2, z3⟩ => ⟨e, z1, by omega, z3⟩, fun ⟨e, z1, z2, z3, z4⟩ => ?_⟩
            by_cases y : e = i
            · subst y; exact absurd ((r2 len hl0).mpr z3) (by omega)
            · exact ⟨e, z1, by omega, z3, z4⟩
          · rw [r4 _ b]; exact h6 c a b
        · refine rr_iconst F dX3_setAside_55 ?_
          refine rr_istore F dX3_setAside_56 (Nat.le_of_ble_eq_true rfl) rfl ?_
          refine inner I_48 ((r2 len hl0).mp (by omega)) r3 r4 _ 0 I_48 rfl (by omega) (by omega) (fun c a b => ?_) (fun c a => rfl)
          rw [r4 _ (by omega), h5 c a b]
          exact bi_congr ⟨Or.inl, fun y => y.elim id (fun y => absurd y.1 (by omega))⟩
  have loop1 : I k 6 = I q 6 → ∀ (c : Nat) (i : Int) (I1 : IM), c = (m - i).toNat → 0 ≤ i → i ≤ m → (∀ j, 0 ≤ j → j < i → I1 (k + 5) j = 0) → (∀ c, c ≠ k + 5 → I1 c = I c) → Rn x lyC g post 14 [vr g k, vr g q, vn len, vn i, none] [] I1 L := by
    intro hll c
    induction c with
    | zero =>
      intro i I1 h1 h2 h3 h4 h5
      have hs2 : I1 q 5 = m := by rw [h5 q hne.1]; exact hszq
      refine rr_iload_n F dX3_setAside_14 rfl ?_
      refine rr_aload_n F dX3_setAside_15 rfl ?_
      refine rg_Page_size F (by first | rfl | assumption) fl_X3_29 dX3_setAside_16 ?_
      refine rr_icmp_ge F dX3_setAside_19 (tgt := 35) (by decide) ⟨by omega, by omega⟩ ⟨by omega, by omega⟩ (fun c_19 => ?_) (fun c_19 => ?_)
      · refine rr_iconst F dX3_setAside_35 ?_
        refine rr_istore_n F dX3_setAside_36 (Nat.le_of_ble_eq_true rfl) rfl ?_
        refine loop2 hll _ 0 I1 rfl (by omega) (by omega) (fun j a b => ?_) (fun c a b => ?_) (fun c a b => h5 c b)
        · rw [h4 j a (by omega)]; exact Sf_z1 T G a
        · rw [h5 _ (by omega), hz c a b, bi_neg]
          exact fun ⟨e, z1, z2, z3⟩ => absurd z2 (by omega)
      · exact absurd c_19 (by omega)
    | succ c ih =>
      intro i I1 h1 h2 h3 h4 h5
      have hs2 : I1 q 5 = m := by rw [h5 q hne.1]; exact hszq
      refine rr_iload_n F dX3_setAside_14 rfl ?_
      refine rr_aload_n F dX3_setAside_15 rfl ?_
      refine rg_Page_size F (by first | rfl | assumption) fl_X3_29 dX3_setAside_16 ?_
      refine rr_icmp_ge F dX3_setAside_19 (tgt := 35) (by decide) ⟨by omega, by omega⟩ ⟨by omega, by omega⟩ (fun c_19 => ?_) (fun c_19 => ?_)
      · exact absurd c_19 (by omega)
      · refine rr_aload_n F dX3_setAside_22 rfl ?_
        refine rg_Page_sharedLengths F (by first | rfl | assumption) fl_X3_26 dX3_setAside_23 ?_
        refine rr_iload_n F dX3_setAside_26 rfl ?_
        refine rr_iconst F dX3_setAside_27 ?_
        refine rr_iast F (N := 40) (by first | rfl | assumption) (by omega) (by first | rfl | assumption) (by omega) dX3_setAside_28 ?_
        refine rr_iinc F dX3_setAside_29 rfl rfl ?_
        refine rr_goto F dX3_setAside_32 (tgt := 14) (by decide) ?_
        refine ih (i + 1) _ (by omega) (by omega) (by omega) (fun j a b => ?_) (fun c a => ?_)
        · by_cases e : j = i
          · subst e; rw [up2_same]
          · rw [up2_ne _ _ _ e]; exact h4 j a (by omega)
        · rw [up2_cell _ _ _ a]; exact h5 c a
  refine rr_aload_n F dX3_setAside_0 rfl ?_
  refine rg_Page_language F (by first | rfl | assumption) fl_X3_33 dX3_setAside_1 ?_
  refine rr_aload_n F dX3_setAside_4 rfl ?_
  refine rg_Page_language F (by first | rfl | assumption) fl_X3_33 dX3_setAside_5 ?_
  refine rr_icmp_eq F dX3_setAside_8 (tgt := 12) (by decide) (by exact hla) (by exact hlb) (fun c_8 => ?_) (fun c_8 => ?_)
  · refine rr_iconst F dX3_setAside_12 ?_
    refine rr_istore_n F dX3_setAside_13 (Nat.le_of_ble_eq_true rfl) rfl ?_
    exact loop1 c_8 _ 0 I rfl (by omega) (by omega) (fun j a b => absurd b (by omega)) (fun c a => rfl)
  · refine rr_vret F dX3_setAside_11 ?_
    rw [← hpost]
    exact ⟨rfl, fun c a b => by rw [hz c a b, bi_neg (fun z => c_8 z.1)], fun c a b => rfl, rfl⟩
