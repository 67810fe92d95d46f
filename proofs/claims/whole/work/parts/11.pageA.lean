/-! hashes and marks: what they are -/
def hshF (T : Int → Int64) : Nat → Int → Int64 → Int64
  | 0, _, h => h
  | n + 1, i, h => hshF T n (i + 1) (h * 131 + T i - (h * 131 + T i) / 1000003 * 1000003)
def hsh (T : Int → Int64) (k s : Int) : Int := (hshF T k.toNat s 7).toInt32.toInt
theorem hsh_rg (T : Int → Int64) (k s : Int) : rg (hsh T k s) := rg_i _
noncomputable def bi (p : Prop) : Int := @ite Int p (Classical.propDecidable p) 1 0
theorem bi_pos {p : Prop} (h : p) : bi p = 1 := by unfold bi; exact if_pos h
theorem bi_neg {p : Prop} (h : ¬ p) : bi p = 0 := by unfold bi; exact if_neg h
theorem bi_congr {p q : Prop} (h : p ↔ q) : bi p = bi q := by
  by_cases hp : p
  · rw [bi_pos hp, bi_pos (h.mp hp)]
  · rw [bi_neg hp, bi_neg (fun z => hp (h.mpr z))]
theorem bi_01 (p : Prop) : bi p = 0 ∨ bi p = 1 := by
  by_cases hp : p
  · exact Or.inr (bi_pos hp)
  · exact Or.inl (bi_neg hp)
theorem bi_eq1 {p : Prop} : bi p = 1 ↔ p := ⟨fun h => Classical.byContradiction (fun z => by rw [bi_neg z] at h; omega), bi_pos⟩
theorem bi_eq0 {p : Prop} : bi p = 0 ↔ ¬ p := ⟨fun h z => by rw [bi_pos z] at h; omega, bi_neg⟩
theorem lolF_in (h : Int → Int) : ∀ (n : Nat) (i b lo hi : Int), lo ≤ b → b < hi → lo ≤ i → i + n ≤ hi → lo ≤ lolF h n i b ∧ lolF h n i b < hi := by
  intro n
  induction n with
  | zero => intro i b lo hi h1 h2 h3 h4; exact ⟨h1, h2⟩
  | succ n ih =>
    intro i b lo hi h1 h2 h3 h4
    rw [lolF]
    split
    · exact ih (i + 1) i lo hi h3 (by omega) (by omega) (by omega)
    · exact ih (i + 1) b lo hi h1 h2 (by omega) (by omega)
theorem lolF_congr {h h' : Int → Int} {lo hi : Int} (hh : ∀ j, lo ≤ j → j < hi → h j = h' j) : ∀ (n : Nat) (i b : Int), lo ≤ b → b < hi → lo ≤ i → i + n ≤ hi → lolF h n i b = lolF h' n i b := by
  intro n
  induction n with
  | zero => intro i b h1 h2 h3 h4; rfl
  | succ n ih =>
    intro i b h1 h2 h3 h4
    rw [lolF, lolF, hh i h3 (by omega), hh b h1 h2]
    split
    · exact ih (i + 1) i h3 (by omega) (by omega) (by omega)
    · exact ih (i + 1) b h1 h2 (by omega) (by omega)
/-- gram j is a mark of one of the first u windows of width W -/
def MkU (h : Int → Int) (W u j : Int) : Prop := ∃ f, 0 ≤ f ∧ f < u ∧ j = lolF h (W - 1).toNat (f + 1) f
/-- how many grams -/
def grm (n k : Int) : Int := max 0 (n - k + 1)
/-- the marks of a text of n tokens -/
noncomputable def mkF (T : Int → Int64) (n k w : Int) (j : Int) : Int := if 0 ≤ j ∧ j < grm n k then bi (MkU (hsh T k) (min w (grm n k)) (grm n k - min w (grm n k) + 1) j) else 0
theorem mkF_01 (T : Int → Int64) (n k w j : Int) : mkF T n k w j = 0 ∨ mkF T n k w j = 1 := by
  unfold mkF
  split
  · exact bi_01 _
  · exact Or.inl rfl
def cntF (m : Int → Int) : Nat → Int → Int → Int
  | 0, _, a => a
  | n + 1, i, a => cntF m n (i + 1) (if m i = 0 then a else a + 1)
def nthF (m : Int → Int) (t : Int) : Nat → Int → Int → Int
  | 0, _, _ => -1
  | n + 1, i, a => if m i = 0 then nthF m t n (i + 1) a else if a = t then i else nthF m t n (i + 1) (a + 1)
theorem cntF_congr {m m' : Int → Int} : ∀ (n : Nat) (i a : Int), (∀ j, i ≤ j → j < i + n → m j = m' j) → cntF m n i a = cntF m' n i a := by
  intro n
  induction n with
  | zero => intro i a h; rfl
  | succ n ih => intro i a h; rw [cntF, cntF, h i (by omega) (by omega)]; exact ih _ _ (fun j h1 h2 => h j (by omega) (by omega))
theorem nthF_congr {m m' : Int → Int} {t : Int} : ∀ (n : Nat) (i a : Int), (∀ j, i ≤ j → j < i + n → m j = m' j) → nthF m t n i a = nthF m' t n i a := by
  intro n
  induction n with
  | zero => intro i a h; rfl
  | succ n ih =>
    intro i a h
    rw [nthF, nthF, h i (by omega) (by omega), ih _ _ (fun j h1 h2 => h j (by omega) (by omega)), ih _ _ (fun j h1 h2 => h j (by omega) (by omega))]
theorem cntF_zero {m : Int → Int} : ∀ (n : Nat) (i a : Int), (∀ j, i ≤ j → j < i + n → m j = 0) → cntF m n i a = a := by
  intro n
  induction n with
  | zero => intro i a h; rfl
  | succ n ih => intro i a h; rw [cntF, if_pos (h i (by omega) (by omega))]; exact ih _ _ (fun j h1 h2 => h j (by omega) (by omega))
theorem nthF_zero {m : Int → Int} {t : Int} : ∀ (n : Nat) (i a : Int), (∀ j, i ≤ j → j < i + n → m j = 0) → nthF m t n i a = -1 := by
  intro n
  induction n with
  | zero => intro i a h; rfl
  | succ n ih => intro i a h; rw [nthF, if_pos (h i (by omega) (by omega))]; exact ih _ _ (fun j h1 h2 => h j (by omega) (by omega))
theorem cntF_more {m : Int → Int} (q : Nat) : ∀ (n : Nat) (i a : Int), (∀ j, i + n ≤ j → j < i + n + q → m j = 0) → cntF m (n + q) i a = cntF m n i a := by
  intro n
  induction n with
  | zero => intro i a h; rw [Nat.zero_add, cntF_zero q i a (fun j h1 h2 => h j (by omega) (by omega))]; rfl
  | succ n ih => intro i a h; rw [show n + 1 + q = (n + q) + 1 by omega, cntF, cntF]; exact ih _ _ (fun j h1 h2 => h j (by omega) (by omega))
theorem nthF_more {m : Int → Int} {t : Int} (q : Nat) : ∀ (n : Nat) (i a : Int), (∀ j, i + n ≤ j → j < i + n + q → m j = 0) → nthF m t (n + q) i a = nthF m t n i a := by
  intro n
  induction n with
  | zero => intro i a h; rw [Nat.zero_add, nthF_zero q i a (fun j h1 h2 => h j (by omega) (by omega))]; rfl
  | succ n ih => intro i a h; rw [show n + 1 + q = (n + q) + 1 by omega, nthF, nthF, ih _ _ (fun j h1 h2 => h j (by omega) (by omega)), ih _ _ (fun j h1 h2 => h j (by omega) (by omega))]
theorem irem_z {a b : Int} (h0 : 0 ≤ a) (ha : a < 2147483648) (hb0 : 0 < b) (hb : b < 2147483648) : (zI a - zI a / zI b * zI b).toInt = a % b := by
  have hra : rg a := ⟨by omega, ha⟩
  have hrb : rg b := ⟨by omega, hb⟩
  have hd : zI a / zI b = zI (a / b) := by
    rw [← Int32.toInt_inj, Int32.toInt_div_of_ne_left _ _ (fun e => by
      have := congrArg Int32.toInt e
      rw [zI_toInt hra] at this
      have h2 : Int32.minValue.toInt = -2147483648 := by decide
      omega), zI_toInt hra, zI_toInt hrb, zI_toInt ⟨by have := Int.ediv_nonneg h0 (Int.le_of_lt hb0); omega, by have := Int.ediv_le_self b h0; omega⟩, Int.tdiv_eq_ediv_of_nonneg h0]
  have hm := Int.emod_nonneg a (show b ≠ 0 by omega)
  have hm2 := Int.emod_lt_of_pos a hb0
  rw [hd, ← Int32.ofInt_mul, ← Int32.ofInt_sub, show a - a / b * b = a % b by rw [Int.emod_def, Int.mul_comm], zI_toInt ⟨by omega, by omega⟩]
theorem zI_ne0 {b : Int} (hb0 : 0 < b) (hb : b < 2147483648) : ¬ zI b = 0 := fun e => by
  have := (zI_eq (a := b) (b := 0) ⟨by omega, hb⟩ rg0).mp e
  omega
set_option maxHeartbeats 4000000 in
set_option maxRecDepth 100000 in
theorem mm_X3_hashOfGram {l : Launch} {g : gT} {k : Nat} {s m : Int} {I : IM} {L : LM} {T : Int → Int64} {n : Int} (hk : isP k) (hs : 0 ≤ s) (hm : 0 ≤ m) (hsm : s + m ≤ n) (hn : n ≤ 40) (hT : ∀ i, 0 ≤ i → i < n → L (k + 1) i = T i) :
    Ct l yX3_hashOfGram cX3_hashOfGram 6 (some .int) 0 0 lyC g [.ref (g.2.1 k), .int (zI s), .int (zI m)] I L (pI (fun r I' L' => r = hsh T m s ∧ I = I' ∧ L = L')) := by
  obtain ⟨q1, q2, q3, q4, q5, q6, q7, q8, q9, q10, q11⟩ := hk.f
  refine Ct.of RX3 (by decide +kernel) rfl (Nat.le_of_ble_eq_true rfl) (fun x hx F => ?_)
  have loop : ∀ (c : Nat) (i : Int) (h : Int64), c = (s + m - i).toNat → s ≤ i → i ≤ s + m → hshF T c i h = hshF T m.toNat s 7 → Rn x lyC g (pI (fun r I' L' => r = hsh T m s ∧ I = I' ∧ L = L')) 7 [vr g k, vn s, vn m, vl h, none, vn i] [] I L := by
    intro c
    induction c with
    | zero =>
      intro i h h1 h2 h3 h4
      refine rr_iload F dX3_hashOfGram_7 rfl ?_
      refine rr_iload_n F dX3_hashOfGram_9 rfl ?_
      refine rr_iload_n F dX3_hashOfGram_10 rfl ?_
      refine rr_iadd F dX3_hashOfGram_11 ?_
      refine rr_icmp_ge F dX3_hashOfGram_12 (tgt := 39) (by decide) ⟨by omega, by omega⟩ ⟨by omega, by omega⟩ (fun c_12 => ?_) (fun c_12 => ?_)
      · refine rr_lload_n F dX3_hashOfGram_39 rfl ?_
        refine rr_l2i F dX3_hashOfGram_40 ?_
        refine rr_iret F dX3_hashOfGram_41 ?_
        exact ⟨_, rfl, by rw [hsh, ← h4, hshF], rfl, rfl⟩
      · exact absurd c_12 (by omega)
    | succ c ih =>
      intro i h h1 h2 h3 h4
      refine rr_iload F dX3_hashOfGram_7 rfl ?_
      refine rr_iload_n F dX3_hashOfGram_9 rfl ?_
      refine rr_iload_n F dX3_hashOfGram_10 rfl ?_
      refine rr_iadd F dX3_hashOfGram_11 ?_
      refine rr_icmp_ge F dX3_hashOfGram_12 (tgt := 39) (by decide) ⟨by omega, by omega⟩ ⟨by omega, by omega⟩ (fun c_12 => ?_) (fun c_12 => ?_)
      · exact absurd c_12 (by omega)
      · refine rr_lload_n F dX3_hashOfGram_15 rfl ?_
        refine rr_ldc2 F dX3_hashOfGram_16 co_X3_61 ?_
        refine rr_lmul F dX3_hashOfGram_19 ?_
        refine rr_aload_n F dX3_hashOfGram_20 rfl ?_
        refine rg_Page_tokens F (by first | rfl | assumption) fl_X3_9 dX3_hashOfGram_21 ?_
        refine rr_iload F dX3_hashOfGram_24 rfl ?_
        refine rr_lald F (N := 40) (by first | rfl | assumption) (by omega) (by first | rfl | assumption) (by omega) dX3_hashOfGram_26 ?_
        refine rr_ladd F dX3_hashOfGram_27 ?_
        refine rr_ldc2 F dX3_hashOfGram_28 co_X3_63 ?_
        refine rr_lrem F dX3_hashOfGram_31 (by decide) ?_
        refine rr_lstore_n F dX3_hashOfGram_32 (Nat.le_of_ble_eq_true rfl) rfl ?_
        refine rr_iinc F dX3_hashOfGram_33 rfl rfl ?_
        refine rr_goto F dX3_hashOfGram_36 (tgt := 7) (by decide) ?_
        rw [hT i (by omega) (by omega)]
        exact ih (i + 1) _ (by omega) (by omega) (by omega) (by rw [← h4, hshF])
  refine rr_ldc2 F dX3_hashOfGram_0 co_X3_59 ?_
  refine rr_lstore_n F dX3_hashOfGram_3 (Nat.le_of_ble_eq_true rfl) rfl ?_
  refine rr_iload_n F dX3_hashOfGram_4 rfl ?_
  refine rr_istore F dX3_hashOfGram_5 (Nat.le_of_ble_eq_true rfl) rfl ?_
  exact loop _ s 7 rfl (by omega) (by omega) (by rw [show (s + m - s) = m by omega])
