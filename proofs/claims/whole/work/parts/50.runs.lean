/-! runs: what they are -/
def AL (σ : sT) (a b i j : Int) : Prop := (0 ≤ i ∧ i < s_sz σ a) ∧ (0 ≤ j ∧ j < s_sz σ b) ∧ s_tk σ a i = s_tk σ b j ∧ s_lg σ a = s_lg σ b ∧ aF σ a i = 0 ∧ aF σ b j = 0
noncomputable def exl (P : Int → Int → Prop) : Nat → Int → Int → Int
  | 0, _, _ => 0
  | n + 1, i, j => @ite Int (P i j) (Classical.propDecidable _) (1 + exl P n (i + 1) (j + 1)) 0
theorem exl_eq {P : Int → Int → Prop} : ∀ (f : Nat) (i j n : Int), 0 ≤ n → n < f → (∀ t, 0 ≤ t → t < n → P (i + t) (j + t)) → ¬ P (i + n) (j + n) → exl P f i j = n := by
  intro f
  induction f with
  | zero => intro i j n h1 h2 h3 h4; omega
  | succ f ih =>
    intro i j n h1 h2 h3 h4
    rw [exl]
    by_cases z : n = 0
    · subst z
      rw [if_neg (by rw [Int.add_zero, Int.add_zero] at h4; exact h4)]
    · have h0 := h3 0 (by omega) (by omega)
      rw [Int.add_zero, Int.add_zero] at h0
      rw [if_pos h0, ih (i + 1) (j + 1) (n - 1) (by omega) (by omega) (fun t u v => by have := h3 (t + 1) (by omega) (by omega); rwa [show i + (t + 1) = i + 1 + t by omega, show j + (t + 1) = j + 1 + t by omega] at this) (by rwa [show i + 1 + (n - 1) = i + n by omega, show j + 1 + (n - 1) = j + n by omega])]
      omega
theorem exl_all {P : Int → Int → Prop} : ∀ (f : Nat) (i j : Int), 0 ≤ exl P f i j ∧ ∀ t, 0 ≤ t → t < exl P f i j → P (i + t) (j + t) := by
  intro f
  induction f with
  | zero => intro i j; rw [exl]; exact ⟨by omega, fun t u v => by omega⟩
  | succ f ih =>
    intro i j
    rw [exl]
    by_cases z : P i j
    · rw [if_pos z]
      obtain ⟨y1, y2⟩ := ih (i + 1) (j + 1)
      refine ⟨by omega, fun t u v => ?_⟩
      by_cases e : t = 0
      · subst e; rw [Int.add_zero, Int.add_zero]; exact z
      · have := y2 (t - 1) (by omega) (by omega)
        rwa [show i + 1 + (t - 1) = i + t by omega, show j + 1 + (t - 1) = j + t by omega] at this
    · rw [if_neg z]; exact ⟨by omega, fun t u v => by omega⟩
/-- a shared mark within n tokens from (i, j) on -/
def MkS (σ : sT) (a b i j n : Int) : Prop := ∃ o, 0 ≤ o ∧ o + s_k σ ≤ n ∧ mF σ a (i + o) = 1 ∧ mF σ b (j + o) = 1
/-- the length of the run that begins at (i, j), 0 where none does -/
noncomputable def rln (σ : sT) (a b i j : Int) : Int := @ite Int (AL σ a b i j ∧ ¬ AL σ a b (i - 1) (j - 1) ∧ MkS σ a b i j (exl (AL σ a b) 41 i j)) (Classical.propDecidable _) (exl (AL σ a b) 41 i j) 0
theorem rln_no1 {σ : sT} {a b i j : Int} (h : ¬ AL σ a b i j) : rln σ a b i j = 0 := by unfold rln; exact if_neg (fun z => h z.1)
theorem rln_no2 {σ : sT} {a b i j : Int} (h : AL σ a b (i - 1) (j - 1)) : rln σ a b i j = 0 := by unfold rln; exact if_neg (fun z => z.2.1 h)
theorem rln_n {σ : sT} {a b i j n : Int} (h2 : ¬ AL σ a b (i - 1) (j - 1)) (h3 : 1 ≤ n) (h4 : n ≤ 40) (h5 : ∀ t, 0 ≤ t → t < n → AL σ a b (i + t) (j + t)) (h6 : ¬ AL σ a b (i + n) (j + n)) : (MkS σ a b i j n → rln σ a b i j = n) ∧ (¬ MkS σ a b i j n → rln σ a b i j = 0) := by
  have h1 := h5 0 (by omega) (by omega)
  rw [Int.add_zero, Int.add_zero] at h1
  have e : exl (AL σ a b) 41 i j = n := exl_eq 41 i j n (by omega) (by omega) h5 h6
  unfold rln
  rw [e]
  exact ⟨fun z => if_pos ⟨h1, h2, z⟩, fun z => if_neg (fun y => z y.2.2)⟩
theorem rln_b {σ : sT} (hW : WF σ) (a b i j : Int) : 0 ≤ rln σ a b i j ∧ rln σ a b i j ≤ 40 ∧ (0 < rln σ a b i j → (0 ≤ i ∧ 0 ≤ j) ∧ i + rln σ a b i j ≤ s_sz σ a ∧ j + rln σ a b i j ≤ s_sz σ b) := by
  have w1 := hW.2.2.2.1 a
  have w2 := hW.2.2.2.1 b
  obtain ⟨y1, y2⟩ := exl_all (P := AL σ a b) 41 i j
  unfold rln
  by_cases z : AL σ a b i j ∧ ¬ AL σ a b (i - 1) (j - 1) ∧ MkS σ a b i j (exl (AL σ a b) 41 i j)
  · rw [if_pos z]
    have z1 := z.1.1
    have z2 := z.1.2.1
    by_cases e : exl (AL σ a b) 41 i j = 0
    · exact ⟨by omega, by omega, fun _ => by omega⟩
    · have := y2 (exl (AL σ a b) 41 i j - 1) (by omega) (by omega)
      have t1 := this.1
      have t2 := this.2.1
      exact ⟨by omega, by omega, fun _ => ⟨⟨by omega, by omega⟩, by omega, by omega⟩⟩
  · rw [if_neg z]; exact ⟨by omega, by omega, fun y => by omega⟩
/-- the pages left and right hold book a and book b -/
def CmpS (σ : sT) (a b : Int) (I : IM) (L : LM) : Prop := PgS 22 I L (s_tk σ a) (s_sz σ a) (s_lg σ a) (s_k σ) (s_w σ) (aF σ a) ∧ PgS 28 I L (s_tk σ b) (s_sz σ b) (s_lg σ b) (s_k σ) (s_w σ) (aF σ b)
theorem CmpS.fr {σ : sT} {a b : Int} {I I' : IM} {L : LM} (h : CmpS σ a b I L) (hq : ∀ q, 22 ≤ q → q < 33 → I' q = I q) : CmpS σ a b I' L := ⟨h.1.fr (hq 22 (by omega) (by omega)) rfl (hq 24 (by omega) (by omega)) (hq 25 (by omega) (by omega)) (hq 26 (by omega) (by omega)), h.2.fr (hq 28 (by omega) (by omega)) rfl (hq 30 (by omega) (by omega)) (hq 31 (by omega) (by omega)) (hq 32 (by omega) (by omega))⟩
theorem aF_01 (σ : sT) (c i : Int) : aF σ c i = 0 ∨ aF σ c i = 1 := bi_01 _
theorem mF_01 (σ : sT) (c i : Int) : mF σ c i = 0 ∨ mF σ c i = 1 := mkF_01 _ _ _ _ _
set_option maxHeartbeats 4000000 in
set_option maxRecDepth 100000 in
theorem mm_X1_agree {l : Launch} {g : gT} {σ : sT} {a b i j : Int} {I : IM} {L : LM} (hC : CmpS σ a b I L) (hW : WF σ) (hi0 : -1 ≤ i) (hi : i < s_sz σ a) (hj0 : -1 ≤ j) (hj : j < s_sz σ b) :
    Ct l yX1_agree cX1_agree 3 (some .boolean) 0 0 lyC g [.ref (g.2.1 18), .int (zI i), .int (zI j)] I L (pI (fun r I' L' => ((r = 1 ∧ AL σ a b i j) ∨ (r = 0 ∧ ¬ AL σ a b i j)) ∧ I = I' ∧ L = L')) := by
  have w4a := hW.2.2.2.1 a
  have w4b := hW.2.2.2.1 b
  have w5a := hW.2.2.2.2.1 a
  have w5b := hW.2.2.2.2.1 b
  obtain ⟨hA, hB⟩ := hC
  have za := aF_01 σ a i
  have zb := aF_01 σ b j
  refine Ct.of RX1 (by decide +kernel) rfl (Nat.le_of_ble_eq_true rfl) (fun x hx F => ?_)
  refine rr_iload_n F dX1_agree_0 rfl ?_
  refine rr_if_lt F dX1_agree_1 (tgt := 75) (by decide) ⟨by omega, by omega⟩ (fun c_1 => ?_) (fun c_1 => ?_)
  · refine rr_iconst F dX1_agree_75 ?_
    refine rr_zret F dX1_agree_76 (by decide) ?_
    first
    | exact ⟨_, rfl, Or.inl ⟨rfl, ⟨by omega, by omega⟩, ⟨by omega, by omega⟩, c_27, c_44, c_56, c_68⟩, rfl, rfl⟩
    | exact ⟨_, rfl, Or.inr ⟨rfl, fun z => by have := z.1; have := z.2.1; omega⟩, rfl, rfl⟩
    | exact ⟨_, rfl, Or.inr ⟨rfl, fun z => c_27 z.2.2.1⟩, rfl, rfl⟩
    | exact ⟨_, rfl, Or.inr ⟨rfl, fun z => c_44 z.2.2.2.1⟩, rfl, rfl⟩
    | exact ⟨_, rfl, Or.inr ⟨rfl, fun z => c_56 z.2.2.2.2.1⟩, rfl, rfl⟩
    | exact ⟨_, rfl, Or.inr ⟨rfl, fun z => c_68 z.2.2.2.2.2⟩, rfl, rfl⟩
  · refine rr_iload_n F dX1_agree_4 rfl ?_
    refine rr_if_lt F dX1_agree_5 (tgt := 75) (by decide) ⟨by omega, by omega⟩ (fun c_5 => ?_) (fun c_5 => ?_)
    · refine rr_iconst F dX1_agree_75 ?_
      refine rr_zret F dX1_agree_76 (by decide) ?_
      first
      | exact ⟨_, rfl, Or.inl ⟨rfl, ⟨by omega, by omega⟩, ⟨by omega, by omega⟩, c_27, c_44, c_56, c_68⟩, rfl, rfl⟩
      | exact ⟨_, rfl, Or.inr ⟨rfl, fun z => by have := z.1; have := z.2.1; omega⟩, rfl, rfl⟩
      | exact ⟨_, rfl, Or.inr ⟨rfl, fun z => c_27 z.2.2.1⟩, rfl, rfl⟩
      | exact ⟨_, rfl, Or.inr ⟨rfl, fun z => c_44 z.2.2.2.1⟩, rfl, rfl⟩
      | exact ⟨_, rfl, Or.inr ⟨rfl, fun z => c_56 z.2.2.2.2.1⟩, rfl, rfl⟩
      | exact ⟨_, rfl, Or.inr ⟨rfl, fun z => c_68 z.2.2.2.2.2⟩, rfl, rfl⟩
    · refine rr_aload_n F dX1_agree_8 rfl ?_
      refine rg_Comparison_left F (by first | rfl | assumption) fl_X1_28 dX1_agree_9 ?_
      refine rr_cell (k2 := 22) rfl ?_
      refine rg_Page_tokens F (by first | rfl | assumption) fl_X1_119 dX1_agree_12 ?_
      refine rr_cell (k2 := 23) rfl ?_
      refine rr_iload_n F dX1_agree_15 rfl ?_
      refine rr_lald F (N := 40) (by first | rfl | assumption) (by omega) (by first | rfl | assumption) (by omega) dX1_agree_16 ?_
      refine rr_aload_n F dX1_agree_17 rfl ?_
      refine rg_Comparison_right F (by first | rfl | assumption) fl_X1_32 dX1_agree_18 ?_
      refine rr_cell (k2 := 28) rfl ?_
      refine rg_Page_tokens F (by first | rfl | assumption) fl_X1_119 dX1_agree_21 ?_
      refine rr_cell (k2 := 29) rfl ?_
      refine rr_iload_n F dX1_agree_24 rfl ?_
      refine rr_lald F (N := 40) (by first | rfl | assumption) (by omega) (by first | rfl | assumption) (by omega) dX1_agree_25 ?_
      have t1 := hA.2.2.2.1 i (by omega) (by omega)
      have t2 := hB.2.2.2.1 j (by omega) (by omega)
      rw [t1, t2]
      refine rr_lcmp F dX1_agree_26 ?_
      refine rr_lif_ne F dX1_agree_27 (tgt := 75) (by decide) (fun c_27 => ?_) (fun c_27 => ?_)
      · refine rr_iconst F dX1_agree_75 ?_
        refine rr_zret F dX1_agree_76 (by decide) ?_
        first
        | exact ⟨_, rfl, Or.inl ⟨rfl, ⟨by omega, by omega⟩, ⟨by omega, by omega⟩, c_27, c_44, c_56, c_68⟩, rfl, rfl⟩
        | exact ⟨_, rfl, Or.inr ⟨rfl, fun z => by have := z.1; have := z.2.1; omega⟩, rfl, rfl⟩
        | exact ⟨_, rfl, Or.inr ⟨rfl, fun z => c_27 z.2.2.1⟩, rfl, rfl⟩
        | exact ⟨_, rfl, Or.inr ⟨rfl, fun z => c_44 z.2.2.2.1⟩, rfl, rfl⟩
        | exact ⟨_, rfl, Or.inr ⟨rfl, fun z => c_56 z.2.2.2.2.1⟩, rfl, rfl⟩
        | exact ⟨_, rfl, Or.inr ⟨rfl, fun z => c_68 z.2.2.2.2.2⟩, rfl, rfl⟩
      · refine rr_aload_n F dX1_agree_30 rfl ?_
        refine rg_Comparison_left F (by first | rfl | assumption) fl_X1_28 dX1_agree_31 ?_
        refine rr_cell (k2 := 22) rfl ?_
        refine rg_Page_language F (by first | rfl | assumption) fl_X1_123 dX1_agree_34 ?_
        refine rr_aload_n F dX1_agree_37 rfl ?_
        refine rg_Comparison_right F (by first | rfl | assumption) fl_X1_32 dX1_agree_38 ?_
        refine rr_cell (k2 := 28) rfl ?_
        refine rg_Page_language F (by first | rfl | assumption) fl_X1_123 dX1_agree_41 ?_
        rw [hA.2.1, hB.2.1]
        refine rr_icmp_ne F dX1_agree_44 (tgt := 75) (by decide) ⟨by omega, by omega⟩ ⟨by omega, by omega⟩ (fun c_44 => ?_) (fun c_44 => ?_)
        · refine rr_iconst F dX1_agree_75 ?_
          refine rr_zret F dX1_agree_76 (by decide) ?_
          first
          | exact ⟨_, rfl, Or.inl ⟨rfl, ⟨by omega, by omega⟩, ⟨by omega, by omega⟩, c_27, c_44, c_56, c_68⟩, rfl, rfl⟩
          | exact ⟨_, rfl, Or.inr ⟨rfl, fun z => by have := z.1; have := z.2.1; omega⟩, rfl, rfl⟩
          | exact ⟨_, rfl, Or.inr ⟨rfl, fun z => c_27 z.2.2.1⟩, rfl, rfl⟩
          | exact ⟨_, rfl, Or.inr ⟨rfl, fun z => c_44 z.2.2.2.1⟩, rfl, rfl⟩
          | exact ⟨_, rfl, Or.inr ⟨rfl, fun z => c_56 z.2.2.2.2.1⟩, rfl, rfl⟩
          | exact ⟨_, rfl, Or.inr ⟨rfl, fun z => c_68 z.2.2.2.2.2⟩, rfl, rfl⟩
        · refine rr_aload_n F dX1_agree_47 rfl ?_
          refine rg_Comparison_left F (by first | rfl | assumption) fl_X1_28 dX1_agree_48 ?_
          refine rr_cell (k2 := 22) rfl ?_
          refine rg_Page_isAside F (by first | rfl | assumption) fl_X1_126 dX1_agree_51 ?_
          refine rr_cell (k2 := 26) rfl ?_
          refine rr_iload_n F dX1_agree_54 rfl ?_
          refine rr_zald F (N := 40) (by first | rfl | assumption) (by omega) (by first | rfl | assumption) (by omega) dX1_agree_55 ?_
          rw [hA.2.2.2.2.2.2 i (by omega) (by omega)]
          refine rr_if_ne F dX1_agree_56 (tgt := 75) (by decide) ⟨by omega, by omega⟩ (fun c_56 => ?_) (fun c_56 => ?_)
          · refine rr_iconst F dX1_agree_75 ?_
            refine rr_zret F dX1_agree_76 (by decide) ?_
            first
            | exact ⟨_, rfl, Or.inl ⟨rfl, ⟨by omega, by omega⟩, ⟨by omega, by omega⟩, c_27, c_44, c_56, c_68⟩, rfl, rfl⟩
            | exact ⟨_, rfl, Or.inr ⟨rfl, fun z => by have := z.1; have := z.2.1; omega⟩, rfl, rfl⟩
            | exact ⟨_, rfl, Or.inr ⟨rfl, fun z => c_27 z.2.2.1⟩, rfl, rfl⟩
            | exact ⟨_, rfl, Or.inr ⟨rfl, fun z => c_44 z.2.2.2.1⟩, rfl, rfl⟩
            | exact ⟨_, rfl, Or.inr ⟨rfl, fun z => c_56 z.2.2.2.2.1⟩, rfl, rfl⟩
            | exact ⟨_, rfl, Or.inr ⟨rfl, fun z => c_68 z.2.2.2.2.2⟩, rfl, rfl⟩
          · refine rr_aload_n F dX1_agree_59 rfl ?_
            refine rg_Comparison_right F (by first | rfl | assumption) fl_X1_32 dX1_agree_60 ?_
            refine rr_cell (k2 := 28) rfl ?_
            refine rg_Page_isAside F (by first | rfl | assumption) fl_X1_126 dX1_agree_63 ?_
            refine rr_cell (k2 := 32) rfl ?_
            refine rr_iload_n F dX1_agree_66 rfl ?_
            refine rr_zald F (N := 40) (by first | rfl | assumption) (by omega) (by first | rfl | assumption) (by omega) dX1_agree_67 ?_
            rw [hB.2.2.2.2.2.2 j (by omega) (by omega)]
            refine rr_if_ne F dX1_agree_68 (tgt := 75) (by decide) ⟨by omega, by omega⟩ (fun c_68 => ?_) (fun c_68 => ?_)
            · refine rr_iconst F dX1_agree_75 ?_
              refine rr_zret F dX1_agree_76 (by decide) ?_
              first
              | exact ⟨_, rfl, Or.inl ⟨rfl, ⟨by omega, by omega⟩, ⟨by omega, by omega⟩, c_27, c_44, c_56, c_68⟩, rfl, rfl⟩
              | exact ⟨_, rfl, Or.inr ⟨rfl, fun z => by have := z.1; have := z.2.1; omega⟩, rfl, rfl⟩
              | exact ⟨_, rfl, Or.inr ⟨rfl, fun z => c_27 z.2.2.1⟩, rfl, rfl⟩
              | exact ⟨_, rfl, Or.inr ⟨rfl, fun z => c_44 z.2.2.2.1⟩, rfl, rfl⟩
              | exact ⟨_, rfl, Or.inr ⟨rfl, fun z => c_56 z.2.2.2.2.1⟩, rfl, rfl⟩
              | exact ⟨_, rfl, Or.inr ⟨rfl, fun z => c_68 z.2.2.2.2.2⟩, rfl, rfl⟩
            · refine rr_iconst F dX1_agree_71 ?_
              refine rr_goto F dX1_agree_72 (tgt := 76) (by decide) ?_
              refine rr_zret F dX1_agree_76 (by decide) ?_
              first
              | exact ⟨_, rfl, Or.inl ⟨rfl, ⟨by omega, by omega⟩, ⟨by omega, by omega⟩, c_27, c_44, c_56, c_68⟩, rfl, rfl⟩
              | exact ⟨_, rfl, Or.inr ⟨rfl, fun z => by have := z.1; have := z.2.1; omega⟩, rfl, rfl⟩
              | exact ⟨_, rfl, Or.inr ⟨rfl, fun z => c_27 z.2.2.1⟩, rfl, rfl⟩
              | exact ⟨_, rfl, Or.inr ⟨rfl, fun z => c_44 z.2.2.2.1⟩, rfl, rfl⟩
              | exact ⟨_, rfl, Or.inr ⟨rfl, fun z => c_56 z.2.2.2.2.1⟩, rfl, rfl⟩
              | exact ⟨_, rfl, Or.inr ⟨rfl, fun z => c_68 z.2.2.2.2.2⟩, rfl, rfl⟩
set_option maxHeartbeats 4000000 in
set_option maxRecDepth 100000 in
theorem mm_X1_sharesMark {l : Launch} {g : gT} {σ : sT} {a b i j n : Int} {I : IM} {L : LM} (hC : CmpS σ a b I L) (hW : WF σ) (hi0 : 0 ≤ i) (hj0 : 0 ≤ j) (hn : 1 ≤ n) (hi : i + n ≤ s_sz σ a) (hj : j + n ≤ s_sz σ b) :
    Ct l yX1_sharesMark cX1_sharesMark 5 (some .boolean) 0 0 lyC g [.ref (g.2.1 18), .int (zI i), .int (zI j), .int (zI (n - s_k σ))] I L (pI (fun r I' L' => ((r = 1 ∧ MkS σ a b i j n) ∨ (r = 0 ∧ ¬ MkS σ a b i j n)) ∧ I = I' ∧ L = L')) := by
  have w4a := hW.2.2.2.1 a
  have w4b := hW.2.2.2.1 b
  have w7 := hW.2.2.2.2.2.2.1
  obtain ⟨hA, hB⟩ := hC
  have ga : grm (s_sz σ a) (s_k σ) = max 0 (s_sz σ a - s_k σ + 1) := rfl
  have gb : grm (s_sz σ b) (s_k σ) = max 0 (s_sz σ b - s_k σ + 1) := rfl
  refine Ct.of RX1 (by decide +kernel) rfl (Nat.le_of_ble_eq_true rfl) (fun x hx F => ?_)
  have loop : ∀ (c : Nat) (o : Int), c = (n - s_k σ + 1 - o).toNat → 0 ≤ o → (o = 0 ∨ o ≤ n - s_k σ + 1) → (∀ u, 0 ≤ u → u < o → ¬ (mF σ a (i + u) = 1 ∧ mF σ b (j + u) = 1)) → Rn x lyC g (pI (fun r I' L' => ((r = 1 ∧ MkS σ a b i j n) ∨ (r = 0 ∧ ¬ MkS σ a b i j n)) ∧ I = I' ∧ L = L')) 3 [vr g 18, vn i, vn j, vn (n - s_k σ), vn o] [] I L := by
    intro c
    induction c with
    | zero =>
      intro o h1 h2 h3 h4
      refine rr_iload F dX1_sharesMark_3 rfl ?_
      refine rr_iload_n F dX1_sharesMark_5 rfl ?_
      refine rr_icmp_gt F dX1_sharesMark_6 (tgt := 47) (by decide) ⟨by omega, by omega⟩ ⟨by omega, by omega⟩ (fun c_6 => ?_) (fun c_6 => ?_)
      · refine rr_iconst F dX1_sharesMark_47 ?_
        refine rr_zret F dX1_sharesMark_48 (by decide) ?_
        exact ⟨_, rfl, Or.inr ⟨rfl, fun ⟨u, y1, y2, y3⟩ => h4 u y1 (by omega) y3⟩, rfl, rfl⟩
      · exfalso
        omega
    | succ c ih =>
      intro o h1 h2 h3 h4
      have z1 := mF_01 σ a (i + o)
      have z2 := mF_01 σ b (j + o)
      refine rr_iload F dX1_sharesMark_3 rfl ?_
      refine rr_iload_n F dX1_sharesMark_5 rfl ?_
      refine rr_icmp_gt F dX1_sharesMark_6 (tgt := 47) (by decide) ⟨by omega, by omega⟩ ⟨by omega, by omega⟩ (fun c_6 => ?_) (fun c_6 => ?_)
      · exfalso
        omega
      · refine rr_aload_n F dX1_sharesMark_9 rfl ?_
        refine rg_Comparison_left F (by first | rfl | assumption) fl_X1_28 dX1_sharesMark_10 ?_
        refine rr_cell (k2 := 22) rfl ?_
        refine rg_Page_isMark F (by first | rfl | assumption) fl_X1_130 dX1_sharesMark_13 ?_
        refine rr_cell (k2 := 25) rfl ?_
        refine rr_iload_n F dX1_sharesMark_16 rfl ?_
        refine rr_iload F dX1_sharesMark_17 rfl ?_
        refine rr_iadd F dX1_sharesMark_19 ?_
        refine rr_zald F (N := 40) (by first | rfl | assumption) (by omega) (by first | rfl | assumption) (by omega) dX1_sharesMark_20 ?_
        rw [hA.2.2.2.2.2.1 (i + o) (by omega) (by omega)]
        refine rr_if_eq F dX1_sharesMark_21 (tgt := 41) (by decide) (by exact show rg (mF σ a (i + o)) from ⟨by omega, by omega⟩) (fun c_21 => ?_) (fun c_21 => ?_)
        · refine rr_iinc F dX1_sharesMark_41 rfl rfl ?_
          refine rr_goto F dX1_sharesMark_44 (tgt := 3) (by decide) ?_
          refine ih (o + 1) (by omega) (by omega) (by omega) (fun u y1 y2 => ?_)
          by_cases e : u = o
          · subst e
            first | (have c1 : mF σ a (i + u) = 0 := c_21; omega) | (have c1 : mF σ b (j + u) = 0 := c_36; omega)
          · exact h4 u y1 (by omega)
        · refine rr_aload_n F dX1_sharesMark_24 rfl ?_
          refine rg_Comparison_right F (by first | rfl | assumption) fl_X1_32 dX1_sharesMark_25 ?_
          refine rr_cell (k2 := 28) rfl ?_
          refine rg_Page_isMark F (by first | rfl | assumption) fl_X1_130 dX1_sharesMark_28 ?_
          refine rr_cell (k2 := 31) rfl ?_
          refine rr_iload_n F dX1_sharesMark_31 rfl ?_
          refine rr_iload F dX1_sharesMark_32 rfl ?_
          refine rr_iadd F dX1_sharesMark_34 ?_
          refine rr_zald F (N := 40) (by first | rfl | assumption) (by omega) (by first | rfl | assumption) (by omega) dX1_sharesMark_35 ?_
          rw [hB.2.2.2.2.2.1 (j + o) (by omega) (by omega)]
          refine rr_if_eq F dX1_sharesMark_36 (tgt := 41) (by decide) (by exact show rg (mF σ b (j + o)) from ⟨by omega, by omega⟩) (fun c_36 => ?_) (fun c_36 => ?_)
          · refine rr_iinc F dX1_sharesMark_41 rfl rfl ?_
            refine rr_goto F dX1_sharesMark_44 (tgt := 3) (by decide) ?_
            refine ih (o + 1) (by omega) (by omega) (by omega) (fun u y1 y2 => ?_)
            by_cases e : u = o
            · subst e
              first | (have c1 : mF σ a (i + u) = 0 := c_21; omega) | (have c1 : mF σ b (j + u) = 0 := c_36; omega)
            · exact h4 u y1 (by omega)
          · refine rr_iconst F dX1_sharesMark_39 ?_
            refine rr_zret F dX1_sharesMark_40 (by decide) ?_
            have c1 : ¬ mF σ a (i + o) = 0 := c_21
            have c2 : ¬ mF σ b (j + o) = 0 := c_36
            exact ⟨_, rfl, Or.inl ⟨rfl, o, h2, by omega, by omega, by omega⟩, rfl, rfl⟩
  refine rr_iconst F dX1_sharesMark_0 ?_
  refine rr_istore F dX1_sharesMark_1 (Nat.le_of_ble_eq_true rfl) rfl ?_
  exact loop _ 0 rfl (by omega) (Or.inl rfl) (fun u y1 y2 => absurd y2 (by omega))
set_option maxHeartbeats 4000000 in
set_option maxRecDepth 100000 in
theorem mm_X1_runLengthAt {l : Launch} {g : gT} {σ : sT} {a b i j : Int} {I : IM} {L : LM} (hC : CmpS σ a b I L) (hW : WF σ) (hi0 : 0 ≤ i) (hi : i < s_sz σ a) (hj0 : 0 ≤ j) (hj : j < s_sz σ b) :
    Ct l yX1_runLengthAt cX1_runLengthAt 6 (some .int) 1 24 lyC g [.ref (g.2.1 18), .int (zI i), .int (zI j), .int (zI (s_k σ))] I L (pI (fun r I' L' => r = rln σ a b i j ∧ I = I' ∧ L = L')) := by
  have w4a := hW.2.2.2.1 a
  have w4b := hW.2.2.2.1 b
  have w7 := hW.2.2.2.2.2.2.1
  have sA := hC.1.1
  have sB := hC.2.1
  refine Ct.of RX1 (by decide +kernel) rfl (Nat.le_of_ble_eq_true rfl) (fun x hx F => ?_)
  have after : ∀ n : Int, ¬ AL σ a b (i - 1) (j - 1) → 1 ≤ n → i + n ≤ s_sz σ a → j + n ≤ s_sz σ b → (∀ t, 0 ≤ t → t < n → AL σ a b (i + t) (j + t)) → ¬ AL σ a b (i + n) (j + n) → Rn x lyC g (pI (fun r I' L' => r = rln σ a b i j ∧ I = I' ∧ L = L')) 78 [vr g 18, vn i, vn j, vn (s_k σ), vn (min (s_sz σ a - i) (s_sz σ b - j)), vn n] [] I L := by
    intro n h0 h1 h2 h3 h4 h5
    have key := rln_n h0 h1 (by omega) h4 h5
    refine rr_aload_n F dX1_runLengthAt_78 rfl ?_
    refine rr_iload_n F dX1_runLengthAt_79 rfl ?_
    refine rr_iload_n F dX1_runLengthAt_80 rfl ?_
    refine rr_iload F dX1_runLengthAt_81 rfl ?_
    refine rr_iload_n F dX1_runLengthAt_83 rfl ?_
    refine rr_isub F dX1_runLengthAt_84 ?_
    refine rr_callVI F (ci := 1) (mm_X1_sharesMark hC hW hi0 hj0 h1 h2 h3) mf_X1_sharesMark ml_X1_115 ⟨by decide, by decide⟩ (by first | rfl | assumption) (by decide) rfl rfl (Nat.le_of_ble_eq_true rfl) dX1_runLengthAt_85 (fun r_85 I_85 L_85 h_85 => ?_)
    obtain ⟨e85, rfl, rfl⟩ := h_85
    refine rr_if_eq F dX1_runLengthAt_88 (tgt := 96) (by decide) ⟨by omega, by omega⟩ (fun c_88 => ?_) (fun c_88 => ?_)
    · refine rr_iconst F dX1_runLengthAt_96 ?_
      refine rr_iret F dX1_runLengthAt_97 ?_
      refine ⟨_, rfl, ?_, rfl, rfl⟩
      rcases e85 with ⟨y1, y2⟩ | ⟨y1, y2⟩
      · first | exact (key.1 y2).symm | (exfalso; omega)
      · first | exact (key.2 y2).symm | (exfalso; omega)
    · refine rr_iload F dX1_runLengthAt_91 rfl ?_
      refine rr_goto F dX1_runLengthAt_93 (tgt := 97) (by decide) ?_
      refine rr_iret F dX1_runLengthAt_97 ?_
      refine ⟨_, rfl, ?_, rfl, rfl⟩
      rcases e85 with ⟨y1, y2⟩ | ⟨y1, y2⟩
      · first | exact (key.1 y2).symm | (exfalso; omega)
      · first | exact (key.2 y2).symm | (exfalso; omega)
  have loop : ¬ AL σ a b (i - 1) (j - 1) → ∀ (c : Nat) (n : Int), c = (min (s_sz σ a - i) (s_sz σ b - j) - n).toNat → 1 ≤ n → n ≤ min (s_sz σ a - i) (s_sz σ b - j) → (∀ t, 0 ≤ t → t < n → AL σ a b (i + t) (j + t)) → Rn x lyC g (pI (fun r I' L' => r = rln σ a b i j ∧ I = I' ∧ L = L')) 50 [vr g 18, vn i, vn j, vn (s_k σ), vn (min (s_sz σ a - i) (s_sz σ b - j)), vn n] [] I L := by
    intro h0 c
    induction c with
    | zero =>
      intro n h1 h2 h3 h4
      refine rr_iload F dX1_runLengthAt_50 rfl ?_
      refine rr_iload F dX1_runLengthAt_52 rfl ?_
      refine rr_icmp_ge F dX1_runLengthAt_54 (tgt := 78) (by decide) ⟨by omega, by omega⟩ ⟨by omega, by omega⟩ (fun c_54 => ?_) (fun c_54 => ?_)
      · exact after n h0 h2 (by omega) (by omega) h4 (fun z => by have := z.1; have := z.2.1; omega)
      · exfalso
        omega
    | succ c ih =>
      intro n h1 h2 h3 h4
      refine rr_iload F dX1_runLengthAt_50 rfl ?_
      refine rr_iload F dX1_runLengthAt_52 rfl ?_
      refine rr_icmp_ge F dX1_runLengthAt_54 (tgt := 78) (by decide) ⟨by omega, by omega⟩ ⟨by omega, by omega⟩ (fun c_54 => ?_) (fun c_54 => ?_)
      · first | (exfalso; omega) | exact after n h0 h2 (by omega) (by omega) h4 (e66.elim (fun z => absurd z.1 (by omega)) (fun z => z.2))
      · refine rr_aload_n F dX1_runLengthAt_57 rfl ?_
        refine rr_iload_n F dX1_runLengthAt_58 rfl ?_
        refine rr_iload F dX1_runLengthAt_59 rfl ?_
        refine rr_iadd F dX1_runLengthAt_61 ?_
        refine rr_iload_n F dX1_runLengthAt_62 rfl ?_
        refine rr_iload F dX1_runLengthAt_63 rfl ?_
        refine rr_iadd F dX1_runLengthAt_65 ?_
        refine rr_callVI F (ci := 1) (mm_X1_agree hC hW (by omega) (by omega) (by omega) (by omega)) mf_X1_agree ml_X1_105 ⟨by decide, by decide⟩ (by first | rfl | assumption) (by decide) rfl rfl (Nat.le_of_ble_eq_true rfl) dX1_runLengthAt_66 (fun r_66 I_66 L_66 h_66 => ?_)
        obtain ⟨e66, rfl, rfl⟩ := h_66
        refine rr_if_eq F dX1_runLengthAt_69 (tgt := 78) (by decide) ⟨by omega, by omega⟩ (fun c_69 => ?_) (fun c_69 => ?_)
        · first | (exfalso; omega) | exact after n h0 h2 (by omega) (by omega) h4 (e66.elim (fun z => absurd z.1 (by omega)) (fun z => z.2))
        · refine rr_iinc F dX1_runLengthAt_72 rfl rfl ?_
          refine rr_goto F dX1_runLengthAt_75 (tgt := 50) (by decide) ?_
          refine ih (n + 1) (by omega) (by omega) (by omega) (fun t u v => ?_)
          by_cases e : t = n
          · subst e; exact e66.elim (fun z => z.2) (fun z => absurd z.1 c_69)
          · exact h4 t u (by omega)
  refine rr_aload_n F dX1_runLengthAt_0 rfl ?_
  refine rr_iload_n F dX1_runLengthAt_1 rfl ?_
  refine rr_iload_n F dX1_runLengthAt_2 rfl ?_
  refine rr_callVI F (ci := 1) (mm_X1_agree hC hW (by omega) (by omega) (by omega) (by omega)) mf_X1_agree ml_X1_105 ⟨by decide, by decide⟩ (by first | rfl | assumption) (by decide) rfl rfl (Nat.le_of_ble_eq_true rfl) dX1_runLengthAt_3 (fun r_3 I_3 L_3 h_3 => ?_)
  obtain ⟨e3, rfl, rfl⟩ := h_3
  refine rr_if_eq F dX1_runLengthAt_6 (tgt := 22) (by decide) ⟨by omega, by omega⟩ (fun c_6 => ?_) (fun c_6 => ?_)
  · refine rr_iconst F dX1_runLengthAt_22 ?_
    refine rr_iret F dX1_runLengthAt_23 ?_
    refine ⟨_, rfl, ?_, rfl, rfl⟩
    first | exact (rln_no1 (e3.elim (fun z => absurd z.1 (by omega)) (fun z => z.2))).symm | exact (rln_no2 (e16.elim (fun z => z.2) (fun z => absurd z.1 (by omega)))).symm
  · refine rr_aload_n F dX1_runLengthAt_9 rfl ?_
    refine rr_iload_n F dX1_runLengthAt_10 rfl ?_
    refine rr_iconst F dX1_runLengthAt_11 ?_
    refine rr_isub F dX1_runLengthAt_12 ?_
    refine rr_iload_n F dX1_runLengthAt_13 rfl ?_
    refine rr_iconst F dX1_runLengthAt_14 ?_
    refine rr_isub F dX1_runLengthAt_15 ?_
    refine rr_callVI F (ci := 1) (mm_X1_agree hC hW (by omega) (by omega) (by omega) (by omega)) mf_X1_agree ml_X1_105 ⟨by decide, by decide⟩ (by first | rfl | assumption) (by decide) rfl rfl (Nat.le_of_ble_eq_true rfl) dX1_runLengthAt_16 (fun r_16 I_16 L_16 h_16 => ?_)
    obtain ⟨e16, rfl, rfl⟩ := h_16
    refine rr_if_eq F dX1_runLengthAt_19 (tgt := 24) (by decide) ⟨by omega, by omega⟩ (fun c_19 => ?_) (fun c_19 => ?_)
    · refine rr_aload_n F dX1_runLengthAt_24 rfl ?_
      refine rg_Comparison_left F (by first | rfl | assumption) fl_X1_28 dX1_runLengthAt_25 ?_
      refine rr_cell (k2 := 22) rfl ?_
      refine rg_Page_size F (by first | rfl | assumption) fl_X1_88 dX1_runLengthAt_28 ?_
      refine rr_iload_n F dX1_runLengthAt_31 rfl ?_
      refine rr_isub F dX1_runLengthAt_32 ?_
      refine rr_aload_n F dX1_runLengthAt_33 rfl ?_
      refine rg_Comparison_right F (by first | rfl | assumption) fl_X1_32 dX1_runLengthAt_34 ?_
      refine rr_cell (k2 := 28) rfl ?_
      refine rg_Page_size F (by first | rfl | assumption) fl_X1_88 dX1_runLengthAt_37 ?_
      refine rr_iload_n F dX1_runLengthAt_40 rfl ?_
      refine rr_isub F dX1_runLengthAt_41 ?_
      refine rr_min F ml_X1_109 ⟨by omega, by omega⟩ ⟨by omega, by omega⟩ (by decide) (Nat.le_of_ble_eq_true rfl) dX1_runLengthAt_42 ?_
      refine rr_istore F dX1_runLengthAt_45 (Nat.le_of_ble_eq_true rfl) rfl ?_
      refine rr_iconst F dX1_runLengthAt_47 ?_
      refine rr_istore F dX1_runLengthAt_48 (Nat.le_of_ble_eq_true rfl) rfl ?_
      rw [sA, sB]
      refine loop (e16.elim (fun z => absurd z.1 (by omega)) (fun z => z.2)) _ 1 rfl (by omega) (by omega) (fun t u v => ?_)
      have e : t = 0 := by omega
      subst e
      rw [Int.add_zero, Int.add_zero]
      exact e3.elim (fun z => z.2) (fun z => absurd z.1 (by omega))
    · refine rr_iconst F dX1_runLengthAt_22 ?_
      refine rr_iret F dX1_runLengthAt_23 ?_
      refine ⟨_, rfl, ?_, rfl, rfl⟩
      first | exact (rln_no1 (e3.elim (fun z => absurd z.1 (by omega)) (fun z => z.2))).symm | exact (rln_no2 (e16.elim (fun z => z.2) (fun z => absurd z.1 (by omega)))).symm
