/-! lay, findMarks and what reads marks -/
set_option maxHeartbeats 4000000 in
set_option maxRecDepth 100000 in
theorem mm_X3_lay {l : Launch} {g : gT} {k c : Nat} {t n : Int} {I : IM} {L : LM} (hk : isP k) (hc : isB c) (hn0 : 0 ≤ n) (hn : n ≤ 40) (ht0 : 0 ≤ t) (ht : t ≤ 40) (hsz : I c 1 = n) :
    Ct l yX3_lay cX3_lay 4 none 0 0 lyC g [.ref (g.2.1 k), .ref (g.2.1 c), .int (zI t)] I L (pV (fun I' L' => I' k 5 = n ∧ I' k 6 = I c 2 ∧ (∀ i, 0 ≤ i → i < n → L' (k + 1) i = L (c + 1) ((i + t) % n)) ∧ (∀ i, 0 ≤ i → i < n → I' (k + 4) i = 0) ∧ (∀ q, q ≠ k → q ≠ k + 4 → I' q = I q) ∧ (∀ q, q ≠ k + 1 → L' q = L q))) := by
  obtain ⟨q1, q2, q3, q4, q5, q6, q7, q8, q9, q10, q11⟩ := hk.f
  obtain ⟨p1, p2, p3⟩ := hc.f
  have hne : c ≠ k ∧ c + 1 ≠ k + 1 ∧ c ≠ k + 4 := by rcases hk with rfl | rfl | rfl <;> rcases hc with rfl | rfl | rfl | rfl | rfl | rfl <;> decide
  refine Ct.of RX3 (by decide +kernel) rfl (Nat.le_of_ble_eq_true rfl) (fun x hx F => ?_)
  have loop : ∀ (m : Nat) (i : Int) (I1 : IM) (L1 : LM), m = (n - i).toNat → 0 ≤ i → i ≤ n → I1 k 5 = n → I1 k 6 = I c 2 → (∀ j, 0 ≤ j → j < i → L1 (k + 1) j = L (c + 1) ((j + t) % n)) → (∀ j, 0 ≤ j → j < i → I1 (k + 4) j = 0) → (∀ q, q ≠ k → q ≠ k + 4 → I1 q = I q) → (∀ q, q ≠ k + 1 → L1 q = L q) → Rn x lyC g (pV (fun I' L' => I' k 5 = n ∧ I' k 6 = I c 2 ∧ (∀ i, 0 ≤ i → i < n → L' (k + 1) i = L (c + 1) ((i + t) % n)) ∧ (∀ i, 0 ≤ i → i < n → I' (k + 4) i = 0) ∧ (∀ q, q ≠ k → q ≠ k + 4 → I' q = I q) ∧ (∀ q, q ≠ k + 1 → L' q = L q))) 18 [vr g k, vr g c, vn t, vn i] [] I1 L1 := by
    intro m
    induction m with
    | zero =>
      intro i I1 L1 h1 h2 h3 h4 h5 h6 h7 h8 h9
      have e : i = n := by omega
      refine rr_iload_n F dX3_lay_18 rfl ?_
      refine rr_aload_n F dX3_lay_19 rfl ?_
      refine rg_Page_size F (by first | rfl | assumption) fl_X3_29 dX3_lay_20 ?_
      refine rr_icmp_ge F dX3_lay_23 (tgt := 58) (by decide) ⟨by omega, by omega⟩ ⟨by omega, by omega⟩ (fun c_23 => ?_) (fun c_23 => ?_)
      · refine rr_vret F dX3_lay_58 ?_
        exact ⟨rfl, h4, h5, fun j a b => h6 j a (by omega), fun j a b => h7 j a (by omega), h8, h9⟩
      · exact absurd c_23 (by omega)
    | succ m ih =>
      intro i I1 L1 h1 h2 h3 h4 h5 h6 h7 h8 h9
      have hm := Int.emod_nonneg (i + t) (show n ≠ 0 by omega)
      have hm2 := Int.emod_lt_of_pos (i + t) (show 0 < n by omega)
      refine rr_iload_n F dX3_lay_18 rfl ?_
      refine rr_aload_n F dX3_lay_19 rfl ?_
      refine rg_Page_size F (by first | rfl | assumption) fl_X3_29 dX3_lay_20 ?_
      refine rr_icmp_ge F dX3_lay_23 (tgt := 58) (by decide) ⟨by omega, by omega⟩ ⟨by omega, by omega⟩ (fun c_23 => ?_) (fun c_23 => ?_)
      · exact absurd c_23 (by omega)
      · refine rr_aload_n F dX3_lay_26 rfl ?_
        refine rg_Page_tokens F (by first | rfl | assumption) fl_X3_9 dX3_lay_27 ?_
        refine rr_iload_n F dX3_lay_30 rfl ?_
        refine rr_aload_n F dX3_lay_31 rfl ?_
        refine rg_Book_tokens F (by first | rfl | assumption) fl_X3_43 dX3_lay_32 ?_
        refine rr_iload_n F dX3_lay_35 rfl ?_
        refine rr_iload_n F dX3_lay_36 rfl ?_
        refine rr_iadd F dX3_lay_37 ?_
        refine rr_aload_n F dX3_lay_38 rfl ?_
        refine rg_Page_size F (by first | rfl | assumption) fl_X3_29 dX3_lay_39 ?_
        rw [h4]
        refine rr_irem F dX3_lay_42 (by exact zI_ne0 (by omega) (by omega)) ?_
        rw [irem_z (by omega) (by omega) (by omega) (by omega)]
        refine rr_lald F (N := 40) (by first | rfl | assumption) (by omega) (by first | rfl | assumption) (by omega) dX3_lay_43 ?_
        refine rr_last F (N := 40) (by first | rfl | assumption) (by omega) (by first | rfl | assumption) (by omega) dX3_lay_44 ?_
        refine rr_aload_n F dX3_lay_45 rfl ?_
        refine rg_Page_isAside F (by first | rfl | assumption) fl_X3_23 dX3_lay_46 ?_
        refine rr_iload_n F dX3_lay_49 rfl ?_
        refine rr_iconst F dX3_lay_50 ?_
        refine rr_zast F (N := 40) (by first | rfl | assumption) (by omega) (by first | rfl | assumption) (by omega) (by decide) dX3_lay_51 ?_
        refine rr_iinc F dX3_lay_52 rfl rfl ?_
        refine rr_goto F dX3_lay_55 (tgt := 18) (by decide) ?_
        rw [h9 (c + 1) hne.2.1]
        refine ih (i + 1) _ _ (by omega) (by omega) (by omega) ?_ ?_ (fun j a b => ?_) (fun j a b => ?_) (fun q a b => ?_) (fun q a => ?_)
        · rw [up2_cell _ _ _ (by omega)]; exact h4
        · rw [up2_cell _ _ _ (by omega)]; exact h5
        · by_cases e : j = i
          · subst e; rw [up2_same]
          · rw [up2_ne _ _ _ e]; exact h6 j a (by omega)
        · by_cases e : j = i
          · subst e; rw [up2_same]
          · rw [up2_ne _ _ _ e]; exact h7 j a (by omega)
        · rw [up2_cell _ _ _ b]; exact h8 q a b
        · rw [up2_cell _ _ _ a]; exact h9 q a
  refine rr_aload_n F dX3_lay_0 rfl ?_
  refine rr_aload_n F dX3_lay_1 rfl ?_
  refine rg_Book_size F (by first | rfl | assumption) fl_X3_39 dX3_lay_2 ?_
  refine rp_Page_size F (by first | rfl | assumption) fl_X3_29 dX3_lay_5 ?_
  refine rr_aload_n F dX3_lay_8 rfl ?_
  refine rr_aload_n F dX3_lay_9 rfl ?_
  refine rg_Book_language F (by first | rfl | assumption) fl_X3_42 dX3_lay_10 ?_
  refine rp_Page_language F (by first | rfl | assumption) fl_X3_33 dX3_lay_13 ?_
  refine rr_iconst F dX3_lay_16 ?_
  refine rr_istore_n F dX3_lay_17 (Nat.le_of_ble_eq_true rfl) rfl ?_
  have e0 : (up2 I k 5 (I c 1)) c 2 = I c 2 := by rw [up2_cell _ _ _ hne.1]
  refine loop _ 0 _ _ rfl (by omega) hn0 ?_ ?_ (fun j a b => absurd b (by omega)) (fun j a b => absurd b (by omega)) (fun q a b => ?_) (fun q a => rfl)
  · rw [up2_ne _ _ _ (by decide), up2_same]; exact hsz
  · rw [up2_same, e0]
  · rw [up2_cell _ _ _ a, up2_cell _ _ _ a]
set_option maxHeartbeats 4000000 in
set_option maxRecDepth 100000 in
theorem mm_X3_findMarks {l : Launch} {g : gT} {k : Nat} {n m w : Int} {I : IM} {L : LM} {T : Int → Int64} (hk : isP k) (hn0 : 0 ≤ n) (hn : n ≤ 40) (hm0 : 2 ≤ m) (hm : m ≤ 5) (hw0 : 1 ≤ w) (hw : w ≤ 8) (hsz : I k 5 = n) (hT : ∀ i, 0 ≤ i → i < n → L (k + 1) i = T i) :
    Ct l yX3_findMarks cX3_findMarks 5 none 1 25 lyC g [.ref (g.2.1 k), .int (zI m), .int (zI w)] I L (pV (fun I' L' => I' k 7 = grm n m ∧ (∀ j, j ≠ 7 → I' k j = I k j) ∧ (∀ i, 0 ≤ i → i < grm n m → I' (k + 2) i = hsh T m i) ∧ (∀ i, 0 ≤ i → i < grm n m → I' (k + 3) i = mkF T n m w i) ∧ (∀ q, q ≠ k → q ≠ k + 2 → q ≠ k + 3 → I' q = I q) ∧ L = L')) := by
  obtain ⟨q1, q2, q3, q4, q5, q6, q7, q8, q9, q10, q11⟩ := hk.f
  have hG0 : grm n m = max 0 (n - m + 1) := rfl
  generalize hG : grm n m = G at *
  have hW0 : min w G = min w G := rfl
  generalize hWd : min w G = W at *
  refine Ct.of RX3 (by decide +kernel) rfl (Nat.le_of_ble_eq_true rfl) (fun x hx F => ?_)
  have loop2 : ∀ (c : Nat) (e : Int) (I1 : IM), c = (G + 1 - e).toNat → W ≤ e → e ≤ G + 1 → I1 k 7 = G → (∀ j, j ≠ 7 → I1 k j = I k j) → (∀ i, 0 ≤ i → i < G → I1 (k + 2) i = hsh T m i) → (∀ i, 0 ≤ i → i < G → I1 (k + 3) i = bi (MkU (hsh T m) W (e - W) i)) → (∀ q, q ≠ k → q ≠ k + 2 → q ≠ k + 3 → I1 q = I q) → Rn x lyC g (pV (fun I' L' => I' k 7 = G ∧ (∀ j, j ≠ 7 → I' k j = I k j) ∧ (∀ i, 0 ≤ i → i < G → I' (k + 2) i = hsh T m i) ∧ (∀ i, 0 ≤ i → i < G → I' (k + 3) i = mkF T n m w i) ∧ (∀ q, q ≠ k → q ≠ k + 2 → q ≠ k + 3 → I' q = I q) ∧ L = L')) 63 [vr g k, vn m, vn w, vn W, vn e] [] I1 L := by
    intro c
    induction c with
    | zero =>
      intro e I1 h1 h2 h3 h4 h5 h6 h7 h8
      have he : e = G + 1 := by omega
      refine rr_iload F dX3_findMarks_63 rfl ?_
      refine rr_aload_n F dX3_findMarks_65 rfl ?_
      refine rg_Page_grams F (by first | rfl | assumption) fl_X3_36 dX3_findMarks_66 ?_
      refine rr_icmp_gt F dX3_findMarks_69 (tgt := 98) (by decide) ⟨by omega, by omega⟩ ⟨by omega, by omega⟩ (fun c_69 => ?_) (fun c_69 => ?_)
      · refine rr_vret F dX3_findMarks_98 ?_
        refine ⟨rfl, h4, h5, h6, fun i a b => ?_, h8, rfl⟩
        rw [h7 i a b, mkF, hG, if_pos ⟨a, b⟩, hWd, he, show G + 1 - W = G - W + 1 by omega]
      · exact absurd c_69 (by omega)
    | succ c ih =>
      intro e I1 h1 h2 h3 h4 h5 h6 h7 h8
      refine rr_iload F dX3_findMarks_63 rfl ?_
      refine rr_aload_n F dX3_findMarks_65 rfl ?_
      refine rg_Page_grams F (by first | rfl | assumption) fl_X3_36 dX3_findMarks_66 ?_
      refine rr_icmp_gt F dX3_findMarks_69 (tgt := 98) (by decide) ⟨by omega, by omega⟩ ⟨by omega, by omega⟩ (fun c_69 => ?_) (fun c_69 => ?_)
      · first | exact absurd c_69 (by omega) | exact rr_vret F dX3_findMarks_98 ⟨rfl, h4, h5, h6, fun i a b => absurd b (by omega), h8, rfl⟩
      · refine rr_iload_n F dX3_findMarks_72 rfl ?_
        refine rr_if_le F dX3_findMarks_73 (tgt := 98) (by decide) ⟨by omega, by omega⟩ (fun c_73 => ?_) (fun c_73 => ?_)
        · first | exact absurd c_69 (by omega) | exact rr_vret F dX3_findMarks_98 ⟨rfl, h4, h5, h6, fun i a b => absurd b (by omega), h8, rfl⟩
        · refine rr_aload_n F dX3_findMarks_76 rfl ?_
          refine rg_Page_isMark F (by first | rfl | assumption) fl_X3_19 dX3_findMarks_77 ?_
          refine rr_aload_n F dX3_findMarks_80 rfl ?_
          refine rr_iload F dX3_findMarks_81 rfl ?_
          refine rr_iload_n F dX3_findMarks_83 rfl ?_
          refine rr_isub F dX3_findMarks_84 ?_
          refine rr_iload F dX3_findMarks_85 rfl ?_
          refine rr_callVI F (ci := 3) (mm_X3_lastOfLeast hk (by omega) (by omega) (by omega) (fun j a b => by rw [h6 j (by omega) (by omega)]; exact hsh_rg _ _ _)) mf_X3_lastOfLeast ml_X3_56 ⟨by decide, by decide⟩ (by first | rfl | assumption) (by decide) rfl rfl (Nat.le_of_ble_eq_true rfl) dX3_findMarks_87 (fun r_87 I_87 L_87 h_87 => ?_)
          obtain ⟨e87, rfl, rfl⟩ := h_87
          have hin := lolF_in (I1 (k + 2)) (e - (e - W + 1)).toNat (e - W + 1) (e - W) (e - W) e (by omega) (by omega) (by omega) (by omega)
          rw [← e87] at hin
          have hlol : r_87 = lolF (hsh T m) (W - 1).toNat (e - W + 1) (e - W) := by
            rw [e87, show e - (e - W + 1) = W - 1 by omega]
            exact lolF_congr (lo := e - W) (hi := e) (fun j a b => h6 j (by omega) (by omega)) _ _ _ (by omega) (by omega) (by omega) (by omega)
          refine rr_iconst F dX3_findMarks_90 ?_
          refine rr_zast F (N := 40) (by first | rfl | assumption) (by omega) (by first | rfl | assumption) (by omega) (by decide) dX3_findMarks_91 ?_
          refine rr_iinc F dX3_findMarks_92 rfl rfl ?_
          refine rr_goto F dX3_findMarks_95 (tgt := 63) (by decide) ?_
          refine ih (e + 1) _ (by omega) (by omega) (by omega) ?_ (fun j a => ?_) (fun i a b => ?_) (fun i a b => ?_) (fun q a b d => ?_)
          · rw [up2_cell _ _ _ (by omega)]; exact h4
          · rw [up2_cell _ _ _ (by omega)]; exact h5 j a
          · rw [up2_cell _ _ _ (by omega)]; exact h6 i a b
          · by_cases z : i = r_87
            · subst z
              rw [up2_same, bi_pos ⟨e - W, by omega, by omega, hlol⟩]
            · rw [up2_ne _ _ _ z, h7 i a b]
              refine bi_congr ⟨fun ⟨f, f1, f2, f3⟩ => ⟨f, f1, by omega, f3⟩, fun ⟨f, f1, f2, f3⟩ => ?_⟩
              by_cases y : f = e - W
              · exact absurd (f3.trans (by rw [y, hlol])) z
              · exact ⟨f, f1, by omega, f3⟩
          · rw [up2_cell _ _ _ d]; exact h8 q a b d
  have loop1 : ∀ (c : Nat) (e : Int) (I1 : IM), c = (G - e).toNat → 0 ≤ e → e ≤ G → I1 k 7 = G → (∀ j, j ≠ 7 → I1 k j = I k j) → (∀ i, 0 ≤ i → i < e → I1 (k + 2) i = hsh T m i) → (∀ i, 0 ≤ i → i < e → I1 (k + 3) i = 0) → (∀ q, q ≠ k → q ≠ k + 2 → q ≠ k + 3 → I1 q = I q) → Rn x lyC g (pV (fun I' L' => I' k 7 = G ∧ (∀ j, j ≠ 7 → I' k j = I k j) ∧ (∀ i, 0 ≤ i → i < G → I' (k + 2) i = hsh T m i) ∧ (∀ i, 0 ≤ i → i < G → I' (k + 3) i = mkF T n m w i) ∧ (∀ q, q ≠ k → q ≠ k + 2 → q ≠ k + 3 → I' q = I q) ∧ L = L')) 18 [vr g k, vn m, vn w, vn e, none] [] I1 L := by
    intro c
    induction c with
    | zero =>
      intro e I1 h1 h2 h3 h4 h5 h6 h7 h8
      have he : e = G := by omega
      refine rr_iload_n F dX3_findMarks_18 rfl ?_
      refine rr_aload_n F dX3_findMarks_19 rfl ?_
      refine rg_Page_grams F (by first | rfl | assumption) fl_X3_36 dX3_findMarks_20 ?_
      refine rr_icmp_ge F dX3_findMarks_23 (tgt := 51) (by decide) ⟨by omega, by omega⟩ ⟨by omega, by omega⟩ (fun c_23 => ?_) (fun c_23 => ?_)
      · refine rr_iload_n F dX3_findMarks_51 rfl ?_
        refine rr_aload_n F dX3_findMarks_52 rfl ?_
        refine rg_Page_grams F (by first | rfl | assumption) fl_X3_36 dX3_findMarks_53 ?_
        refine rr_min F ml_X3_53 ⟨by omega, by omega⟩ ⟨by omega, by omega⟩ (by decide) (Nat.le_of_ble_eq_true rfl) dX3_findMarks_56 ?_
        rw [h4, hWd]
        refine rr_istore_n F dX3_findMarks_59 (Nat.le_of_ble_eq_true rfl) rfl ?_
        refine rr_iload_n F dX3_findMarks_60 rfl ?_
        refine rr_istore F dX3_findMarks_61 (Nat.le_of_ble_eq_true rfl) rfl ?_
        refine loop2 _ W I1 rfl (by omega) (by omega) h4 h5 (fun i a b => h6 i a (by omega)) (fun i a b => ?_) h8
        rw [h7 i a (by omega), bi_neg]
        exact fun ⟨f, f1, f2, f3⟩ => absurd f2 (by omega)
      · exact absurd c_23 (by omega)
    | succ c ih =>
      intro e I1 h1 h2 h3 h4 h5 h6 h7 h8
      refine rr_iload_n F dX3_findMarks_18 rfl ?_
      refine rr_aload_n F dX3_findMarks_19 rfl ?_
      refine rg_Page_grams F (by first | rfl | assumption) fl_X3_36 dX3_findMarks_20 ?_
      refine rr_icmp_ge F dX3_findMarks_23 (tgt := 51) (by decide) ⟨by omega, by omega⟩ ⟨by omega, by omega⟩ (fun c_23 => ?_) (fun c_23 => ?_)
      · exact absurd c_23 (by omega)
      · refine rr_aload_n F dX3_findMarks_26 rfl ?_
        refine rg_Page_hashes F (by first | rfl | assumption) fl_X3_15 dX3_findMarks_27 ?_
        refine rr_iload_n F dX3_findMarks_30 rfl ?_
        refine rr_aload_n F dX3_findMarks_31 rfl ?_
        refine rr_iload_n F dX3_findMarks_32 rfl ?_
        refine rr_iload_n F dX3_findMarks_33 rfl ?_
        refine rr_callVI F (ci := 3) (mm_X3_hashOfGram hk (n := n) (T := T) (by omega) (by omega) (by omega) (by omega) hT) mf_X3_hashOfGram ml_X3_50 ⟨by decide, by decide⟩ (by first | rfl | assumption) (by decide) rfl rfl (Nat.le_of_ble_eq_true rfl) dX3_findMarks_34 (fun r_34 I_34 L_34 h_34 => ?_)
        obtain ⟨e34, rfl, rfl⟩ := h_34
        refine rr_iast F (N := 40) (by first | rfl | assumption) (by omega) (by first | rfl | assumption) (by omega) dX3_findMarks_37 ?_
        refine rr_aload_n F dX3_findMarks_38 rfl ?_
        refine rg_Page_isMark F (by first | rfl | assumption) fl_X3_19 dX3_findMarks_39 ?_
        refine rr_iload_n F dX3_findMarks_42 rfl ?_
        refine rr_iconst F dX3_findMarks_43 ?_
        refine rr_zast F (N := 40) (by first | rfl | assumption) (by omega) (by first | rfl | assumption) (by omega) (by decide) dX3_findMarks_44 ?_
        refine rr_iinc F dX3_findMarks_45 rfl rfl ?_
        refine rr_goto F dX3_findMarks_48 (tgt := 18) (by decide) ?_
        refine ih (e + 1) _ (by omega) (by omega) (by omega) ?_ (fun j a => ?_) (fun i a b => ?_) (fun i a b => ?_) (fun q a b d => ?_)
        · rw [up2_cell _ _ _ (by omega), up2_cell _ _ _ (by omega)]; exact h4
        · rw [up2_cell _ _ _ (by omega), up2_cell _ _ _ (by omega)]; exact h5 j a
        · rw [up2_cell _ _ _ (by omega)]
          by_cases z : i = e
          · subst z; rw [up2_same, e34]
          · rw [up2_ne _ _ _ z]; exact h6 i a (by omega)
        · by_cases z : i = e
          · subst z; rw [up2_same]
          · rw [up2_ne _ _ _ z, up2_cell _ _ _ (by omega)]; exact h7 i a (by omega)
        · rw [up2_cell _ _ _ d, up2_cell _ _ _ b]; exact h8 q a b d
  refine rr_aload_n F dX3_findMarks_0 rfl ?_
  refine rr_iconst F dX3_findMarks_1 ?_
  refine rr_aload_n F dX3_findMarks_2 rfl ?_
  refine rg_Page_size F (by first | rfl | assumption) fl_X3_29 dX3_findMarks_3 ?_
  refine rr_iload_n F dX3_findMarks_6 rfl ?_
  refine rr_isub F dX3_findMarks_7 ?_
  refine rr_iconst F dX3_findMarks_8 ?_
  refine rr_iadd F dX3_findMarks_9 ?_
  refine rr_max F ml_X3_44 ⟨by omega, by omega⟩ ⟨by omega, by omega⟩ (by decide) (Nat.le_of_ble_eq_true rfl) dX3_findMarks_10 ?_
  refine rp_Page_grams F (by first | rfl | assumption) fl_X3_36 dX3_findMarks_13 ?_
  refine rr_iconst F dX3_findMarks_16 ?_
  refine rr_istore_n F dX3_findMarks_17 (Nat.le_of_ble_eq_true rfl) rfl ?_
  refine loop1 _ 0 _ rfl (by omega) (by omega) ?_ (fun j a => ?_) (fun i a b => absurd b (by omega)) (fun i a b => absurd b (by omega)) (fun q a b d => ?_)
  · rw [up2_same, hsz, hG0]
  · rw [up2_ne _ _ _ a]
  · rw [up2_cell _ _ _ a]
