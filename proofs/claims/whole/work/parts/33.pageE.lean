/-! what stands in a given book, for two; hash, markAt, aside of the class -/
set_option maxHeartbeats 4000000 in
set_option maxRecDepth 100000 in
theorem mm_X1_setBothAside {l : Launch} {g : gT} {σ σ' : sT} {a b : Int} {I : IM} {L : LM} (hR : CR σ I L) (hW : WF σ) (ha0 : 0 ≤ a) (ha : a < 6) (hb0 : 0 ≤ b) (hb : b < 6) (hab : a ≠ b) (hs : σ'.2.2 = σ.2.2 ∧ s_sz σ' = s_sz σ ∧ s_lg σ' = s_lg σ ∧ ∀ c, c ≠ b → s_tk σ' c = s_tk σ c)
    (hA : PgS 22 I L (s_tk σ' a) (s_sz σ a) (s_lg σ a) (s_k σ) (s_w σ) (fun _ => 0)) (hB : PgS 28 I L (s_tk σ' b) (s_sz σ b) (s_lg σ b) (s_k σ) (s_w σ) (fun _ => 0)) :
    Ct l yX1_setBothAside cX1_setBothAside 5 none 2 49 lyC g [.ref (g.2.1 18), .ref (g.2.1 4), .int (zI a), .int (zI b)] I L (pV (fun I' L' => PgS 22 I' L' (s_tk σ' a) (s_sz σ a) (s_lg σ a) (s_k σ) (s_w σ) (aF σ' a) ∧ PgS 28 I' L' (s_tk σ' b) (s_sz σ b) (s_lg σ b) (s_k σ) (s_w σ) (aF σ' b) ∧ (∀ q, q < 22 ∨ 40 ≤ q → I' q = I q ∧ L' q = L q))) := by
  have P22 : isP 22 := Or.inl rfl
  have P28 : isP 28 := Or.inr (Or.inl rfl)
  have P34 : isP 34 := Or.inr (Or.inr rfl)
  have w4 := hW.2.2.2.1
  have w5 := hW.2.2.2.2.1
  have w7 := hW.2.2.2.2.2.2.1
  have w8 := hW.2.2.2.2.2.2.2.1
  have w11 := hW.2.2.2.2.2.2.2.2.2.2.1
  have w12 := hW.2.2.2.2.2.2.2.2.2.2.2
  have w4a := w4 a
  have w4b := w4 b
  have w4g := w4 (s_gv σ)
  have w5a := w5 a
  have w5b := w5 b
  have w5g := w5 (s_gv σ)
  have eg := hR.2.2.2.1
  obtain ⟨hs1, hs2, hs3, hs4⟩ := hs
  have haF : ∀ c i, aF σ' c i = bi (0 ≤ s_gv σ ∧ s_gv σ ≠ c ∧ s_lg σ c = s_lg σ (s_gv σ) ∧ AsP (s_tk σ' c) (s_sz σ c) (s_tk σ' (s_gv σ)) (s_sz σ (s_gv σ)) (s_w σ + s_k σ - 1) i) := by
    intro c i
    unfold aF s_gv s_w s_k
    rw [hs1, hs2, hs3]
  have zro : ∀ c, ¬ (0 ≤ s_gv σ ∧ s_gv σ ≠ c) → ∀ i, aF σ' c i = 0 := fun c hc i => by
    rw [haF, bi_neg]
    exact fun z => hc ⟨z.1, z.2.1⟩
  refine Ct.of RX1 (by decide +kernel) rfl (Nat.le_of_ble_eq_true rfl) (fun x hx F => ?_)
  refine rr_aload_n F dX1_setBothAside_0 rfl ?_
  refine rr_callSI F (mm_X1_asideLength hR) mf_X1_asideLength ml_X1_65 ⟨by decide, by decide⟩ rfl (Nat.le_of_ble_eq_true rfl) dX1_setBothAside_1 (fun r_1 I_1 L_1 h_1 => ?_)
  obtain ⟨rfl, rfl, rfl⟩ := h_1
  refine rr_istore F dX1_setBothAside_4 (Nat.le_of_ble_eq_true rfl) rfl ?_
  refine rr_aload_n F dX1_setBothAside_6 rfl ?_
  refine rg_Shelf_givenNumber F (by first | rfl | assumption) fl_X1_48 dX1_setBothAside_7 ?_
  refine rr_iload_n F dX1_setBothAside_10 rfl ?_
  rw [eg]
  refine rr_icmp_ne F dX1_setBothAside_11 (tgt := 30) (by decide) ⟨by omega, by omega⟩ ⟨by omega, by omega⟩ (fun c_11 => ?_) (fun c_11 => ?_)
  · refine rr_aload_n F dX1_setBothAside_30 rfl ?_
    refine rg_Shelf_givenNumber F (by first | rfl | assumption) fl_X1_48 dX1_setBothAside_31 ?_
    refine rr_iload_n F dX1_setBothAside_34 rfl ?_
    rw [eg]
    refine rr_icmp_ne F dX1_setBothAside_35 (tgt := 54) (by decide) ⟨by omega, by omega⟩ ⟨by omega, by omega⟩ (fun c_35 => ?_) (fun c_35 => ?_)
    · refine rr_aload_n F dX1_setBothAside_54 rfl ?_
      refine rr_aload_n F dX1_setBothAside_55 rfl ?_
      refine rg_Shelf_givenNumber F (by first | rfl | assumption) fl_X1_48 dX1_setBothAside_56 ?_
      rw [eg]
      refine rr_callVI F (ci := 5) (mm_X5_holds (σ := σ) ⟨by omega, by omega⟩ hR hW) mf_X5_holds ml_X1_53 ⟨by decide, by decide⟩ (by first | rfl | assumption) (by decide) rfl rfl (Nat.le_of_ble_eq_true rfl) dX1_setBothAside_59 (fun r_59 I_59 L_59 h_59 => ?_)
      obtain ⟨e59, rfl, rfl⟩ := h_59
      refine rr_if_eq F dX1_setBothAside_62 (tgt := 108) (by decide) ⟨by omega, by omega⟩ (fun c_62 => ?_) (fun c_62 => ?_)
      · refine rr_vret F dX1_setBothAside_108 ?_
        first
        | (refine ⟨rfl, hA1.as ((t2 22 (by omega) (by omega)).trans (s2 22 (by omega) (by omega))) rfl ((t2 24 (by omega) (by omega)).trans (s2 24 (by omega) (by omega))) ((t2 25 (by omega) (by omega)).trans (s2 25 (by omega) (by omega))) (fun i u v => ?_), hB2.as (t2 28 (by omega) (by omega)) rfl (t2 30 (by omega) (by omega)) (t2 31 (by omega) (by omega)) (fun i u v => ?_), fun q hq => ⟨by rw [t2 q (by omega) (by omega), s2 q (by omega) (by omega), l5 q (by omega) (by omega)], by rw [l6 q (by omega)]⟩⟩
           · rw [t2 26 (by omega) (by omega), s1 i u v, haF, hA1.2.1, l2, eb3]
             exact bi_congr ⟨fun z => ⟨by omega, by omega, z.1, z.2⟩, fun z => z.2.2⟩
           · rw [t1 i u v, haF, hB2.2.1, s2 34 (by omega) (by omega), l2, eb3]
             exact bi_congr ⟨fun z => ⟨by omega, by omega, z.1, z.2⟩, fun z => z.2.2⟩)
        | (refine ⟨rfl, hA.as (s2 22 (by omega) (by omega)) rfl (s2 24 (by omega) (by omega)) (s2 25 (by omega) (by omega)) (fun i u v => ?_), hB.as (s2 28 (by omega) (by omega)) rfl (s2 30 (by omega) (by omega)) (s2 31 (by omega) (by omega)) (fun i u v => ?_), fun q hq => ⟨s2 q (by omega) (by omega), rfl⟩⟩
           · rw [s2 26 (by omega) (by omega), zro a (by omega)]; exact hA.2.2.2.2.2.2 i u v
           · rw [s1 i u v, haF, hA.2.1, hB.2.1, c_11]
             exact bi_congr ⟨fun z => ⟨by omega, by omega, z.1, z.2⟩, fun z => z.2.2⟩)
        | (refine ⟨rfl, hA.as (s2 22 (by omega) (by omega)) rfl (s2 24 (by omega) (by omega)) (s2 25 (by omega) (by omega)) (fun i u v => ?_), hB.as (s2 28 (by omega) (by omega)) rfl (s2 30 (by omega) (by omega)) (s2 31 (by omega) (by omega)) (fun i u v => ?_), fun q hq => ⟨s2 q (by omega) (by omega), rfl⟩⟩
           · rw [s1 i u v, haF, hA.2.1, hB.2.1, c_35]
             exact bi_congr ⟨fun z => ⟨by omega, by omega, z.1, z.2⟩, fun z => z.2.2⟩
           · rw [s2 32 (by omega) (by omega), zro b (by omega)]; exact hB.2.2.2.2.2.2 i u v)
        | (have hgn : ¬ 0 ≤ s_gv σ := fun z => (by have := w12 z; omega)
           exact ⟨rfl, hA.as rfl rfl rfl rfl (fun i u v => by rw [zro a (fun z => hgn z.1)]; exact hA.2.2.2.2.2.2 i u v), hB.as rfl rfl rfl rfl (fun i u v => by rw [zro b (fun z => hgn z.1)]; exact hB.2.2.2.2.2.2 i u v), fun q hq => ⟨rfl, rfl⟩⟩)
      · refine rr_aload_n F dX1_setBothAside_65 rfl ?_
        refine rg_Comparison_third F (by first | rfl | assumption) fl_X1_35 dX1_setBothAside_66 ?_
        refine rr_cell (k2 := 34) rfl ?_
        refine rr_aload_n F dX1_setBothAside_69 rfl ?_
        refine rg_Shelf_books F (by first | rfl | assumption) fl_X1_57 dX1_setBothAside_70 ?_
        refine rr_cell (k2 := 5) rfl ?_
        refine rr_aload_n F dX1_setBothAside_73 rfl ?_
        refine rg_Shelf_givenNumber F (by first | rfl | assumption) fl_X1_48 dX1_setBothAside_74 ?_
        rw [eg]
        have hBk := bk_isB (b := s_gv σ) (by omega) (by omega)
        obtain ⟨eb1, eb2⟩ := hR.2.2.1 (s_gv σ) (by omega) (by omega)
        obtain ⟨eb2, eb3, eb4, eb5⟩ := eb2 (by omega)
        refine rr_aald F (N := 6) (by first | rfl | assumption) (by omega) (by first | rfl | assumption) (by omega) dX1_setBothAside_77 ?_
        refine rr_bk ?_
        refine rr_iconst F dX1_setBothAside_78 ?_
        refine rr_callVV F (ci := 3) (mm_X3_lay P34 hBk (n := s_sz σ (s_gv σ)) (by omega) (by omega) (by omega) (by omega) eb2) mf_X3_lay ml_X1_61 ⟨by decide, by decide⟩ (by first | rfl | assumption) (by decide) rfl rfl (Nat.le_of_ble_eq_true rfl) dX1_setBothAside_79 (fun I_79 L_79 h_79 => ?_)
        obtain ⟨l1, l2, l3, l4, l5, l6⟩ := h_79
        have hA1 := hA.fr (l5 22 (by omega) (by omega)) (l6 23 (by omega)) (l5 24 (by omega) (by omega)) (l5 25 (by omega) (by omega)) (l5 26 (by omega) (by omega))
        have hB1 := hB.fr (l5 28 (by omega) (by omega)) (l6 29 (by omega)) (l5 30 (by omega) (by omega)) (l5 31 (by omega) (by omega)) (l5 32 (by omega) (by omega))
        have lt : ∀ j, 0 ≤ j → j < s_sz σ (s_gv σ) → L_79 35 j = s_tk σ' (s_gv σ) j := fun j u v => by
          rw [l3 j u v, show j + 0 = j by omega, Int.emod_eq_of_lt u v, hs4 _ (by omega)]; exact eb5 j u v
        refine rr_aload_n F dX1_setBothAside_82 rfl ?_
        refine rg_Comparison_left F (by first | rfl | assumption) fl_X1_28 dX1_setBothAside_83 ?_
        refine rr_cell (k2 := 22) rfl ?_
        refine rr_aload_n F dX1_setBothAside_86 rfl ?_
        refine rg_Comparison_third F (by first | rfl | assumption) fl_X1_35 dX1_setBothAside_87 ?_
        refine rr_cell (k2 := 34) rfl ?_
        refine rr_iload F dX1_setBothAside_90 rfl ?_
        refine rr_callVV F (ci := 3) (mm_X3_setAside P22 P34 (by decide) (n := s_sz σ a) (m := s_sz σ (s_gv σ)) (T := s_tk σ' a) (G := s_tk σ' (s_gv σ)) (by omega) (by omega) (by omega) (by omega) (by omega) (by omega) hA1.1 l1 (by rw [hA1.2.1]; exact ⟨by omega, by omega⟩) (by rw [l2, eb3]; exact ⟨by omega, by omega⟩) hA1.2.2.2.1 lt hA1.2.2.2.2.2.2) mf_X3_setAside ml_X1_69 ⟨by decide, by decide⟩ (by first | rfl | assumption) (by decide) rfl rfl (Nat.le_of_ble_eq_true rfl) dX1_setBothAside_92 (fun I_92 L_92 h_92 => ?_)
        obtain ⟨s1, s2, rfl⟩ := h_92
        have hB2 := hB1.fr (s2 28 (by omega) (by omega)) rfl (s2 30 (by omega) (by omega)) (s2 31 (by omega) (by omega)) (s2 32 (by omega) (by omega))
        refine rr_aload_n F dX1_setBothAside_95 rfl ?_
        refine rg_Comparison_right F (by first | rfl | assumption) fl_X1_32 dX1_setBothAside_96 ?_
        refine rr_cell (k2 := 28) rfl ?_
        refine rr_aload_n F dX1_setBothAside_99 rfl ?_
        refine rg_Comparison_third F (by first | rfl | assumption) fl_X1_35 dX1_setBothAside_100 ?_
        refine rr_cell (k2 := 34) rfl ?_
        refine rr_iload F dX1_setBothAside_103 rfl ?_
        refine rr_callVV F (ci := 3) (mm_X3_setAside P28 P34 (by decide) (n := s_sz σ b) (m := s_sz σ (s_gv σ)) (T := s_tk σ' b) (G := s_tk σ' (s_gv σ)) (by omega) (by omega) (by omega) (by omega) (by omega) (by omega) hB2.1 (by rw [s2 34 (by omega) (by omega)]; exact l1) (by rw [hB2.2.1]; exact ⟨by omega, by omega⟩) (by rw [s2 34 (by omega) (by omega), l2, eb3]; exact ⟨by omega, by omega⟩) hB2.2.2.2.1 lt hB2.2.2.2.2.2.2) mf_X3_setAside ml_X1_69 ⟨by decide, by decide⟩ (by first | rfl | assumption) (by decide) rfl rfl (Nat.le_of_ble_eq_true rfl) dX1_setBothAside_105 (fun I_105 L_105 h_105 => ?_)
        obtain ⟨t1, t2, rfl⟩ := h_105
        refine rr_vret F dX1_setBothAside_108 ?_
        first
        | (refine ⟨rfl, hA1.as ((t2 22 (by omega) (by omega)).trans (s2 22 (by omega) (by omega))) rfl ((t2 24 (by omega) (by omega)).trans (s2 24 (by omega) (by omega))) ((t2 25 (by omega) (by omega)).trans (s2 25 (by omega) (by omega))) (fun i u v => ?_), hB2.as (t2 28 (by omega) (by omega)) rfl (t2 30 (by omega) (by omega)) (t2 31 (by omega) (by omega)) (fun i u v => ?_), fun q hq => ⟨by rw [t2 q (by omega) (by omega), s2 q (by omega) (by omega), l5 q (by omega) (by omega)], by rw [l6 q (by omega)]⟩⟩
           · rw [t2 26 (by omega) (by omega), s1 i u v, haF, hA1.2.1, l2, eb3]
             exact bi_congr ⟨fun z => ⟨by omega, by omega, z.1, z.2⟩, fun z => z.2.2⟩
           · rw [t1 i u v, haF, hB2.2.1, s2 34 (by omega) (by omega), l2, eb3]
             exact bi_congr ⟨fun z => ⟨by omega, by omega, z.1, z.2⟩, fun z => z.2.2⟩)
        | (refine ⟨rfl, hA.as (s2 22 (by omega) (by omega)) rfl (s2 24 (by omega) (by omega)) (s2 25 (by omega) (by omega)) (fun i u v => ?_), hB.as (s2 28 (by omega) (by omega)) rfl (s2 30 (by omega) (by omega)) (s2 31 (by omega) (by omega)) (fun i u v => ?_), fun q hq => ⟨s2 q (by omega) (by omega), rfl⟩⟩
           · rw [s2 26 (by omega) (by omega), zro a (by omega)]; exact hA.2.2.2.2.2.2 i u v
           · rw [s1 i u v, haF, hA.2.1, hB.2.1, c_11]
             exact bi_congr ⟨fun z => ⟨by omega, by omega, z.1, z.2⟩, fun z => z.2.2⟩)
        | (refine ⟨rfl, hA.as (s2 22 (by omega) (by omega)) rfl (s2 24 (by omega) (by omega)) (s2 25 (by omega) (by omega)) (fun i u v => ?_), hB.as (s2 28 (by omega) (by omega)) rfl (s2 30 (by omega) (by omega)) (s2 31 (by omega) (by omega)) (fun i u v => ?_), fun q hq => ⟨s2 q (by omega) (by omega), rfl⟩⟩
           · rw [s1 i u v, haF, hA.2.1, hB.2.1, c_35]
             exact bi_congr ⟨fun z => ⟨by omega, by omega, z.1, z.2⟩, fun z => z.2.2⟩
           · rw [s2 32 (by omega) (by omega), zro b (by omega)]; exact hB.2.2.2.2.2.2 i u v)
        | (have hgn : ¬ 0 ≤ s_gv σ := fun z => (by have := w12 z; omega)
           exact ⟨rfl, hA.as rfl rfl rfl rfl (fun i u v => by rw [zro a (fun z => hgn z.1)]; exact hA.2.2.2.2.2.2 i u v), hB.as rfl rfl rfl rfl (fun i u v => by rw [zro b (fun z => hgn z.1)]; exact hB.2.2.2.2.2.2 i u v), fun q hq => ⟨rfl, rfl⟩⟩)
    · refine rr_aload_n F dX1_setBothAside_38 rfl ?_
      refine rg_Comparison_left F (by first | rfl | assumption) fl_X1_28 dX1_setBothAside_39 ?_
      refine rr_cell (k2 := 22) rfl ?_
      refine rr_aload_n F dX1_setBothAside_42 rfl ?_
      refine rg_Comparison_right F (by first | rfl | assumption) fl_X1_32 dX1_setBothAside_43 ?_
      refine rr_cell (k2 := 28) rfl ?_
      refine rr_iload F dX1_setBothAside_46 rfl ?_
      refine rr_callVV F (ci := 3) (mm_X3_setAside P22 P28 (by decide) (n := s_sz σ a) (m := s_sz σ b) (T := s_tk σ' a) (G := s_tk σ' b) (by omega) (by omega) (by omega) (by omega) (by omega) (by omega) hA.1 hB.1 (by rw [hA.2.1]; exact ⟨by omega, by omega⟩) (by rw [hB.2.1]; exact ⟨by omega, by omega⟩) hA.2.2.2.1 hB.2.2.2.1 hA.2.2.2.2.2.2) mf_X3_setAside ml_X1_69 ⟨by decide, by decide⟩ (by first | rfl | assumption) (by decide) rfl rfl (Nat.le_of_ble_eq_true rfl) dX1_setBothAside_48 (fun I_48 L_48 h_48 => ?_)
      obtain ⟨s1, s2, rfl⟩ := h_48
      refine rr_goto F dX1_setBothAside_51 (tgt := 108) (by decide) ?_
      refine rr_vret F dX1_setBothAside_108 ?_
      first
      | (refine ⟨rfl, hA1.as ((t2 22 (by omega) (by omega)).trans (s2 22 (by omega) (by omega))) rfl ((t2 24 (by omega) (by omega)).trans (s2 24 (by omega) (by omega))) ((t2 25 (by omega) (by omega)).trans (s2 25 (by omega) (by omega))) (fun i u v => ?_), hB2.as (t2 28 (by omega) (by omega)) rfl (t2 30 (by omega) (by omega)) (t2 31 (by omega) (by omega)) (fun i u v => ?_), fun q hq => ⟨by rw [t2 q (by omega) (by omega), s2 q (by omega) (by omega), l5 q (by omega) (by omega)], by rw [l6 q (by omega)]⟩⟩
         · rw [t2 26 (by omega) (by omega), s1 i u v, haF, hA1.2.1, l2, eb3]
           exact bi_congr ⟨fun z => ⟨by omega, by omega, z.1, z.2⟩, fun z => z.2.2⟩
         · rw [t1 i u v, haF, hB2.2.1, s2 34 (by omega) (by omega), l2, eb3]
           exact bi_congr ⟨fun z => ⟨by omega, by omega, z.1, z.2⟩, fun z => z.2.2⟩)
      | (refine ⟨rfl, hA.as (s2 22 (by omega) (by omega)) rfl (s2 24 (by omega) (by omega)) (s2 25 (by omega) (by omega)) (fun i u v => ?_), hB.as (s2 28 (by omega) (by omega)) rfl (s2 30 (by omega) (by omega)) (s2 31 (by omega) (by omega)) (fun i u v => ?_), fun q hq => ⟨s2 q (by omega) (by omega), rfl⟩⟩
         · rw [s2 26 (by omega) (by omega), zro a (by omega)]; exact hA.2.2.2.2.2.2 i u v
         · rw [s1 i u v, haF, hA.2.1, hB.2.1, c_11]
           exact bi_congr ⟨fun z => ⟨by omega, by omega, z.1, z.2⟩, fun z => z.2.2⟩)
      | (refine ⟨rfl, hA.as (s2 22 (by omega) (by omega)) rfl (s2 24 (by omega) (by omega)) (s2 25 (by omega) (by omega)) (fun i u v => ?_), hB.as (s2 28 (by omega) (by omega)) rfl (s2 30 (by omega) (by omega)) (s2 31 (by omega) (by omega)) (fun i u v => ?_), fun q hq => ⟨s2 q (by omega) (by omega), rfl⟩⟩
         · rw [s1 i u v, haF, hA.2.1, hB.2.1, c_35]
           exact bi_congr ⟨fun z => ⟨by omega, by omega, z.1, z.2⟩, fun z => z.2.2⟩
         · rw [s2 32 (by omega) (by omega), zro b (by omega)]; exact hB.2.2.2.2.2.2 i u v)
      | (have hgn : ¬ 0 ≤ s_gv σ := fun z => (by have := w12 z; omega)
         exact ⟨rfl, hA.as rfl rfl rfl rfl (fun i u v => by rw [zro a (fun z => hgn z.1)]; exact hA.2.2.2.2.2.2 i u v), hB.as rfl rfl rfl rfl (fun i u v => by rw [zro b (fun z => hgn z.1)]; exact hB.2.2.2.2.2.2 i u v), fun q hq => ⟨rfl, rfl⟩⟩)
  · refine rr_aload_n F dX1_setBothAside_14 rfl ?_
    refine rg_Comparison_right F (by first | rfl | assumption) fl_X1_32 dX1_setBothAside_15 ?_
    refine rr_cell (k2 := 28) rfl ?_
    refine rr_aload_n F dX1_setBothAside_18 rfl ?_
    refine rg_Comparison_left F (by first | rfl | assumption) fl_X1_28 dX1_setBothAside_19 ?_
    refine rr_cell (k2 := 22) rfl ?_
    refine rr_iload F dX1_setBothAside_22 rfl ?_
    refine rr_callVV F (ci := 3) (mm_X3_setAside P28 P22 (by decide) (n := s_sz σ b) (m := s_sz σ a) (T := s_tk σ' b) (G := s_tk σ' a) (by omega) (by omega) (by omega) (by omega) (by omega) (by omega) hB.1 hA.1 (by rw [hB.2.1]; exact ⟨by omega, by omega⟩) (by rw [hA.2.1]; exact ⟨by omega, by omega⟩) hB.2.2.2.1 hA.2.2.2.1 hB.2.2.2.2.2.2) mf_X3_setAside ml_X1_69 ⟨by decide, by decide⟩ (by first | rfl | assumption) (by decide) rfl rfl (Nat.le_of_ble_eq_true rfl) dX1_setBothAside_24 (fun I_24 L_24 h_24 => ?_)
    obtain ⟨s1, s2, rfl⟩ := h_24
    refine rr_goto F dX1_setBothAside_27 (tgt := 108) (by decide) ?_
    refine rr_vret F dX1_setBothAside_108 ?_
    first
    | (refine ⟨rfl, hA1.as ((t2 22 (by omega) (by omega)).trans (s2 22 (by omega) (by omega))) rfl ((t2 24 (by omega) (by omega)).trans (s2 24 (by omega) (by omega))) ((t2 25 (by omega) (by omega)).trans (s2 25 (by omega) (by omega))) (fun i u v => ?_), hB2.as (t2 28 (by omega) (by omega)) rfl (t2 30 (by omega) (by omega)) (t2 31 (by omega) (by omega)) (fun i u v => ?_), fun q hq => ⟨by rw [t2 q (by omega) (by omega), s2 q (by omega) (by omega), l5 q (by omega) (by omega)], by rw [l6 q (by omega)]⟩⟩
       · rw [t2 26 (by omega) (by omega), s1 i u v, haF, hA1.2.1, l2, eb3]
         exact bi_congr ⟨fun z => ⟨by omega, by omega, z.1, z.2⟩, fun z => z.2.2⟩
       · rw [t1 i u v, haF, hB2.2.1, s2 34 (by omega) (by omega), l2, eb3]
         exact bi_congr ⟨fun z => ⟨by omega, by omega, z.1, z.2⟩, fun z => z.2.2⟩)
    | (refine ⟨rfl, hA.as (s2 22 (by omega) (by omega)) rfl (s2 24 (by omega) (by omega)) (s2 25 (by omega) (by omega)) (fun i u v => ?_), hB.as (s2 28 (by omega) (by omega)) rfl (s2 30 (by omega) (by omega)) (s2 31 (by omega) (by omega)) (fun i u v => ?_), fun q hq => ⟨s2 q (by omega) (by omega), rfl⟩⟩
       · rw [s2 26 (by omega) (by omega), zro a (by omega)]; exact hA.2.2.2.2.2.2 i u v
       · rw [s1 i u v, haF, hA.2.1, hB.2.1, c_11]
         exact bi_congr ⟨fun z => ⟨by omega, by omega, z.1, z.2⟩, fun z => z.2.2⟩)
    | (refine ⟨rfl, hA.as (s2 22 (by omega) (by omega)) rfl (s2 24 (by omega) (by omega)) (s2 25 (by omega) (by omega)) (fun i u v => ?_), hB.as (s2 28 (by omega) (by omega)) rfl (s2 30 (by omega) (by omega)) (s2 31 (by omega) (by omega)) (fun i u v => ?_), fun q hq => ⟨s2 q (by omega) (by omega), rfl⟩⟩
       · rw [s1 i u v, haF, hA.2.1, hB.2.1, c_35]
         exact bi_congr ⟨fun z => ⟨by omega, by omega, z.1, z.2⟩, fun z => z.2.2⟩
       · rw [s2 32 (by omega) (by omega), zro b (by omega)]; exact hB.2.2.2.2.2.2 i u v)
    | (have hgn : ¬ 0 ≤ s_gv σ := fun z => (by have := w12 z; omega)
       exact ⟨rfl, hA.as rfl rfl rfl rfl (fun i u v => by rw [zro a (fun z => hgn z.1)]; exact hA.2.2.2.2.2.2 i u v), hB.as rfl rfl rfl rfl (fun i u v => by rw [zro b (fun z => hgn z.1)]; exact hB.2.2.2.2.2.2 i u v), fun q hq => ⟨rfl, rfl⟩⟩)
def sp_hash (σ : sT) (b j : Int) : Int := if rB σ b = 0 then (if 0 ≤ j ∧ j < grm (s_sz σ b) (s_k σ) then hsh (s_tk σ b) (s_k σ) j else -4) else rB σ b
noncomputable def sp_markAt (σ : sT) (b i : Int) : Int := if i < -1 then -1 else if rB σ b = 0 then (if i = -1 then cntF (mF σ b) 40 0 0 else nthF (mF σ b) i 40 0 0) else rB σ b
noncomputable def sp_aside (σ : sT) (b i : Int) : Int := if i < 0 then -1 else if rB σ b = 0 then (if s_sz σ b ≤ i then -1 else aF σ b i) else rB σ b
set_option maxHeartbeats 4000000 in
set_option maxRecDepth 100000 in
theorem mm_X7_hash {l : Launch} {g : gT} {σ : sT} {b j : Int} {I : IM} {L : LM} (hb : rg b) (hj : rg j) (hR : CR σ I L) (hW : WF σ) :
    Ct l yX7_hash cX7_hash 5 (some .int) 4 94 lyC g [.ref (g.2.1 0), .int (zI b), .int (zI j)] I L (pS CR (sp_hash σ b j, σ)) := by
  have hc := rB_cases σ b
  have w4 := hW.2.2.2.1 b
  have w7 := hW.2.2.2.2.2.2.1
  have hj' := hj
  unfold rg at hj'
  have gb := grm_b w4.1 w4.2 w7.1
  refine Ct.of RX7 (by decide +kernel) rfl (Nat.le_of_ble_eq_true rfl) (fun x hx F => ?_)
  refine rr_aload_n F dX7_hash_0 rfl ?_
  refine rr_iload_n F dX7_hash_1 rfl ?_
  refine rr_callVI F (ci := 7) (mm_X7_refusalOfBook hb hR hW) mf_X7_refusalOfBook ml_X7_83 ⟨by decide, by decide⟩ (by first | rfl | assumption) (by decide) rfl rfl (Nat.le_of_ble_eq_true rfl) dX7_hash_2 (fun r_2 I_2 L_2 h_2 => ?_)
  obtain ⟨e2, rfl, rfl⟩ := h_2
  refine rr_istore_n F dX7_hash_5 (Nat.le_of_ble_eq_true rfl) rfl ?_
  refine rr_iload_n F dX7_hash_6 rfl ?_
  refine rr_if_eq F dX7_hash_7 (tgt := 12) (by decide) ⟨by omega, by omega⟩ (fun c_7 => ?_) (fun c_7 => ?_)
  · refine rr_aload_n F dX7_hash_12 rfl ?_
    refine rg_BP_comparison F (by first | rfl | assumption) fl_X7_33 dX7_hash_13 ?_
    refine rr_cell (k2 := 18) rfl ?_
    refine rr_aload_n F dX7_hash_16 rfl ?_
    refine rg_BP_shelf F (by first | rfl | assumption) fl_X7_26 dX7_hash_17 ?_
    refine rr_cell (k2 := 4) rfl ?_
    refine rr_iload_n F dX7_hash_20 rfl ?_
    refine rr_callVR F (ci := 1) (mm_X1_pageOf hR hW (by omega) (by omega) (by omega)) mf_X1_pageOf ml_X7_117 ⟨by decide, by decide⟩ (by first | rfl | assumption) (by decide) rfl rfl (Nat.le_of_ble_eq_true rfl) dX7_hash_21 (fun r_21 I_21 L_21 h_21 => ?_)
    obtain ⟨rfl, g1, g2⟩ := h_21
    have eG := g1.2.2.1
    refine rr_astore F dX7_hash_24 (Nat.le_of_ble_eq_true rfl) rfl ?_
    refine rr_iload_n F dX7_hash_26 rfl ?_
    refine rr_if_lt F dX7_hash_27 (tgt := 49) (by decide) ⟨by omega, by omega⟩ (fun c_27 => ?_) (fun c_27 => ?_)
    · refine rr_bipush F dX7_hash_49 (by decide) ?_
      refine rr_iret F dX7_hash_51 ?_
      refine ⟨_, rfl, ?_, hR.k g2⟩
      show _ = sp_hash σ b j
      rw [sp_hash, if_pos (by omega)]
      first | (rw [if_neg (by omega)]; done) | (rw [if_pos (by omega)]; exact g1.2.2.2.2.1 j (by omega) (by omega))
    · refine rr_iload_n F dX7_hash_30 rfl ?_
      refine rr_aload F dX7_hash_31 rfl ?_
      refine rg_Page_grams F (by first | rfl | assumption) fl_X7_121 dX7_hash_33 ?_
      refine rr_icmp_ge F dX7_hash_36 (tgt := 49) (by decide) ⟨by omega, by omega⟩ ⟨by omega, by omega⟩ (fun c_36 => ?_) (fun c_36 => ?_)
      · refine rr_bipush F dX7_hash_49 (by decide) ?_
        refine rr_iret F dX7_hash_51 ?_
        refine ⟨_, rfl, ?_, hR.k g2⟩
        show _ = sp_hash σ b j
        rw [sp_hash, if_pos (by omega)]
        first | (rw [if_neg (by omega)]; done) | (rw [if_pos (by omega)]; exact g1.2.2.2.2.1 j (by omega) (by omega))
      · refine rr_aload F dX7_hash_39 rfl ?_
        refine rg_Page_hashes F (by first | rfl | assumption) fl_X7_126 dX7_hash_41 ?_
        refine rr_iload_n F dX7_hash_44 rfl ?_
        refine rr_iald F (N := 40) (by first | rfl | assumption) (by omega) (by first | rfl | assumption) (by omega) dX7_hash_45 ?_
        refine rr_goto F dX7_hash_46 (tgt := 51) (by decide) ?_
        refine rr_iret F dX7_hash_51 ?_
        refine ⟨_, rfl, ?_, hR.k g2⟩
        show _ = sp_hash σ b j
        rw [sp_hash, if_pos (by omega)]
        first | (rw [if_neg (by omega)]; done) | (rw [if_pos (by omega)]; exact g1.2.2.2.2.1 j (by omega) (by omega))
  · refine rr_iload_n F dX7_hash_10 rfl ?_
    refine rr_iret F dX7_hash_11 ?_
    refine ⟨_, rfl, ?_, hR⟩
    show _ = sp_hash σ b j
    rw [sp_hash, if_neg (by omega)]; exact e2
set_option maxHeartbeats 4000000 in
set_option maxRecDepth 100000 in
theorem mm_X7_markAt {l : Launch} {g : gT} {σ : sT} {b j : Int} {I : IM} {L : LM} (hb : rg b) (hj : rg j) (hR : CR σ I L) (hW : WF σ) :
    Ct l yX7_markAt cX7_markAt 5 (some .int) 4 94 lyC g [.ref (g.2.1 0), .int (zI b), .int (zI j)] I L (pS CR (sp_markAt σ b j, σ)) := by
  have hc := rB_cases σ b
  have w4 := hW.2.2.2.1 b
  have w7 := hW.2.2.2.2.2.2.1
  have hj' := hj
  unfold rg at hj'
  have P22 : isP 22 := Or.inl rfl
  have gb := grm_b w4.1 w4.2 w7.1
  have e40 : (40 : Nat) = (grm (s_sz σ b) (s_k σ)).toNat + (40 - (grm (s_sz σ b) (s_k σ)).toNat) := by omega
  have hz : ∀ j, 0 + ((grm (s_sz σ b) (s_k σ)).toNat : Int) ≤ j → j < 0 + ((grm (s_sz σ b) (s_k σ)).toNat : Int) + ((40 - (grm (s_sz σ b) (s_k σ)).toNat : Nat) : Int) → mF σ b j = 0 := fun j a _ => by
    rw [mF, mkF, if_neg (by omega)]
  have hc1 : cntF (mF σ b) 40 0 0 = cntF (mF σ b) (grm (s_sz σ b) (s_k σ)).toNat 0 0 := by
    have := cntF_more (m := mF σ b) (40 - (grm (s_sz σ b) (s_k σ)).toNat) (grm (s_sz σ b) (s_k σ)).toNat 0 0 hz
    rwa [← e40] at this
  have hc2 : nthF (mF σ b) j 40 0 0 = nthF (mF σ b) j (grm (s_sz σ b) (s_k σ)).toNat 0 0 := by
    have := nthF_more (m := mF σ b) (t := j) (40 - (grm (s_sz σ b) (s_k σ)).toNat) (grm (s_sz σ b) (s_k σ)).toNat 0 0 hz
    rwa [← e40] at this
  refine Ct.of RX7 (by decide +kernel) rfl (Nat.le_of_ble_eq_true rfl) (fun x hx F => ?_)
  refine rr_iload_n F dX7_markAt_0 rfl ?_
  refine rr_iconst F dX7_markAt_1 ?_
  refine rr_icmp_ge F dX7_markAt_2 (tgt := 9) (by decide) ⟨by omega, by omega⟩ ⟨by omega, by omega⟩ (fun c_2 => ?_) (fun c_2 => ?_)
  · refine rr_aload_n F dX7_markAt_9 rfl ?_
    refine rr_iload_n F dX7_markAt_10 rfl ?_
    refine rr_callVI F (ci := 7) (mm_X7_refusalOfBook hb hR hW) mf_X7_refusalOfBook ml_X7_83 ⟨by decide, by decide⟩ (by first | rfl | assumption) (by decide) rfl rfl (Nat.le_of_ble_eq_true rfl) dX7_markAt_11 (fun r_11 I_11 L_11 h_11 => ?_)
    obtain ⟨e2, rfl, rfl⟩ := h_11
    refine rr_istore_n F dX7_markAt_14 (Nat.le_of_ble_eq_true rfl) rfl ?_
    refine rr_iload_n F dX7_markAt_15 rfl ?_
    refine rr_if_eq F dX7_markAt_16 (tgt := 21) (by decide) ⟨by omega, by omega⟩ (fun c_16 => ?_) (fun c_16 => ?_)
    · refine rr_aload_n F dX7_markAt_21 rfl ?_
      refine rg_BP_comparison F (by first | rfl | assumption) fl_X7_33 dX7_markAt_22 ?_
      refine rr_cell (k2 := 18) rfl ?_
      refine rr_aload_n F dX7_markAt_25 rfl ?_
      refine rg_BP_shelf F (by first | rfl | assumption) fl_X7_26 dX7_markAt_26 ?_
      refine rr_cell (k2 := 4) rfl ?_
      refine rr_iload_n F dX7_markAt_29 rfl ?_
      refine rr_callVR F (ci := 1) (mm_X1_pageOf hR hW (by omega) (by omega) (by omega)) mf_X1_pageOf ml_X7_117 ⟨by decide, by decide⟩ (by first | rfl | assumption) (by decide) rfl rfl (Nat.le_of_ble_eq_true rfl) dX7_markAt_30 (fun r_30 I_30 L_30 h_30 => ?_)
      obtain ⟨rfl, g1, g2⟩ := h_30
      refine rr_astore F dX7_markAt_33 (Nat.le_of_ble_eq_true rfl) rfl ?_
      refine rr_iload_n F dX7_markAt_35 rfl ?_
      refine rr_iconst F dX7_markAt_36 ?_
      refine rr_icmp_ne F dX7_markAt_37 (tgt := 48) (by decide) ⟨by omega, by omega⟩ ⟨by omega, by omega⟩ (fun c_37 => ?_) (fun c_37 => ?_)
      · refine rr_aload F dX7_markAt_48 rfl ?_
        refine rr_iload_n F dX7_markAt_50 rfl ?_
        refine rr_callVI F (ci := 3) (mm_X3_gramOfMark P22 (m := mF σ b) (by omega) gb.2.1 hj g1.2.2.1 g1.2.2.2.2.2.1 (fun j => mkF_01 _ _ _ _ j)) mf_X3_gramOfMark ml_X7_134 ⟨by decide, by decide⟩ (by first | rfl | assumption) (by decide) rfl rfl (Nat.le_of_ble_eq_true rfl) dX7_markAt_51 (fun r_51 I_51 L_51 h_51 => ?_)
        obtain ⟨e51, rfl, rfl⟩ := h_51
        refine rr_iret F dX7_markAt_54 ?_
        refine ⟨_, rfl, ?_, hR.k g2⟩
        show _ = sp_markAt σ b j
        rw [sp_markAt, if_neg (by omega), if_pos (by omega)]
        first | (rw [if_pos (by omega), hc1]; exact e42) | (rw [if_neg (by omega), hc2]; exact e51)
      · refine rr_aload F dX7_markAt_40 rfl ?_
        refine rr_callVI F (ci := 3) (mm_X3_howManyMarks P22 (m := mF σ b) (by omega) gb.2.1 g1.2.2.1 g1.2.2.2.2.2.1 (fun j => mkF_01 _ _ _ _ j)) mf_X3_howManyMarks ml_X7_130 ⟨by decide, by decide⟩ (by first | rfl | assumption) (by decide) rfl rfl (Nat.le_of_ble_eq_true rfl) dX7_markAt_42 (fun r_42 I_42 L_42 h_42 => ?_)
        obtain ⟨e42, rfl, rfl⟩ := h_42
        refine rr_goto F dX7_markAt_45 (tgt := 54) (by decide) ?_
        refine rr_iret F dX7_markAt_54 ?_
        refine ⟨_, rfl, ?_, hR.k g2⟩
        show _ = sp_markAt σ b j
        rw [sp_markAt, if_neg (by omega), if_pos (by omega)]
        first | (rw [if_pos (by omega), hc1]; exact e42) | (rw [if_neg (by omega), hc2]; exact e51)
    · refine rr_iload_n F dX7_markAt_19 rfl ?_
      refine rr_iret F dX7_markAt_20 ?_
      refine ⟨_, rfl, ?_, hR⟩
      show _ = sp_markAt σ b j
      first | (rw [sp_markAt, if_pos (by omega)]; done) | (rw [sp_markAt, if_neg (by omega), if_neg (by omega)]; exact e2)
  · refine rr_iconst F dX7_markAt_5 ?_
    refine rr_goto F dX7_markAt_6 (tgt := 14) (by decide) ?_
    refine rr_istore_n F dX7_markAt_14 (Nat.le_of_ble_eq_true rfl) rfl ?_
    refine rr_iload_n F dX7_markAt_15 rfl ?_
    refine rr_if_eq F dX7_markAt_16 (tgt := 21) (by decide) ⟨by omega, by omega⟩ (fun c_16 => ?_) (fun c_16 => ?_)
    · refine rr_aload_n F dX7_markAt_21 rfl ?_
      refine rg_BP_comparison F (by first | rfl | assumption) fl_X7_33 dX7_markAt_22 ?_
      refine rr_cell (k2 := 18) rfl ?_
      refine rr_aload_n F dX7_markAt_25 rfl ?_
      refine rg_BP_shelf F (by first | rfl | assumption) fl_X7_26 dX7_markAt_26 ?_
      refine rr_cell (k2 := 4) rfl ?_
      refine rr_iload_n F dX7_markAt_29 rfl ?_
      refine rr_callVR F (ci := 1) (mm_X1_pageOf hR hW (by omega) (by omega) (by omega)) mf_X1_pageOf ml_X7_117 ⟨by decide, by decide⟩ (by first | rfl | assumption) (by decide) rfl rfl (Nat.le_of_ble_eq_true rfl) dX7_markAt_30 (fun r_30 I_30 L_30 h_30 => ?_)
      obtain ⟨rfl, g1, g2⟩ := h_30
      refine rr_astore F dX7_markAt_33 (Nat.le_of_ble_eq_true rfl) rfl ?_
      refine rr_iload_n F dX7_markAt_35 rfl ?_
      refine rr_iconst F dX7_markAt_36 ?_
      refine rr_icmp_ne F dX7_markAt_37 (tgt := 48) (by decide) ⟨by omega, by omega⟩ ⟨by omega, by omega⟩ (fun c_37 => ?_) (fun c_37 => ?_)
      · refine rr_aload F dX7_markAt_48 rfl ?_
        refine rr_iload_n F dX7_markAt_50 rfl ?_
        refine rr_callVI F (ci := 3) (mm_X3_gramOfMark P22 (m := mF σ b) (by omega) gb.2.1 hj g1.2.2.1 g1.2.2.2.2.2.1 (fun j => mkF_01 _ _ _ _ j)) mf_X3_gramOfMark ml_X7_134 ⟨by decide, by decide⟩ (by first | rfl | assumption) (by decide) rfl rfl (Nat.le_of_ble_eq_true rfl) dX7_markAt_51 (fun r_51 I_51 L_51 h_51 => ?_)
        obtain ⟨e51, rfl, rfl⟩ := h_51
        refine rr_iret F dX7_markAt_54 ?_
        refine ⟨_, rfl, ?_, hR.k g2⟩
        show _ = sp_markAt σ b j
        rw [sp_markAt, if_neg (by omega), if_pos (by omega)]
        first | (rw [if_pos (by omega), hc1]; exact e42) | (rw [if_neg (by omega), hc2]; exact e51)
      · refine rr_aload F dX7_markAt_40 rfl ?_
        refine rr_callVI F (ci := 3) (mm_X3_howManyMarks P22 (m := mF σ b) (by omega) gb.2.1 g1.2.2.1 g1.2.2.2.2.2.1 (fun j => mkF_01 _ _ _ _ j)) mf_X3_howManyMarks ml_X7_130 ⟨by decide, by decide⟩ (by first | rfl | assumption) (by decide) rfl rfl (Nat.le_of_ble_eq_true rfl) dX7_markAt_42 (fun r_42 I_42 L_42 h_42 => ?_)
        obtain ⟨e42, rfl, rfl⟩ := h_42
        refine rr_goto F dX7_markAt_45 (tgt := 54) (by decide) ?_
        refine rr_iret F dX7_markAt_54 ?_
        refine ⟨_, rfl, ?_, hR.k g2⟩
        show _ = sp_markAt σ b j
        rw [sp_markAt, if_neg (by omega), if_pos (by omega)]
        first | (rw [if_pos (by omega), hc1]; exact e42) | (rw [if_neg (by omega), hc2]; exact e51)
    · refine rr_iload_n F dX7_markAt_19 rfl ?_
      refine rr_iret F dX7_markAt_20 ?_
      refine ⟨_, rfl, ?_, hR⟩
      show _ = sp_markAt σ b j
      first | (rw [sp_markAt, if_pos (by omega)]; done) | (rw [sp_markAt, if_neg (by omega), if_neg (by omega)]; exact e2)
set_option maxHeartbeats 4000000 in
set_option maxRecDepth 100000 in
theorem mm_X7_aside {l : Launch} {g : gT} {σ : sT} {b j : Int} {I : IM} {L : LM} (hb : rg b) (hj : rg j) (hR : CR σ I L) (hW : WF σ) :
    Ct l yX7_aside cX7_aside 5 (some .int) 4 94 lyC g [.ref (g.2.1 0), .int (zI b), .int (zI j)] I L (pS CR (sp_aside σ b j, σ)) := by
  have hc := rB_cases σ b
  have w4 := hW.2.2.2.1 b
  have hj' := hj
  unfold rg at hj'
  have h01 := bi_01 (0 ≤ s_gv σ ∧ s_gv σ ≠ b ∧ s_lg σ b = s_lg σ (s_gv σ) ∧ AsP (s_tk σ b) (s_sz σ b) (s_tk σ (s_gv σ)) (s_sz σ (s_gv σ)) (s_w σ + s_k σ - 1) j)
  have h01 : aF σ b j = 0 ∨ aF σ b j = 1 := h01
  refine Ct.of RX7 (by decide +kernel) rfl (Nat.le_of_ble_eq_true rfl) (fun x hx F => ?_)
  refine rr_iload_n F dX7_aside_0 rfl ?_
  refine rr_if_ge F dX7_aside_1 (tgt := 8) (by decide) ⟨by omega, by omega⟩ (fun c_1 => ?_) (fun c_1 => ?_)
  · refine rr_aload_n F dX7_aside_8 rfl ?_
    refine rr_iload_n F dX7_aside_9 rfl ?_
    refine rr_callVI F (ci := 7) (mm_X7_refusalOfBook hb hR hW) mf_X7_refusalOfBook ml_X7_83 ⟨by decide, by decide⟩ (by first | rfl | assumption) (by decide) rfl rfl (Nat.le_of_ble_eq_true rfl) dX7_aside_10 (fun r_10 I_10 L_10 h_10 => ?_)
    obtain ⟨e2, rfl, rfl⟩ := h_10
    refine rr_istore_n F dX7_aside_13 (Nat.le_of_ble_eq_true rfl) rfl ?_
    refine rr_iload_n F dX7_aside_14 rfl ?_
    refine rr_if_eq F dX7_aside_15 (tgt := 20) (by decide) ⟨by omega, by omega⟩ (fun c_15 => ?_) (fun c_15 => ?_)
    · refine rr_aload_n F dX7_aside_20 rfl ?_
      refine rg_BP_comparison F (by first | rfl | assumption) fl_X7_33 dX7_aside_21 ?_
      refine rr_cell (k2 := 18) rfl ?_
      refine rr_aload_n F dX7_aside_24 rfl ?_
      refine rg_BP_shelf F (by first | rfl | assumption) fl_X7_26 dX7_aside_25 ?_
      refine rr_cell (k2 := 4) rfl ?_
      refine rr_iload_n F dX7_aside_28 rfl ?_
      refine rr_callVR F (ci := 1) (mm_X1_pageOf hR hW (by omega) (by omega) (by omega)) mf_X1_pageOf ml_X7_117 ⟨by decide, by decide⟩ (by first | rfl | assumption) (by decide) rfl rfl (Nat.le_of_ble_eq_true rfl) dX7_aside_29 (fun r_29 I_29 L_29 h_29 => ?_)
      obtain ⟨rfl, g1, g2⟩ := h_29
      have eS := g1.1
      refine rr_astore F dX7_aside_32 (Nat.le_of_ble_eq_true rfl) rfl ?_
      refine rr_iload_n F dX7_aside_34 rfl ?_
      refine rr_aload F dX7_aside_35 rfl ?_
      refine rg_Page_size F (by first | rfl | assumption) fl_X7_137 dX7_aside_37 ?_
      refine rr_icmp_lt F dX7_aside_40 (tgt := 45) (by decide) ⟨by omega, by omega⟩ ⟨by omega, by omega⟩ (fun c_40 => ?_) (fun c_40 => ?_)
      · refine rr_aload F dX7_aside_45 rfl ?_
        refine rg_Page_isAside F (by first | rfl | assumption) fl_X7_138 dX7_aside_47 ?_
        refine rr_iload_n F dX7_aside_50 rfl ?_
        refine rr_zald F (N := 40) (by first | rfl | assumption) (by omega) (by first | rfl | assumption) (by omega) dX7_aside_51 ?_
        have eA := g1.2.2.2.2.2.2 j (by omega) (by omega)
        refine rr_if_eq F dX7_aside_52 (tgt := 59) (by decide) ⟨by omega, by omega⟩ (fun c_52 => ?_) (fun c_52 => ?_)
        · refine rr_iconst F dX7_aside_59 ?_
          refine rr_iret F dX7_aside_60 ?_
          refine ⟨_, rfl, ?_, hR.k g2⟩
          show _ = sp_aside σ b j
          rw [sp_aside, if_neg (by omega), if_pos (by omega), if_neg (by omega)]
          omega
        · refine rr_iconst F dX7_aside_55 ?_
          refine rr_goto F dX7_aside_56 (tgt := 60) (by decide) ?_
          refine rr_iret F dX7_aside_60 ?_
          refine ⟨_, rfl, ?_, hR.k g2⟩
          show _ = sp_aside σ b j
          rw [sp_aside, if_neg (by omega), if_pos (by omega), if_neg (by omega)]
          omega
      · refine rr_iconst F dX7_aside_43 ?_
        refine rr_iret F dX7_aside_44 ?_
        refine ⟨_, rfl, ?_, hR.k g2⟩
        show _ = sp_aside σ b j
        rw [sp_aside, if_neg (by omega), if_pos (by omega), if_pos (by omega)]
    · refine rr_iload_n F dX7_aside_18 rfl ?_
      refine rr_iret F dX7_aside_19 ?_
      refine ⟨_, rfl, ?_, hR⟩
      show _ = sp_aside σ b j
      first | (rw [sp_aside, if_pos (by omega)]; done) | (rw [sp_aside, if_neg (by omega), if_neg (by omega)]; exact e2)
  · refine rr_iconst F dX7_aside_4 ?_
    refine rr_goto F dX7_aside_5 (tgt := 13) (by decide) ?_
    refine rr_istore_n F dX7_aside_13 (Nat.le_of_ble_eq_true rfl) rfl ?_
    refine rr_iload_n F dX7_aside_14 rfl ?_
    refine rr_if_eq F dX7_aside_15 (tgt := 20) (by decide) ⟨by omega, by omega⟩ (fun c_15 => ?_) (fun c_15 => ?_)
    · refine rr_aload_n F dX7_aside_20 rfl ?_
      refine rg_BP_comparison F (by first | rfl | assumption) fl_X7_33 dX7_aside_21 ?_
      refine rr_cell (k2 := 18) rfl ?_
      refine rr_aload_n F dX7_aside_24 rfl ?_
      refine rg_BP_shelf F (by first | rfl | assumption) fl_X7_26 dX7_aside_25 ?_
      refine rr_cell (k2 := 4) rfl ?_
      refine rr_iload_n F dX7_aside_28 rfl ?_
      refine rr_callVR F (ci := 1) (mm_X1_pageOf hR hW (by omega) (by omega) (by omega)) mf_X1_pageOf ml_X7_117 ⟨by decide, by decide⟩ (by first | rfl | assumption) (by decide) rfl rfl (Nat.le_of_ble_eq_true rfl) dX7_aside_29 (fun r_29 I_29 L_29 h_29 => ?_)
      obtain ⟨rfl, g1, g2⟩ := h_29
      have eS := g1.1
      refine rr_astore F dX7_aside_32 (Nat.le_of_ble_eq_true rfl) rfl ?_
      refine rr_iload_n F dX7_aside_34 rfl ?_
      refine rr_aload F dX7_aside_35 rfl ?_
      refine rg_Page_size F (by first | rfl | assumption) fl_X7_137 dX7_aside_37 ?_
      refine rr_icmp_lt F dX7_aside_40 (tgt := 45) (by decide) ⟨by omega, by omega⟩ ⟨by omega, by omega⟩ (fun c_40 => ?_) (fun c_40 => ?_)
      · refine rr_aload F dX7_aside_45 rfl ?_
        refine rg_Page_isAside F (by first | rfl | assumption) fl_X7_138 dX7_aside_47 ?_
        refine rr_iload_n F dX7_aside_50 rfl ?_
        refine rr_zald F (N := 40) (by first | rfl | assumption) (by omega) (by first | rfl | assumption) (by omega) dX7_aside_51 ?_
        have eA := g1.2.2.2.2.2.2 j (by omega) (by omega)
        refine rr_if_eq F dX7_aside_52 (tgt := 59) (by decide) ⟨by omega, by omega⟩ (fun c_52 => ?_) (fun c_52 => ?_)
        · refine rr_iconst F dX7_aside_59 ?_
          refine rr_iret F dX7_aside_60 ?_
          refine ⟨_, rfl, ?_, hR.k g2⟩
          show _ = sp_aside σ b j
          rw [sp_aside, if_neg (by omega), if_pos (by omega), if_neg (by omega)]
          omega
        · refine rr_iconst F dX7_aside_55 ?_
          refine rr_goto F dX7_aside_56 (tgt := 60) (by decide) ?_
          refine rr_iret F dX7_aside_60 ?_
          refine ⟨_, rfl, ?_, hR.k g2⟩
          show _ = sp_aside σ b j
          rw [sp_aside, if_neg (by omega), if_pos (by omega), if_neg (by omega)]
          omega
      · refine rr_iconst F dX7_aside_43 ?_
        refine rr_iret F dX7_aside_44 ?_
        refine ⟨_, rfl, ?_, hR.k g2⟩
        show _ = sp_aside σ b j
        rw [sp_aside, if_neg (by omega), if_pos (by omega), if_pos (by omega)]
    · refine rr_iload_n F dX7_aside_18 rfl ?_
      refine rr_iret F dX7_aside_19 ?_
      refine ⟨_, rfl, ?_, hR⟩
      show _ = sp_aside σ b j
      first | (rw [sp_aside, if_pos (by omega)]; done) | (rw [sp_aside, if_neg (by omega), if_neg (by omega)]; exact e2)
