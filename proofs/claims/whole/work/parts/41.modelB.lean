/-! the model: what is set aside -/
/-- token c is within a stretch, of those that begin ahead of (i, j) -/
def AsU (T : Int → Int64) (n : Int) (G : Int → Int64) (m len i j c : Int) : Prop := ∃ a b, (a < i ∨ (a = i ∧ b < j)) ∧ 0 ≤ a ∧ a + len ≤ n ∧ 0 ≤ b ∧ b + len ≤ m ∧ a ≤ c ∧ c < a + len ∧ ∀ t, 0 ≤ t → t < len → T (a + t) = G (b + t)
set_option maxHeartbeats 4000000 in
set_option maxRecDepth 100000 in
theorem mm_X8_findAside {l : Launch} {g : gT} {σ : sT} {b : Int} {I : IM} {L : LM} (hR : MR σ I L) (hW : WF σ) (hb0 : 0 ≤ b) (hb : b < 6) :
    Ct l yX8_findAside cX8_findAside 7 none 0 0 lyM g [.ref (g.2.1 0), .int (zI b)] I L (pV (fun I' L' => (∀ j, 0 ≤ j → j < s_sz σ b → I' 10 (40 * b + j) = aF σ b j) ∧ (∀ j, j < 40 * b ∨ 40 * b + 40 ≤ j → I' 10 j = I 10 j) ∧ (∀ q, q ≠ 10 → I' q = I q) ∧ L = L')) := by
  have w4 := hW.2.2.2.1 b
  have w4g := hW.2.2.2.1 (s_gv σ)
  have w5 := hW.2.2.2.2.1 b
  have w5g := hW.2.2.2.2.1 (s_gv σ)
  have w7 := hW.2.2.2.2.2.2.1
  have w8 := hW.2.2.2.2.2.2.2.1
  have w11 := hW.2.2.2.2.2.2.2.2.2.2.1
  obtain ⟨e1, e2, e3, e4, e5⟩ := MRb hR hb0 hb
  have eg := hR.2.2.2.1
  have ek := hR.2.2.2.2.1
  have ew := hR.2.2.2.2.2.1
  generalize hlen : s_w σ + s_k σ - 1 = len at *
  generalize hn : s_sz σ b = n at *
  generalize hm : s_sz σ (s_gv σ) = m at *
  generalize hT : s_tk σ b = T at *
  generalize hGt : s_tk σ (s_gv σ) = G at *
  refine Ct.of RX8 (by decide +kernel) rfl (Nat.le_of_ble_eq_true rfl) (fun x hx F => ?_)
  generalize hpost : (pV (fun (I' : IM) (L' : LM) => (∀ j, 0 ≤ j → j < n → I' 10 (40 * b + j) = aF σ b j) ∧ (∀ j, j < 40 * b ∨ 40 * b + 40 ≤ j → I' 10 j = I 10 j) ∧ (∀ q, q ≠ 10 → I' q = I q) ∧ L = L')) = post
  have main : 0 ≤ s_gv σ → s_gv σ ≠ b → s_lg σ b = s_lg σ (s_gv σ) → I 3 (s_gv σ) = m → (∀ i, 0 ≤ i → i < m → L 6 (40 * s_gv σ + i) = G i) → ∀ (c : Nat) (i : Int) (I1 : IM), c = (n + 1 - len - i).toNat → 0 ≤ i → (i = 0 ∨ i ≤ n + 1 - len) → (∀ j, 0 ≤ j → j < n → I1 10 (40 * b + j) = bi (AsU T n G m len i 0 j)) → (∀ j, j < 40 * b ∨ 40 * b + 40 ≤ j → I1 10 j = I 10 j) → (∀ q, q ≠ 10 → I1 q = I q) → Rn x lyM g post 74 [vr g 0, vn b, vn len, vn i, none, none, none] [] I1 L := by
    intro hg0 hgb hgl e3g e5g c
    induction c with
    | zero =>
      intro i I1 h1 h2 h3 h4 h5 h6
      have es : I1 3 b = n := by rw [h6 3 (by omega)]; exact e2
      refine rr_iload_n F dX8_findAside_74 rfl ?_
      refine rr_iload_n F dX8_findAside_75 rfl ?_
      refine rr_iadd F dX8_findAside_76 ?_
      refine rr_aload_n F dX8_findAside_77 rfl ?_
      refine rg_Model_sizes F (by first | rfl | assumption) fl_X8_17 dX8_findAside_78 ?_
      refine rr_cell (k2 := 3) rfl ?_
      refine rr_iload_n F dX8_findAside_81 rfl ?_
      refine rr_iald F (N := 6) (by first | rfl | assumption) (by omega) (by first | rfl | assumption) (by omega) dX8_findAside_82 ?_
      refine rr_icmp_gt F dX8_findAside_83 (tgt := 205) (by decide) ⟨by omega, by omega⟩ ⟨by omega, by omega⟩ (fun c_83 => ?_) (fun c_83 => ?_)
      · refine rr_vret F dX8_findAside_205 ?_
        rw [← hpost]
        refine ⟨rfl, fun j u v => ?_, h5, h6, rfl⟩
        rw [h4 j u v, aF, hn, hm, hT, hGt, hlen]
        refine bi_congr ⟨fun ⟨a, b', y0, y⟩ => ⟨hg0, hgb, hgl, a, b', y⟩, fun ⟨_, _, _, a, b', y1, y2, y⟩ => ⟨a, b', by omega, y1, y2, y⟩⟩
      · exfalso
        omega
    | succ c ih =>
      intro i I1 h1 h2 h3 h4 h5 h6
      have es : I1 3 b = n := by rw [h6 3 (by omega)]; exact e2
      have loopJ : ∀ (d : Nat) (j : Int) (I2 : IM), d = (m + 1 - len - j).toNat → 0 ≤ j → (j = 0 ∨ j ≤ m + 1 - len) → (∀ c, 0 ≤ c → c < n → I2 10 (40 * b + c) = bi (AsU T n G m len i j c)) → (∀ c, c < 40 * b ∨ 40 * b + 40 ≤ c → I2 10 c = I 10 c) → (∀ q, q ≠ 10 → I2 q = I q) → Rn x lyM g post 89 [vr g 0, vn b, vn len, vn i, vn j, none, none] [] I2 L := by
        intro d
        induction d with
        | zero =>
          intro j I2 g1 g2 g3 g4 g5 g6
          have es2 : I2 3 (s_gv σ) = m := by rw [g6 3 (by omega)]; exact e3g
          have eg2 : I2 0 11 = s_gv σ := by rw [g6 0 (by omega)]; exact eg
          refine rr_iload F dX8_findAside_89 rfl ?_
          refine rr_iload_n F dX8_findAside_91 rfl ?_
          refine rr_iadd F dX8_findAside_92 ?_
          refine rr_aload_n F dX8_findAside_93 rfl ?_
          refine rg_Model_sizes F (by first | rfl | assumption) fl_X8_17 dX8_findAside_94 ?_
          refine rr_cell (k2 := 3) rfl ?_
          refine rr_aload_n F dX8_findAside_97 rfl ?_
          refine rg_Model_given F (by first | rfl | assumption) fl_X8_43 dX8_findAside_98 ?_
          rw [eg2]
          refine rr_iald F (N := 6) (by first | rfl | assumption) (by omega) (by first | rfl | assumption) (by omega) dX8_findAside_101 ?_
          refine rr_icmp_gt F dX8_findAside_102 (tgt := 199) (by decide) ⟨by omega, by omega⟩ ⟨by omega, by omega⟩ (fun c_102 => ?_) (fun c_102 => ?_)
          · refine rr_iinc F dX8_findAside_199 rfl rfl ?_
            refine rr_goto F dX8_findAside_202 (tgt := 74) (by decide) ?_
            refine rr_drop 4 ?_
            refine ih (i + 1) I2 (by omega) (by omega) (by omega) (fun c u v => ?_) g5 g6
            rw [g4 c u v]
            refine bi_congr ⟨fun ⟨a, b', y0, y⟩ => ⟨a, b', by omega, y⟩, fun ⟨a, b', y0, y1, y2, y3, y4, y⟩ => ⟨a, b', ?_, y1, y2, y3, y4, y⟩⟩
            omega
          · exfalso
            omega
        | succ d ihd =>
          intro j I2 g1 g2 g3 g4 g5 g6
          have es2 : I2 3 (s_gv σ) = m := by rw [g6 3 (by omega)]; exact e3g
          have eg2 : I2 0 11 = s_gv σ := by rw [g6 0 (by omega)]; exact eg
          have loopM : (∀ t, 0 ≤ t → t < len → T (i + t) = G (j + t)) → ∀ (e : Nat) (u : Int) (I3 : IM), e = (i + len - u).toNat → i ≤ u → u ≤ i + len → (∀ c, 0 ≤ c → c < n → I3 10 (40 * b + c) = bi (AsU T n G m len i j c ∨ (i ≤ c ∧ c < u))) → (∀ c, c < 40 * b ∨ 40 * b + 40 ≤ c → I3 10 c = I 10 c) → (∀ q, q ≠ 10 → I3 q = I q) → Rn x lyM g post 159 [vr g 0, vn b, vn len, vn i, vn j, vn len, vn u] [] I3 L := by
            intro hall e
            induction e with
            | zero =>
              intro u I3 f1 f2 f3 f4 f5 f6
              refine rr_iload F dX8_findAside_159 rfl ?_
              refine rr_iload_n F dX8_findAside_161 rfl ?_
              refine rr_iload F dX8_findAside_162 rfl ?_
              refine rr_iadd F dX8_findAside_164 ?_
              refine rr_icmp_ge F dX8_findAside_165 (tgt := 193) (by decide) ⟨by omega, by omega⟩ ⟨by omega, by omega⟩ (fun c_165 => ?_) (fun c_165 => ?_)
              · refine rr_iinc F dX8_findAside_193 rfl rfl ?_
                refine rr_goto F dX8_findAside_196 (tgt := 89) (by decide) ?_
                refine rr_drop 5 ?_
                refine rr_drop 6 ?_
                refine ihd (j + 1) I3 (by omega) (by omega) (by omega) (fun c p q => ?_) f5 f6
                rw [f4 c p q]
                refine bi_congr ⟨fun z => ?_, fun ⟨a, b', y0, y1, y2, y3, y4, y⟩ => ?_⟩
                · rcases z with ⟨a, b', y0, y⟩ | z
                  · exact ⟨a, b', by omega, y⟩
                  · exact ⟨i, j, by omega, by omega, by omega, by omega, by omega, by omega, by omega, hall⟩
                · by_cases z : a = i ∧ b' = j
                  · right; have := y.1; have := y.2.1; omega
                  · left; exact ⟨a, b', by omega, y1, y2, y3, y4, y⟩
              · exfalso
                omega
            | succ e ihe =>
              intro u I3 f1 f2 f3 f4 f5 f6
              refine rr_iload F dX8_findAside_159 rfl ?_
              refine rr_iload_n F dX8_findAside_161 rfl ?_
              refine rr_iload F dX8_findAside_162 rfl ?_
              refine rr_iadd F dX8_findAside_164 ?_
              refine rr_icmp_ge F dX8_findAside_165 (tgt := 193) (by decide) ⟨by omega, by omega⟩ ⟨by omega, by omega⟩ (fun c_165 => ?_) (fun c_165 => ?_)
              · exfalso
                omega
              · refine rr_iload F dX8_findAside_168 rfl ?_
                refine rr_iload_n F dX8_findAside_170 rfl ?_
                refine rr_icmp_ne F dX8_findAside_171 (tgt := 193) (by decide) ⟨by omega, by omega⟩ ⟨by omega, by omega⟩ (fun c_171 => ?_) (fun c_171 => ?_)
                · exfalso
                  omega
                · refine rr_aload_n F dX8_findAside_174 rfl ?_
                  refine rg_Model_asides F (by first | rfl | assumption) fl_X8_65 dX8_findAside_175 ?_
                  refine rr_cell (k2 := 10) rfl ?_
                  refine rr_bipush F dX8_findAside_178 (by decide) ?_
                  refine rr_iload_n F dX8_findAside_180 rfl ?_
                  refine rr_imul F dX8_findAside_181 ?_
                  refine rr_iload F dX8_findAside_182 rfl ?_
                  refine rr_iadd F dX8_findAside_184 ?_
                  refine rr_iconst F dX8_findAside_185 ?_
                  refine rr_zast F (N := 240) (by first | rfl | assumption) (by omega) (by first | rfl | assumption) (by omega) (by decide) dX8_findAside_186 ?_
                  refine rr_iinc F dX8_findAside_187 rfl rfl ?_
                  refine rr_goto F dX8_findAside_190 (tgt := 159) (by decide) ?_
                  refine ihe (u + 1) _ (by omega) (by omega) (by omega) (fun c p q => ?_) (fun c p => ?_) (fun q p => ?_)
                  · by_cases z : c = u
                    · subst z; rw [up2_same, bi_pos (Or.inr ⟨by omega, by omega⟩)]
                    · rw [up2_ne _ _ _ (by omega), f4 c p q]
                      exact bi_congr ⟨fun y => y.elim Or.inl (fun y => Or.inr ⟨by omega, by omega⟩), fun y => y.elim Or.inl (fun y => Or.inr ⟨by omega, by omega⟩)⟩
                  · rw [up2_ne _ _ _ (by omega)]; exact f5 c p
                  · rw [up2_cell _ _ _ p]; exact f6 q p
          have miss : ∀ t : Int, 0 ≤ t → t < len → ¬ T (i + t) = G (j + t) → Rn x lyM g post 156 [vr g 0, vn b, vn len, vn i, vn j, vn t, none] [] I2 L := by
            intro t t1 t2 t3
            refine rr_iload_n F dX8_findAside_156 rfl ?_
            refine rr_istore F dX8_findAside_157 (Nat.le_of_ble_eq_true rfl) rfl ?_
            refine rr_iload F dX8_findAside_159 rfl ?_
            refine rr_iload_n F dX8_findAside_161 rfl ?_
            refine rr_iload F dX8_findAside_162 rfl ?_
            refine rr_iadd F dX8_findAside_164 ?_
            refine rr_icmp_ge F dX8_findAside_165 (tgt := 193) (by decide) ⟨by omega, by omega⟩ ⟨by omega, by omega⟩ (fun c_165 => ?_) (fun c_165 => ?_)
            · refine rr_iinc F dX8_findAside_193 rfl rfl ?_
              refine rr_goto F dX8_findAside_196 (tgt := 89) (by decide) ?_
              refine rr_drop 5 ?_
              refine rr_drop 6 ?_
              refine ihd (j + 1) I2 (by omega) (by omega) (by omega) (fun c p q => ?_) g5 g6
              rw [g4 c p q]
              refine bi_congr ⟨fun ⟨a, b', y0, y⟩ => ⟨a, b', by omega, y⟩, fun ⟨a, b', y0, y1, y2, y3, y4, y5, y6, y⟩ => ⟨a, b', ?_, y1, y2, y3, y4, y5, y6, y⟩⟩
              by_cases z : a = i ∧ b' = j
              · exact absurd (by have := y t t1 t2; rwa [z.1, z.2] at this) t3
              · omega
            · refine rr_iload F dX8_findAside_168 rfl ?_
              refine rr_iload_n F dX8_findAside_170 rfl ?_
              refine rr_icmp_ne F dX8_findAside_171 (tgt := 193) (by decide) ⟨by omega, by omega⟩ ⟨by omega, by omega⟩ (fun c_171 => ?_) (fun c_171 => ?_)
              · refine rr_iinc F dX8_findAside_193 rfl rfl ?_
                refine rr_goto F dX8_findAside_196 (tgt := 89) (by decide) ?_
                refine rr_drop 5 ?_
                refine rr_drop 6 ?_
                refine ihd (j + 1) I2 (by omega) (by omega) (by omega) (fun c p q => ?_) g5 g6
                rw [g4 c p q]
                refine bi_congr ⟨fun ⟨a, b', y0, y⟩ => ⟨a, b', by omega, y⟩, fun ⟨a, b', y0, y1, y2, y3, y4, y5, y6, y⟩ => ⟨a, b', ?_, y1, y2, y3, y4, y5, y6, y⟩⟩
                by_cases z : a = i ∧ b' = j
                · exact absurd (by have := y t t1 t2; rwa [z.1, z.2] at this) t3
                · omega
              · exfalso
                omega
          have loopN : ∀ (e : Nat) (t : Int), e = (len - t).toNat → 0 ≤ t → t ≤ len → (∀ u, 0 ≤ u → u < t → T (i + u) = G (j + u)) → Rn x lyM g post 108 [vr g 0, vn b, vn len, vn i, vn j, vn t, none] [] I2 L := by
            intro e
            induction e with
            | zero =>
              intro t f1 f2 f3 f4
              have ht : t = len := by omega
              refine rr_iload F dX8_findAside_108 rfl ?_
              refine rr_iload_n F dX8_findAside_110 rfl ?_
              refine rr_icmp_ge F dX8_findAside_111 (tgt := 156) (by decide) ⟨by omega, by omega⟩ ⟨by omega, by omega⟩ (fun c_111 => ?_) (fun c_111 => ?_)
              · refine rr_iload_n F dX8_findAside_156 rfl ?_
                refine rr_istore F dX8_findAside_157 (Nat.le_of_ble_eq_true rfl) rfl ?_
                rw [ht]
                refine loopM (fun u p q => f4 u p (by omega)) _ i I2 rfl (by omega) (by omega) (fun c p q => ?_) g5 g6
                rw [g4 c p q]
                exact bi_congr ⟨Or.inl, fun y => y.elim id (fun y => absurd y.1 (by omega))⟩
              · exfalso
                omega
            | succ e ihe =>
              intro t f1 f2 f3 f4
              have v1 := e5 (i + t) (by omega) (by omega)
              have v2 := e5g (j + t) (by omega) (by omega)
              refine rr_iload F dX8_findAside_108 rfl ?_
              refine rr_iload_n F dX8_findAside_110 rfl ?_
              refine rr_icmp_ge F dX8_findAside_111 (tgt := 156) (by decide) ⟨by omega, by omega⟩ ⟨by omega, by omega⟩ (fun c_111 => ?_) (fun c_111 => ?_)
              · first | (exfalso; omega) | exact miss t (by omega) (by omega) c_147
              · refine rr_aload_n F dX8_findAside_114 rfl ?_
                refine rg_Model_tokens F (by first | rfl | assumption) fl_X8_26 dX8_findAside_115 ?_
                refine rr_cell (k2 := 6) rfl ?_
                refine rr_bipush F dX8_findAside_118 (by decide) ?_
                refine rr_iload_n F dX8_findAside_120 rfl ?_
                refine rr_imul F dX8_findAside_121 ?_
                refine rr_iload_n F dX8_findAside_122 rfl ?_
                refine rr_iadd F dX8_findAside_123 ?_
                refine rr_iload F dX8_findAside_124 rfl ?_
                refine rr_iadd F dX8_findAside_126 ?_
                refine rr_lald F (N := 240) (by first | rfl | assumption) (by omega) (by first | rfl | assumption) (by omega) dX8_findAside_127 ?_
                refine rr_aload_n F dX8_findAside_128 rfl ?_
                refine rg_Model_tokens F (by first | rfl | assumption) fl_X8_26 dX8_findAside_129 ?_
                refine rr_cell (k2 := 6) rfl ?_
                refine rr_bipush F dX8_findAside_132 (by decide) ?_
                refine rr_aload_n F dX8_findAside_134 rfl ?_
                refine rg_Model_given F (by first | rfl | assumption) fl_X8_43 dX8_findAside_135 ?_
                rw [eg2]
                refine rr_imul F dX8_findAside_138 ?_
                refine rr_iload F dX8_findAside_139 rfl ?_
                refine rr_iadd F dX8_findAside_141 ?_
                refine rr_iload F dX8_findAside_142 rfl ?_
                refine rr_iadd F dX8_findAside_144 ?_
                refine rr_lald F (N := 240) (by first | rfl | assumption) (by omega) (by first | rfl | assumption) (by omega) dX8_findAside_145 ?_
                rw [show 40 * b + i + t = 40 * b + (i + t) by omega, v1, show 40 * s_gv σ + j + t = 40 * s_gv σ + (j + t) by omega, v2]
                refine rr_lcmp F dX8_findAside_146 ?_
                refine rr_lif_ne F dX8_findAside_147 (tgt := 156) (by decide) (fun c_147 => ?_) (fun c_147 => ?_)
                · first | (exfalso; omega) | exact miss t (by omega) (by omega) c_147
                · refine rr_iinc F dX8_findAside_150 rfl rfl ?_
                  refine rr_goto F dX8_findAside_153 (tgt := 108) (by decide) ?_
                  refine ihe (t + 1) (by omega) (by omega) (by omega) (fun u p q => ?_)
                  by_cases z : u = t
                  · subst z; exact c_147
                  · exact f4 u p (by omega)
          refine rr_iload F dX8_findAside_89 rfl ?_
          refine rr_iload_n F dX8_findAside_91 rfl ?_
          refine rr_iadd F dX8_findAside_92 ?_
          refine rr_aload_n F dX8_findAside_93 rfl ?_
          refine rg_Model_sizes F (by first | rfl | assumption) fl_X8_17 dX8_findAside_94 ?_
          refine rr_cell (k2 := 3) rfl ?_
          refine rr_aload_n F dX8_findAside_97 rfl ?_
          refine rg_Model_given F (by first | rfl | assumption) fl_X8_43 dX8_findAside_98 ?_
          rw [eg2]
          refine rr_iald F (N := 6) (by first | rfl | assumption) (by omega) (by first | rfl | assumption) (by omega) dX8_findAside_101 ?_
          refine rr_icmp_gt F dX8_findAside_102 (tgt := 199) (by decide) ⟨by omega, by omega⟩ ⟨by omega, by omega⟩ (fun c_102 => ?_) (fun c_102 => ?_)
          · first | (exfalso; omega) | (refine rr_iinc F dX8_findAside_199 rfl rfl ?_
                                           refine rr_goto F dX8_findAside_202 (tgt := 74) (by decide) ?_
                                           refine rr_drop 4 ?_
                                           refine ih (i + 1) I2 (by omega) (by omega) (by omega) (fun c u v => ?_) g5 g6
                                           rw [g4 c u v]
                                           refine bi_congr ⟨fun ⟨a, b', y0, y⟩ => ⟨a, b', by omega, y⟩, fun ⟨a, b', y0, y1, y2, y3, y4, y⟩ => ⟨a, b', ?_, y1, y2, y3, y4, y⟩⟩
                                           omega)
          · refine rr_iconst F dX8_findAside_105 ?_
            refine rr_istore F dX8_findAside_106 (Nat.le_of_ble_eq_true rfl) rfl ?_
            exact loopN _ 0 rfl (by omega) (by omega) (fun u p q => absurd q (by omega))
      refine rr_iload_n F dX8_findAside_74 rfl ?_
      refine rr_iload_n F dX8_findAside_75 rfl ?_
      refine rr_iadd F dX8_findAside_76 ?_
      refine rr_aload_n F dX8_findAside_77 rfl ?_
      refine rg_Model_sizes F (by first | rfl | assumption) fl_X8_17 dX8_findAside_78 ?_
      refine rr_cell (k2 := 3) rfl ?_
      refine rr_iload_n F dX8_findAside_81 rfl ?_
      refine rr_iald F (N := 6) (by first | rfl | assumption) (by omega) (by first | rfl | assumption) (by omega) dX8_findAside_82 ?_
      refine rr_icmp_gt F dX8_findAside_83 (tgt := 205) (by decide) ⟨by omega, by omega⟩ ⟨by omega, by omega⟩ (fun c_83 => ?_) (fun c_83 => ?_)
      · first | (exfalso; omega) | (refine rr_vret F dX8_findAside_205 ?_
                                        rw [← hpost]
                                        refine ⟨rfl, fun j u v => ?_, h5, h6, rfl⟩
                                        rw [h4 j u v, aF, hn, hm, hT, hGt, hlen]
                                        refine bi_congr ⟨fun ⟨a, b', y0, y⟩ => ⟨hg0, hgb, hgl, a, b', y⟩, fun ⟨_, _, _, a, b', y1, y2, y⟩ => ⟨a, b', by omega, y1, y2, y⟩⟩)
      · refine rr_iconst F dX8_findAside_86 ?_
        refine rr_istore F dX8_findAside_87 (Nat.le_of_ble_eq_true rfl) rfl ?_
        exact loopJ _ 0 I1 rfl (by omega) (Or.inl rfl) h4 h5 h6
  have none' : ∀ I1 : IM, ¬ (0 ≤ s_gv σ ∧ s_gv σ ≠ b ∧ s_lg σ b = s_lg σ (s_gv σ)) → (∀ j, 0 ≤ j → j < 40 → I1 10 (40 * b + j) = 0) → (∀ j, j < 40 * b ∨ 40 * b + 40 ≤ j → I1 10 j = I 10 j) → (∀ q, q ≠ 10 → I1 q = I q) → post none I1 L := by
    intro I1 hno h4 h5 h6
    rw [← hpost]
    refine ⟨rfl, fun j u v => ?_, h5, h6, rfl⟩
    rw [h4 j u (by omega), aF, bi_neg]
    exact fun z => hno ⟨z.1, z.2.1, z.2.2.1⟩
  have loopA : ∀ (c : Nat) (f : Int) (I1 : IM), c = (40 - f).toNat → 0 ≤ f → f ≤ 40 → (∀ j, 0 ≤ j → j < f → I1 10 (40 * b + j) = 0) → (∀ j, j < 40 * b ∨ 40 * b + 40 ≤ j → I1 10 j = I 10 j) → (∀ q, q ≠ 10 → I1 q = I q) → Rn x lyM g post 2 [vr g 0, vn b, vn f, none, none, none, none] [] I1 L := by
    intro c
    induction c with
    | zero =>
      intro f I1 h1 h2 h3 h4 h5 h6
      have eg1 : I1 0 11 = s_gv σ := by rw [h6 0 (by omega)]; exact eg
      have e3b : I1 4 b = s_lg σ b := by rw [h6 4 (by omega)]; exact e3
      have ek1 : I1 0 7 = s_k σ := by rw [h6 0 (by omega)]; exact ek
      have ew1 : I1 0 8 = s_w σ := by rw [h6 0 (by omega)]; exact ew
      refine rr_iload_n F dX8_findAside_2 rfl ?_
      refine rr_bipush F dX8_findAside_3 (by decide) ?_
      refine rr_icmp_ge F dX8_findAside_5 (tgt := 26) (by decide) ⟨by omega, by omega⟩ ⟨by omega, by omega⟩ (fun c_5 => ?_) (fun c_5 => ?_)
      · refine rr_aload_n F dX8_findAside_26 rfl ?_
        refine rg_Model_given F (by first | rfl | assumption) fl_X8_43 dX8_findAside_27 ?_
        refine rr_if_lt F dX8_findAside_30 (tgt := 59) (by decide) ⟨by omega, by omega⟩ (fun c_30 => ?_) (fun c_30 => ?_)
        · refine rr_vret F dX8_findAside_59 ?_
          exact none' I1 (by omega) (fun j u v => h4 j u (by omega)) h5 h6
        · refine rr_aload_n F dX8_findAside_33 rfl ?_
          refine rg_Model_given F (by first | rfl | assumption) fl_X8_43 dX8_findAside_34 ?_
          refine rr_iload_n F dX8_findAside_37 rfl ?_
          refine rr_icmp_eq F dX8_findAside_38 (tgt := 59) (by decide) ⟨by omega, by omega⟩ ⟨by omega, by omega⟩ (fun c_38 => ?_) (fun c_38 => ?_)
          · refine rr_vret F dX8_findAside_59 ?_
            exact none' I1 (by omega) (fun j u v => h4 j u (by omega)) h5 h6
          · refine rr_aload_n F dX8_findAside_41 rfl ?_
            refine rg_Model_languages F (by first | rfl | assumption) fl_X8_20 dX8_findAside_42 ?_
            refine rr_cell (k2 := 4) rfl ?_
            refine rr_aload_n F dX8_findAside_45 rfl ?_
            refine rg_Model_given F (by first | rfl | assumption) fl_X8_43 dX8_findAside_46 ?_
            rw [eg1]
            obtain ⟨y1, y2, y3, y4, y5⟩ := MRb hR (b := s_gv σ) (by omega) (by omega)
            rw [hm] at y2 y5
            rw [hGt] at y5
            have e3g : I1 4 (s_gv σ) = s_lg σ (s_gv σ) := by rw [h6 4 (by omega)]; exact y3
            refine rr_iald F (N := 6) (by first | rfl | assumption) (by omega) (by first | rfl | assumption) (by omega) dX8_findAside_49 ?_
            refine rr_aload_n F dX8_findAside_50 rfl ?_
            refine rg_Model_languages F (by first | rfl | assumption) fl_X8_20 dX8_findAside_51 ?_
            refine rr_cell (k2 := 4) rfl ?_
            refine rr_iload_n F dX8_findAside_54 rfl ?_
            refine rr_iald F (N := 6) (by first | rfl | assumption) (by omega) (by first | rfl | assumption) (by omega) dX8_findAside_55 ?_
            refine rr_icmp_eq F dX8_findAside_56 (tgt := 60) (by decide) ⟨by omega, by omega⟩ ⟨by omega, by omega⟩ (fun c_56 => ?_) (fun c_56 => ?_)
            · refine rr_aload_n F dX8_findAside_60 rfl ?_
              refine rg_Model_w F (by first | rfl | assumption) fl_X8_34 dX8_findAside_61 ?_
              refine rr_aload_n F dX8_findAside_64 rfl ?_
              refine rg_Model_k F (by first | rfl | assumption) fl_X8_30 dX8_findAside_65 ?_
              refine rr_iadd F dX8_findAside_68 ?_
              refine rr_iconst F dX8_findAside_69 ?_
              refine rr_isub F dX8_findAside_70 ?_
              refine rr_istore_n F dX8_findAside_71 (Nat.le_of_ble_eq_true rfl) rfl ?_
              refine rr_iconst F dX8_findAside_72 ?_
              refine rr_istore_n F dX8_findAside_73 (Nat.le_of_ble_eq_true rfl) rfl ?_
              rw [ew1, ek1, hlen]
              refine main (by omega) (by omega) (by omega) y2 y5 _ 0 I1 rfl (by omega) (Or.inl rfl) (fun j u v => ?_) h5 h6
              rw [h4 j u (by omega), bi_neg]
              exact fun ⟨a, b', y0, y1, y2, y3, y⟩ => by omega
            · refine rr_vret F dX8_findAside_59 ?_
              exact none' I1 (by omega) (fun j u v => h4 j u (by omega)) h5 h6
      · exact absurd c_5 (by omega)
    | succ c ih =>
      intro f I1 h1 h2 h3 h4 h5 h6
      refine rr_iload_n F dX8_findAside_2 rfl ?_
      refine rr_bipush F dX8_findAside_3 (by decide) ?_
      refine rr_icmp_ge F dX8_findAside_5 (tgt := 26) (by decide) ⟨by omega, by omega⟩ ⟨by omega, by omega⟩ (fun c_5 => ?_) (fun c_5 => ?_)
      · exact absurd c_5 (by omega)
      · refine rr_aload_n F dX8_findAside_8 rfl ?_
        refine rg_Model_asides F (by first | rfl | assumption) fl_X8_65 dX8_findAside_9 ?_
        refine rr_cell (k2 := 10) rfl ?_
        refine rr_bipush F dX8_findAside_12 (by decide) ?_
        refine rr_iload_n F dX8_findAside_14 rfl ?_
        refine rr_imul F dX8_findAside_15 ?_
        refine rr_iload_n F dX8_findAside_16 rfl ?_
        refine rr_iadd F dX8_findAside_17 ?_
        refine rr_iconst F dX8_findAside_18 ?_
        refine rr_zast F (N := 240) (by first | rfl | assumption) (by omega) (by first | rfl | assumption) (by omega) (by decide) dX8_findAside_19 ?_
        refine rr_iinc F dX8_findAside_20 rfl rfl ?_
        refine rr_goto F dX8_findAside_23 (tgt := 2) (by decide) ?_
        refine ih (f + 1) _ (by omega) (by omega) (by omega) (fun j u v => ?_) (fun j u => ?_) (fun q u => ?_)
        · by_cases z : j = f
          · subst z; rw [up2_same]
          · rw [up2_ne _ _ _ (by omega)]; exact h4 j u (by omega)
        · rw [up2_ne _ _ _ (by omega)]; exact h5 j u
        · rw [up2_cell _ _ _ u]; exact h6 q u
  refine rr_iconst F dX8_findAside_0 ?_
  refine rr_istore_n F dX8_findAside_1 (Nat.le_of_ble_eq_true rfl) rfl ?_
  exact loopA _ 0 I rfl (by omega) (by omega) (fun j a d => absurd d (by omega)) (fun j a => rfl) (fun q a => rfl)
set_option maxHeartbeats 4000000 in
set_option maxRecDepth 100000 in
theorem mm_X8_aside {l : Launch} {g : gT} {σ : sT} {b j : Int} {I : IM} {L : LM} (hb : rg b) (hj : rg j) (hR : MR σ I L) (hW : WF σ) :
    Ct l yX8_aside cX8_aside 3 (some .int) 2 42 lyM g [.ref (g.2.1 0), .int (zI b), .int (zI j)] I L (pS MR (sp_aside σ b j, σ)) := by
  have hc := rB_cases σ b
  have w3 := hW.2.2.1 b
  have w4 := hW.2.2.2.1 b
  have hj' := hj
  unfold rg at hj'
  have h01 := bi_01 (0 ≤ s_gv σ ∧ s_gv σ ≠ b ∧ s_lg σ b = s_lg σ (s_gv σ) ∧ AsP (s_tk σ b) (s_sz σ b) (s_tk σ (s_gv σ)) (s_sz σ (s_gv σ)) (s_w σ + s_k σ - 1) j)
  have h01 : aF σ b j = 0 ∨ aF σ b j = 1 := h01
  refine Ct.of RX8 (by decide +kernel) rfl (Nat.le_of_ble_eq_true rfl) (fun x hx F => ?_)
  refine rr_iload_n F dX8_aside_0 rfl ?_
  refine rr_callSI F (mm_X8_isNumber hb) mf_X8_isNumber ml_X8_123 ⟨by decide, by decide⟩ rfl (Nat.le_of_ble_eq_true rfl) dX8_aside_1 (fun r_1 I_1 L_1 h_1 => ?_)
  obtain ⟨e3, rfl, rfl⟩ := h_1
  refine rr_if_eq F dX8_aside_4 (tgt := 11) (by decide) ⟨by omega, by omega⟩ (fun c_4 => ?_) (fun c_4 => ?_)
  · refine rr_iconst F dX8_aside_11 ?_
    refine rr_iret F dX8_aside_12 ?_
    refine ⟨_, rfl, ?_, hR⟩
    show _ = sp_aside σ b j
    first | (rw [sp_aside, if_pos (by omega)]; done) | (rw [sp_aside]; split; rfl; rw [if_neg (by omega)]; omega)
  · refine rr_iload_n F dX8_aside_7 rfl ?_
    refine rr_if_ge F dX8_aside_8 (tgt := 13) (by decide) ⟨by omega, by omega⟩ (fun c_8 => ?_) (fun c_8 => ?_)
    · refine rr_aload_n F dX8_aside_13 rfl ?_
      refine rg_Model_is F (by first | rfl | assumption) fl_X8_13 dX8_aside_14 ?_
      refine rr_cell (k2 := 2) rfl ?_
      refine rr_iload_n F dX8_aside_17 rfl ?_
      refine rr_zald F (N := 6) (by first | rfl | assumption) (by omega) (by first | rfl | assumption) (by omega) dX8_aside_18 ?_
      obtain ⟨e1, e2, -, -, -⟩ := MRb hR (b := b) (by omega) (by omega)
      refine rr_if_ne F dX8_aside_19 (tgt := 25) (by decide) ⟨by omega, by omega⟩ (fun c_19 => ?_) (fun c_19 => ?_)
      · refine rr_iload_n F dX8_aside_25 rfl ?_
        refine rr_aload_n F dX8_aside_26 rfl ?_
        refine rg_Model_sizes F (by first | rfl | assumption) fl_X8_17 dX8_aside_27 ?_
        refine rr_cell (k2 := 3) rfl ?_
        refine rr_iload_n F dX8_aside_30 rfl ?_
        refine rr_iald F (N := 6) (by first | rfl | assumption) (by omega) (by first | rfl | assumption) (by omega) dX8_aside_31 ?_
        refine rr_icmp_lt F dX8_aside_32 (tgt := 37) (by decide) ⟨by omega, by omega⟩ ⟨by omega, by omega⟩ (fun c_32 => ?_) (fun c_32 => ?_)
        · refine rr_aload_n F dX8_aside_37 rfl ?_
          refine rr_iload_n F dX8_aside_38 rfl ?_
          refine rr_callVV F (ci := 8) (mm_X8_findAside hR hW (by omega) (by omega)) mf_X8_findAside ml_X8_150 ⟨by decide, by decide⟩ (by first | rfl | assumption) (by decide) rfl rfl (Nat.le_of_ble_eq_true rfl) dX8_aside_39 (fun I_39 L_39 h_39 => ?_)
          obtain ⟨f1, f2, f3, rfl⟩ := h_39
          have f1 := f1 j (by omega) (by omega)
          have R1 : MR σ I_39 L := hR.k ⟨fun q a d => f3 q (by omega), fun j hj => by rw [f3 0 (by omega)], rfl⟩
          refine rr_aload_n F dX8_aside_42 rfl ?_
          refine rg_Model_asides F (by first | rfl | assumption) fl_X8_65 dX8_aside_43 ?_
          refine rr_cell (k2 := 10) rfl ?_
          refine rr_bipush F dX8_aside_46 (by decide) ?_
          refine rr_iload_n F dX8_aside_48 rfl ?_
          refine rr_imul F dX8_aside_49 ?_
          refine rr_iload_n F dX8_aside_50 rfl ?_
          refine rr_iadd F dX8_aside_51 ?_
          refine rr_zald F (N := 240) (by first | rfl | assumption) (by omega) (by first | rfl | assumption) (by omega) dX8_aside_52 ?_
          refine rr_if_eq F dX8_aside_53 (tgt := 60) (by decide) ⟨by omega, by omega⟩ (fun c_53 => ?_) (fun c_53 => ?_)
          · refine rr_iconst F dX8_aside_60 ?_
            refine rr_iret F dX8_aside_61 ?_
            refine ⟨_, rfl, ?_, R1⟩
            show _ = sp_aside σ b j
            rw [sp_aside, if_neg (by omega), if_pos (by omega), if_neg (by omega)]
            omega
          · refine rr_iconst F dX8_aside_56 ?_
            refine rr_goto F dX8_aside_57 (tgt := 61) (by decide) ?_
            refine rr_iret F dX8_aside_61 ?_
            refine ⟨_, rfl, ?_, R1⟩
            show _ = sp_aside σ b j
            rw [sp_aside, if_neg (by omega), if_pos (by omega), if_neg (by omega)]
            omega
        · refine rr_iconst F dX8_aside_35 ?_
          refine rr_iret F dX8_aside_36 ?_
          refine ⟨_, rfl, ?_, hR⟩
          show _ = sp_aside σ b j
          rw [sp_aside, if_neg (by omega), if_pos (by omega), if_pos (by omega)]
      · refine rr_bipush F dX8_aside_22 (by decide) ?_
        refine rr_iret F dX8_aside_24 ?_
        refine ⟨_, rfl, ?_, hR⟩
        show _ = sp_aside σ b j
        rw [sp_aside, if_neg (by omega), if_neg (by omega)]; omega
    · refine rr_iconst F dX8_aside_11 ?_
      refine rr_iret F dX8_aside_12 ?_
      refine ⟨_, rfl, ?_, hR⟩
      show _ = sp_aside σ b j
      first | (rw [sp_aside, if_pos (by omega)]; done) | (rw [sp_aside]; split; rfl; rw [if_neg (by omega)]; omega)
