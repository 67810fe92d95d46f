/-! the bytes of a long -/
def bC (w : Int64) (p : Int) : Int := (zI ((w.toUInt64 >>> ((zI (8 * p)).toInt64.toUInt64 &&& Int64.toUInt64 63)).toInt64).toInt32.toInt &&& zI 255).toInt
def bM (w : Int64) (p : Int) : Int := ((w >>> ((zI (8 * p)).toInt64 &&& 63)) &&& 255).toInt32.toInt
theorem b255 (i : Nat) (h : 8 ≤ i) : Nat.testBit 255 i = false := Nat.testBit_lt_two_pow (Nat.lt_of_lt_of_le (by decide) (Nat.pow_le_pow_right (by decide) h))
theorem bits_eq (v : BitVec 64) (s : Nat) (hs : s ≤ 56) : BitVec.setWidth 32 (v >>> s) &&& 255#32 = BitVec.setWidth 32 (v.sshiftRight s &&& 255#64) := by
  apply BitVec.eq_of_getLsbD_eq
  intro i hi
  rw [BitVec.getLsbD_and, BitVec.getLsbD_setWidth, BitVec.getLsbD_setWidth, BitVec.getLsbD_and, BitVec.getLsbD_ushiftRight, BitVec.getLsbD_sshiftRight]
  by_cases h8 : i < 8
  · have h1 : s + i < 64 := by omega
    have e1 : (255#32).getLsbD i = true := by
      have : i = 0 ∨ i = 1 ∨ i = 2 ∨ i = 3 ∨ i = 4 ∨ i = 5 ∨ i = 6 ∨ i = 7 := by omega
      rcases this with rfl | rfl | rfl | rfl | rfl | rfl | rfl | rfl <;> decide
    have e2 : (255#64).getLsbD i = true := by
      have : i = 0 ∨ i = 1 ∨ i = 2 ∨ i = 3 ∨ i = 4 ∨ i = 5 ∨ i = 6 ∨ i = 7 := by omega
      rcases this with rfl | rfl | rfl | rfl | rfl | rfl | rfl | rfl <;> decide
    rw [e1, e2]
    simp [h1, hi]
    omega
  · have e1 : (255#32).getLsbD i = false := by
      rw [BitVec.getLsbD_ofNat, b255 i (by omega), Bool.and_false]
    have e2 : (255#64).getLsbD i = false := by
      rw [BitVec.getLsbD_ofNat, b255 i (by omega), Bool.and_false]
    rw [e1, e2, Bool.and_false, Bool.and_false, Bool.and_false]
theorem t32 (x : Int64) : x.toInt32.toBitVec = BitVec.setWidth 32 x.toBitVec := by
  rw [Int64.toBitVec_toInt32]
  exact BitVec.signExtend_eq_setWidth_of_le _ (by decide)
theorem bC_bv (w : Int64) (p : Int) (s : Nat) (h : (w.toUInt64 >>> ((zI (8 * p)).toInt64.toUInt64 &&& Int64.toUInt64 63)).toBitVec = w.toBitVec >>> s) : bC w p = (BitVec.setWidth 32 (w.toBitVec >>> s) &&& 255#32).toInt := by
  unfold bC
  rw [zI_v]
  show (_ &&& _ : BitVec 32).toInt = _
  congr 1
  rw [t32]
  show BitVec.setWidth 32 (w.toUInt64 >>> ((zI (8 * p)).toInt64.toUInt64 &&& Int64.toUInt64 63)).toBitVec &&& _ = _
  rw [h]
  rfl
theorem bM_bv (w : Int64) (p : Int) (s : Nat) (h : (w >>> ((zI (8 * p)).toInt64 &&& 63)).toBitVec = w.toBitVec.sshiftRight s) : bM w p = (BitVec.setWidth 32 (w.toBitVec.sshiftRight s &&& 255#64)).toInt := by
  unfold bM
  show (Int32.toBitVec _).toInt = _
  congr 1
  rw [t32]
  show BitVec.setWidth 32 ((w >>> ((zI (8 * p)).toInt64 &&& 63)).toBitVec &&& _) = _
  rw [h]
  rfl
theorem bC_bM (w : Int64) {p : Int} (h0 : 0 ≤ p) (h : p < 8) : bC w p = bM w p := by
  have : p = 0 ∨ p = 1 ∨ p = 2 ∨ p = 3 ∨ p = 4 ∨ p = 5 ∨ p = 6 ∨ p = 7 := by omega
  rcases this with rfl | rfl | rfl | rfl | rfl | rfl | rfl | rfl
  · rw [bC_bv w _ 0 rfl, bM_bv w _ 0 rfl, bits_eq _ _ (by decide)]
  · rw [bC_bv w _ 8 rfl, bM_bv w _ 8 rfl, bits_eq _ _ (by decide)]
  · rw [bC_bv w _ 16 rfl, bM_bv w _ 16 rfl, bits_eq _ _ (by decide)]
  · rw [bC_bv w _ 24 rfl, bM_bv w _ 24 rfl, bits_eq _ _ (by decide)]
  · rw [bC_bv w _ 32 rfl, bM_bv w _ 32 rfl, bits_eq _ _ (by decide)]
  · rw [bC_bv w _ 40 rfl, bM_bv w _ 40 rfl, bits_eq _ _ (by decide)]
  · rw [bC_bv w _ 48 rfl, bM_bv w _ 48 rfl, bits_eq _ _ (by decide)]
  · rw [bC_bv w _ 56 rfl, bM_bv w _ 56 rfl, bits_eq _ _ (by decide)]
theorem bC_rg (w : Int64) (p : Int) : rg (bC w p) := rg_i _
theorem bM_rg (w : Int64) (p : Int) : rg (bM w p) := rg_i _
theorem i8_id {z : Int} (h0 : 0 ≤ z) (h : z < 128) : (zI z).toInt8.toInt32.toInt = z := by
  have hz : rg z := ⟨by omega, by omega⟩
  rw [Int8.toInt_toInt32, Int32.toInt_toInt8, zI_toInt hz]
  exact Int.bmod_eq_of_le (by omega) (by omega)
theorem nar8 {z : Int} (h0 : 0 ≤ z) (h : z < 128) : vp_nar .byte (zI z) = zI z := by
  rw [vp_nar_byte, ← Int32.toInt_inj, i8_id h0 h, zI_toInt ⟨by omega, by omega⟩]
/-! typing -/
def okT (w : Int64) (n : Int) : Prop := ∀ p, 0 ≤ p → p < n → 32 ≤ bC w p ∧ bC w p ≤ 126
noncomputable def sp_type (σ : sT) (w : Int64) (n : Int) : Int × sT := @ite (Int × sT) ((1 ≤ n ∧ n ≤ 8) ∧ okT w n) (Classical.propDecidable _) (if 240 < s_tl σ + n then (-3, σ) else (s_tl σ + n, ((s_tl σ + n, fun i => if s_tl σ ≤ i then bC w (n - 1 - (i - s_tl σ)) else s_tb σ i), σ.2.1, σ.2.2))) (-1, σ)
theorem WF_type {σ : sT} (h : WF σ) (w : Int64) (n : Int) : WF (sp_type σ w n).2 := by
  unfold sp_type
  by_cases c : (1 ≤ n ∧ n ≤ 8) ∧ okT w n
  · rw [if_pos c]
    by_cases d : 240 < s_tl σ + n
    · rw [if_pos d]; exact h
    · rw [if_neg d]
      obtain ⟨h1, h2, h3⟩ := h
      refine ⟨⟨by show 0 ≤ s_tl σ + n; omega, by show s_tl σ + n ≤ 240; omega⟩, fun i u v => ?_, h3⟩
      have v : i < s_tl σ + n := v
      show 32 ≤ (if s_tl σ ≤ i then bC w (n - 1 - (i - s_tl σ)) else s_tb σ i) ∧ (if s_tl σ ≤ i then bC w (n - 1 - (i - s_tl σ)) else s_tb σ i) ≤ 126
      by_cases e : s_tl σ ≤ i
      · rw [if_pos e]; exact c.2 _ (by omega) (by omega)
      · rw [if_neg e]; exact h2 i u (by omega)
  · rw [if_neg c]; exact h
set_option maxHeartbeats 4000000 in
set_option maxRecDepth 100000 in
theorem mm_X6_byteAt {l : Launch} {g : gT} {w : Int64} {p : Int} {I : IM} {L : LM} :
    Ct l yX6_byteAt cX6_byteAt 3 (some .int) 0 0 lyC g [.long w, .int (zI p)] I L (pI (fun r I' L' => r = bC w p ∧ I = I' ∧ L = L')) := by
  refine Ct.of RX6 (by decide +kernel) rfl (Nat.le_of_ble_eq_true rfl) (fun x hx F => ?_)
  refine rr_lload_n F dX6_byteAt_0 rfl ?_
  refine rr_bipush F dX6_byteAt_1 (by decide) ?_
  refine rr_iload_n F dX6_byteAt_3 rfl ?_
  refine rr_imul F dX6_byteAt_4 ?_
  refine rr_lushr F dX6_byteAt_5 ?_
  refine rr_l2i F dX6_byteAt_6 ?_
  refine rr_sipush F dX6_byteAt_7 (by decide) ?_
  refine rr_iand F dX6_byteAt_10 ?_
  refine rr_iret F dX6_byteAt_11 ?_
  exact ⟨_, rfl, rfl, rfl, rfl⟩
set_option maxHeartbeats 4000000 in
set_option maxRecDepth 100000 in
theorem mm_X6_isText {l : Launch} {g : gT} {w : Int64} {n : Int} {I : IM} {L : LM} (h1 : 1 ≤ n) (h8 : n ≤ 8) :
    Ct l yX6_isText cX6_isText 5 (some .boolean) 1 22 lyC g [.long w, .int (zI n)] I L (pI (fun r I' L' => ((r = 1 ∧ okT w n) ∨ (r = 0 ∧ ¬ okT w n)) ∧ I = I' ∧ L = L')) := by
  refine Ct.of RX6 (by decide +kernel) rfl (Nat.le_of_ble_eq_true rfl) (fun x hx F => ?_)
  have loop : ∀ (c : Nat) (i : Int), c = (n - i).toNat → 0 ≤ i → i ≤ n → (∀ p, 0 ≤ p → p < i → 32 ≤ bC w p ∧ bC w p ≤ 126) → Rn x lyC g (pI (fun r I' L' => ((r = 1 ∧ okT w n) ∨ (r = 0 ∧ ¬ okT w n)) ∧ I = I' ∧ L = L')) 2 [vl w, none, vn n, vn i, none] [] I L := by
    intro c
    induction c with
    | zero =>
      intro i g1 g2 g3 g4
      refine rr_iload_n F dX6_isText_2 rfl ?_
      refine rr_iload_n F dX6_isText_3 rfl ?_
      refine rr_icmp_ge F dX6_isText_4 (tgt := 36) (by decide) ⟨by omega, by omega⟩ ⟨by omega, by omega⟩ (fun c_4 => ?_) (fun c_4 => ?_)
      · refine rr_iconst F dX6_isText_36 ?_
        refine rr_zret F dX6_isText_37 (by decide) ?_
        exact ⟨_, rfl, Or.inl ⟨rfl, fun p u v => g4 p u (by omega)⟩, rfl, rfl⟩
      · exfalso
        omega
    | succ c ih =>
      intro i g1 g2 g3 g4
      have rb := bC_rg w i
      refine rr_iload_n F dX6_isText_2 rfl ?_
      refine rr_iload_n F dX6_isText_3 rfl ?_
      refine rr_icmp_ge F dX6_isText_4 (tgt := 36) (by decide) ⟨by omega, by omega⟩ ⟨by omega, by omega⟩ (fun c_4 => ?_) (fun c_4 => ?_)
      · exfalso
        omega
      · refine rr_lload_n F dX6_isText_7 rfl ?_
        refine rr_iload_n F dX6_isText_8 rfl ?_
        refine rr_callSI F (mm_X6_byteAt) mf_X6_byteAt ml_X6_19 ⟨by decide, by decide⟩ rfl (Nat.le_of_ble_eq_true rfl) dX6_isText_9 (fun r_9 I_9 L_9 h_9 => ?_)
        obtain ⟨rfl, rfl, rfl⟩ := h_9
        refine rr_istore F dX6_isText_12 (Nat.le_of_ble_eq_true rfl) rfl ?_
        refine rr_iload F dX6_isText_14 rfl ?_
        refine rr_bipush F dX6_isText_16 (by decide) ?_
        refine rr_icmp_lt F dX6_isText_18 (tgt := 28) (by decide) (by exact rb) (by exact ⟨by omega, by omega⟩) (fun c_18 => ?_) (fun c_18 => ?_)
        · refine rr_iconst F dX6_isText_28 ?_
          refine rr_zret F dX6_isText_29 (by decide) ?_
          exact ⟨_, rfl, Or.inr ⟨rfl, fun z => by have := z i (by omega) (by omega); omega⟩, rfl, rfl⟩
        · refine rr_iload F dX6_isText_21 rfl ?_
          refine rr_bipush F dX6_isText_23 (by decide) ?_
          refine rr_icmp_le F dX6_isText_25 (tgt := 30) (by decide) (by exact rb) (by exact ⟨by omega, by omega⟩) (fun c_25 => ?_) (fun c_25 => ?_)
          · refine rr_iinc F dX6_isText_30 rfl rfl ?_
            refine rr_goto F dX6_isText_33 (tgt := 2) (by decide) ?_
            refine rr_drop 4 ?_
            refine ih (i + 1) (by omega) (by omega) (by omega) (fun p u v => ?_)
            by_cases z : p = i
            · subst z; omega
            · exact g4 p u (by omega)
          · refine rr_iconst F dX6_isText_28 ?_
            refine rr_zret F dX6_isText_29 (by decide) ?_
            exact ⟨_, rfl, Or.inr ⟨rfl, fun z => by have := z i (by omega) (by omega); omega⟩, rfl, rfl⟩
  refine rr_iconst F dX6_isText_0 ?_
  refine rr_istore_n F dX6_isText_1 (Nat.le_of_ble_eq_true rfl) rfl ?_
  exact loop _ 0 rfl (by omega) (by omega) (fun p u v => absurd v (by omega))
set_option maxHeartbeats 4000000 in
set_option maxRecDepth 100000 in
theorem mm_X6_hasRoomFor {l : Launch} {g : gT} {t n : Int} {I : IM} {L : LM} (hn1 : 1 ≤ n) (hn8 : n ≤ 8) (ht0 : 0 ≤ t) (ht : t ≤ 240) (hI : I 1 1 = t) :
    Ct l yX6_hasRoomFor cX6_hasRoomFor 2 (some .boolean) 0 0 lyC g [.ref (g.2.1 1), .int (zI n)] I L (pI (fun r I' L' => ((r = 1 ∧ t + n ≤ 240) ∨ (r = 0 ∧ 240 < t + n)) ∧ I = I' ∧ L = L')) := by
  refine Ct.of RX6 (by decide +kernel) rfl (Nat.le_of_ble_eq_true rfl) (fun x hx F => ?_)
  refine rr_aload_n F dX6_hasRoomFor_0 rfl ?_
  refine rg_Tape_length F (by first | rfl | assumption) fl_X6_15 dX6_hasRoomFor_1 ?_
  refine rr_iload_n F dX6_hasRoomFor_4 rfl ?_
  refine rr_iadd F dX6_hasRoomFor_5 ?_
  refine rr_sipush F dX6_hasRoomFor_6 (by decide) ?_
  refine rr_icmp_gt F dX6_hasRoomFor_9 (tgt := 16) (by decide) ⟨by omega, by omega⟩ ⟨by omega, by omega⟩ (fun c_9 => ?_) (fun c_9 => ?_)
  · refine rr_iconst F dX6_hasRoomFor_16 ?_
    refine rr_zret F dX6_hasRoomFor_17 (by decide) ?_
    exact ⟨_, rfl, by omega, rfl, rfl⟩
  · refine rr_iconst F dX6_hasRoomFor_12 ?_
    refine rr_goto F dX6_hasRoomFor_13 (tgt := 17) (by decide) ?_
    refine rr_zret F dX6_hasRoomFor_17 (by decide) ?_
    exact ⟨_, rfl, by omega, rfl, rfl⟩
set_option maxHeartbeats 4000000 in
set_option maxRecDepth 100000 in
theorem mm_X6_clear {l : Launch} {g : gT} {I : IM} {L : LM} :
    Ct l yX6_clear cX6_clear 1 none 0 0 lyC g [.ref (g.2.1 1)] I L (pV (fun I' L' => I' = up2 I 1 1 0 ∧ L = L')) := by
  refine Ct.of RX6 (by decide +kernel) rfl (Nat.le_of_ble_eq_true rfl) (fun x hx F => ?_)
  refine rr_aload_n F dX6_clear_0 rfl ?_
  refine rr_iconst F dX6_clear_1 ?_
  refine rp_Tape_length F (by first | rfl | assumption) fl_X6_15 dX6_clear_2 ?_
  refine rr_vret F dX6_clear_5 ?_
  exact ⟨rfl, rfl, rfl⟩
set_option maxHeartbeats 4000000 in
set_option maxRecDepth 100000 in
theorem mm_X6_append {l : Launch} {g : gT} {w : Int64} {t n : Int} {I : IM} {L : LM} (hn1 : 1 ≤ n) (hn8 : n ≤ 8) (hok : okT w n) (ht0 : 0 ≤ t) (ht : t + n ≤ 240) (hI : I 1 1 = t) :
    Ct l yX6_append cX6_append 5 none 1 22 lyC g [.ref (g.2.1 1), .long w, .int (zI n)] I L (pV (fun I' L' => I' 1 1 = t + n ∧ (∀ i, 0 ≤ i → i < t + n → I' 2 i = if t ≤ i then bC w (n - 1 - (i - t)) else I 2 i) ∧ (∀ q, q ≠ 1 → q ≠ 2 → I' q = I q) ∧ L = L')) := by
  refine Ct.of RX6 (by decide +kernel) rfl (Nat.le_of_ble_eq_true rfl) (fun x hx F => ?_)
  have loop : ∀ (c : Nat) (p : Int) (I1 : IM), c = (p + 1).toNat → -1 ≤ p → p < n → I1 1 1 = t + (n - 1 - p) → (∀ i, 0 ≤ i → i < t + (n - 1 - p) → I1 2 i = if t ≤ i then bC w (n - 1 - (i - t)) else I 2 i) → (∀ q, q ≠ 1 → q ≠ 2 → I1 q = I q) → Rn x lyC g (pV (fun I' L' => I' 1 1 = t + n ∧ (∀ i, 0 ≤ i → i < t + n → I' 2 i = if t ≤ i then bC w (n - 1 - (i - t)) else I 2 i) ∧ (∀ q, q ≠ 1 → q ≠ 2 → I' q = I q) ∧ L = L')) 5 [vr g 1, vl w, none, vn n, vn p] [] I1 L := by
    intro c
    induction c with
    | zero =>
      intro p I1 h1 h2 h3 h4 h5 h6
      have ep : p = -1 := by omega
      subst ep
      refine rr_iload F dX6_append_5 rfl ?_
      refine rr_if_lt F dX6_append_7 (tgt := 52) (by decide) ⟨by omega, by omega⟩ (fun c_7 => ?_) (fun c_7 => ?_)
      · refine rr_vret F dX6_append_52 ?_
        exact ⟨rfl, by omega, fun i u v => h5 i u (by omega), h6, rfl⟩
      · exfalso
        omega
    | succ c ih =>
      intro p I1 h1 h2 h3 h4 h5 h6
      have ok := hok p (by omega) (by omega)
      refine rr_iload F dX6_append_5 rfl ?_
      refine rr_if_lt F dX6_append_7 (tgt := 52) (by decide) ⟨by omega, by omega⟩ (fun c_7 => ?_) (fun c_7 => ?_)
      · exfalso
        omega
      · refine rr_aload_n F dX6_append_10 rfl ?_
        refine rg_Tape_length F (by first | rfl | assumption) fl_X6_15 dX6_append_11 ?_
        refine rr_sipush F dX6_append_14 (by decide) ?_
        refine rr_icmp_ge F dX6_append_17 (tgt := 52) (by decide) ⟨by omega, by omega⟩ ⟨by omega, by omega⟩ (fun c_17 => ?_) (fun c_17 => ?_)
        · exfalso
          omega
        · refine rr_aload_n F dX6_append_20 rfl ?_
          refine rg_Tape_bytes F (by first | rfl | assumption) fl_X6_9 dX6_append_21 ?_
          refine rr_cell (k2 := 2) rfl ?_
          refine rr_aload_n F dX6_append_24 rfl ?_
          refine rg_Tape_length F (by first | rfl | assumption) fl_X6_15 dX6_append_25 ?_
          refine rr_lload_n F dX6_append_28 rfl ?_
          refine rr_iload F dX6_append_29 rfl ?_
          refine rr_callSI F (mm_X6_byteAt) mf_X6_byteAt ml_X6_19 ⟨by decide, by decide⟩ rfl (Nat.le_of_ble_eq_true rfl) dX6_append_31 (fun r_31 I_31 L_31 h_31 => ?_)
          obtain ⟨rfl, rfl, rfl⟩ := h_31
          refine rr_i2b F dX6_append_34 ?_
          rw [i8_id (by omega) (by omega)]
          refine rr_bast F (N := 240) (by first | rfl | assumption) (by omega) (by first | rfl | assumption) (by omega) (by exact nar8 (by omega) (by omega)) dX6_append_35 ?_
          refine rr_aload_n F dX6_append_36 rfl ?_
          refine rr_dup F dX6_append_37 rfl ?_
          refine rg_Tape_length F (by first | rfl | assumption) fl_X6_15 dX6_append_38 ?_
          refine rr_iconst F dX6_append_41 ?_
          refine rr_iadd F dX6_append_42 ?_
          refine rp_Tape_length F (by first | rfl | assumption) fl_X6_15 dX6_append_43 ?_
          refine rr_iinc F dX6_append_46 rfl rfl ?_
          refine rr_goto F dX6_append_49 (tgt := 5) (by decide) ?_
          refine ih (p + -1) _ (by omega) (by omega) (by omega) ?_ (fun i u v => ?_) (fun q u v => ?_)
          · rw [up2_same, up2_cell _ _ _ (by omega), h4]; omega
          · rw [up2_cell _ _ _ (by omega)]
            by_cases z : i = I1 1 1
            · rw [z, up2_same, h4, if_pos (by omega), show n - 1 - (t + (n - 1 - p) - t) = p by omega]
            · rw [up2_ne _ _ _ z]; exact h5 i u (by omega)
          · rw [up2_cell _ _ _ u, up2_cell _ _ _ v]; exact h6 q u v
  refine rr_iload_n F dX6_append_0 rfl ?_
  refine rr_iconst F dX6_append_1 ?_
  refine rr_isub F dX6_append_2 ?_
  refine rr_istore F dX6_append_3 (Nat.le_of_ble_eq_true rfl) rfl ?_
  exact loop _ (n - 1) I rfl (by omega) (by omega) (by omega) (fun i u v => by rw [if_neg (by omega)]) (fun q u v => rfl)
set_option maxHeartbeats 4000000 in
set_option maxRecDepth 100000 in
theorem mm_X7_type {l : Launch} {g : gT} {σ : sT} {w : Int64} {n : Int} {I : IM} {L : LM} (hn : rg n) (hR : CR σ I L) (hW : WF σ) :
    Ct l yX7_type cX7_type 4 (some .int) 2 46 lyC g [.ref (g.2.1 0), .long w, .int (zI n)] I L (pS CR (sp_type σ w n)) := by
  have w1 := hW.1
  have hn' := hn
  unfold rg at hn'
  obtain ⟨h1, h2, h3, h4⟩ := id hR
  refine Ct.of RX7 (by decide +kernel) rfl (Nat.le_of_ble_eq_true rfl) (fun x hx F => ?_)
  refine rr_iload_n F dX7_type_0 rfl ?_
  refine rr_iconst F dX7_type_1 ?_
  refine rr_icmp_lt F dX7_type_2 (tgt := 19) (by decide) ⟨by omega, by omega⟩ ⟨by omega, by omega⟩ (fun c_2 => ?_) (fun c_2 => ?_)
  · refine rr_iconst F dX7_type_19 ?_
    refine rr_iret F dX7_type_20 ?_
    refine ⟨_, rfl, ?_⟩
    rw [sp_type, if_neg]
    · exact ⟨rfl, hR⟩
    · intro z
      first | omega | exact e13.elim (fun y => absurd y.1 (by omega)) (fun y => y.2 z.2)
  · refine rr_iload_n F dX7_type_5 rfl ?_
    refine rr_bipush F dX7_type_6 (by decide) ?_
    refine rr_icmp_gt F dX7_type_8 (tgt := 19) (by decide) ⟨by omega, by omega⟩ ⟨by omega, by omega⟩ (fun c_8 => ?_) (fun c_8 => ?_)
    · refine rr_iconst F dX7_type_19 ?_
      refine rr_iret F dX7_type_20 ?_
      refine ⟨_, rfl, ?_⟩
      rw [sp_type, if_neg]
      · exact ⟨rfl, hR⟩
      · intro z
        first | omega | exact e13.elim (fun y => absurd y.1 (by omega)) (fun y => y.2 z.2)
    · refine rr_lload_n F dX7_type_11 rfl ?_
      refine rr_iload_n F dX7_type_12 rfl ?_
      refine rr_callSI F (mm_X6_isText (by omega) (by omega)) mf_X6_isText ml_X7_44 ⟨by decide, by decide⟩ rfl (Nat.le_of_ble_eq_true rfl) dX7_type_13 (fun r_13 I_13 L_13 h_13 => ?_)
      obtain ⟨e13, rfl, rfl⟩ := h_13
      refine rr_if_ne F dX7_type_16 (tgt := 21) (by decide) (by exact ⟨by rcases e13 with z | z <;> omega, by rcases e13 with z | z <;> omega⟩) (fun c_16 => ?_) (fun c_16 => ?_)
      · refine rr_aload_n F dX7_type_21 rfl ?_
        refine rg_BP_tape F (by first | rfl | assumption) fl_X7_10 dX7_type_22 ?_
        refine rr_cell (k2 := 1) rfl ?_
        refine rr_iload_n F dX7_type_25 rfl ?_
        refine rr_callVI F (ci := 6) (mm_X6_hasRoomFor (by omega) (by omega) w1.1 w1.2 h1) mf_X6_hasRoomFor ml_X7_48 ⟨by decide, by decide⟩ (by first | rfl | assumption) (by decide) rfl rfl (Nat.le_of_ble_eq_true rfl) dX7_type_26 (fun r_26 I_26 L_26 h_26 => ?_)
        obtain ⟨e26, rfl, rfl⟩ := h_26
        refine rr_if_ne F dX7_type_29 (tgt := 35) (by decide) ⟨by omega, by omega⟩ (fun c_29 => ?_) (fun c_29 => ?_)
        · refine rr_aload_n F dX7_type_35 rfl ?_
          refine rg_BP_tape F (by first | rfl | assumption) fl_X7_10 dX7_type_36 ?_
          refine rr_cell (k2 := 1) rfl ?_
          refine rr_lload_n F dX7_type_39 rfl ?_
          refine rr_iload_n F dX7_type_40 rfl ?_
          refine rr_callVV F (ci := 6) (mm_X6_append (by omega) (by omega) (e13.elim (fun z => z.2) (fun z => absurd z.1 c_16)) w1.1 (by omega) h1) mf_X6_append ml_X7_52 ⟨by decide, by decide⟩ (by first | rfl | assumption) (by decide) rfl rfl (Nat.le_of_ble_eq_true rfl) dX7_type_41 (fun I_41 L_41 h_41 => ?_)
          obtain ⟨a1, a2, a3, rfl⟩ := h_41
          refine rr_aload_n F dX7_type_44 rfl ?_
          refine rg_BP_tape F (by first | rfl | assumption) fl_X7_10 dX7_type_45 ?_
          refine rr_cell (k2 := 1) rfl ?_
          refine rg_Tape_length F (by first | rfl | assumption) fl_X7_56 dX7_type_48 ?_
          refine rr_iret F dX7_type_51 ?_
          refine ⟨_, rfl, ?_⟩
          rw [sp_type, if_pos ⟨by omega, e13.elim (fun z => z.2) (fun z => absurd z.1 c_16)⟩, if_neg (by omega)]
          refine ⟨a1, a1, fun i u v => ?_, fun b u v => ?_, ?_⟩
          · rw [a2 i u v]
            show _ = if s_tl σ ≤ i then bC w (n - 1 - (i - s_tl σ)) else s_tb σ i
            by_cases e : s_tl σ ≤ i
            · rw [if_pos e, if_pos e]
            · rw [if_neg e, if_neg e]; exact h2 i u (by omega)
          · rw [a3 (bk b) (by unfold bk; omega) (by unfold bk; omega)]; exact h3 b u v
          · rw [a3 4 (by omega) (by omega)]; exact h4
        · refine rr_bipush F dX7_type_32 (by decide) ?_
          refine rr_iret F dX7_type_34 ?_
          refine ⟨_, rfl, ?_⟩
          rw [sp_type, if_pos ⟨by omega, e13.elim (fun z => z.2) (fun z => absurd z.1 c_16)⟩, if_pos (by omega)]
          exact ⟨rfl, hR⟩
      · refine rr_iconst F dX7_type_19 ?_
        refine rr_iret F dX7_type_20 ?_
        refine ⟨_, rfl, ?_⟩
        rw [sp_type, if_neg]
        · exact ⟨rfl, hR⟩
        · intro z
          first | omega | exact e13.elim (fun y => absurd y.1 (by omega)) (fun y => y.2 z.2)
set_option maxHeartbeats 4000000 in
set_option maxRecDepth 100000 in
theorem mm_X8_type {l : Launch} {g : gT} {σ : sT} {w : Int64} {n : Int} {I : IM} {L : LM} (hn : rg n) (hR : MR σ I L) (hW : WF σ) :
    Ct l yX8_type cX8_type 5 (some .int) 1 22 lyM g [.ref (g.2.1 0), .long w, .int (zI n)] I L (pS MR (sp_type σ w n)) := by
  have w1 := hW.1
  have hn' := hn
  unfold rg at hn'
  obtain ⟨h1, h2, h3, h4, h5, h6, h7, h8, h9⟩ := id hR
  refine Ct.of RX8 (by decide +kernel) rfl (Nat.le_of_ble_eq_true rfl) (fun x hx F => ?_)
  have loopB : (1 ≤ n ∧ n ≤ 8) → okT w n → s_tl σ + n ≤ 240 → ∀ (c : Nat) (p : Int) (I1 : IM), c = (p + 1).toNat → -1 ≤ p → p < n → I1 0 1 = s_tl σ + (n - 1 - p) → (∀ i, 0 ≤ i → i < s_tl σ + (n - 1 - p) → I1 1 i = if s_tl σ ≤ i then bC w (n - 1 - (i - s_tl σ)) else s_tb σ i) → (∀ q, q ≠ 0 → q ≠ 1 → I1 q = I q) → (∀ j, j ≠ 1 → I1 0 j = I 0 j) → Rn x lyM g (pS MR (sp_type σ w n)) 72 [vr g 0, vl w, none, vn n, vn p] [] I1 L := by
    intro hn1 hok htn c
    induction c with
    | zero =>
      intro p I1 g1 g2 g3 g4 g5 g6 g7
      have ep : p = -1 := by omega
      subst ep
      refine rr_iload F dX8_type_72 rfl ?_
      refine rr_if_lt F dX8_type_74 (tgt := 114) (by decide) ⟨by omega, by omega⟩ (fun c_74 => ?_) (fun c_74 => ?_)
      · refine rr_aload_n F dX8_type_114 rfl ?_
        refine rg_Model_taped F (by first | rfl | assumption) fl_X8_92 dX8_type_115 ?_
        refine rr_iret F dX8_type_118 ?_
        refine ⟨_, rfl, ?_⟩
        rw [sp_type, if_pos ⟨hn1, hok⟩, if_neg (by omega)]
        refine ⟨by show I1 0 1 = s_tl σ + n; omega, by show I1 0 1 = s_tl σ + n; omega, fun i u v => g5 i u (by have v : i < s_tl σ + n := v; omega), fun b u v => ?_, by rw [g7 11 (by omega)]; exact h4, by rw [g7 7 (by omega)]; exact h5, by rw [g7 8 (by omega)]; exact h6, by rw [g7 9 (by omega)]; exact h7, by rw [g7 10 (by omega)]; exact h8, h9⟩
        rw [g6 2 (by omega) (by omega), g6 3 (by omega) (by omega), g6 4 (by omega) (by omega), g6 5 (by omega) (by omega)]
        exact h3 b u v
      · exfalso
        omega
    | succ c ih =>
      intro p I1 g1 g2 g3 g4 g5 g6 g7
      have ok := hok p (by omega) (by omega)
      have em := bC_bM w (p := p) (by omega) (by omega)
      have em' : ((w >>> ((zI (8 * p)).toInt64 &&& 63)) &&& 255).toInt32.toInt = bC w p := em.symm
      refine rr_iload F dX8_type_72 rfl ?_
      refine rr_if_lt F dX8_type_74 (tgt := 114) (by decide) ⟨by omega, by omega⟩ (fun c_74 => ?_) (fun c_74 => ?_)
      · exfalso
        omega
      · refine rr_aload_n F dX8_type_77 rfl ?_
        refine rg_Model_tape F (by first | rfl | assumption) fl_X8_7 dX8_type_78 ?_
        refine rr_cell (k2 := 1) rfl ?_
        refine rr_aload_n F dX8_type_81 rfl ?_
        refine rg_Model_taped F (by first | rfl | assumption) fl_X8_92 dX8_type_82 ?_
        refine rr_lload_n F dX8_type_85 rfl ?_
        refine rr_bipush F dX8_type_86 (by decide) ?_
        refine rr_iload F dX8_type_88 rfl ?_
        refine rr_imul F dX8_type_90 ?_
        refine rr_lshr F dX8_type_91 ?_
        refine rr_ldc2 F dX8_type_92 co_X8_90 ?_
        refine rr_land F dX8_type_95 ?_
        refine rr_l2i F dX8_type_96 ?_
        rw [em']
        refine rr_iast F (N := 240) (by first | rfl | assumption) (by omega) (by first | rfl | assumption) (by omega) dX8_type_97 ?_
        refine rr_aload_n F dX8_type_98 rfl ?_
        refine rr_dup F dX8_type_99 rfl ?_
        refine rg_Model_taped F (by first | rfl | assumption) fl_X8_92 dX8_type_100 ?_
        refine rr_iconst F dX8_type_103 ?_
        refine rr_iadd F dX8_type_104 ?_
        refine rp_Model_taped F (by first | rfl | assumption) fl_X8_92 dX8_type_105 ?_
        refine rr_iinc F dX8_type_108 rfl rfl ?_
        refine rr_goto F dX8_type_111 (tgt := 72) (by decide) ?_
        refine ih (p + -1) _ (by omega) (by omega) (by omega) ?_ (fun i u v => ?_) (fun q u v => ?_) (fun j u => ?_)
        · rw [up2_same, up2_cell _ _ _ (by omega), g4]; omega
        · rw [up2_cell _ _ _ (by omega)]
          by_cases z : i = I1 0 1
          · rw [z, up2_same, g4, if_pos (by omega), show n - 1 - (s_tl σ + (n - 1 - p) - s_tl σ) = p by omega]
          · rw [up2_ne _ _ _ z]; exact g5 i u (by omega)
        · rw [up2_cell _ _ _ u, up2_cell _ _ _ v]; exact g6 q u v
        · rw [up2_ne _ _ _ u, up2_cell _ _ _ (by omega)]; exact g7 j u
  have loopA : (1 ≤ n ∧ n ≤ 8) → ∀ (c : Nat) (p : Int), c = (p + 1).toNat → -1 ≤ p → p < n → (∀ q, p < q → q < n → 32 ≤ bC w q ∧ bC w q ≤ 126) → Rn x lyM g (pS MR (sp_type σ w n)) 17 [vr g 0, vl w, none, vn n, vn p] [] I L := by
    intro hn1 c
    induction c with
    | zero =>
      intro p g1 g2 g3 g4
      have hok : okT w n := fun q u v => g4 q (by omega) v
      refine rr_iload F dX8_type_17 rfl ?_
      refine rr_if_lt F dX8_type_19 (tgt := 52) (by decide) ⟨by omega, by omega⟩ (fun c_19 => ?_) (fun c_19 => ?_)
      · refine rr_aload_n F dX8_type_52 rfl ?_
        refine rg_Model_taped F (by first | rfl | assumption) fl_X8_92 dX8_type_53 ?_
        refine rr_iload_n F dX8_type_56 rfl ?_
        refine rr_iadd F dX8_type_57 ?_
        refine rr_sipush F dX8_type_58 (by decide) ?_
        refine rr_icmp_le F dX8_type_61 (tgt := 67) (by decide) ⟨by omega, by omega⟩ ⟨by omega, by omega⟩ (fun c_61 => ?_) (fun c_61 => ?_)
        · refine rr_iload_n F dX8_type_67 rfl ?_
          refine rr_iconst F dX8_type_68 ?_
          refine rr_isub F dX8_type_69 ?_
          refine rr_istore F dX8_type_70 (Nat.le_of_ble_eq_true rfl) rfl ?_
          exact loopB hn1 hok (by omega) _ (n - 1) I rfl (by omega) (by omega) (by omega) (fun i u v => by rw [if_neg (by omega)]; exact h2 i u (by omega)) (fun q u v => rfl) (fun j u => rfl)
        · refine rr_bipush F dX8_type_64 (by decide) ?_
          refine rr_iret F dX8_type_66 ?_
          refine ⟨_, rfl, ?_⟩
          rw [sp_type, if_pos ⟨hn1, hok⟩, if_pos (by omega)]
          exact ⟨rfl, hR⟩
      · exfalso
        omega
    | succ c ih =>
      intro p g1 g2 g3 g4
      have em := bC_bM w (p := p) (by omega) (by omega)
      have em' : ((w >>> ((zI (8 * p)).toInt64 &&& 63)) &&& 255).toInt32.toInt = bC w p := em.symm
      refine rr_iload F dX8_type_17 rfl ?_
      refine rr_if_lt F dX8_type_19 (tgt := 52) (by decide) ⟨by omega, by omega⟩ (fun c_19 => ?_) (fun c_19 => ?_)
      · exfalso
        omega
      · refine rr_lload_n F dX8_type_22 rfl ?_
        refine rr_bipush F dX8_type_23 (by decide) ?_
        refine rr_iload F dX8_type_25 rfl ?_
        refine rr_imul F dX8_type_27 ?_
        refine rr_lshr F dX8_type_28 ?_
        refine rr_ldc2 F dX8_type_29 co_X8_90 ?_
        refine rr_land F dX8_type_32 ?_
        refine rr_l2i F dX8_type_33 ?_
        rw [em']
        refine rr_bipush F dX8_type_34 (by decide) ?_
        refine rr_bipush F dX8_type_36 (by decide) ?_
        refine rr_callSI F (mm_X8_in (bC_rg w p) ⟨by omega, by omega⟩ ⟨by omega, by omega⟩) mf_X8_in ml_X8_86 ⟨by decide, by decide⟩ rfl (Nat.le_of_ble_eq_true rfl) dX8_type_38 (fun r_38 I_38 L_38 h_38 => ?_)
        obtain ⟨e38, rfl, rfl⟩ := h_38
        refine rr_if_ne F dX8_type_41 (tgt := 46) (by decide) ⟨by omega, by omega⟩ (fun c_41 => ?_) (fun c_41 => ?_)
        · refine rr_iinc F dX8_type_46 rfl rfl ?_
          refine rr_goto F dX8_type_49 (tgt := 17) (by decide) ?_
          refine ih (p + -1) (by omega) (by omega) (by omega) (fun q u v => ?_)
          by_cases z : q = p
          · subst z; omega
          · exact g4 q (by omega) v
        · refine rr_iconst F dX8_type_44 ?_
          refine rr_iret F dX8_type_45 ?_
          refine ⟨_, rfl, ?_⟩
          rw [sp_type, if_neg]
          · exact ⟨rfl, hR⟩
          · intro z
            have := z.2 p (by omega) (by omega)
            omega
  refine rr_iload_n F dX8_type_0 rfl ?_
  refine rr_iconst F dX8_type_1 ?_
  refine rr_bipush F dX8_type_2 (by decide) ?_
  refine rr_callSI F (mm_X8_in hn ⟨by omega, by omega⟩ ⟨by omega, by omega⟩) mf_X8_in ml_X8_86 ⟨by decide, by decide⟩ rfl (Nat.le_of_ble_eq_true rfl) dX8_type_4 (fun r_4 I_4 L_4 h_4 => ?_)
  obtain ⟨e4, rfl, rfl⟩ := h_4
  refine rr_if_ne F dX8_type_7 (tgt := 12) (by decide) ⟨by omega, by omega⟩ (fun c_7 => ?_) (fun c_7 => ?_)
  · refine rr_iload_n F dX8_type_12 rfl ?_
    refine rr_iconst F dX8_type_13 ?_
    refine rr_isub F dX8_type_14 ?_
    refine rr_istore F dX8_type_15 (Nat.le_of_ble_eq_true rfl) rfl ?_
    exact loopA (by omega) _ (n - 1) rfl (by omega) (by omega) (fun q u v => absurd v (by omega))
  · refine rr_iconst F dX8_type_10 ?_
    refine rr_iret F dX8_type_11 ?_
    refine ⟨_, rfl, ?_⟩
    rw [sp_type, if_neg (fun z => by have := z.1; omega)]
    exact ⟨rfl, hR⟩
