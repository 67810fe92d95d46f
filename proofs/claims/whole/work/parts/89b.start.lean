/-! the law's loop, and its start -/
set_option maxHeartbeats 4000000 in
theorem lw_loop {p : Program} {l : Launch} {e : Env} {s : State} {m : MethodId} {below : List Frame} {meth : Method} {c : Code} {b L : Nat} {xs : Nat → Int32} {D : va_G} {ac am : Nat → Nat} {cy : Nat → ClassId} (E : LE p s m c b L xs D ac am cy) (hL : L ≤ 2560) (hr : meth.sig.returnType = ret) (hlocks : meth.locks = false) :
    ∀ (n i : Nat), L ≤ i + n → i ≤ 2565 → ∀ (σ : sT) (I : IM) (LL : LM) (J : IM) (KK : LM) (H : Heap) (locs : List Loc) (ls : Array Slot), LI s D ac am cy σ I LL J KK H locs → lv_has ls 4 [(3, .int (zI (i : Int))), (0, .ref b), (1, .ref (ac 0)), (2, .ref (am 0))] → W p l e room_1 s m #[Value.ref b] below meth c H locs 600000 7302250 (lw_Z below #[Value.ref b] s) (F0 m 18 ls []) := by
  have hx := E.1
  have hb := E.2.1
  have hX := E.2.2.2.2.2.2.2.2.2.2.1
  have hbl := E.2.2.2.2.2.2.2.2.2.2.2
  intro n
  induction n using Nat.strongRecOn with
  | _ n ih =>
    intro i hn hi5 σ I LL J KK H locs ls hI hl
    have hS := hI.2.2.1
    refine lv_iload_n hx hb dL_law_18 rfl (lv_at hl 0 rfl) ?_
    refine lv_aload_n hx hb dL_law_19 rfl (lv_at hl 1 rfl) ?_
    refine va_slen hx hb hX hbl (Nat.not_le.mpr hbl) hS dL_law_20 ?_
    refine lv_iconst (v := zI 5) hx hb dL_law_21 (by decide) ?_
    refine lv_isub hx hb dL_law_22 ?_
    have e5 : Int32.ofNat L - zI 5 = zI ((L : Int) - 5) := by
      have e6 : Int32.ofNat L = zI (L : Int) := (zI_nat L).symm
      rw [e6]
      exact (Int32.ofInt_sub _ _).symm
    rw [e5]
    refine lv_icmp_gt (tgt := 795) hx hb dL_law_23 (by decide) (fun c1 => ?_) (fun c1 => ?_)
    · refine lv_iconst (v := 1) hx hb dL_law_795 (by decide) ?_
      refine va_forget (fun q hq => hS.2.2 q hq) ?_
      exact lw_ret hx hb hr hlocks dL_law_796
    · have c2 : ¬ (L : Int) - 5 < (i : Int) := fun h => c1 ((zI_lt ⟨by omega, by omega⟩ ⟨by omega, by omega⟩).mpr h)
      have hi : i + 5 ≤ L := by omega
      refine lv_aload_n hx hb dL_law_26 rfl (lv_at hl 1 rfl) ?_
      refine lv_iload_n hx hb dL_law_27 rfl (lv_at hl 0 rfl) ?_
      refine va_sld hx hb hX hbl (Nat.not_le.mpr hbl) hS (zI_in (n := i) (by omega) (by omega)) dL_law_28 ?_
      refine lv_bipush (v := zI 31) hx hb dL_law_29 (by decide) ?_
      refine lv_iand hx hb dL_law_31 ?_
      refine lv_topi (fun v _ => ?_)
      have K0 : ∀ (σ' : sT) (I' : IM) (L' : LM) (J' : IM) (K' : LM) (H' : Heap) (locs' : List Loc), LI s D ac am cy σ' I' L' J' K' H' locs' → W p l e room_1 s m #[Value.ref b] below meth c H' locs' 600000 7302250 (lw_Z below #[Value.ref b] s) (F0 m 789 ls []) := by
        intro σ' I' L' J' K' H' locs' hI'
        refine lv_iinc (v := zI ((i + 5 : Nat) : Int)) (lv' := [(3, .int (zI ((i + 5 : Nat) : Int))), (0, .ref b), (1, .ref (ac 0)), (2, .ref (am 0))]) hx hb dL_law_789 hl (k := 0) rfl (by rw [Int.natCast_add]; exact (Int32.ofInt_add _ _).symm) (by decide) rfl (fun ls2 hl2 => ?_)
        refine lv_goto (tgt := 18) hx hb dL_law_792 (by decide) ?_
        exact ih (n - 5) (by omega) (i + 5) (by omega) (by omega) σ' I' L' J' K' H' locs' ls2 hI' hl2
      by_cases hv : v.toInt < 0 ∨ 19 < v.toInt
      · refine lv_tableOut (tgt := 789) hx hb dL_law_32 hv (by decide) ?_
        exact K0 _ _ _ _ _ _ _ hI
      · have hv2 : v.toInt = 0 ∨ v.toInt = 1 ∨ v.toInt = 2 ∨ v.toInt = 3 ∨ v.toInt = 4 ∨ v.toInt = 5 ∨ v.toInt = 6 ∨ v.toInt = 7 ∨ v.toInt = 8 ∨ v.toInt = 9 ∨ v.toInt = 10 ∨ v.toInt = 11 ∨ v.toInt = 12 ∨ v.toInt = 13 ∨ v.toInt = 14 ∨ v.toInt = 15 ∨ v.toInt = 16 ∨ v.toInt = 17 ∨ v.toInt = 18 ∨ v.toInt = 19 := by omega
        rcases hv2 with h | h | h | h | h | h | h | h | h | h | h | h | h | h | h | h | h | h | h | h
        · refine lv_tableIn (off := 96) (tgt := 128) hx hb dL_law_32 (by omega) (by omega) (by rw [h]; rfl) (by decide) ?_
          exact lw_case_type E hL hi hl hI K0
        · refine lv_tableIn (off := 159) (tgt := 191) hx hb dL_law_32 (by omega) (by omega) (by rw [h]; rfl) (by decide) ?_
          exact lw_case_book E hL hi hl hI K0
        · refine lv_tableIn (off := 202) (tgt := 234) hx hb dL_law_32 (by omega) (by omega) (by rw [h]; rfl) (by decide) ?_
          exact lw_case_withdraw E hL hi hl hI K0
        · refine lv_tableIn (off := 225) (tgt := 257) hx hb dL_law_32 (by omega) (by omega) (by rw [h]; rfl) (by decide) ?_
          exact lw_case_token E hL hi hl hI K0
        · refine lv_tableIn (off := 259) (tgt := 291) hx hb dL_law_32 (by omega) (by omega) (by rw [h]; rfl) (by decide) ?_
          exact lw_case_windows E hL hi hl hI K0
        · refine lv_tableIn (off := 292) (tgt := 324) hx hb dL_law_32 (by omega) (by omega) (by rw [h]; rfl) (by decide) ?_
          exact lw_case_gap E hL hi hl hI K0
        · refine lv_tableIn (off := 315) (tgt := 347) hx hb dL_law_32 (by omega) (by omega) (by rw [h]; rfl) (by decide) ?_
          exact lw_case_link E hL hi hl hI K0
        · refine lv_tableIn (off := 338) (tgt := 370) hx hb dL_law_32 (by omega) (by omega) (by rw [h]; rfl) (by decide) ?_
          exact lw_case_given E hL hi hl hI K0
        · refine lv_tableIn (off := 361) (tgt := 393) hx hb dL_law_32 (by omega) (by omega) (by rw [h]; rfl) (by decide) ?_
          exact lw_case_hash E hL hi hl hI K0
        · refine lv_tableIn (off := 394) (tgt := 426) hx hb dL_law_32 (by omega) (by omega) (by rw [h]; rfl) (by decide) ?_
          exact lw_case_markAt E hL hi hl hI K0
        · refine lv_tableIn (off := 427) (tgt := 459) hx hb dL_law_32 (by omega) (by omega) (by rw [h]; rfl) (by decide) ?_
          exact lw_case_aside E hL hi hl hI K0
        · refine lv_tableIn (off := 460) (tgt := 492) hx hb dL_law_32 (by omega) (by omega) (by rw [h]; rfl) (by decide) ?_
          exact lw_case_runs E hL hi hl hI K0
        · refine lv_tableIn (off := 493) (tgt := 525) hx hb dL_law_32 (by omega) (by omega) (by rw [h]; rfl) (by decide) ?_
          exact lw_case_run E hL hi hl hI K0
        · refine lv_tableIn (off := 546) (tgt := 578) hx hb dL_law_32 (by omega) (by omega) (by rw [h]; rfl) (by decide) ?_
          exact lw_case_score E hL hi hl hI K0
        · refine lv_tableIn (off := 579) (tgt := 611) hx hb dL_law_32 (by omega) (by omega) (by rw [h]; rfl) (by decide) ?_
          exact lw_case_chain E hL hi hl hI K0
        · refine lv_tableIn (off := 622) (tgt := 654) hx hb dL_law_32 (by omega) (by omega) (by rw [h]; rfl) (by decide) ?_
          exact lw_case_covered E hL hi hl hI K0
        · refine lv_tableIn (off := 655) (tgt := 687) hx hb dL_law_32 (by omega) (by omega) (by rw [h]; rfl) (by decide) ?_
          exact lw_case_group E hL hi hl hI K0
        · refine lv_tableIn (off := 678) (tgt := 710) hx hb dL_law_32 (by omega) (by omega) (by rw [h]; rfl) (by decide) ?_
          exact lw_case_first E hL hi hl hI K0
        · refine lv_tableIn (off := 701) (tgt := 733) hx hb dL_law_32 (by omega) (by omega) (by rw [h]; rfl) (by decide) ?_
          exact lw_case_count E hL hi hl hI K0
        · refine lv_tableIn (off := 724) (tgt := 756) hx hb dL_law_32 (by omega) (by omega) (by rw [h]; rfl) (by decide) ?_
          exact lw_case_chance E hL hi hl hI K0
/-! the worlds as the constructors leave them -/
def I0C : IM := fun k j => if k = 4 then (if j = 1 then -1 else if j = 2 then 3 else if j = 3 then 4 else if j = 4 then 2 else if j = 5 then 8 else 0) else 0
def L0C : LM := fun _ _ => 0
def I0M : IM := fun k j => if k = 0 then (if j = 7 then 3 else if j = 8 then 4 else if j = 9 then 2 else if j = 10 then 8 else if j = 11 then -1 else 0) else 0
def L0M : LM := fun k j => if k = 7 then (if j = 0 then 339 else if j = 1 then 8787 else if j = 2 then 236 else if j = 3 then 16633 else if j = 4 then 7367 else 0) else 0
def σ0 : sT := ((0, fun _ => 0), (fun _ => 0, fun _ => 0, fun _ => 0, fun _ => 0, fun _ _ => 0), (3, 4, 2, 8, -1))
theorem arrV_ext (cA : ClassId) {n : Nat} {f f' : Nat → Value} (h : ∀ j, j < n → f j = f' j) : arrV cA n f = arrV cA n f' := by
  unfold arrV
  congr 1
  congr 1
  funext j
  exact h j.val j.isLt
set_option maxHeartbeats 4000000 in
set_option maxRecDepth 100000 in
theorem Fw_C {D : va_G} {cy : Nat → ClassId} {ad : Nat → Nat} {H : Heap} (h : va_P D vwCl (FwX7 cy ad) H) : va_P D vwCl (wl lyC (D, ad, cy) I0C L0C) H := by
  intro k q hq
  have hk : k < lyC.length := by
    have := (List.getElem?_eq_some_iff.mp hq).1
    simpa using this
  rw [wl_get _ _ _ hk] at hq
  cases hq
  have hk : k < 42 := hk
  by_cases h5 : k = 5
  · subst h5
    have h5 : H[ad 5]? = some (vp_cell (cy 13) (6, .inr (.inr (.inr (.inr (va_up (va_up (va_up (va_up (va_up (va_up (fun _ => none) 0 (some (ad 6))) 1 (some (ad 8))) 2 (some (ad 10))) 3 (some (ad 12))) 4 (some (ad 14))) 5 (some (ad 16)))))))) := h 5 _ rfl
    show H[ad 5]? = some (vp_cell (cy 13) (6, .inr (.inr (.inr (.inr (fun j => some (ad (5 + 1 + 2 * j))))))))
    rw [h5, vp_cell_q, vp_cell_q]
    exact congrArg some (arrV_ext _ (fun j hj => by rcases (show j = 0 ∨ j = 1 ∨ j = 2 ∨ j = 3 ∨ j = 4 ∨ j = 5 by omega) with rfl | rfl | rfl | rfl | rfl | rfl <;> rfl))
  · refine h k _ ?_
    rcases (show k = 0 ∨ k = 1 ∨ k = 2 ∨ k = 3 ∨ k = 4 ∨ k = 6 ∨ k = 7 ∨ k = 8 ∨ k = 9 ∨ k = 10 ∨ k = 11 ∨ k = 12 ∨ k = 13 ∨ k = 14 ∨ k = 15 ∨ k = 16 ∨ k = 17 ∨ k = 18 ∨ k = 19 ∨ k = 20 ∨ k = 21 ∨ k = 22 ∨ k = 23 ∨ k = 24 ∨ k = 25 ∨ k = 26 ∨ k = 27 ∨ k = 28 ∨ k = 29 ∨ k = 30 ∨ k = 31 ∨ k = 32 ∨ k = 33 ∨ k = 34 ∨ k = 35 ∨ k = 36 ∨ k = 37 ∨ k = 38 ∨ k = 39 ∨ k = 40 ∨ k = 41 by omega) with rfl | rfl | rfl | rfl | rfl | rfl | rfl | rfl | rfl | rfl | rfl | rfl | rfl | rfl | rfl | rfl | rfl | rfl | rfl | rfl | rfl | rfl | rfl | rfl | rfl | rfl | rfl | rfl | rfl | rfl | rfl | rfl | rfl | rfl | rfl | rfl | rfl | rfl | rfl | rfl | rfl <;> rfl
set_option maxHeartbeats 4000000 in
set_option maxRecDepth 100000 in
theorem Fw_M {D : va_G} {cy : Nat → ClassId} {ad : Nat → Nat} {H : Heap} (h : va_P D vwCl (FwX8 cy ad) H) : va_P D vwCl (wl lyM (D, ad, cy) I0M L0M) H := by
  intro k q hq
  have hk : k < lyM.length := by
    have := (List.getElem?_eq_some_iff.mp hq).1
    simpa using this
  rw [wl_get _ _ _ hk] at hq
  cases hq
  have hk : k < 17 := hk
  by_cases h5 : k = 7
  · subst h5
    have h5 : H[ad 7]? = some (vp_cell (cy 11) (5, .inr (.inl (vp_updL (vp_updL (vp_updL (vp_updL (vp_updL (fun _ : Nat => 0) 0 (339)) 1 (8787)) 2 (236)) 3 (16633)) 4 (7367))))) := h 7 _ rfl
    show H[ad 7]? = some (vp_cell (cy 11) (5, .inr (.inl (fun j : Nat => L0M 7 (j : Int)))))
    rw [h5, vp_cell_l, vp_cell_l]
    exact congrArg some (arrV_ext _ (fun j hj => by rcases (show j = 0 ∨ j = 1 ∨ j = 2 ∨ j = 3 ∨ j = 4 by omega) with rfl | rfl | rfl | rfl | rfl <;> rfl))
  · refine h k _ ?_
    rcases (show k = 0 ∨ k = 1 ∨ k = 2 ∨ k = 3 ∨ k = 4 ∨ k = 5 ∨ k = 6 ∨ k = 8 ∨ k = 9 ∨ k = 10 ∨ k = 11 ∨ k = 12 ∨ k = 13 ∨ k = 14 ∨ k = 15 ∨ k = 16 by omega) with rfl | rfl | rfl | rfl | rfl | rfl | rfl | rfl | rfl | rfl | rfl | rfl | rfl | rfl | rfl | rfl <;> rfl
set_option maxRecDepth 100000 in
theorem FwX7_ad (cy : Nat → ClassId) (ad : Nat → Nat) {k : Nat} (hk : k < 42) : ∃ e, (FwX7 cy ad)[k]? = some (ad k, e) := by
  rcases (show k = 0 ∨ k = 1 ∨ k = 2 ∨ k = 3 ∨ k = 4 ∨ k = 5 ∨ k = 6 ∨ k = 7 ∨ k = 8 ∨ k = 9 ∨ k = 10 ∨ k = 11 ∨ k = 12 ∨ k = 13 ∨ k = 14 ∨ k = 15 ∨ k = 16 ∨ k = 17 ∨ k = 18 ∨ k = 19 ∨ k = 20 ∨ k = 21 ∨ k = 22 ∨ k = 23 ∨ k = 24 ∨ k = 25 ∨ k = 26 ∨ k = 27 ∨ k = 28 ∨ k = 29 ∨ k = 30 ∨ k = 31 ∨ k = 32 ∨ k = 33 ∨ k = 34 ∨ k = 35 ∨ k = 36 ∨ k = 37 ∨ k = 38 ∨ k = 39 ∨ k = 40 ∨ k = 41 by omega) with rfl | rfl | rfl | rfl | rfl | rfl | rfl | rfl | rfl | rfl | rfl | rfl | rfl | rfl | rfl | rfl | rfl | rfl | rfl | rfl | rfl | rfl | rfl | rfl | rfl | rfl | rfl | rfl | rfl | rfl | rfl | rfl | rfl | rfl | rfl | rfl | rfl | rfl | rfl | rfl | rfl | rfl <;> exact ⟨_, rfl⟩
set_option maxRecDepth 100000 in
theorem FwX8_ad (cy : Nat → ClassId) (ad : Nat → Nat) {k : Nat} (hk : k < 17) : ∃ e, (FwX8 cy ad)[k]? = some (ad k, e) := by
  rcases (show k = 0 ∨ k = 1 ∨ k = 2 ∨ k = 3 ∨ k = 4 ∨ k = 5 ∨ k = 6 ∨ k = 7 ∨ k = 8 ∨ k = 9 ∨ k = 10 ∨ k = 11 ∨ k = 12 ∨ k = 13 ∨ k = 14 ∨ k = 15 ∨ k = 16 by omega) with rfl | rfl | rfl | rfl | rfl | rfl | rfl | rfl | rfl | rfl | rfl | rfl | rfl | rfl | rfl | rfl | rfl <;> exact ⟨_, rfl⟩
theorem WF_0 : WF σ0 := by
  refine ⟨by decide, fun i h1 h2 => absurd h2 (by show ¬ i < 0; omega), fun b => ?_, fun b => ?_, fun b => ?_, fun b => ?_, by decide, by decide, by decide, by decide, by decide, fun h => absurd h (by decide)⟩
  · show (0 : Int) ≤ 0 ∧ (0 : Int) ≤ 1; decide
  · show (0 : Int) ≤ 0 ∧ (0 : Int) ≤ 40; decide
  · show (0 : Int) ≤ 0 ∧ (0 : Int) ≤ 1; decide
  · show (0 : Int) ≤ 0 ∧ (0 : Int) ≤ 9999; decide
theorem CR_0 : CR σ0 I0C L0C := by
  refine ⟨by decide, fun i h1 h2 => absurd h2 (by show ¬ i < 0; omega), fun b h0 h6 => ⟨?_, fun h => absurd h (by show ¬ (0 : Int) = 1; decide)⟩, by decide, by decide, by decide, by decide, by decide⟩
  show I0C (bk b) 4 = 0
  unfold I0C bk
  rw [if_neg (by omega)]
theorem MR_0 : MR σ0 I0M L0M := by
  refine ⟨by decide, fun i h1 h2 => absurd h2 (by show ¬ i < 0; omega), fun b h0 h6 => ⟨rfl, rfl, rfl, rfl, fun i h1 h2 => absurd h2 (by show ¬ i < 0; omega)⟩, by decide, by decide, by decide, by decide, by decide, ⟨by decide, by decide, by decide, by decide, by decide⟩⟩
theorem ln_C : ∀ k, ln lyC k < 2 ^ 31 := fun k => by
  rcases Nat.lt_or_ge k 42 with h | h
  · exact (show ∀ k, k < 42 → ln lyC k < 2 ^ 31 by decide) k h
  · have e : lyC.getD k (99, 0) = (99, 0) := by simp [List.getD, List.getElem?_eq_none (show lyC.length ≤ k from h)]
    rw [ln, e]
    decide
theorem ln_M : ∀ k, ln lyM k < 2 ^ 31 := fun k => by
  rcases Nat.lt_or_ge k 17 with h | h
  · exact (show ∀ k, k < 17 → ln lyM k < 2 ^ 31 by decide) k h
  · have e : lyM.getD k (99, 0) = (99, 0) := by simp [List.getD, List.getElem?_eq_none (show lyM.length ≤ k from h)]
    rw [ln, e]
    decide
theorem tw1 (i : Nat) {w : Cond} (h : tables_1_1[i]? = some w) : w ∈ lw_tbl := List.mem_append_right _ (List.mem_append_left _ (List.mem_of_getElem? h))
theorem tw2 (i : Nat) {w : Cond} (h : tables_1_2[i]? = some w) : w ∈ lw_tbl := List.mem_append_right _ (List.mem_append_right _ (List.mem_append_left _ (List.mem_of_getElem? h)))
theorem tw3 (i : Nat) {w : Cond} (h : tables_1_3[i]? = some w) : w ∈ lw_tbl := List.mem_append_right _ (List.mem_append_right _ (List.mem_append_right _ (List.mem_append_left _ (List.mem_of_getElem? h))))
theorem tw4 (i : Nat) {w : Cond} (h : tables_1_4[i]? = some w) : w ∈ lw_tbl := List.mem_append_right _ (List.mem_append_right _ (List.mem_append_right _ (List.mem_append_right _ (List.mem_of_getElem? h))))
theorem lt_ne_X7_9 : Cond.methodLinkNest RX7 9 yX6_init "BorrowedPages" ∈ lw_tbl := tw1 21 rfl
theorem lt_ne_X7_18 : Cond.methodLinkNest RX7 18 yX4_init "BorrowedPages" ∈ lw_tbl := tw1 38 rfl
theorem lt_ne_X5_33 : Cond.methodLinkNest RX5 33 yX0_init "BorrowedPages" ∈ lw_tbl := tw1 61 rfl
theorem lt_ne_X7_32 : Cond.methodLinkNest RX7 32 yX1_init "BorrowedPages" ∈ lw_tbl := tw1 127 rfl
theorem lt_ne_X1_27 : Cond.methodLinkNest RX1 27 yX3_init "BorrowedPages" ∈ lw_tbl := tw1 133 rfl
theorem lt_ne_X7_39 : Cond.methodLinkNest RX7 39 yX2_init "BorrowedPages" ∈ lw_tbl := tw1 207 rfl
theorem lt_ao : Cond.arrayOver (.object "BorrowedPages$Book") ∈ lw_tbl := tw1 59 rfl
theorem lt_ls : Cond.laysStatic "BorrowedPages$Reader" "KEYWORDS" "[I" ∈ lw_tbl := tw2 51 rfl
/-- the keywords, as the start has them -/
theorem KW_0 {s : State} {b : Nat} {A : Nat → Prop} (htl : ∀ w ∈ lw_tbl, w.before #[Value.ref b] s = true) (hts : ∀ w ∈ UW, w.before #[Value.ref b] s = true) (hgv : (Jvm.Cond.and given_1 narrow_1).before #[Value.ref b] s = true) (hA : ∀ a : Nat, a < s.heap.size → ¬ A a) : KW A s s.heap := by
  have hs := flat_of_before _ hgv
  obtain ⟨t, ht, hT⟩ := va_Tof (tm := (Term.static "BorrowedPages$Reader" "KEYWORDS" "[I")) (ty := .int) (N := 5) (f := kwv) (A := A) (by decide) (hs _ (by decide +kernel)) (va_eqt (hs (Cond.eq (Term.length (Term.static "BorrowedPages$Reader" "KEYWORDS" "[I")) (Term.int 5)) (by decide +kernel))) (fun j hj => by
    rcases (show j = 0 ∨ j = 1 ∨ j = 2 ∨ j = 3 ∨ j = 4 by omega) with rfl | rfl | rfl | rfl | rfl
    · exact va_eqt (hs (Cond.eq (Term.elem (Term.static "BorrowedPages$Reader" "KEYWORDS" "[I") (Term.int 0)) (Term.int 339)) (by decide +kernel))
    · exact va_eqt (hs (Cond.eq (Term.elem (Term.static "BorrowedPages$Reader" "KEYWORDS" "[I") (Term.int 1)) (Term.int 8787)) (by decide +kernel))
    · exact va_eqt (hs (Cond.eq (Term.elem (Term.static "BorrowedPages$Reader" "KEYWORDS" "[I") (Term.int 2)) (Term.int 236)) (by decide +kernel))
    · exact va_eqt (hs (Cond.eq (Term.elem (Term.static "BorrowedPages$Reader" "KEYWORDS" "[I") (Term.int 3)) (Term.int 16633)) (by decide +kernel))
    · exact va_eqt (hs (Cond.eq (Term.elem (Term.static "BorrowedPages$Reader" "KEYWORDS" "[I") (Term.int 4)) (Term.int 7367)) (by decide +kernel))) hA
  exact ⟨t, va_Zof (htl _ lt_ls) (hts _ iz_X4) ht hA, hT⟩
/-- an array class that the tables name -/
theorem lw_ac {s : State} {args : Array Value} {ty : FieldType} (h : (Cond.arrayClass ty).before args s = true) : ∃ cA : ClassId, ArrOfT s cA ty ∧ s.vm.findClass ("[" ++ ty.toString) = some cA := by
  obtain ⟨cA, kA, comp, h1, h2, h3⟩ := Cond.arrayClass_spec h
  exact ⟨cA, fun n z => ⟨fun k h => (by cases h), kA, h2, comp, h3⟩, h1⟩
set_option maxHeartbeats 8000000 in
set_option maxRecDepth 100000 in
/-- THE LAW, from its entry -/
theorem whole_start {p : Program} {e : Env} {s : State} {m : MethodId} {below : List Frame} {meth : Method} {c : Code} (l : Launch) {b L : Nat} {xs : Nat → Int32} (hL : L ≤ 2560) (C0 : lw_At p s m meth c b L xs) : W p l e room_1 s m #[Value.ref b] below meth c s.heap [] 0 0 (lw_Z below #[Value.ref b] s) (entryFrame m ([Value.ref b] : List Value).toArray 4) := by
  obtain ⟨hx, hb, hr, hml, hown, htl, hX, hbl, hlocks, hgv⟩ := C0
  have hown : s.vm.findClass RL = some m.cls := hown
  have hts : ∀ w ∈ UW, w.before #[Value.ref b] s = true := fun w hw => htl w (List.mem_filter.mp hw).1
  obtain ⟨c0, i0, hk0⟩ := u_known (C := RX0) (T := TX0) (N := 5) (n := 5) hts inU0 (hts _ kn_in_X0)
  obtain ⟨c1, i1, hk1⟩ := u_known (C := RX1) (T := TX1) (N := 9) (n := 9) hts inU1 (hts _ kn_in_X1)
  obtain ⟨c2, i2, hk2⟩ := u_known (C := RX2) (T := TX2) (N := 2) (n := 2) hts inU2 (hts _ kn_in_X2)
  obtain ⟨c3, i3, hk3⟩ := u_known (C := RX3) (T := TX3) (N := 8) (n := 8) hts inU3 (hts _ kn_in_X3)
  obtain ⟨c4, i4, hk4⟩ := u_known (C := RX4) (T := TX4) (N := 3) (n := 3) hts inU4 (hts _ kn_in_X4)
  obtain ⟨c5, i5, hk5⟩ := u_known (C := RX5) (T := TX5) (N := 6) (n := 6) hts inU5 (hts _ kn_in_X5)
  obtain ⟨c6, i6, hk6⟩ := u_known (C := RX6) (T := TX6) (N := 2) (n := 2) hts inU6 (hts _ kn_in_X6)
  obtain ⟨c7, i7, hk7⟩ := u_known (C := RX7) (T := TX7) (N := 5) (n := 5) hts inU7 (hts _ kn_in_X7)
  obtain ⟨c8, i8, hk8⟩ := u_known (C := RX8) (T := TX8) (N := 27) (n := 27) hts inU8 (hts _ kn_in_X8)
  obtain ⟨aB, fB, gB⟩ := lw_ac (hts _ kn_a_byte)
  obtain ⟨aI, fI, gI⟩ := lw_ac (hts _ kn_a_int)
  obtain ⟨aL, fL, gL⟩ := lw_ac (hts _ kn_a_long)
  obtain ⟨aZ, fZ, gZ⟩ := lw_ac (hts _ kn_a_boolean)
  obtain ⟨comp, aQ, kQ, o1, o2, o3, o4, o5⟩ := Cond.arrayOver_spec (htl _ lt_ao)
  obtain ⟨D, hKc⟩ : ∃ D : va_G, ∀ (k : Nat) (q : vw_C), vwCl[k]? = some q → u_Kn s q.1 q.2.1 q.2.2 (D.1 k) (D.2 k) := by
    refine ⟨(fun k => if k = 0 then c0 else if k = 1 then c1 else if k = 2 then c2 else if k = 3 then c3 else if k = 4 then c4 else if k = 5 then c5 else if k = 6 then c6 else if k = 7 then c7 else c8, fun k => if k = 0 then i0 else if k = 1 then i1 else if k = 2 then i2 else if k = 3 then i3 else if k = 4 then i4 else if k = 5 then i5 else if k = 6 then i6 else if k = 7 then i7 else i8), ?_⟩
    intro k q hq
    match k, hq with
    | 0, hq => cases hq; exact hk0
    | 1, hq => cases hq; exact hk1
    | 2, hq => cases hq; exact hk2
    | 3, hq => cases hq; exact hk3
    | 4, hq => cases hq; exact hk4
    | 5, hq => cases hq; exact hk5
    | 6, hq => cases hq; exact hk6
    | 7, hq => cases hq; exact hk7
    | 8, hq => cases hq; exact hk8
    | k + 9, hq => simp at hq
  obtain ⟨cy, hcy⟩ : ∃ cy : Nat → ClassId, cy = fun k => if k = 9 then aB else if k = 10 then aI else if k = 11 then aL else if k = 12 then aZ else aQ := ⟨_, rfl⟩
  have hK : va_K D vwCl (tyK cy) s := by
    refine ⟨hKc, fun k q hq => ?_⟩
    match k, hq with
    | 0, hq => cases hq; rw [hcy]; exact ⟨fB, gB⟩
    | 1, hq => cases hq; rw [hcy]; exact ⟨fI, gI⟩
    | 2, hq => cases hq; rw [hcy]; exact ⟨fL, gL⟩
    | 3, hq => cases hq; rw [hcy]; exact ⟨fZ, gZ⟩
    | 4, hq => cases hq; rw [hcy]; exact ⟨fun n z => ⟨fun k h => (by cases h), kQ, o3, comp, o4⟩, kQ, comp, o3, o4, o1, o5⟩
    | k + 5, hq => simp at hq
  clear hcy
  have hN : NN s := ⟨va_Nw.of rfl (htl _ lt_ne_X7_9), va_Nw.of rfl (htl _ lt_ne_X7_18), va_Nw.of rfl (htl _ lt_ne_X5_33), va_Nw.of rfl (htl _ lt_ne_X7_32), va_Nw.of rfl (htl _ lt_ne_X1_27), va_Nw.of rfl (htl _ lt_ne_X7_39), htl _ lt_ao⟩
  have hA : ∀ q : Nat, s.heap.size ≤ q → nwA s q := fun _ h => h
  have hS : va_S (nwA s) s.heap s.heap [] := va_S.rf
  have hP : va_P D vwCl [] s.heap := fun k q h => by simp at h
  have hD : va_D (nwA s) [] := ⟨fun i j p q h => by simp at h, fun k q h => by simp at h⟩
  have hl := lv_entry ([.ref b]) (n := 4) (Nat.le_of_ble_eq_true rfl)
  rw [lg_entry_eq]
  generalize (lg_sl ([.ref b]) ++ List.replicate (4 - (lg_sl ([.ref b])).length) Slot.unset).toArray = ls at hl ⊢
  have hl : lv_has ls 4 [(0, .ref b)] := hl
  refine va_new (ci := 7) (fs := [.null, .null, .null, .null, .null]) (C := RX7) (T := TX7) (N := 5) hx hb hts inU7 tyX7 tyX7_ok hown (hts _ kn_cl_L_7) (hts _ kn_in_X7) (hts _ iz_X7) hK hP hD hS hA rfl (fun j hj => by rcases (show j = 0 ∨ j = 1 ∨ j = 2 ∨ j = 3 ∨ j = 4 by omega) with rfl | rfl | rfl | rfl | rfl <;> rfl) (Nat.le_of_ble_eq_true rfl) (Nat.le_of_ble_eq_true rfl) dL_law_0 (fun q0 H hP hD hS => ?_)
  have hP : va_P D vwCl [(q0, .inr (7, [.null, .null, .null, .null, .null]))] H := hP
  have hD : va_D (nwA s) [(q0, .inr (7, [.null, .null, .null, .null, .null]))] := hD
  refine lv_dup hx hb dL_law_3 rfl ?_
  refine k_call (pre := []) (b := q0) (raw := .inr (7, [.null, .null, .null, .null, .null])) (Fw := FwX7 cy) (va_runI (As := []) (rest := [.ref q0]) ⟨hx, hb, hml, hown, hts⟩ (ki_X7 l D cy q0 _) (cwI 0 hts (univ_good kn_co_X7) rfl rfl rfl (hts _ iz_X7) (hts _ ml_L_9) (hts _ kn_im_X7) rfl (by decide +kernel) ⟨(Nat.le_of_ble_eq_true rfl), (Nat.le_of_ble_eq_true rfl)⟩) ⟨Pn_blind, fun U hU hW => ⟨rfl, by rw [hU], by rw [hU]; exact hP.sub [0] rfl, va_K.moved hW.alike hK, (hD.sub [0] (by decide) rfl).weaken (fun _ _ _ _ => trivial), hN.warm hW⟩⟩ rfl rfl hl.1 rfl (lv_room (Nat.le_of_ble_eq_true rfl)) dL_law_4 ⟨(Nat.le_of_ble_eq_true rfl), (Nat.le_of_ble_eq_true rfl)⟩) hP hD hS hA (fun ac H locs had hP hD hS => ?_)
  have hP : va_P D vwCl (FwX7 cy ac) H := hP
  have hD : va_D (nwA s) (FwX7 cy ac) := hD
  refine lv_astore_n (lv' := [(1, .ref q0), (0, .ref b)]) hx hb dL_law_7 rfl hl (by decide) rfl (fun ls hl => ?_)
  refine va_new (ci := 8) (fs := [.null, .int (zI 0), .null, .null, .null, .null, .null, .int (zI 0), .int (zI 0), .int (zI 0), .int (zI 0), .int (zI 0), .int (zI 0), .int (zI 0), .null, .null, .null, .null, .int (zI 0), .null, .null, .null, .null, .null, .int (zI 0), .null, .int (zI 0)]) (C := RX8) (T := TX8) (N := 27) hx hb hts inU8 tyX8 tyX8_ok hown (hts _ kn_cl_L_10) (hts _ kn_in_X8) (hts _ iz_X8) hK hP hD hS hA rfl (fun j hj => by rcases (show j = 0 ∨ j = 1 ∨ j = 2 ∨ j = 3 ∨ j = 4 ∨ j = 5 ∨ j = 6 ∨ j = 7 ∨ j = 8 ∨ j = 9 ∨ j = 10 ∨ j = 11 ∨ j = 12 ∨ j = 13 ∨ j = 14 ∨ j = 15 ∨ j = 16 ∨ j = 17 ∨ j = 18 ∨ j = 19 ∨ j = 20 ∨ j = 21 ∨ j = 22 ∨ j = 23 ∨ j = 24 ∨ j = 25 ∨ j = 26 by omega) with rfl | rfl | rfl | rfl | rfl | rfl | rfl | rfl | rfl | rfl | rfl | rfl | rfl | rfl | rfl | rfl | rfl | rfl | rfl | rfl | rfl | rfl | rfl | rfl | rfl | rfl | rfl <;> rfl) (Nat.le_of_ble_eq_true rfl) (Nat.le_of_ble_eq_true rfl) dL_law_8 (fun q1 H hP hD hS => ?_)
  refine lv_dup hx hb dL_law_11 rfl ?_
  refine k_call (pre := FwX7 cy ac) (b := q1) (raw := .inr (8, [.null, .int (zI 0), .null, .null, .null, .null, .null, .int (zI 0), .int (zI 0), .int (zI 0), .int (zI 0), .int (zI 0), .int (zI 0), .int (zI 0), .null, .null, .null, .null, .int (zI 0), .null, .null, .null, .null, .null, .int (zI 0), .null, .int (zI 0)])) (Fw := FwX8 cy) (va_runI (As := []) (rest := [.ref q1]) ⟨hx, hb, hml, hown, hts⟩ (ki_X8 l D cy q1 _) (cwI 0 hts (univ_good kn_co_X8) rfl rfl rfl (hts _ iz_X8) (hts _ ml_L_12) (hts _ kn_im_X8) rfl (by decide +kernel) ⟨(Nat.le_of_ble_eq_true rfl), (Nat.le_of_ble_eq_true rfl)⟩) ⟨Pn_blind, fun U hU hW => ⟨rfl, by rw [hU], by rw [hU]; exact hP.sub [42] rfl, va_K.moved hW.alike hK, (hD.sub [42] (by decide) rfl).weaken (fun _ _ _ _ => trivial), hN.warm hW⟩⟩ rfl rfl hl.1 rfl (lv_room (Nat.le_of_ble_eq_true rfl)) dL_law_12 ⟨(Nat.le_of_ble_eq_true rfl), (Nat.le_of_ble_eq_true rfl)⟩) hP hD hS hA (fun am H9 locs9 ham hP9 hD9 hS9 => ?_)
  refine lv_astore_n (lv' := [(2, .ref q1), (1, .ref q0), (0, .ref b)]) hx hb dL_law_15 rfl hl (by decide) rfl (fun ls hl => ?_)
  refine lv_iconst (v := zI 0) hx hb dL_law_16 (by decide) ?_
  refine lv_istore_n (lv' := [(3, .int (zI 0)), (2, .ref q1), (1, .ref q0), (0, .ref b)]) hx hb dL_law_17 rfl hl (by decide) rfl (fun ls hl => ?_)
  subst had
  subst ham
  have len7 : (FwX7 cy ac).length = 42 := rfl
  have inC : ∀ k, k < 42 → ∃ e, (FwX7 cy ac ++ FwX8 cy am)[k]? = some (ac k, e) := fun k hk => by
    rw [List.getElem?_append_left (by rw [len7]; exact hk)]
    exact FwX7_ad cy ac hk
  have inM : ∀ k, k < 17 → ∃ e, (FwX7 cy ac ++ FwX8 cy am)[42 + k]? = some (am k, e) := fun k hk => by
    rw [List.getElem?_append_right (by rw [len7]; omega), len7, show 42 + k - 42 = k by omega]
    exact FwX8_ad cy am hk
  have nC : ∀ i, i < lyC.length → s.heap.size ≤ ac i := fun i hi => by
    obtain ⟨e1, h1⟩ := inC i hi
    exact hD9.2 _ _ h1
  have nM : ∀ i, i < lyM.length → s.heap.size ≤ am i := fun i hi => by
    obtain ⟨e1, h1⟩ := inM i hi
    exact hD9.2 _ _ h1
  have jC : inj lyC (D, ac, cy) := fun i j hi hj h => by
    obtain ⟨e1, h1⟩ := inC i hi
    obtain ⟨e2, h2⟩ := inC j hj
    exact hD9.1 _ _ _ _ h1 h2 h
  have jM : inj lyM (D, am, cy) := fun i j hi hj h => by
    obtain ⟨e1, h1⟩ := inM i hi
    obtain ⟨e2, h2⟩ := inM j hj
    have := hD9.1 _ _ _ _ h1 h2 h
    omega
  have ap : ∀ i j, i < lyC.length → j < lyM.length → ac i ≠ am j := fun i j hi hj h => by
    have hi' : i < 42 := hi
    obtain ⟨e1, h1⟩ := inC i hi
    obtain ⟨e2, h2⟩ := inM j hj
    have := hD9.1 _ _ _ _ h1 h2 h
    omega
  have PC : va_P D vwCl (FwX7 cy ac) H9 := fun k q hk => hP9 k q (by
    rw [List.getElem?_append_left (List.getElem?_eq_some_iff.mp hk).1]
    exact hk)
  have PM : va_P D vwCl (FwX8 cy am) H9 := fun k q hk => hP9 (42 + k) q (by
    rw [List.getElem?_append_right (by rw [len7]; omega), len7, show 42 + k - 42 = k by omega]
    exact hk)
  have E : LE p s m c b L xs D ac am cy := ⟨hx, hb, hml, hown, hts, ⟨hK, jC, KW_0 htl hts hgv (fun a ha z => by
      obtain ⟨k, hk, rfl⟩ := z
      exact absurd (nC k hk) (Nat.not_le.mpr ha)), ln_C⟩, ⟨hK, jM, KW_0 htl hts hgv (fun a ha z => by
      obtain ⟨k, hk, rfl⟩ := z
      exact absurd (nM k hk) (Nat.not_le.mpr ha)), ln_M⟩, ap, nC, nM, hX, hbl⟩
  refine W.widen (k := 600000) (n := 7302250) (Nat.le_of_ble_eq_true rfl) (Nat.le_of_ble_eq_true rfl) ?_
  exact lw_loop E hL hr hlocks L 0 (by omega) (by omega) σ0 I0C L0C I0M L0M H9 locs9 ls ⟨Fw_C PC, Fw_M PM, hS9, CR_0, MR_0, WF_0⟩ (lv_sub hl [0, 3, 2, 1] rfl)
