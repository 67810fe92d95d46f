/-! the law: both sides in one heap -/
def R_law : String := "BorrowedPagesLaw"
def lw_P (b : Addr) (xs : List Int32) (args : Array Value) (s : State) : Prop := args = #[.ref b] ∧ s.IntsAt b xs ∧ xs.length ≤ 2560 ∧ (Jvm.Cond.and given_1 narrow_1).before args s = true
def lw_Q (_ : Array Value) (s : State) (o : Outcome) (t : State) : Prop := o = .returned (some (.int 1)) ∧ Framed s o t [] 600000 7302250
def lw_Z (below : List Frame) (a : Array Value) (s : State) : State → Prop := fun t => ∃ o, t.status = .running ∧ Ended t below o ∧ lw_Q a s o t
/-- the law's own end, with 1 on the stack, nothing written that was there before, its room as the claim has it -/
theorem lw_ret {p : Program} {l : Launch} {e : Env} {s : State} {m : MethodId} {below : List Frame} {meth : Method} {c : Code} {b : Nat} (hx : p.tables.exec = Jvm.exec) (hb : c.code = code) (hr : meth.sig.returnType = ret) (hlocks : meth.locks = false) {pc : Nat} {H : Heap} {ls : Array Slot} (hdg : decode code pc = .ok (.ireturn, 1)) : W p l e room_1 s m #[Value.ref b] below meth c H [] 600000 7302250 (lw_Z below #[Value.ref b] s) (F0 m pc ls [.int 1]) := by
  intro T hT X
  obtain ⟨fs, hret, hrun, hended, hW, hframe⟩ := X.leave (v := some (.int 1)) (hlocks := hlocks) (fun h => by rw [hr] at h; cases h)
  have hmeth' : T.vm.method? m = some meth := X.method'
  refine ⟨T.setFrames fs, ?_, .returned (some (.int 1)), hrun, hended, rfl, ⟨_, rfl⟩, hW, hframe⟩
  jvm_step X.here [X.here.top, hx, hb, hdg, hmeth', hr, ret, narrow_b1]
  (try refine ⟨rfl, ?_⟩); (try refine ⟨rfl, ?_⟩)
  first | (intro acts; rw [hret _ acts rfl rfl rfl]) | rw [hret _ _ rfl rfl rfl]
  exact Steps.refl _
/-- what holds at the law's entry: the machine, the code, the tables' words (any of lw_tbl by 'hts w (by decide +kernel)'), the script of L ints xs at the cell b, what the Statement gives of the start (any of its parts by flat_of_before) -/
def lw_At (p : Program) (s : State) (m : MethodId) (meth : Method) (c : Code) (b L : Nat) (xs : Nat → Int32) : Prop :=
  p.tables.exec = Jvm.exec ∧ c.code = code ∧ meth.sig.returnType = ret ∧ c.maxLocals = 4 ∧ s.vm.findClass R_law = some m.cls ∧ (∀ w ∈ lw_tbl, w.before #[Value.ref b] s = true) ∧ va_X b L xs s s.heap ∧ b < s.heap.size ∧ meth.locks = false ∧ (Jvm.Cond.and given_1 narrow_1).before #[Value.ref b] s = true
/-- what is fixed while the law runs -/
def LE (p : Program) (s : State) (m : MethodId) (c : Code) (b L : Nat) (xs : Nat → Int32) (D : va_G) (ac am : Nat → Nat) (cy : Nat → ClassId) : Prop :=
  p.tables.exec = Jvm.exec ∧ c.code = code ∧ c.maxLocals = 4 ∧ s.vm.findClass RL = some m.cls ∧ (∀ w ∈ UW, w.before #[Value.ref b] s = true) ∧ Kx lyC (D, ac, cy) s ∧ Kx lyM (D, am, cy) s ∧ (∀ i j, i < lyC.length → j < lyM.length → ac i ≠ am j) ∧ (∀ i, i < lyC.length → s.heap.size ≤ ac i) ∧ (∀ i, i < lyM.length → s.heap.size ≤ am i) ∧ va_X b L xs s s.heap ∧ b < s.heap.size
abbrev nwA (s : State) : Nat → Prop := fun q : Nat => s.heap.size ≤ q
/-- both sides hold the same state -/
def LI (s : State) (D : va_G) (ac am : Nat → Nat) (cy : Nat → ClassId) (σ : sT) (I : IM) (L : LM) (J : IM) (K : LM) (H : Heap) (locs : List Loc) : Prop := va_P D vwCl (wl lyC (D, ac, cy) I L) H ∧ va_P D vwCl (wl lyM (D, am, cy) J K) H ∧ va_S (nwA s) s.heap H locs ∧ CR σ I L ∧ MR σ J K ∧ WF σ
section LWC
variable {p : Program} {l : Launch} {e : Env} {s : State} {m : MethodId} {below : List Frame} {meth : Method} {c : Code} {b : Nat} {H : Heap} {locs : List Loc} {Q : State → Prop} {pc : Nat} {ls : Array Slot}
/-- a call of one side: the other side's cells stay -/
theorem lw_call {ly ly' : lyT} {g g' : gT} {I J : IM} {L K : LM} (hx : p.tables.exec = Jvm.exec) (hb : c.code = code) (hml : c.maxLocals = 4) (hown : s.vm.findClass RL = some m.cls) (hts : ∀ w ∈ UW, w.before #[Value.ref b] s = true) (hK : Kx ly g s) (hap : ∀ i j, i < ly.length → j < ly'.length → g.2.1 i ≠ g'.2.1 j) (hnew : ∀ i, i < ly.length → s.heap.size ≤ g.2.1 i)
    {y : MethodName} {cy : ByteArray} {ny f' lo' idx ci N : Nat} {ry : Option FieldType} {As rest st : List Value} {C : String} {T : u_T} {post' : poT} (hM : Ct l y cy ny ry f' lo' ly g (.ref (g.2.1 0) :: As) I L post') (hF : MF y cy ny ry C As.length) (hl1 : Cond.methodLink RL idx y ∈ UW) (hr : f' + 1 ≤ 9 ∧ 8 + (ny + 11) + lo' ≤ 358) (hk : kd ly 0 = ci) (hci : ci < 9) (hcl : vwCl[ci]? = some (C, T, N)) (hst : st = As.reverse ++ .ref (g.2.1 0) :: rest) (hrest : (rest.map fun v => v.category).sum ≤ 8)
    (hP : va_P g.1 vwCl (wl ly g I L) H) (hP2 : va_P g'.1 vwCl (wl ly' g' J K) H) (hS : va_S (nwA s) s.heap H locs) (hl : ls.size = 4) (d : decode code pc = .ok (.invokevirtual idx, 3))
    (kk : ∀ (v : Option Value) (I' : IM) (L' : LM) (H1 : Heap) (locs1 : List Loc), post' v I' L' → va_P g.1 vwCl (wl ly g I' L') H1 → va_P g'.1 vwCl (wl ly' g' J K) H1 → va_S (nwA s) s.heap H1 locs1 → W p l e room_1 s m #[Value.ref b] below meth c H1 locs1 600000 7302250 Q (F0 m (pc + 3) ls (v.toList ++ rest))) :
    W p l e room_1 s m #[Value.ref b] below meth c H locs 600000 7302250 Q (F0 m pc ls st) := by
  obtain ⟨hc, hi, hs, hini, hy, hd⟩ := hF
  subst hst
  have hcb : CallB room_1 s #[Value.ref b] RL idx y cy ny ry (Cond.code y cy ny ry :: UW) (rmT f' lo') 0 0 As.length := ⟨rfl, rfl, hr.1, hr.2, pay_in hts (univ_good hc), List.mem_cons_self, hts _ hc, hts _ hini, hy, arity_of hd, hts _ hl1⟩
  have hrun := va_runV (e := e) (m := m) (below := below) (meth := meth) (locs := locs) (cells := 600000) (slots := 7302250) (rest := rest) (g := F0 m pc ls (As.reverse ++ .ref (g.2.1 0) :: rest)) ⟨hx, hb, hml, hown, hts⟩ hM ⟨hcb, hts _ hi, hts _ hs⟩ ⟨Bw.blind _, va_recv hK.1 hP hcl (q0 := 0) (by rw [wl_get g I L (kd_lt hk (by omega)), (mk_obj hk hci _ _).choose_spec]), fun U hU hW => ⟨rfl, by rw [hU]; exact hP, va_K.moved hW.alike hK.1, hK.2.1, hK.2.2.1.go hW.alike (fun a ha _ => by rw [hU]; exact hS.2.1 a ha (Nat.not_le.mpr ha)), hK.2.2.2⟩⟩ rfl rfl hl rfl (lv_room hrest) d ⟨Nat.le_of_ble_eq_true rfl, Nat.le_of_ble_eq_true rfl⟩
  have hnA : ∀ q, AA ly g q → s.heap.size ≤ q := by
    rintro q ⟨k, hk1, rfl⟩
    exact hnew k hk1
  intro T hT X
  obtain ⟨v, st₀, t, T', LL, h0, X', hL, e1, e2, ⟨⟨v', I', L', hv, hp, hP'⟩, hz, hk'⟩, stp⟩ := hrun T hT X
  cases hv
  rw [h0] at hz hk'
  have hS' : va_S (nwA s) s.heap T'.heap (locs ++ LL) := ⟨Nat.le_trans hS.1 (by rw [e1]; exact hz), fun q h1 h2 => by rw [e1, hk' q (Nat.lt_of_lt_of_le h1 hS.1) (fun z => h2 (hnA q z))]; exact hS.2.1 q h1 h2, fun q hq => by
      rcases List.mem_append.mp hq with h | h
      · exact hS.2.2 q h
      · exact hnA _ (hL q h)⟩
  have hP2' : va_P g'.1 vwCl (wl ly' g' J K) T'.heap := by
    intro k q hq
    have hk2 : k < ly'.length := by
      have := (List.getElem?_eq_some_iff.mp hq).1
      simpa using this
    have hlt := (hP2 k q hq).lt
    refine (hP2 k q hq).kept ?_
    rw [e1]
    refine hk' q.1 hlt ?_
    rintro ⟨k3, hk3, e3⟩
    rw [wl_get g' J K hk2] at hq
    cases hq
    exact hap k3 k hk3 hk2 e3.symm
  obtain ⟨t2, a1, b1⟩ := kk v I' L' T'.heap (locs ++ LL) hp (by rw [e1]; exact hP') hP2' hS' T' rfl X'
  exact ⟨t2, stp t2 a1, b1⟩
/-- script[i + k] -/
theorem lw_elem (hx : p.tables.exec = Jvm.exec) (hb : c.code = code) {L : Nat} {xs : Nat → Int32} (hX : va_X b L xs s s.heap) (hbl : b < s.heap.size) (hS : va_S (nwA s) s.heap H locs) {i : Nat} {lv : List (Nat × Value)} (h0 : ls[0]? = some (.val (.ref b))) (h3 : ls[3]? = some (.val (.int (zI (i : Int))))) (k : Nat) {kz : Int} (hkz : kz = (k : Int)) (hk : i + k < L) (hL : L ≤ 2560) {rest : List Value}
    (d0 : decode code pc = .ok (.aload_n 0, 1)) (d1 : decode code (pc + 1) = .ok (.iload_n 3, 1)) (d2 : decode code (pc + 1 + 1) = .ok (.iconst kz, 1)) (d3 : decode code (pc + 1 + 1 + 1) = .ok (.iadd, 1)) (d4 : decode code (pc + 1 + 1 + 1 + 1) = .ok (.iaload, 1))
    (kk : W p l e room_1 s m #[Value.ref b] below meth c H locs 600000 7302250 Q (F0 m (pc + 1 + 1 + 1 + 1 + 1) ls (.int (zI (xs (i + k)).toInt) :: rest))) : W p l e room_1 s m #[Value.ref b] below meth c H locs 600000 7302250 Q (F0 m pc ls rest) := by
  subst hkz
  refine lv_aload_n hx hb d0 rfl h0 ?_
  refine lv_iload_n hx hb d1 rfl h3 ?_
  refine lv_iconst (v := zI (k : Int)) hx hb d2 rfl ?_
  refine lv_iadd hx hb d3 ?_
  have e1 : zI (i : Int) + zI (k : Int) = zI ((i + k : Nat) : Int) := by
    rw [Int.natCast_add]
    exact (Int32.ofInt_add _ _).symm
  rw [e1]
  refine va_sld hx hb hX hbl (Nat.not_le.mpr hbl) hS (zI_in hk (by omega)) d4 ?_
  rw [zI_clamp (n := i + k) (by omega)]
  rw [zI_v] at kk
  exact kk
set_option maxHeartbeats 4000000 in
theorem lw_case_type {L : Nat} {xs : Nat → Int32} {D : va_G} {ac am : Nat → Nat} {cy : Nat → ClassId} (E : LE p s m c b L xs D ac am cy) (hL : L ≤ 2560) {i : Nat} (hi : i + 5 ≤ L) (hl : lv_has ls 4 [(3, .int (zI (i : Int))), (0, .ref b), (1, .ref (ac 0)), (2, .ref (am 0))]) {σ : sT} {I J : IM} {LL KK : LM} (hI : LI s D ac am cy σ I LL J KK H locs)
    (K0 : ∀ (σ' : sT) (I' : IM) (L' : LM) (J' : IM) (K' : LM) (H' : Heap) (locs' : List Loc), LI s D ac am cy σ' I' L' J' K' H' locs' → W p l e room_1 s m #[Value.ref b] below meth c H' locs' 600000 7302250 Q (F0 m 789 ls [])) :
    W p l e room_1 s m #[Value.ref b] below meth c H locs 600000 7302250 Q (F0 m 128 ls []) := by
  obtain ⟨hx, hb, hml, hown, hts, hKC, hKM, hap, hnC, hnM, hX, hbl⟩ := E
  obtain ⟨hP, hP2, hS, hC, hM, hW⟩ := hI
  have l3 := lv_at hl 0 rfl
  have l0 := lv_at hl 1 rfl
  have l1 := lv_at hl 2 rfl
  have l2 := lv_at hl 3 rfl
  refine lv_aload_n hx hb dL_law_128 rfl l1 ?_
  refine lw_elem (lv := []) hx hb hX hbl hS l0 l3 1 rfl (by omega) hL dL_law_129 dL_law_130 dL_law_131 dL_law_132 dL_law_133 ?_
  refine lv_i2l hx hb dL_law_134 rfl ?_
  refine lv_bipush hx hb dL_law_135 rfl ?_
  refine lv_lshl hx hb dL_law_137 rfl ?_
  refine lw_elem (lv := []) hx hb hX hbl hS l0 l3 2 rfl (by omega) hL dL_law_138 dL_law_139 dL_law_140 dL_law_141 dL_law_142 ?_
  refine lv_i2l hx hb dL_law_143 rfl ?_
  refine lv_ldc2 hx hb hown (hts _ co_L_13) dL_law_144 ?_
  refine lv_land hx hb dL_law_147 ?_
  refine lv_lor hx hb dL_law_148 ?_
  refine lv_topl (fun w1 ew1 => ?_)
  refine lw_elem (lv := []) hx hb hX hbl hS l0 l3 3 rfl (by omega) hL dL_law_149 dL_law_150 dL_law_151 dL_law_152 dL_law_153 ?_
  refine lw_call (ly := lyC) (ly' := lyM) (g := (D, ac, cy)) (g' := (D, am, cy)) (As := [.long w1, .int (zI (xs (i + 3)).toInt)]) (rest := []) hx hb hml hown hts hKC hap hnC (mm_X7_type (rg_i _) hC hW) mf_X7_type ml_L_15 (by decide) rfl (by decide) rfl rfl (Nat.le_of_ble_eq_true rfl) hP hP2 hS hl.1 dL_law_154 (fun v1 I1 L1 H1 lc1 hv1 hP hP2 hS => ?_)
  obtain ⟨r1, rfl, q1, hR1⟩ := hv1
  refine lv_aload_n hx hb dL_law_157 rfl l2 ?_
  refine lw_elem (lv := []) hx hb hX hbl hS l0 l3 1 rfl (by omega) hL dL_law_158 dL_law_159 dL_law_160 dL_law_161 dL_law_162 ?_
  refine lv_i2l hx hb dL_law_163 rfl ?_
  refine lv_bipush hx hb dL_law_164 rfl ?_
  refine lv_lshl hx hb dL_law_166 rfl ?_
  refine lw_elem (lv := []) hx hb hX hbl hS l0 l3 2 rfl (by omega) hL dL_law_167 dL_law_168 dL_law_169 dL_law_170 dL_law_171 ?_
  refine lv_i2l hx hb dL_law_172 rfl ?_
  refine lv_ldc2 hx hb hown (hts _ co_L_13) dL_law_173 ?_
  refine lv_land hx hb dL_law_176 ?_
  refine lv_lor hx hb dL_law_177 ?_
  refine lv_topl (fun w2 ew2 => ?_)
  have ew : w2 = w1 := ew2.trans ew1.symm
  subst ew
  refine lw_elem (lv := []) hx hb hX hbl hS l0 l3 3 rfl (by omega) hL dL_law_178 dL_law_179 dL_law_180 dL_law_181 dL_law_182 ?_
  refine lw_call (ly := lyM) (ly' := lyC) (g := (D, am, cy)) (g' := (D, ac, cy)) (As := [.long w2, .int (zI (xs (i + 3)).toInt)]) (rest := [.int (zI r1)]) hx hb hml hown hts hKM (fun i j h1 h2 h3 => hap j i h2 h1 h3.symm) hnM (mm_X8_type (rg_i _) hM hW) mf_X8_type ml_L_19 (by decide) rfl (by decide) rfl rfl (Nat.le_of_ble_eq_true rfl) hP2 hP hS hl.1 dL_law_183 (fun v2 I2 L2 H2 lc2 hv2 hP hP2 hS => ?_)
  obtain ⟨r2, rfl, q2, hR2⟩ := hv2
  have hPq := hP
  have hP := hP2
  have hP2 := hPq
  have hrr : r1 = r2 := q1.trans q2.symm
  subst hrr
  refine lv_icmp_eq (tgt := 789) hx hb dL_law_186 (by decide) (fun _ => ?_) (fun h9 => absurd rfl h9)
  exact K0 _ _ _ _ _ _ _ ⟨hP, hP2, hS, hR1, hR2, (WF_type hW _ _)⟩
set_option maxHeartbeats 4000000 in
theorem lw_case_book {L : Nat} {xs : Nat → Int32} {D : va_G} {ac am : Nat → Nat} {cy : Nat → ClassId} (E : LE p s m c b L xs D ac am cy) (hL : L ≤ 2560) {i : Nat} (hi : i + 5 ≤ L) (hl : lv_has ls 4 [(3, .int (zI (i : Int))), (0, .ref b), (1, .ref (ac 0)), (2, .ref (am 0))]) {σ : sT} {I J : IM} {LL KK : LM} (hI : LI s D ac am cy σ I LL J KK H locs)
    (K0 : ∀ (σ' : sT) (I' : IM) (L' : LM) (J' : IM) (K' : LM) (H' : Heap) (locs' : List Loc), LI s D ac am cy σ' I' L' J' K' H' locs' → W p l e room_1 s m #[Value.ref b] below meth c H' locs' 600000 7302250 Q (F0 m 789 ls [])) :
    W p l e room_1 s m #[Value.ref b] below meth c H locs 600000 7302250 Q (F0 m 191 ls []) := by
  obtain ⟨hx, hb, hml, hown, hts, hKC, hKM, hap, hnC, hnM, hX, hbl⟩ := E
  obtain ⟨hP, hP2, hS, hC, hM, hW⟩ := hI
  have l3 := lv_at hl 0 rfl
  have l0 := lv_at hl 1 rfl
  have l1 := lv_at hl 2 rfl
  have l2 := lv_at hl 3 rfl
  refine lv_aload_n hx hb dL_law_191 rfl l1 ?_
  refine lw_elem (lv := []) hx hb hX hbl hS l0 l3 1 rfl (by omega) hL dL_law_192 dL_law_193 dL_law_194 dL_law_195 dL_law_196 ?_
  refine lw_elem (lv := []) hx hb hX hbl hS l0 l3 2 rfl (by omega) hL dL_law_197 dL_law_198 dL_law_199 dL_law_200 dL_law_201 ?_
  refine lw_elem (lv := []) hx hb hX hbl hS l0 l3 3 rfl (by omega) hL dL_law_202 dL_law_203 dL_law_204 dL_law_205 dL_law_206 ?_
  refine lw_call (ly := lyC) (ly' := lyM) (g := (D, ac, cy)) (g' := (D, am, cy)) (As := [.int (zI (xs (i + 1)).toInt), .int (zI (xs (i + 2)).toInt), .int (zI (xs (i + 3)).toInt)]) (rest := []) hx hb hml hown hts hKC hap hnC (mm_X7_book (rg_i _) (rg_i _) (rg_i _) hC hW) mf_X7_book ml_L_20 (by decide) rfl (by decide) rfl rfl (Nat.le_of_ble_eq_true rfl) hP hP2 hS hl.1 dL_law_207 (fun v1 I1 L1 H1 lc1 hv1 hP hP2 hS => ?_)
  obtain ⟨r1, rfl, q1, hR1⟩ := hv1
  refine lv_aload_n hx hb dL_law_210 rfl l2 ?_
  refine lw_elem (lv := []) hx hb hX hbl hS l0 l3 1 rfl (by omega) hL dL_law_211 dL_law_212 dL_law_213 dL_law_214 dL_law_215 ?_
  refine lw_elem (lv := []) hx hb hX hbl hS l0 l3 2 rfl (by omega) hL dL_law_216 dL_law_217 dL_law_218 dL_law_219 dL_law_220 ?_
  refine lw_elem (lv := []) hx hb hX hbl hS l0 l3 3 rfl (by omega) hL dL_law_221 dL_law_222 dL_law_223 dL_law_224 dL_law_225 ?_
  refine lw_call (ly := lyM) (ly' := lyC) (g := (D, am, cy)) (g' := (D, ac, cy)) (As := [.int (zI (xs (i + 1)).toInt), .int (zI (xs (i + 2)).toInt), .int (zI (xs (i + 3)).toInt)]) (rest := [.int (zI r1)]) hx hb hml hown hts hKM (fun i j h1 h2 h3 => hap j i h2 h1 h3.symm) hnM (mm_X8_book (rg_i _) (rg_i _) (rg_i _) hM hW) mf_X8_book ml_L_24 (by decide) rfl (by decide) rfl rfl (Nat.le_of_ble_eq_true rfl) hP2 hP hS hl.1 dL_law_226 (fun v2 I2 L2 H2 lc2 hv2 hP hP2 hS => ?_)
  obtain ⟨r2, rfl, q2, hR2⟩ := hv2
  have hPq := hP
  have hP := hP2
  have hP2 := hPq
  have hrr : r1 = r2 := q1.trans q2.symm
  subst hrr
  refine lv_icmp_eq (tgt := 789) hx hb dL_law_229 (by decide) (fun _ => ?_) (fun h9 => absurd rfl h9)
  exact K0 _ _ _ _ _ _ _ ⟨hP, hP2, hS, hR1, hR2, (WF_book hW _ _ _)⟩
set_option maxHeartbeats 4000000 in
theorem lw_case_withdraw {L : Nat} {xs : Nat → Int32} {D : va_G} {ac am : Nat → Nat} {cy : Nat → ClassId} (E : LE p s m c b L xs D ac am cy) (hL : L ≤ 2560) {i : Nat} (hi : i + 5 ≤ L) (hl : lv_has ls 4 [(3, .int (zI (i : Int))), (0, .ref b), (1, .ref (ac 0)), (2, .ref (am 0))]) {σ : sT} {I J : IM} {LL KK : LM} (hI : LI s D ac am cy σ I LL J KK H locs)
    (K0 : ∀ (σ' : sT) (I' : IM) (L' : LM) (J' : IM) (K' : LM) (H' : Heap) (locs' : List Loc), LI s D ac am cy σ' I' L' J' K' H' locs' → W p l e room_1 s m #[Value.ref b] below meth c H' locs' 600000 7302250 Q (F0 m 789 ls [])) :
    W p l e room_1 s m #[Value.ref b] below meth c H locs 600000 7302250 Q (F0 m 234 ls []) := by
  obtain ⟨hx, hb, hml, hown, hts, hKC, hKM, hap, hnC, hnM, hX, hbl⟩ := E
  obtain ⟨hP, hP2, hS, hC, hM, hW⟩ := hI
  have l3 := lv_at hl 0 rfl
  have l0 := lv_at hl 1 rfl
  have l1 := lv_at hl 2 rfl
  have l2 := lv_at hl 3 rfl
  refine lv_aload_n hx hb dL_law_234 rfl l1 ?_
  refine lw_elem (lv := []) hx hb hX hbl hS l0 l3 1 rfl (by omega) hL dL_law_235 dL_law_236 dL_law_237 dL_law_238 dL_law_239 ?_
  refine lw_call (ly := lyC) (ly' := lyM) (g := (D, ac, cy)) (g' := (D, am, cy)) (As := [.int (zI (xs (i + 1)).toInt)]) (rest := []) hx hb hml hown hts hKC hap hnC (mm_X7_withdraw (rg_i _) hC hW) mf_X7_withdraw ml_L_25 (by decide) rfl (by decide) rfl rfl (Nat.le_of_ble_eq_true rfl) hP hP2 hS hl.1 dL_law_240 (fun v1 I1 L1 H1 lc1 hv1 hP hP2 hS => ?_)
  obtain ⟨r1, rfl, q1, hR1⟩ := hv1
  refine lv_aload_n hx hb dL_law_243 rfl l2 ?_
  refine lw_elem (lv := []) hx hb hX hbl hS l0 l3 1 rfl (by omega) hL dL_law_244 dL_law_245 dL_law_246 dL_law_247 dL_law_248 ?_
  refine lw_call (ly := lyM) (ly' := lyC) (g := (D, am, cy)) (g' := (D, ac, cy)) (As := [.int (zI (xs (i + 1)).toInt)]) (rest := [.int (zI r1)]) hx hb hml hown hts hKM (fun i j h1 h2 h3 => hap j i h2 h1 h3.symm) hnM (mm_X8_withdraw (rg_i _) hM hW) mf_X8_withdraw ml_L_29 (by decide) rfl (by decide) rfl rfl (Nat.le_of_ble_eq_true rfl) hP2 hP hS hl.1 dL_law_249 (fun v2 I2 L2 H2 lc2 hv2 hP hP2 hS => ?_)
  obtain ⟨r2, rfl, q2, hR2⟩ := hv2
  have hPq := hP
  have hP := hP2
  have hP2 := hPq
  have hrr : r1 = r2 := q1.trans q2.symm
  subst hrr
  refine lv_icmp_eq (tgt := 789) hx hb dL_law_252 (by decide) (fun _ => ?_) (fun h9 => absurd rfl h9)
  exact K0 _ _ _ _ _ _ _ ⟨hP, hP2, hS, hR1, hR2, (WF_withdraw hW _)⟩
set_option maxHeartbeats 4000000 in
theorem lw_case_token {L : Nat} {xs : Nat → Int32} {D : va_G} {ac am : Nat → Nat} {cy : Nat → ClassId} (E : LE p s m c b L xs D ac am cy) (hL : L ≤ 2560) {i : Nat} (hi : i + 5 ≤ L) (hl : lv_has ls 4 [(3, .int (zI (i : Int))), (0, .ref b), (1, .ref (ac 0)), (2, .ref (am 0))]) {σ : sT} {I J : IM} {LL KK : LM} (hI : LI s D ac am cy σ I LL J KK H locs)
    (K0 : ∀ (σ' : sT) (I' : IM) (L' : LM) (J' : IM) (K' : LM) (H' : Heap) (locs' : List Loc), LI s D ac am cy σ' I' L' J' K' H' locs' → W p l e room_1 s m #[Value.ref b] below meth c H' locs' 600000 7302250 Q (F0 m 789 ls [])) :
    W p l e room_1 s m #[Value.ref b] below meth c H locs 600000 7302250 Q (F0 m 257 ls []) := by
  obtain ⟨hx, hb, hml, hown, hts, hKC, hKM, hap, hnC, hnM, hX, hbl⟩ := E
  obtain ⟨hP, hP2, hS, hC, hM, hW⟩ := hI
  have l3 := lv_at hl 0 rfl
  have l0 := lv_at hl 1 rfl
  have l1 := lv_at hl 2 rfl
  have l2 := lv_at hl 3 rfl
  refine lv_aload_n hx hb dL_law_257 rfl l1 ?_
  refine lw_elem (lv := []) hx hb hX hbl hS l0 l3 1 rfl (by omega) hL dL_law_258 dL_law_259 dL_law_260 dL_law_261 dL_law_262 ?_
  refine lw_elem (lv := []) hx hb hX hbl hS l0 l3 2 rfl (by omega) hL dL_law_263 dL_law_264 dL_law_265 dL_law_266 dL_law_267 ?_
  refine lw_call (ly := lyC) (ly' := lyM) (g := (D, ac, cy)) (g' := (D, am, cy)) (As := [.int (zI (xs (i + 1)).toInt), .int (zI (xs (i + 2)).toInt)]) (rest := []) hx hb hml hown hts hKC hap hnC (mm_X7_token (rg_i _) (rg_i _) hC hW) mf_X7_token ml_L_30 (by decide) rfl (by decide) rfl rfl (Nat.le_of_ble_eq_true rfl) hP hP2 hS hl.1 dL_law_268 (fun v1 I1 L1 H1 lc1 hv1 hP hP2 hS => ?_)
  obtain ⟨r1, rfl, q1, hR1⟩ := hv1
  refine lv_aload_n hx hb dL_law_271 rfl l2 ?_
  refine lw_elem (lv := []) hx hb hX hbl hS l0 l3 1 rfl (by omega) hL dL_law_272 dL_law_273 dL_law_274 dL_law_275 dL_law_276 ?_
  refine lw_elem (lv := []) hx hb hX hbl hS l0 l3 2 rfl (by omega) hL dL_law_277 dL_law_278 dL_law_279 dL_law_280 dL_law_281 ?_
  refine lw_call (ly := lyM) (ly' := lyC) (g := (D, am, cy)) (g' := (D, ac, cy)) (As := [.int (zI (xs (i + 1)).toInt), .int (zI (xs (i + 2)).toInt)]) (rest := [.long r1]) hx hb hml hown hts hKM (fun i j h1 h2 h3 => hap j i h2 h1 h3.symm) hnM (mm_X8_token (rg_i _) (rg_i _) hM hW) mf_X8_token ml_L_34 (by decide) rfl (by decide) rfl rfl (Nat.le_of_ble_eq_true rfl) hP2 hP hS hl.1 dL_law_282 (fun v2 I2 L2 H2 lc2 hv2 hP hP2 hS => ?_)
  obtain ⟨r2, rfl, q2, hR2⟩ := hv2
  have hPq := hP
  have hP := hP2
  have hP2 := hPq
  have hrr : r1 = r2 := q1.trans q2.symm
  subst hrr
  refine W.lcmp hx hb dL_law_285 ?_
  rw [show lg_cmp r1 r1 = 0 by simp [lg_cmp]]
  refine lv_if_eq (tgt := 789) hx hb dL_law_286 (by decide) (fun _ => ?_) (fun h9 => absurd rfl h9)
  exact K0 _ _ _ _ _ _ _ ⟨hP, hP2, hS, hR1, hR2, hW⟩
set_option maxHeartbeats 4000000 in
theorem lw_case_windows {L : Nat} {xs : Nat → Int32} {D : va_G} {ac am : Nat → Nat} {cy : Nat → ClassId} (E : LE p s m c b L xs D ac am cy) (hL : L ≤ 2560) {i : Nat} (hi : i + 5 ≤ L) (hl : lv_has ls 4 [(3, .int (zI (i : Int))), (0, .ref b), (1, .ref (ac 0)), (2, .ref (am 0))]) {σ : sT} {I J : IM} {LL KK : LM} (hI : LI s D ac am cy σ I LL J KK H locs)
    (K0 : ∀ (σ' : sT) (I' : IM) (L' : LM) (J' : IM) (K' : LM) (H' : Heap) (locs' : List Loc), LI s D ac am cy σ' I' L' J' K' H' locs' → W p l e room_1 s m #[Value.ref b] below meth c H' locs' 600000 7302250 Q (F0 m 789 ls [])) :
    W p l e room_1 s m #[Value.ref b] below meth c H locs 600000 7302250 Q (F0 m 291 ls []) := by
  obtain ⟨hx, hb, hml, hown, hts, hKC, hKM, hap, hnC, hnM, hX, hbl⟩ := E
  obtain ⟨hP, hP2, hS, hC, hM, hW⟩ := hI
  have l3 := lv_at hl 0 rfl
  have l0 := lv_at hl 1 rfl
  have l1 := lv_at hl 2 rfl
  have l2 := lv_at hl 3 rfl
  refine lv_aload_n hx hb dL_law_291 rfl l1 ?_
  refine lw_elem (lv := []) hx hb hX hbl hS l0 l3 1 rfl (by omega) hL dL_law_292 dL_law_293 dL_law_294 dL_law_295 dL_law_296 ?_
  refine lw_elem (lv := []) hx hb hX hbl hS l0 l3 2 rfl (by omega) hL dL_law_297 dL_law_298 dL_law_299 dL_law_300 dL_law_301 ?_
  refine lw_call (ly := lyC) (ly' := lyM) (g := (D, ac, cy)) (g' := (D, am, cy)) (As := [.int (zI (xs (i + 1)).toInt), .int (zI (xs (i + 2)).toInt)]) (rest := []) hx hb hml hown hts hKC hap hnC (mm_X7_windows (rg_i _) (rg_i _) hC) mf_X7_windows ml_L_35 (by decide) rfl (by decide) rfl rfl (Nat.le_of_ble_eq_true rfl) hP hP2 hS hl.1 dL_law_302 (fun v1 I1 L1 H1 lc1 hv1 hP hP2 hS => ?_)
  obtain ⟨r1, rfl, q1, hR1⟩ := hv1
  refine lv_aload_n hx hb dL_law_305 rfl l2 ?_
  refine lw_elem (lv := []) hx hb hX hbl hS l0 l3 1 rfl (by omega) hL dL_law_306 dL_law_307 dL_law_308 dL_law_309 dL_law_310 ?_
  refine lw_elem (lv := []) hx hb hX hbl hS l0 l3 2 rfl (by omega) hL dL_law_311 dL_law_312 dL_law_313 dL_law_314 dL_law_315 ?_
  refine lw_call (ly := lyM) (ly' := lyC) (g := (D, am, cy)) (g' := (D, ac, cy)) (As := [.int (zI (xs (i + 1)).toInt), .int (zI (xs (i + 2)).toInt)]) (rest := [.int (zI r1)]) hx hb hml hown hts hKM (fun i j h1 h2 h3 => hap j i h2 h1 h3.symm) hnM (mm_X8_windows (rg_i _) (rg_i _) hM) mf_X8_windows ml_L_39 (by decide) rfl (by decide) rfl rfl (Nat.le_of_ble_eq_true rfl) hP2 hP hS hl.1 dL_law_316 (fun v2 I2 L2 H2 lc2 hv2 hP hP2 hS => ?_)
  obtain ⟨r2, rfl, q2, hR2⟩ := hv2
  have hPq := hP
  have hP := hP2
  have hP2 := hPq
  have hrr : r1 = r2 := q1.trans q2.symm
  subst hrr
  refine lv_icmp_eq (tgt := 789) hx hb dL_law_319 (by decide) (fun _ => ?_) (fun h9 => absurd rfl h9)
  exact K0 _ _ _ _ _ _ _ ⟨hP, hP2, hS, hR1, hR2, (WF_windows hW _ _)⟩
set_option maxHeartbeats 4000000 in
theorem lw_case_gap {L : Nat} {xs : Nat → Int32} {D : va_G} {ac am : Nat → Nat} {cy : Nat → ClassId} (E : LE p s m c b L xs D ac am cy) (hL : L ≤ 2560) {i : Nat} (hi : i + 5 ≤ L) (hl : lv_has ls 4 [(3, .int (zI (i : Int))), (0, .ref b), (1, .ref (ac 0)), (2, .ref (am 0))]) {σ : sT} {I J : IM} {LL KK : LM} (hI : LI s D ac am cy σ I LL J KK H locs)
    (K0 : ∀ (σ' : sT) (I' : IM) (L' : LM) (J' : IM) (K' : LM) (H' : Heap) (locs' : List Loc), LI s D ac am cy σ' I' L' J' K' H' locs' → W p l e room_1 s m #[Value.ref b] below meth c H' locs' 600000 7302250 Q (F0 m 789 ls [])) :
    W p l e room_1 s m #[Value.ref b] below meth c H locs 600000 7302250 Q (F0 m 324 ls []) := by
  obtain ⟨hx, hb, hml, hown, hts, hKC, hKM, hap, hnC, hnM, hX, hbl⟩ := E
  obtain ⟨hP, hP2, hS, hC, hM, hW⟩ := hI
  have l3 := lv_at hl 0 rfl
  have l0 := lv_at hl 1 rfl
  have l1 := lv_at hl 2 rfl
  have l2 := lv_at hl 3 rfl
  refine lv_aload_n hx hb dL_law_324 rfl l1 ?_
  refine lw_elem (lv := []) hx hb hX hbl hS l0 l3 1 rfl (by omega) hL dL_law_325 dL_law_326 dL_law_327 dL_law_328 dL_law_329 ?_
  refine lw_call (ly := lyC) (ly' := lyM) (g := (D, ac, cy)) (g' := (D, am, cy)) (As := [.int (zI (xs (i + 1)).toInt)]) (rest := []) hx hb hml hown hts hKC hap hnC (mm_X7_gap (rg_i _) hC) mf_X7_gap ml_L_40 (by decide) rfl (by decide) rfl rfl (Nat.le_of_ble_eq_true rfl) hP hP2 hS hl.1 dL_law_330 (fun v1 I1 L1 H1 lc1 hv1 hP hP2 hS => ?_)
  obtain ⟨r1, rfl, q1, hR1⟩ := hv1
  refine lv_aload_n hx hb dL_law_333 rfl l2 ?_
  refine lw_elem (lv := []) hx hb hX hbl hS l0 l3 1 rfl (by omega) hL dL_law_334 dL_law_335 dL_law_336 dL_law_337 dL_law_338 ?_
  refine lw_call (ly := lyM) (ly' := lyC) (g := (D, am, cy)) (g' := (D, ac, cy)) (As := [.int (zI (xs (i + 1)).toInt)]) (rest := [.int (zI r1)]) hx hb hml hown hts hKM (fun i j h1 h2 h3 => hap j i h2 h1 h3.symm) hnM (mm_X8_gap (rg_i _) hM) mf_X8_gap ml_L_43 (by decide) rfl (by decide) rfl rfl (Nat.le_of_ble_eq_true rfl) hP2 hP hS hl.1 dL_law_339 (fun v2 I2 L2 H2 lc2 hv2 hP hP2 hS => ?_)
  obtain ⟨r2, rfl, q2, hR2⟩ := hv2
  have hPq := hP
  have hP := hP2
  have hP2 := hPq
  have hrr : r1 = r2 := q1.trans q2.symm
  subst hrr
  refine lv_icmp_eq (tgt := 789) hx hb dL_law_342 (by decide) (fun _ => ?_) (fun h9 => absurd rfl h9)
  exact K0 _ _ _ _ _ _ _ ⟨hP, hP2, hS, hR1, hR2, (WF_gap hW _)⟩
set_option maxHeartbeats 4000000 in
theorem lw_case_link {L : Nat} {xs : Nat → Int32} {D : va_G} {ac am : Nat → Nat} {cy : Nat → ClassId} (E : LE p s m c b L xs D ac am cy) (hL : L ≤ 2560) {i : Nat} (hi : i + 5 ≤ L) (hl : lv_has ls 4 [(3, .int (zI (i : Int))), (0, .ref b), (1, .ref (ac 0)), (2, .ref (am 0))]) {σ : sT} {I J : IM} {LL KK : LM} (hI : LI s D ac am cy σ I LL J KK H locs)
    (K0 : ∀ (σ' : sT) (I' : IM) (L' : LM) (J' : IM) (K' : LM) (H' : Heap) (locs' : List Loc), LI s D ac am cy σ' I' L' J' K' H' locs' → W p l e room_1 s m #[Value.ref b] below meth c H' locs' 600000 7302250 Q (F0 m 789 ls [])) :
    W p l e room_1 s m #[Value.ref b] below meth c H locs 600000 7302250 Q (F0 m 347 ls []) := by
  obtain ⟨hx, hb, hml, hown, hts, hKC, hKM, hap, hnC, hnM, hX, hbl⟩ := E
  obtain ⟨hP, hP2, hS, hC, hM, hW⟩ := hI
  have l3 := lv_at hl 0 rfl
  have l0 := lv_at hl 1 rfl
  have l1 := lv_at hl 2 rfl
  have l2 := lv_at hl 3 rfl
  refine lv_aload_n hx hb dL_law_347 rfl l1 ?_
  refine lw_elem (lv := []) hx hb hX hbl hS l0 l3 1 rfl (by omega) hL dL_law_348 dL_law_349 dL_law_350 dL_law_351 dL_law_352 ?_
  refine lw_call (ly := lyC) (ly' := lyM) (g := (D, ac, cy)) (g' := (D, am, cy)) (As := [.int (zI (xs (i + 1)).toInt)]) (rest := []) hx hb hml hown hts hKC hap hnC (mm_X7_link (rg_i _) hC) mf_X7_link ml_L_44 (by decide) rfl (by decide) rfl rfl (Nat.le_of_ble_eq_true rfl) hP hP2 hS hl.1 dL_law_353 (fun v1 I1 L1 H1 lc1 hv1 hP hP2 hS => ?_)
  obtain ⟨r1, rfl, q1, hR1⟩ := hv1
  refine lv_aload_n hx hb dL_law_356 rfl l2 ?_
  refine lw_elem (lv := []) hx hb hX hbl hS l0 l3 1 rfl (by omega) hL dL_law_357 dL_law_358 dL_law_359 dL_law_360 dL_law_361 ?_
  refine lw_call (ly := lyM) (ly' := lyC) (g := (D, am, cy)) (g' := (D, ac, cy)) (As := [.int (zI (xs (i + 1)).toInt)]) (rest := [.int (zI r1)]) hx hb hml hown hts hKM (fun i j h1 h2 h3 => hap j i h2 h1 h3.symm) hnM (mm_X8_link (rg_i _) hM) mf_X8_link ml_L_47 (by decide) rfl (by decide) rfl rfl (Nat.le_of_ble_eq_true rfl) hP2 hP hS hl.1 dL_law_362 (fun v2 I2 L2 H2 lc2 hv2 hP hP2 hS => ?_)
  obtain ⟨r2, rfl, q2, hR2⟩ := hv2
  have hPq := hP
  have hP := hP2
  have hP2 := hPq
  have hrr : r1 = r2 := q1.trans q2.symm
  subst hrr
  refine lv_icmp_eq (tgt := 789) hx hb dL_law_365 (by decide) (fun _ => ?_) (fun h9 => absurd rfl h9)
  exact K0 _ _ _ _ _ _ _ ⟨hP, hP2, hS, hR1, hR2, (WF_link hW _)⟩
set_option maxHeartbeats 4000000 in
theorem lw_case_given {L : Nat} {xs : Nat → Int32} {D : va_G} {ac am : Nat → Nat} {cy : Nat → ClassId} (E : LE p s m c b L xs D ac am cy) (hL : L ≤ 2560) {i : Nat} (hi : i + 5 ≤ L) (hl : lv_has ls 4 [(3, .int (zI (i : Int))), (0, .ref b), (1, .ref (ac 0)), (2, .ref (am 0))]) {σ : sT} {I J : IM} {LL KK : LM} (hI : LI s D ac am cy σ I LL J KK H locs)
    (K0 : ∀ (σ' : sT) (I' : IM) (L' : LM) (J' : IM) (K' : LM) (H' : Heap) (locs' : List Loc), LI s D ac am cy σ' I' L' J' K' H' locs' → W p l e room_1 s m #[Value.ref b] below meth c H' locs' 600000 7302250 Q (F0 m 789 ls [])) :
    W p l e room_1 s m #[Value.ref b] below meth c H locs 600000 7302250 Q (F0 m 370 ls []) := by
  obtain ⟨hx, hb, hml, hown, hts, hKC, hKM, hap, hnC, hnM, hX, hbl⟩ := E
  obtain ⟨hP, hP2, hS, hC, hM, hW⟩ := hI
  have l3 := lv_at hl 0 rfl
  have l0 := lv_at hl 1 rfl
  have l1 := lv_at hl 2 rfl
  have l2 := lv_at hl 3 rfl
  refine lv_aload_n hx hb dL_law_370 rfl l1 ?_
  refine lw_elem (lv := []) hx hb hX hbl hS l0 l3 1 rfl (by omega) hL dL_law_371 dL_law_372 dL_law_373 dL_law_374 dL_law_375 ?_
  refine lw_call (ly := lyC) (ly' := lyM) (g := (D, ac, cy)) (g' := (D, am, cy)) (As := [.int (zI (xs (i + 1)).toInt)]) (rest := []) hx hb hml hown hts hKC hap hnC (mm_X7_given (rg_i _) hC hW) mf_X7_given ml_L_48 (by decide) rfl (by decide) rfl rfl (Nat.le_of_ble_eq_true rfl) hP hP2 hS hl.1 dL_law_376 (fun v1 I1 L1 H1 lc1 hv1 hP hP2 hS => ?_)
  obtain ⟨r1, rfl, q1, hR1⟩ := hv1
  refine lv_aload_n hx hb dL_law_379 rfl l2 ?_
  refine lw_elem (lv := []) hx hb hX hbl hS l0 l3 1 rfl (by omega) hL dL_law_380 dL_law_381 dL_law_382 dL_law_383 dL_law_384 ?_
  refine lw_call (ly := lyM) (ly' := lyC) (g := (D, am, cy)) (g' := (D, ac, cy)) (As := [.int (zI (xs (i + 1)).toInt)]) (rest := [.int (zI r1)]) hx hb hml hown hts hKM (fun i j h1 h2 h3 => hap j i h2 h1 h3.symm) hnM (mm_X8_given (rg_i _) hM hW) mf_X8_given ml_L_51 (by decide) rfl (by decide) rfl rfl (Nat.le_of_ble_eq_true rfl) hP2 hP hS hl.1 dL_law_385 (fun v2 I2 L2 H2 lc2 hv2 hP hP2 hS => ?_)
  obtain ⟨r2, rfl, q2, hR2⟩ := hv2
  have hPq := hP
  have hP := hP2
  have hP2 := hPq
  have hrr : r1 = r2 := q1.trans q2.symm
  subst hrr
  refine lv_icmp_eq (tgt := 789) hx hb dL_law_388 (by decide) (fun _ => ?_) (fun h9 => absurd rfl h9)
  exact K0 _ _ _ _ _ _ _ ⟨hP, hP2, hS, hR1, hR2, (WF_given hW _)⟩
set_option maxHeartbeats 4000000 in
theorem lw_case_hash {L : Nat} {xs : Nat → Int32} {D : va_G} {ac am : Nat → Nat} {cy : Nat → ClassId} (E : LE p s m c b L xs D ac am cy) (hL : L ≤ 2560) {i : Nat} (hi : i + 5 ≤ L) (hl : lv_has ls 4 [(3, .int (zI (i : Int))), (0, .ref b), (1, .ref (ac 0)), (2, .ref (am 0))]) {σ : sT} {I J : IM} {LL KK : LM} (hI : LI s D ac am cy σ I LL J KK H locs)
    (K0 : ∀ (σ' : sT) (I' : IM) (L' : LM) (J' : IM) (K' : LM) (H' : Heap) (locs' : List Loc), LI s D ac am cy σ' I' L' J' K' H' locs' → W p l e room_1 s m #[Value.ref b] below meth c H' locs' 600000 7302250 Q (F0 m 789 ls [])) :
    W p l e room_1 s m #[Value.ref b] below meth c H locs 600000 7302250 Q (F0 m 393 ls []) := by
  obtain ⟨hx, hb, hml, hown, hts, hKC, hKM, hap, hnC, hnM, hX, hbl⟩ := E
  obtain ⟨hP, hP2, hS, hC, hM, hW⟩ := hI
  have l3 := lv_at hl 0 rfl
  have l0 := lv_at hl 1 rfl
  have l1 := lv_at hl 2 rfl
  have l2 := lv_at hl 3 rfl
  refine lv_aload_n hx hb dL_law_393 rfl l1 ?_
  refine lw_elem (lv := []) hx hb hX hbl hS l0 l3 1 rfl (by omega) hL dL_law_394 dL_law_395 dL_law_396 dL_law_397 dL_law_398 ?_
  refine lw_elem (lv := []) hx hb hX hbl hS l0 l3 2 rfl (by omega) hL dL_law_399 dL_law_400 dL_law_401 dL_law_402 dL_law_403 ?_
  refine lw_call (ly := lyC) (ly' := lyM) (g := (D, ac, cy)) (g' := (D, am, cy)) (As := [.int (zI (xs (i + 1)).toInt), .int (zI (xs (i + 2)).toInt)]) (rest := []) hx hb hml hown hts hKC hap hnC (mm_X7_hash (rg_i _) (rg_i _) hC hW) mf_X7_hash ml_L_52 (by decide) rfl (by decide) rfl rfl (Nat.le_of_ble_eq_true rfl) hP hP2 hS hl.1 dL_law_404 (fun v1 I1 L1 H1 lc1 hv1 hP hP2 hS => ?_)
  obtain ⟨r1, rfl, q1, hR1⟩ := hv1
  refine lv_aload_n hx hb dL_law_407 rfl l2 ?_
  refine lw_elem (lv := []) hx hb hX hbl hS l0 l3 1 rfl (by omega) hL dL_law_408 dL_law_409 dL_law_410 dL_law_411 dL_law_412 ?_
  refine lw_elem (lv := []) hx hb hX hbl hS l0 l3 2 rfl (by omega) hL dL_law_413 dL_law_414 dL_law_415 dL_law_416 dL_law_417 ?_
  refine lw_call (ly := lyM) (ly' := lyC) (g := (D, am, cy)) (g' := (D, ac, cy)) (As := [.int (zI (xs (i + 1)).toInt), .int (zI (xs (i + 2)).toInt)]) (rest := [.int (zI r1)]) hx hb hml hown hts hKM (fun i j h1 h2 h3 => hap j i h2 h1 h3.symm) hnM (mm_X8_hash (rg_i _) (rg_i _) hM hW) mf_X8_hash ml_L_55 (by decide) rfl (by decide) rfl rfl (Nat.le_of_ble_eq_true rfl) hP2 hP hS hl.1 dL_law_418 (fun v2 I2 L2 H2 lc2 hv2 hP hP2 hS => ?_)
  obtain ⟨r2, rfl, q2, hR2⟩ := hv2
  have hPq := hP
  have hP := hP2
  have hP2 := hPq
  have hrr : r1 = r2 := q1.trans q2.symm
  subst hrr
  refine lv_icmp_eq (tgt := 789) hx hb dL_law_421 (by decide) (fun _ => ?_) (fun h9 => absurd rfl h9)
  exact K0 _ _ _ _ _ _ _ ⟨hP, hP2, hS, hR1, hR2, hW⟩
set_option maxHeartbeats 4000000 in
theorem lw_case_markAt {L : Nat} {xs : Nat → Int32} {D : va_G} {ac am : Nat → Nat} {cy : Nat → ClassId} (E : LE p s m c b L xs D ac am cy) (hL : L ≤ 2560) {i : Nat} (hi : i + 5 ≤ L) (hl : lv_has ls 4 [(3, .int (zI (i : Int))), (0, .ref b), (1, .ref (ac 0)), (2, .ref (am 0))]) {σ : sT} {I J : IM} {LL KK : LM} (hI : LI s D ac am cy σ I LL J KK H locs)
    (K0 : ∀ (σ' : sT) (I' : IM) (L' : LM) (J' : IM) (K' : LM) (H' : Heap) (locs' : List Loc), LI s D ac am cy σ' I' L' J' K' H' locs' → W p l e room_1 s m #[Value.ref b] below meth c H' locs' 600000 7302250 Q (F0 m 789 ls [])) :
    W p l e room_1 s m #[Value.ref b] below meth c H locs 600000 7302250 Q (F0 m 426 ls []) := by
  obtain ⟨hx, hb, hml, hown, hts, hKC, hKM, hap, hnC, hnM, hX, hbl⟩ := E
  obtain ⟨hP, hP2, hS, hC, hM, hW⟩ := hI
  have l3 := lv_at hl 0 rfl
  have l0 := lv_at hl 1 rfl
  have l1 := lv_at hl 2 rfl
  have l2 := lv_at hl 3 rfl
  refine lv_aload_n hx hb dL_law_426 rfl l1 ?_
  refine lw_elem (lv := []) hx hb hX hbl hS l0 l3 1 rfl (by omega) hL dL_law_427 dL_law_428 dL_law_429 dL_law_430 dL_law_431 ?_
  refine lw_elem (lv := []) hx hb hX hbl hS l0 l3 2 rfl (by omega) hL dL_law_432 dL_law_433 dL_law_434 dL_law_435 dL_law_436 ?_
  refine lw_call (ly := lyC) (ly' := lyM) (g := (D, ac, cy)) (g' := (D, am, cy)) (As := [.int (zI (xs (i + 1)).toInt), .int (zI (xs (i + 2)).toInt)]) (rest := []) hx hb hml hown hts hKC hap hnC (mm_X7_markAt (rg_i _) (rg_i _) hC hW) mf_X7_markAt ml_L_56 (by decide) rfl (by decide) rfl rfl (Nat.le_of_ble_eq_true rfl) hP hP2 hS hl.1 dL_law_437 (fun v1 I1 L1 H1 lc1 hv1 hP hP2 hS => ?_)
  obtain ⟨r1, rfl, q1, hR1⟩ := hv1
  refine lv_aload_n hx hb dL_law_440 rfl l2 ?_
  refine lw_elem (lv := []) hx hb hX hbl hS l0 l3 1 rfl (by omega) hL dL_law_441 dL_law_442 dL_law_443 dL_law_444 dL_law_445 ?_
  refine lw_elem (lv := []) hx hb hX hbl hS l0 l3 2 rfl (by omega) hL dL_law_446 dL_law_447 dL_law_448 dL_law_449 dL_law_450 ?_
  refine lw_call (ly := lyM) (ly' := lyC) (g := (D, am, cy)) (g' := (D, ac, cy)) (As := [.int (zI (xs (i + 1)).toInt), .int (zI (xs (i + 2)).toInt)]) (rest := [.int (zI r1)]) hx hb hml hown hts hKM (fun i j h1 h2 h3 => hap j i h2 h1 h3.symm) hnM (mm_X8_markAt (rg_i _) (rg_i _) hM hW) mf_X8_markAt ml_L_59 (by decide) rfl (by decide) rfl rfl (Nat.le_of_ble_eq_true rfl) hP2 hP hS hl.1 dL_law_451 (fun v2 I2 L2 H2 lc2 hv2 hP hP2 hS => ?_)
  obtain ⟨r2, rfl, q2, hR2⟩ := hv2
  have hPq := hP
  have hP := hP2
  have hP2 := hPq
  have hrr : r1 = r2 := q1.trans q2.symm
  subst hrr
  refine lv_icmp_eq (tgt := 789) hx hb dL_law_454 (by decide) (fun _ => ?_) (fun h9 => absurd rfl h9)
  exact K0 _ _ _ _ _ _ _ ⟨hP, hP2, hS, hR1, hR2, hW⟩
set_option maxHeartbeats 4000000 in
theorem lw_case_aside {L : Nat} {xs : Nat → Int32} {D : va_G} {ac am : Nat → Nat} {cy : Nat → ClassId} (E : LE p s m c b L xs D ac am cy) (hL : L ≤ 2560) {i : Nat} (hi : i + 5 ≤ L) (hl : lv_has ls 4 [(3, .int (zI (i : Int))), (0, .ref b), (1, .ref (ac 0)), (2, .ref (am 0))]) {σ : sT} {I J : IM} {LL KK : LM} (hI : LI s D ac am cy σ I LL J KK H locs)
    (K0 : ∀ (σ' : sT) (I' : IM) (L' : LM) (J' : IM) (K' : LM) (H' : Heap) (locs' : List Loc), LI s D ac am cy σ' I' L' J' K' H' locs' → W p l e room_1 s m #[Value.ref b] below meth c H' locs' 600000 7302250 Q (F0 m 789 ls [])) :
    W p l e room_1 s m #[Value.ref b] below meth c H locs 600000 7302250 Q (F0 m 459 ls []) := by
  obtain ⟨hx, hb, hml, hown, hts, hKC, hKM, hap, hnC, hnM, hX, hbl⟩ := E
  obtain ⟨hP, hP2, hS, hC, hM, hW⟩ := hI
  have l3 := lv_at hl 0 rfl
  have l0 := lv_at hl 1 rfl
  have l1 := lv_at hl 2 rfl
  have l2 := lv_at hl 3 rfl
  refine lv_aload_n hx hb dL_law_459 rfl l1 ?_
  refine lw_elem (lv := []) hx hb hX hbl hS l0 l3 1 rfl (by omega) hL dL_law_460 dL_law_461 dL_law_462 dL_law_463 dL_law_464 ?_
  refine lw_elem (lv := []) hx hb hX hbl hS l0 l3 2 rfl (by omega) hL dL_law_465 dL_law_466 dL_law_467 dL_law_468 dL_law_469 ?_
  refine lw_call (ly := lyC) (ly' := lyM) (g := (D, ac, cy)) (g' := (D, am, cy)) (As := [.int (zI (xs (i + 1)).toInt), .int (zI (xs (i + 2)).toInt)]) (rest := []) hx hb hml hown hts hKC hap hnC (mm_X7_aside (rg_i _) (rg_i _) hC hW) mf_X7_aside ml_L_60 (by decide) rfl (by decide) rfl rfl (Nat.le_of_ble_eq_true rfl) hP hP2 hS hl.1 dL_law_470 (fun v1 I1 L1 H1 lc1 hv1 hP hP2 hS => ?_)
  obtain ⟨r1, rfl, q1, hR1⟩ := hv1
  refine lv_aload_n hx hb dL_law_473 rfl l2 ?_
  refine lw_elem (lv := []) hx hb hX hbl hS l0 l3 1 rfl (by omega) hL dL_law_474 dL_law_475 dL_law_476 dL_law_477 dL_law_478 ?_
  refine lw_elem (lv := []) hx hb hX hbl hS l0 l3 2 rfl (by omega) hL dL_law_479 dL_law_480 dL_law_481 dL_law_482 dL_law_483 ?_
  refine lw_call (ly := lyM) (ly' := lyC) (g := (D, am, cy)) (g' := (D, ac, cy)) (As := [.int (zI (xs (i + 1)).toInt), .int (zI (xs (i + 2)).toInt)]) (rest := [.int (zI r1)]) hx hb hml hown hts hKM (fun i j h1 h2 h3 => hap j i h2 h1 h3.symm) hnM (mm_X8_aside (rg_i _) (rg_i _) hM hW) mf_X8_aside ml_L_63 (by decide) rfl (by decide) rfl rfl (Nat.le_of_ble_eq_true rfl) hP2 hP hS hl.1 dL_law_484 (fun v2 I2 L2 H2 lc2 hv2 hP hP2 hS => ?_)
  obtain ⟨r2, rfl, q2, hR2⟩ := hv2
  have hPq := hP
  have hP := hP2
  have hP2 := hPq
  have hrr : r1 = r2 := q1.trans q2.symm
  subst hrr
  refine lv_icmp_eq (tgt := 789) hx hb dL_law_487 (by decide) (fun _ => ?_) (fun h9 => absurd rfl h9)
  exact K0 _ _ _ _ _ _ _ ⟨hP, hP2, hS, hR1, hR2, hW⟩
set_option maxHeartbeats 4000000 in
theorem lw_case_runs {L : Nat} {xs : Nat → Int32} {D : va_G} {ac am : Nat → Nat} {cy : Nat → ClassId} (E : LE p s m c b L xs D ac am cy) (hL : L ≤ 2560) {i : Nat} (hi : i + 5 ≤ L) (hl : lv_has ls 4 [(3, .int (zI (i : Int))), (0, .ref b), (1, .ref (ac 0)), (2, .ref (am 0))]) {σ : sT} {I J : IM} {LL KK : LM} (hI : LI s D ac am cy σ I LL J KK H locs)
    (K0 : ∀ (σ' : sT) (I' : IM) (L' : LM) (J' : IM) (K' : LM) (H' : Heap) (locs' : List Loc), LI s D ac am cy σ' I' L' J' K' H' locs' → W p l e room_1 s m #[Value.ref b] below meth c H' locs' 600000 7302250 Q (F0 m 789 ls [])) :
    W p l e room_1 s m #[Value.ref b] below meth c H locs 600000 7302250 Q (F0 m 492 ls []) := by
  obtain ⟨hx, hb, hml, hown, hts, hKC, hKM, hap, hnC, hnM, hX, hbl⟩ := E
  obtain ⟨hP, hP2, hS, hC, hM, hW⟩ := hI
  have l3 := lv_at hl 0 rfl
  have l0 := lv_at hl 1 rfl
  have l1 := lv_at hl 2 rfl
  have l2 := lv_at hl 3 rfl
  refine lv_aload_n hx hb dL_law_492 rfl l1 ?_
  refine lw_elem (lv := []) hx hb hX hbl hS l0 l3 1 rfl (by omega) hL dL_law_493 dL_law_494 dL_law_495 dL_law_496 dL_law_497 ?_
  refine lw_elem (lv := []) hx hb hX hbl hS l0 l3 2 rfl (by omega) hL dL_law_498 dL_law_499 dL_law_500 dL_law_501 dL_law_502 ?_
  refine lw_call (ly := lyC) (ly' := lyM) (g := (D, ac, cy)) (g' := (D, am, cy)) (As := [.int (zI (xs (i + 1)).toInt), .int (zI (xs (i + 2)).toInt)]) (rest := []) hx hb hml hown hts hKC hap hnC (mm_X7_runs (rg_i _) (rg_i _) hC hW) mf_X7_runs ml_L_64 (by decide) rfl (by decide) rfl rfl (Nat.le_of_ble_eq_true rfl) hP hP2 hS hl.1 dL_law_503 (fun v1 I1 L1 H1 lc1 hv1 hP hP2 hS => ?_)
  obtain ⟨r1, rfl, q1, hR1⟩ := hv1
  refine lv_aload_n hx hb dL_law_506 rfl l2 ?_
  refine lw_elem (lv := []) hx hb hX hbl hS l0 l3 1 rfl (by omega) hL dL_law_507 dL_law_508 dL_law_509 dL_law_510 dL_law_511 ?_
  refine lw_elem (lv := []) hx hb hX hbl hS l0 l3 2 rfl (by omega) hL dL_law_512 dL_law_513 dL_law_514 dL_law_515 dL_law_516 ?_
  refine lw_call (ly := lyM) (ly' := lyC) (g := (D, am, cy)) (g' := (D, ac, cy)) (As := [.int (zI (xs (i + 1)).toInt), .int (zI (xs (i + 2)).toInt)]) (rest := [.int (zI r1)]) hx hb hml hown hts hKM (fun i j h1 h2 h3 => hap j i h2 h1 h3.symm) hnM (mm_X8_runs (rg_i _) (rg_i _) hM hW) mf_X8_runs ml_L_67 (by decide) rfl (by decide) rfl rfl (Nat.le_of_ble_eq_true rfl) hP2 hP hS hl.1 dL_law_517 (fun v2 I2 L2 H2 lc2 hv2 hP hP2 hS => ?_)
  obtain ⟨r2, rfl, q2, hR2⟩ := hv2
  have hPq := hP
  have hP := hP2
  have hP2 := hPq
  have hrr : r1 = r2 := q1.trans q2.symm
  subst hrr
  refine lv_icmp_eq (tgt := 789) hx hb dL_law_520 (by decide) (fun _ => ?_) (fun h9 => absurd rfl h9)
  exact K0 _ _ _ _ _ _ _ ⟨hP, hP2, hS, hR1, hR2, hW⟩
set_option maxHeartbeats 4000000 in
theorem lw_case_run {L : Nat} {xs : Nat → Int32} {D : va_G} {ac am : Nat → Nat} {cy : Nat → ClassId} (E : LE p s m c b L xs D ac am cy) (hL : L ≤ 2560) {i : Nat} (hi : i + 5 ≤ L) (hl : lv_has ls 4 [(3, .int (zI (i : Int))), (0, .ref b), (1, .ref (ac 0)), (2, .ref (am 0))]) {σ : sT} {I J : IM} {LL KK : LM} (hI : LI s D ac am cy σ I LL J KK H locs)
    (K0 : ∀ (σ' : sT) (I' : IM) (L' : LM) (J' : IM) (K' : LM) (H' : Heap) (locs' : List Loc), LI s D ac am cy σ' I' L' J' K' H' locs' → W p l e room_1 s m #[Value.ref b] below meth c H' locs' 600000 7302250 Q (F0 m 789 ls [])) :
    W p l e room_1 s m #[Value.ref b] below meth c H locs 600000 7302250 Q (F0 m 525 ls []) := by
  obtain ⟨hx, hb, hml, hown, hts, hKC, hKM, hap, hnC, hnM, hX, hbl⟩ := E
  obtain ⟨hP, hP2, hS, hC, hM, hW⟩ := hI
  have l3 := lv_at hl 0 rfl
  have l0 := lv_at hl 1 rfl
  have l1 := lv_at hl 2 rfl
  have l2 := lv_at hl 3 rfl
  refine lv_aload_n hx hb dL_law_525 rfl l1 ?_
  refine lw_elem (lv := []) hx hb hX hbl hS l0 l3 1 rfl (by omega) hL dL_law_526 dL_law_527 dL_law_528 dL_law_529 dL_law_530 ?_
  refine lw_elem (lv := []) hx hb hX hbl hS l0 l3 2 rfl (by omega) hL dL_law_531 dL_law_532 dL_law_533 dL_law_534 dL_law_535 ?_
  refine lw_elem (lv := []) hx hb hX hbl hS l0 l3 3 rfl (by omega) hL dL_law_536 dL_law_537 dL_law_538 dL_law_539 dL_law_540 ?_
  refine lw_elem (lv := []) hx hb hX hbl hS l0 l3 4 rfl (by omega) hL dL_law_541 dL_law_542 dL_law_543 dL_law_544 dL_law_545 ?_
  refine lw_call (ly := lyC) (ly' := lyM) (g := (D, ac, cy)) (g' := (D, am, cy)) (As := [.int (zI (xs (i + 1)).toInt), .int (zI (xs (i + 2)).toInt), .int (zI (xs (i + 3)).toInt), .int (zI (xs (i + 4)).toInt)]) (rest := []) hx hb hml hown hts hKC hap hnC (mm_X7_run (rg_i _) (rg_i _) (rg_i _) (rg_i _) hC hW) mf_X7_run ml_L_68 (by decide) rfl (by decide) rfl rfl (Nat.le_of_ble_eq_true rfl) hP hP2 hS hl.1 dL_law_546 (fun v1 I1 L1 H1 lc1 hv1 hP hP2 hS => ?_)
  obtain ⟨r1, rfl, q1, hR1⟩ := hv1
  refine lv_aload_n hx hb dL_law_549 rfl l2 ?_
  refine lw_elem (lv := []) hx hb hX hbl hS l0 l3 1 rfl (by omega) hL dL_law_550 dL_law_551 dL_law_552 dL_law_553 dL_law_554 ?_
  refine lw_elem (lv := []) hx hb hX hbl hS l0 l3 2 rfl (by omega) hL dL_law_555 dL_law_556 dL_law_557 dL_law_558 dL_law_559 ?_
  refine lw_elem (lv := []) hx hb hX hbl hS l0 l3 3 rfl (by omega) hL dL_law_560 dL_law_561 dL_law_562 dL_law_563 dL_law_564 ?_
  refine lw_elem (lv := []) hx hb hX hbl hS l0 l3 4 rfl (by omega) hL dL_law_565 dL_law_566 dL_law_567 dL_law_568 dL_law_569 ?_
  refine lw_call (ly := lyM) (ly' := lyC) (g := (D, am, cy)) (g' := (D, ac, cy)) (As := [.int (zI (xs (i + 1)).toInt), .int (zI (xs (i + 2)).toInt), .int (zI (xs (i + 3)).toInt), .int (zI (xs (i + 4)).toInt)]) (rest := [.int (zI r1)]) hx hb hml hown hts hKM (fun i j h1 h2 h3 => hap j i h2 h1 h3.symm) hnM (mm_X8_run (rg_i _) (rg_i _) (rg_i _) (rg_i _) hM hW) mf_X8_run ml_L_72 (by decide) rfl (by decide) rfl rfl (Nat.le_of_ble_eq_true rfl) hP2 hP hS hl.1 dL_law_570 (fun v2 I2 L2 H2 lc2 hv2 hP hP2 hS => ?_)
  obtain ⟨r2, rfl, q2, hR2⟩ := hv2
  have hPq := hP
  have hP := hP2
  have hP2 := hPq
  have hrr : r1 = r2 := q1.trans q2.symm
  subst hrr
  refine lv_icmp_eq (tgt := 789) hx hb dL_law_573 (by decide) (fun _ => ?_) (fun h9 => absurd rfl h9)
  exact K0 _ _ _ _ _ _ _ ⟨hP, hP2, hS, hR1, hR2, hW⟩
set_option maxHeartbeats 4000000 in
theorem lw_case_score {L : Nat} {xs : Nat → Int32} {D : va_G} {ac am : Nat → Nat} {cy : Nat → ClassId} (E : LE p s m c b L xs D ac am cy) (hL : L ≤ 2560) {i : Nat} (hi : i + 5 ≤ L) (hl : lv_has ls 4 [(3, .int (zI (i : Int))), (0, .ref b), (1, .ref (ac 0)), (2, .ref (am 0))]) {σ : sT} {I J : IM} {LL KK : LM} (hI : LI s D ac am cy σ I LL J KK H locs)
    (K0 : ∀ (σ' : sT) (I' : IM) (L' : LM) (J' : IM) (K' : LM) (H' : Heap) (locs' : List Loc), LI s D ac am cy σ' I' L' J' K' H' locs' → W p l e room_1 s m #[Value.ref b] below meth c H' locs' 600000 7302250 Q (F0 m 789 ls [])) :
    W p l e room_1 s m #[Value.ref b] below meth c H locs 600000 7302250 Q (F0 m 578 ls []) := by
  obtain ⟨hx, hb, hml, hown, hts, hKC, hKM, hap, hnC, hnM, hX, hbl⟩ := E
  obtain ⟨hP, hP2, hS, hC, hM, hW⟩ := hI
  have l3 := lv_at hl 0 rfl
  have l0 := lv_at hl 1 rfl
  have l1 := lv_at hl 2 rfl
  have l2 := lv_at hl 3 rfl
  refine lv_aload_n hx hb dL_law_578 rfl l1 ?_
  refine lw_elem (lv := []) hx hb hX hbl hS l0 l3 1 rfl (by omega) hL dL_law_579 dL_law_580 dL_law_581 dL_law_582 dL_law_583 ?_
  refine lw_elem (lv := []) hx hb hX hbl hS l0 l3 2 rfl (by omega) hL dL_law_584 dL_law_585 dL_law_586 dL_law_587 dL_law_588 ?_
  refine lw_call (ly := lyC) (ly' := lyM) (g := (D, ac, cy)) (g' := (D, am, cy)) (As := [.int (zI (xs (i + 1)).toInt), .int (zI (xs (i + 2)).toInt)]) (rest := []) hx hb hml hown hts hKC hap hnC (mm_X7_score (rg_i _) (rg_i _) hC hW) mf_X7_score ml_L_73 (by decide) rfl (by decide) rfl rfl (Nat.le_of_ble_eq_true rfl) hP hP2 hS hl.1 dL_law_589 (fun v1 I1 L1 H1 lc1 hv1 hP hP2 hS => ?_)
  obtain ⟨r1, rfl, q1, hR1⟩ := hv1
  refine lv_aload_n hx hb dL_law_592 rfl l2 ?_
  refine lw_elem (lv := []) hx hb hX hbl hS l0 l3 1 rfl (by omega) hL dL_law_593 dL_law_594 dL_law_595 dL_law_596 dL_law_597 ?_
  refine lw_elem (lv := []) hx hb hX hbl hS l0 l3 2 rfl (by omega) hL dL_law_598 dL_law_599 dL_law_600 dL_law_601 dL_law_602 ?_
  refine lw_call (ly := lyM) (ly' := lyC) (g := (D, am, cy)) (g' := (D, ac, cy)) (As := [.int (zI (xs (i + 1)).toInt), .int (zI (xs (i + 2)).toInt)]) (rest := [.int (zI r1)]) hx hb hml hown hts hKM (fun i j h1 h2 h3 => hap j i h2 h1 h3.symm) hnM (mm_X8_score (rg_i _) (rg_i _) hM hW) mf_X8_score ml_L_76 (by decide) rfl (by decide) rfl rfl (Nat.le_of_ble_eq_true rfl) hP2 hP hS hl.1 dL_law_603 (fun v2 I2 L2 H2 lc2 hv2 hP hP2 hS => ?_)
  obtain ⟨r2, rfl, q2, hR2⟩ := hv2
  have hPq := hP
  have hP := hP2
  have hP2 := hPq
  have hrr : r1 = r2 := q1.trans q2.symm
  subst hrr
  refine lv_icmp_eq (tgt := 789) hx hb dL_law_606 (by decide) (fun _ => ?_) (fun h9 => absurd rfl h9)
  exact K0 _ _ _ _ _ _ _ ⟨hP, hP2, hS, hR1, hR2, hW⟩
set_option maxHeartbeats 4000000 in
theorem lw_case_chain {L : Nat} {xs : Nat → Int32} {D : va_G} {ac am : Nat → Nat} {cy : Nat → ClassId} (E : LE p s m c b L xs D ac am cy) (hL : L ≤ 2560) {i : Nat} (hi : i + 5 ≤ L) (hl : lv_has ls 4 [(3, .int (zI (i : Int))), (0, .ref b), (1, .ref (ac 0)), (2, .ref (am 0))]) {σ : sT} {I J : IM} {LL KK : LM} (hI : LI s D ac am cy σ I LL J KK H locs)
    (K0 : ∀ (σ' : sT) (I' : IM) (L' : LM) (J' : IM) (K' : LM) (H' : Heap) (locs' : List Loc), LI s D ac am cy σ' I' L' J' K' H' locs' → W p l e room_1 s m #[Value.ref b] below meth c H' locs' 600000 7302250 Q (F0 m 789 ls [])) :
    W p l e room_1 s m #[Value.ref b] below meth c H locs 600000 7302250 Q (F0 m 611 ls []) := by
  obtain ⟨hx, hb, hml, hown, hts, hKC, hKM, hap, hnC, hnM, hX, hbl⟩ := E
  obtain ⟨hP, hP2, hS, hC, hM, hW⟩ := hI
  have l3 := lv_at hl 0 rfl
  have l0 := lv_at hl 1 rfl
  have l1 := lv_at hl 2 rfl
  have l2 := lv_at hl 3 rfl
  refine lv_aload_n hx hb dL_law_611 rfl l1 ?_
  refine lw_elem (lv := []) hx hb hX hbl hS l0 l3 1 rfl (by omega) hL dL_law_612 dL_law_613 dL_law_614 dL_law_615 dL_law_616 ?_
  refine lw_elem (lv := []) hx hb hX hbl hS l0 l3 2 rfl (by omega) hL dL_law_617 dL_law_618 dL_law_619 dL_law_620 dL_law_621 ?_
  refine lw_elem (lv := []) hx hb hX hbl hS l0 l3 3 rfl (by omega) hL dL_law_622 dL_law_623 dL_law_624 dL_law_625 dL_law_626 ?_
  refine lw_call (ly := lyC) (ly' := lyM) (g := (D, ac, cy)) (g' := (D, am, cy)) (As := [.int (zI (xs (i + 1)).toInt), .int (zI (xs (i + 2)).toInt), .int (zI (xs (i + 3)).toInt)]) (rest := []) hx hb hml hown hts hKC hap hnC (mm_X7_chain (rg_i _) (rg_i _) (rg_i _) hC hW) mf_X7_chain ml_L_77 (by decide) rfl (by decide) rfl rfl (Nat.le_of_ble_eq_true rfl) hP hP2 hS hl.1 dL_law_627 (fun v1 I1 L1 H1 lc1 hv1 hP hP2 hS => ?_)
  obtain ⟨r1, rfl, q1, hR1⟩ := hv1
  refine lv_aload_n hx hb dL_law_630 rfl l2 ?_
  refine lw_elem (lv := []) hx hb hX hbl hS l0 l3 1 rfl (by omega) hL dL_law_631 dL_law_632 dL_law_633 dL_law_634 dL_law_635 ?_
  refine lw_elem (lv := []) hx hb hX hbl hS l0 l3 2 rfl (by omega) hL dL_law_636 dL_law_637 dL_law_638 dL_law_639 dL_law_640 ?_
  refine lw_elem (lv := []) hx hb hX hbl hS l0 l3 3 rfl (by omega) hL dL_law_641 dL_law_642 dL_law_643 dL_law_644 dL_law_645 ?_
  refine lw_call (ly := lyM) (ly' := lyC) (g := (D, am, cy)) (g' := (D, ac, cy)) (As := [.int (zI (xs (i + 1)).toInt), .int (zI (xs (i + 2)).toInt), .int (zI (xs (i + 3)).toInt)]) (rest := [.int (zI r1)]) hx hb hml hown hts hKM (fun i j h1 h2 h3 => hap j i h2 h1 h3.symm) hnM (mm_X8_chain (rg_i _) (rg_i _) (rg_i _) hM hW) mf_X8_chain ml_L_80 (by decide) rfl (by decide) rfl rfl (Nat.le_of_ble_eq_true rfl) hP2 hP hS hl.1 dL_law_646 (fun v2 I2 L2 H2 lc2 hv2 hP hP2 hS => ?_)
  obtain ⟨r2, rfl, q2, hR2⟩ := hv2
  have hPq := hP
  have hP := hP2
  have hP2 := hPq
  have hrr : r1 = r2 := q1.trans q2.symm
  subst hrr
  refine lv_icmp_eq (tgt := 789) hx hb dL_law_649 (by decide) (fun _ => ?_) (fun h9 => absurd rfl h9)
  exact K0 _ _ _ _ _ _ _ ⟨hP, hP2, hS, hR1, hR2, hW⟩
set_option maxHeartbeats 4000000 in
theorem lw_case_covered {L : Nat} {xs : Nat → Int32} {D : va_G} {ac am : Nat → Nat} {cy : Nat → ClassId} (E : LE p s m c b L xs D ac am cy) (hL : L ≤ 2560) {i : Nat} (hi : i + 5 ≤ L) (hl : lv_has ls 4 [(3, .int (zI (i : Int))), (0, .ref b), (1, .ref (ac 0)), (2, .ref (am 0))]) {σ : sT} {I J : IM} {LL KK : LM} (hI : LI s D ac am cy σ I LL J KK H locs)
    (K0 : ∀ (σ' : sT) (I' : IM) (L' : LM) (J' : IM) (K' : LM) (H' : Heap) (locs' : List Loc), LI s D ac am cy σ' I' L' J' K' H' locs' → W p l e room_1 s m #[Value.ref b] below meth c H' locs' 600000 7302250 Q (F0 m 789 ls [])) :
    W p l e room_1 s m #[Value.ref b] below meth c H locs 600000 7302250 Q (F0 m 654 ls []) := by
  obtain ⟨hx, hb, hml, hown, hts, hKC, hKM, hap, hnC, hnM, hX, hbl⟩ := E
  obtain ⟨hP, hP2, hS, hC, hM, hW⟩ := hI
  have l3 := lv_at hl 0 rfl
  have l0 := lv_at hl 1 rfl
  have l1 := lv_at hl 2 rfl
  have l2 := lv_at hl 3 rfl
  refine lv_aload_n hx hb dL_law_654 rfl l1 ?_
  refine lw_elem (lv := []) hx hb hX hbl hS l0 l3 1 rfl (by omega) hL dL_law_655 dL_law_656 dL_law_657 dL_law_658 dL_law_659 ?_
  refine lw_elem (lv := []) hx hb hX hbl hS l0 l3 2 rfl (by omega) hL dL_law_660 dL_law_661 dL_law_662 dL_law_663 dL_law_664 ?_
  refine lw_call (ly := lyC) (ly' := lyM) (g := (D, ac, cy)) (g' := (D, am, cy)) (As := [.int (zI (xs (i + 1)).toInt), .int (zI (xs (i + 2)).toInt)]) (rest := []) hx hb hml hown hts hKC hap hnC (mm_X7_covered (rg_i _) (rg_i _) hC hW) mf_X7_covered ml_L_81 (by decide) rfl (by decide) rfl rfl (Nat.le_of_ble_eq_true rfl) hP hP2 hS hl.1 dL_law_665 (fun v1 I1 L1 H1 lc1 hv1 hP hP2 hS => ?_)
  obtain ⟨r1, rfl, q1, hR1⟩ := hv1
  refine lv_aload_n hx hb dL_law_668 rfl l2 ?_
  refine lw_elem (lv := []) hx hb hX hbl hS l0 l3 1 rfl (by omega) hL dL_law_669 dL_law_670 dL_law_671 dL_law_672 dL_law_673 ?_
  refine lw_elem (lv := []) hx hb hX hbl hS l0 l3 2 rfl (by omega) hL dL_law_674 dL_law_675 dL_law_676 dL_law_677 dL_law_678 ?_
  refine lw_call (ly := lyM) (ly' := lyC) (g := (D, am, cy)) (g' := (D, ac, cy)) (As := [.int (zI (xs (i + 1)).toInt), .int (zI (xs (i + 2)).toInt)]) (rest := [.int (zI r1)]) hx hb hml hown hts hKM (fun i j h1 h2 h3 => hap j i h2 h1 h3.symm) hnM (mm_X8_covered (rg_i _) (rg_i _) hM hW) mf_X8_covered ml_L_84 (by decide) rfl (by decide) rfl rfl (Nat.le_of_ble_eq_true rfl) hP2 hP hS hl.1 dL_law_679 (fun v2 I2 L2 H2 lc2 hv2 hP hP2 hS => ?_)
  obtain ⟨r2, rfl, q2, hR2⟩ := hv2
  have hPq := hP
  have hP := hP2
  have hP2 := hPq
  have hrr : r1 = r2 := q1.trans q2.symm
  subst hrr
  refine lv_icmp_eq (tgt := 789) hx hb dL_law_682 (by decide) (fun _ => ?_) (fun h9 => absurd rfl h9)
  exact K0 _ _ _ _ _ _ _ ⟨hP, hP2, hS, hR1, hR2, hW⟩
set_option maxHeartbeats 4000000 in
theorem lw_case_group {L : Nat} {xs : Nat → Int32} {D : va_G} {ac am : Nat → Nat} {cy : Nat → ClassId} (E : LE p s m c b L xs D ac am cy) (hL : L ≤ 2560) {i : Nat} (hi : i + 5 ≤ L) (hl : lv_has ls 4 [(3, .int (zI (i : Int))), (0, .ref b), (1, .ref (ac 0)), (2, .ref (am 0))]) {σ : sT} {I J : IM} {LL KK : LM} (hI : LI s D ac am cy σ I LL J KK H locs)
    (K0 : ∀ (σ' : sT) (I' : IM) (L' : LM) (J' : IM) (K' : LM) (H' : Heap) (locs' : List Loc), LI s D ac am cy σ' I' L' J' K' H' locs' → W p l e room_1 s m #[Value.ref b] below meth c H' locs' 600000 7302250 Q (F0 m 789 ls [])) :
    W p l e room_1 s m #[Value.ref b] below meth c H locs 600000 7302250 Q (F0 m 687 ls []) := by
  obtain ⟨hx, hb, hml, hown, hts, hKC, hKM, hap, hnC, hnM, hX, hbl⟩ := E
  obtain ⟨hP, hP2, hS, hC, hM, hW⟩ := hI
  have l3 := lv_at hl 0 rfl
  have l0 := lv_at hl 1 rfl
  have l1 := lv_at hl 2 rfl
  have l2 := lv_at hl 3 rfl
  refine lv_aload_n hx hb dL_law_687 rfl l1 ?_
  refine lw_elem (lv := []) hx hb hX hbl hS l0 l3 1 rfl (by omega) hL dL_law_688 dL_law_689 dL_law_690 dL_law_691 dL_law_692 ?_
  refine lw_call (ly := lyC) (ly' := lyM) (g := (D, ac, cy)) (g' := (D, am, cy)) (As := [.int (zI (xs (i + 1)).toInt)]) (rest := []) hx hb hml hown hts hKC hap hnC (mm_X7_group (rg_i _) hC hW) mf_X7_group ml_L_85 (by decide) rfl (by decide) rfl rfl (Nat.le_of_ble_eq_true rfl) hP hP2 hS hl.1 dL_law_693 (fun v1 I1 L1 H1 lc1 hv1 hP hP2 hS => ?_)
  obtain ⟨r1, rfl, q1, hR1⟩ := hv1
  refine lv_aload_n hx hb dL_law_696 rfl l2 ?_
  refine lw_elem (lv := []) hx hb hX hbl hS l0 l3 1 rfl (by omega) hL dL_law_697 dL_law_698 dL_law_699 dL_law_700 dL_law_701 ?_
  refine lw_call (ly := lyM) (ly' := lyC) (g := (D, am, cy)) (g' := (D, ac, cy)) (As := [.int (zI (xs (i + 1)).toInt)]) (rest := [.int (zI r1)]) hx hb hml hown hts hKM (fun i j h1 h2 h3 => hap j i h2 h1 h3.symm) hnM (mm_X8_group (rg_i _) hM hW) mf_X8_group ml_L_88 (by decide) rfl (by decide) rfl rfl (Nat.le_of_ble_eq_true rfl) hP2 hP hS hl.1 dL_law_702 (fun v2 I2 L2 H2 lc2 hv2 hP hP2 hS => ?_)
  obtain ⟨r2, rfl, q2, hR2⟩ := hv2
  have hPq := hP
  have hP := hP2
  have hP2 := hPq
  have hrr : r1 = r2 := q1.trans q2.symm
  subst hrr
  refine lv_icmp_eq (tgt := 789) hx hb dL_law_705 (by decide) (fun _ => ?_) (fun h9 => absurd rfl h9)
  exact K0 _ _ _ _ _ _ _ ⟨hP, hP2, hS, hR1, hR2, hW⟩
set_option maxHeartbeats 4000000 in
theorem lw_case_first {L : Nat} {xs : Nat → Int32} {D : va_G} {ac am : Nat → Nat} {cy : Nat → ClassId} (E : LE p s m c b L xs D ac am cy) (hL : L ≤ 2560) {i : Nat} (hi : i + 5 ≤ L) (hl : lv_has ls 4 [(3, .int (zI (i : Int))), (0, .ref b), (1, .ref (ac 0)), (2, .ref (am 0))]) {σ : sT} {I J : IM} {LL KK : LM} (hI : LI s D ac am cy σ I LL J KK H locs)
    (K0 : ∀ (σ' : sT) (I' : IM) (L' : LM) (J' : IM) (K' : LM) (H' : Heap) (locs' : List Loc), LI s D ac am cy σ' I' L' J' K' H' locs' → W p l e room_1 s m #[Value.ref b] below meth c H' locs' 600000 7302250 Q (F0 m 789 ls [])) :
    W p l e room_1 s m #[Value.ref b] below meth c H locs 600000 7302250 Q (F0 m 710 ls []) := by
  obtain ⟨hx, hb, hml, hown, hts, hKC, hKM, hap, hnC, hnM, hX, hbl⟩ := E
  obtain ⟨hP, hP2, hS, hC, hM, hW⟩ := hI
  have l3 := lv_at hl 0 rfl
  have l0 := lv_at hl 1 rfl
  have l1 := lv_at hl 2 rfl
  have l2 := lv_at hl 3 rfl
  refine lv_aload_n hx hb dL_law_710 rfl l1 ?_
  refine lw_elem (lv := []) hx hb hX hbl hS l0 l3 1 rfl (by omega) hL dL_law_711 dL_law_712 dL_law_713 dL_law_714 dL_law_715 ?_
  refine lw_call (ly := lyC) (ly' := lyM) (g := (D, ac, cy)) (g' := (D, am, cy)) (As := [.int (zI (xs (i + 1)).toInt)]) (rest := []) hx hb hml hown hts hKC hap hnC (mm_X7_first (rg_i _) hC hW) mf_X7_first ml_L_89 (by decide) rfl (by decide) rfl rfl (Nat.le_of_ble_eq_true rfl) hP hP2 hS hl.1 dL_law_716 (fun v1 I1 L1 H1 lc1 hv1 hP hP2 hS => ?_)
  obtain ⟨r1, rfl, q1, hR1⟩ := hv1
  refine lv_aload_n hx hb dL_law_719 rfl l2 ?_
  refine lw_elem (lv := []) hx hb hX hbl hS l0 l3 1 rfl (by omega) hL dL_law_720 dL_law_721 dL_law_722 dL_law_723 dL_law_724 ?_
  refine lw_call (ly := lyM) (ly' := lyC) (g := (D, am, cy)) (g' := (D, ac, cy)) (As := [.int (zI (xs (i + 1)).toInt)]) (rest := [.int (zI r1)]) hx hb hml hown hts hKM (fun i j h1 h2 h3 => hap j i h2 h1 h3.symm) hnM (mm_X8_first (rg_i _) hM hW) mf_X8_first ml_L_92 (by decide) rfl (by decide) rfl rfl (Nat.le_of_ble_eq_true rfl) hP2 hP hS hl.1 dL_law_725 (fun v2 I2 L2 H2 lc2 hv2 hP hP2 hS => ?_)
  obtain ⟨r2, rfl, q2, hR2⟩ := hv2
  have hPq := hP
  have hP := hP2
  have hP2 := hPq
  have hrr : r1 = r2 := q1.trans q2.symm
  subst hrr
  refine lv_icmp_eq (tgt := 789) hx hb dL_law_728 (by decide) (fun _ => ?_) (fun h9 => absurd rfl h9)
  exact K0 _ _ _ _ _ _ _ ⟨hP, hP2, hS, hR1, hR2, hW⟩
set_option maxHeartbeats 4000000 in
theorem lw_case_count {L : Nat} {xs : Nat → Int32} {D : va_G} {ac am : Nat → Nat} {cy : Nat → ClassId} (E : LE p s m c b L xs D ac am cy) (hL : L ≤ 2560) {i : Nat} (hi : i + 5 ≤ L) (hl : lv_has ls 4 [(3, .int (zI (i : Int))), (0, .ref b), (1, .ref (ac 0)), (2, .ref (am 0))]) {σ : sT} {I J : IM} {LL KK : LM} (hI : LI s D ac am cy σ I LL J KK H locs)
    (K0 : ∀ (σ' : sT) (I' : IM) (L' : LM) (J' : IM) (K' : LM) (H' : Heap) (locs' : List Loc), LI s D ac am cy σ' I' L' J' K' H' locs' → W p l e room_1 s m #[Value.ref b] below meth c H' locs' 600000 7302250 Q (F0 m 789 ls [])) :
    W p l e room_1 s m #[Value.ref b] below meth c H locs 600000 7302250 Q (F0 m 733 ls []) := by
  obtain ⟨hx, hb, hml, hown, hts, hKC, hKM, hap, hnC, hnM, hX, hbl⟩ := E
  obtain ⟨hP, hP2, hS, hC, hM, hW⟩ := hI
  have l3 := lv_at hl 0 rfl
  have l0 := lv_at hl 1 rfl
  have l1 := lv_at hl 2 rfl
  have l2 := lv_at hl 3 rfl
  refine lv_aload_n hx hb dL_law_733 rfl l1 ?_
  refine lw_elem (lv := []) hx hb hX hbl hS l0 l3 1 rfl (by omega) hL dL_law_734 dL_law_735 dL_law_736 dL_law_737 dL_law_738 ?_
  refine lw_call (ly := lyC) (ly' := lyM) (g := (D, ac, cy)) (g' := (D, am, cy)) (As := [.int (zI (xs (i + 1)).toInt)]) (rest := []) hx hb hml hown hts hKC hap hnC (mm_X7_count (rg_i _) hC hW) mf_X7_count ml_L_93 (by decide) rfl (by decide) rfl rfl (Nat.le_of_ble_eq_true rfl) hP hP2 hS hl.1 dL_law_739 (fun v1 I1 L1 H1 lc1 hv1 hP hP2 hS => ?_)
  obtain ⟨r1, rfl, q1, hR1⟩ := hv1
  refine lv_aload_n hx hb dL_law_742 rfl l2 ?_
  refine lw_elem (lv := []) hx hb hX hbl hS l0 l3 1 rfl (by omega) hL dL_law_743 dL_law_744 dL_law_745 dL_law_746 dL_law_747 ?_
  refine lw_call (ly := lyM) (ly' := lyC) (g := (D, am, cy)) (g' := (D, ac, cy)) (As := [.int (zI (xs (i + 1)).toInt)]) (rest := [.int (zI r1)]) hx hb hml hown hts hKM (fun i j h1 h2 h3 => hap j i h2 h1 h3.symm) hnM (mm_X8_count (rg_i _) hM hW) mf_X8_count ml_L_96 (by decide) rfl (by decide) rfl rfl (Nat.le_of_ble_eq_true rfl) hP2 hP hS hl.1 dL_law_748 (fun v2 I2 L2 H2 lc2 hv2 hP hP2 hS => ?_)
  obtain ⟨r2, rfl, q2, hR2⟩ := hv2
  have hPq := hP
  have hP := hP2
  have hP2 := hPq
  have hrr : r1 = r2 := q1.trans q2.symm
  subst hrr
  refine lv_icmp_eq (tgt := 789) hx hb dL_law_751 (by decide) (fun _ => ?_) (fun h9 => absurd rfl h9)
  exact K0 _ _ _ _ _ _ _ ⟨hP, hP2, hS, hR1, hR2, hW⟩
set_option maxHeartbeats 4000000 in
theorem lw_case_chance {L : Nat} {xs : Nat → Int32} {D : va_G} {ac am : Nat → Nat} {cy : Nat → ClassId} (E : LE p s m c b L xs D ac am cy) (hL : L ≤ 2560) {i : Nat} (hi : i + 5 ≤ L) (hl : lv_has ls 4 [(3, .int (zI (i : Int))), (0, .ref b), (1, .ref (ac 0)), (2, .ref (am 0))]) {σ : sT} {I J : IM} {LL KK : LM} (hI : LI s D ac am cy σ I LL J KK H locs)
    (K0 : ∀ (σ' : sT) (I' : IM) (L' : LM) (J' : IM) (K' : LM) (H' : Heap) (locs' : List Loc), LI s D ac am cy σ' I' L' J' K' H' locs' → W p l e room_1 s m #[Value.ref b] below meth c H' locs' 600000 7302250 Q (F0 m 789 ls [])) :
    W p l e room_1 s m #[Value.ref b] below meth c H locs 600000 7302250 Q (F0 m 756 ls []) := by
  obtain ⟨hx, hb, hml, hown, hts, hKC, hKM, hap, hnC, hnM, hX, hbl⟩ := E
  obtain ⟨hP, hP2, hS, hC, hM, hW⟩ := hI
  have l3 := lv_at hl 0 rfl
  have l0 := lv_at hl 1 rfl
  have l1 := lv_at hl 2 rfl
  have l2 := lv_at hl 3 rfl
  refine lv_aload_n hx hb dL_law_756 rfl l1 ?_
  refine lw_elem (lv := []) hx hb hX hbl hS l0 l3 1 rfl (by omega) hL dL_law_757 dL_law_758 dL_law_759 dL_law_760 dL_law_761 ?_
  refine lw_elem (lv := []) hx hb hX hbl hS l0 l3 2 rfl (by omega) hL dL_law_762 dL_law_763 dL_law_764 dL_law_765 dL_law_766 ?_
  refine lw_call (ly := lyC) (ly' := lyM) (g := (D, ac, cy)) (g' := (D, am, cy)) (As := [.int (zI (xs (i + 1)).toInt), .int (zI (xs (i + 2)).toInt)]) (rest := []) hx hb hml hown hts hKC hap hnC (mm_X7_chance (rg_i _) (rg_i _) hC hW) mf_X7_chance ml_L_97 (by decide) rfl (by decide) rfl rfl (Nat.le_of_ble_eq_true rfl) hP hP2 hS hl.1 dL_law_767 (fun v1 I1 L1 H1 lc1 hv1 hP hP2 hS => ?_)
  obtain ⟨r1, rfl, q1, hR1⟩ := hv1
  refine lv_aload_n hx hb dL_law_770 rfl l2 ?_
  refine lw_elem (lv := []) hx hb hX hbl hS l0 l3 1 rfl (by omega) hL dL_law_771 dL_law_772 dL_law_773 dL_law_774 dL_law_775 ?_
  refine lw_elem (lv := []) hx hb hX hbl hS l0 l3 2 rfl (by omega) hL dL_law_776 dL_law_777 dL_law_778 dL_law_779 dL_law_780 ?_
  refine lw_call (ly := lyM) (ly' := lyC) (g := (D, am, cy)) (g' := (D, ac, cy)) (As := [.int (zI (xs (i + 1)).toInt), .int (zI (xs (i + 2)).toInt)]) (rest := [.int (zI r1)]) hx hb hml hown hts hKM (fun i j h1 h2 h3 => hap j i h2 h1 h3.symm) hnM (mm_X8_chance (rg_i _) (rg_i _) hM hW) mf_X8_chance ml_L_100 (by decide) rfl (by decide) rfl rfl (Nat.le_of_ble_eq_true rfl) hP2 hP hS hl.1 dL_law_781 (fun v2 I2 L2 H2 lc2 hv2 hP hP2 hS => ?_)
  obtain ⟨r2, rfl, q2, hR2⟩ := hv2
  have hPq := hP
  have hP := hP2
  have hP2 := hPq
  have hrr : r1 = r2 := q1.trans q2.symm
  subst hrr
  refine lv_icmp_eq (tgt := 789) hx hb dL_law_784 (by decide) (fun _ => ?_) (fun h9 => absurd rfl h9)
  exact K0 _ _ _ _ _ _ _ ⟨hP, hP2, hS, hR1, hR2, hW⟩
end LWC
