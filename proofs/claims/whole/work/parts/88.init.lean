/-! constructors -/
abbrev tyK (cy : Nat → ClassId) : List (ClassId × FieldType) := [(cy 9, .byte), (cy 10, .int), (cy 11, .long), (cy 12, .boolean), (cy 13, .object "BorrowedPages$Book")]
/-- what the tables say of the private constructors, and of the array of books -/
def NN (U : State) : Prop := va_Nw (.methodLinkNest RX7 9 yX6_init "BorrowedPages") U ∧ va_Nw (.methodLinkNest RX7 18 yX4_init "BorrowedPages") U ∧ va_Nw (.methodLinkNest RX5 33 yX0_init "BorrowedPages") U ∧ va_Nw (.methodLinkNest RX7 32 yX1_init "BorrowedPages") U ∧ va_Nw (.methodLinkNest RX1 27 yX3_init "BorrowedPages") U ∧ va_Nw (.methodLinkNest RX7 39 yX2_init "BorrowedPages") U ∧ va_AO "BorrowedPages$Book" U
theorem NN.warm {s U : State} (h : NN s) (hW : s.WarmedH U.vm) : NN U := ⟨h.1.warmM hW, h.2.1.warmM hW, h.2.2.1.warmM hW, h.2.2.2.1.warmM hW, h.2.2.2.2.1.warmM hW, h.2.2.2.2.2.1.warmM hW, h.2.2.2.2.2.2.moved hW.alike⟩
theorem NN.same {u U : State} (h : NN u) (e : u.vm = U.vm) : NN U := ⟨h.1.same rfl e, h.2.1.same rfl e, h.2.2.1.same rfl e, h.2.2.2.1.same rfl e, h.2.2.2.2.1.same rfl e, h.2.2.2.2.2.1.same rfl e, h.2.2.2.2.2.2.moved (e ▸ Vm.Alike.refl u.vm)⟩
/-- behind a constructor: its cells, at new addresses but for its own -/
def Qn (D : va_G) (h0 : Nat) (raw : va_E) (sz : Nat) (Fw : (Nat → Nat) → va_W) : Array Value → State → Outcome → State → Prop := fun _ st oc t => (oc = .returned none ∧ ∃ ad : Nat → Nat, ad 0 = h0 ∧ va_P D vwCl (Fw ad) t.heap ∧ va_D (va_A [(h0, raw)] sz) (Fw ad)) ∧ va_F (va_A [(h0, raw)] sz) st t
def Pn (D : va_G) (cy : Nat → ClassId) (h0 : Nat) (raw : va_E) (sz : Nat) : Array Value → State → Prop := va_Pc [.ref h0] (fun U => U.heap.size = sz ∧ va_P D vwCl [(h0, raw)] U.heap ∧ va_K D vwCl (tyK cy) U ∧ va_D (fun _ => True) [(h0, raw)] ∧ NN U)
theorem Pn_blind {D : va_G} {cy : Nat → ClassId} {h0 sz : Nat} {raw : va_E} : FrameBlind (Pn D cy h0 raw sz) := fun a U g mk q => by
  obtain ⟨q0, q1, qP, qK, qD, qN⟩ := q
  exact ⟨q0, q1, qP, va_K.moved (u := U) (U := U.calling g mk a) (Vm.Alike.refl U.vm) qK, qD, qN.same (U := U.calling g mk a) rfl⟩
section KN
variable {p : Program} {l : Launch} {e : Env} {R : Room} {s : State} {m : MethodId} {args : Array Value} {below : List Frame} {meth : Method} {c : Code} {H : Heap} {locs : List Loc} {cells slots : Nat} {Q : State → Prop} {D : va_G} {A : Nat → Prop} {H0 : Heap} {pc : Nat} {ls : Array Slot} {rest st0 : List Value}
/-- behind a constructor's call: what was there, and its cells -/
theorem k_call {pre : va_W} {b mc ms : Nat} {raw : va_E} {Fw : (Nat → Nat) → va_W} {av : Array Value} (hr : va_Run p l e R s m args below meth c H locs cells slots mc ms (F0 m pc ls st0) rest (Qn D b raw H.size Fw av) (va_A [(b, raw)] H.size)) (hP : va_P D vwCl (pre ++ [(b, raw)]) H) (hD : va_D A (pre ++ [(b, raw)])) (hS : va_S A H0 H locs) (hA : ∀ q, H0.size ≤ q → A q)
    (kk : ∀ (ad : Nat → Nat) (H1 : Heap) (locs1 : List Loc), ad 0 = b → va_P D vwCl (pre ++ Fw ad) H1 → va_D A (pre ++ Fw ad) → va_S A H0 H1 locs1 → W p l e R s m args below meth c H1 locs1 (cells + mc) (slots + ms) Q (F0 m (pc + 3) ls rest)) : W p l e R s m args below meth c H locs cells slots Q (F0 m pc ls st0) := by
  intro T hT X
  obtain ⟨v, st₀, t, T', LL, h0, X', hL, e1, e2, ⟨⟨hv, ad, had, hP', hD'⟩, hz, hk'⟩, stp⟩ := hr T hT X
  cases hv
  rw [h0] at hz hk'
  have lastAt : (pre ++ [(b, raw)])[pre.length]? = some (b, raw) := by simp
  have preAt : ∀ (k : Nat) (q : Nat × va_E), pre[k]? = some q → (pre ++ [(b, raw)])[k]? = some q := fun k q hk => by
    rw [List.getElem?_append_left (List.getElem?_eq_some_iff.mp hk).1]; exact hk
  have hbA : A b := hD.2 _ _ lastAt
  have toA : ∀ q, va_A [(b, raw)] H.size q → A q := by
    intro q hq
    rcases hq with ⟨k, e', hk⟩ | hq
    · have := List.mem_of_getElem? hk
      rcases List.mem_cons.mp this with y | y
      · cases y; exact hbA
      · cases y
    · exact hA q (Nat.le_trans hS.1 hq)
  have apart : ∀ (k : Nat) (q : Nat × va_E), pre[k]? = some q → q.1 < H.size ∧ ¬ va_A [(b, raw)] H.size q.1 := by
    intro k q hk
    have hlt := (hP k q (preAt k q hk)).lt
    refine ⟨hlt, fun hq => ?_⟩
    rcases hq with ⟨k2, e', hk2⟩ | hq
    · have := List.mem_of_getElem? hk2
      rcases List.mem_cons.mp this with y | y
      · have y1 : q.1 = b := congrArg Prod.fst y
        have := hD.1 k pre.length q (b, raw) (preAt k q hk) lastAt y1
        have := (List.getElem?_eq_some_iff.mp hk).1
        omega
      · cases y
    · omega
  have hPn : va_P D vwCl (pre ++ Fw ad) T'.heap := by
    rw [e1]
    refine va_P.app (fun k q hk => ?_) hP'
    obtain ⟨g1, g2⟩ := apart k q hk
    exact (hP k q (preAt k q hk)).kept (hk' q.1 g1 g2)
  have hDp : va_D A pre := ⟨fun i j x y hi hj hxy => hD.1 i j x y (preAt i x hi) (preAt j y hj) hxy, fun k q hk => hD.2 k q (preAt k q hk)⟩
  have hDn : va_D A (pre ++ Fw ad) := va_D.app hDp (hD'.weaken (fun _ q _ h => toA q.1 h)) (fun i j x y hx hy hxy => (apart i x hx).2 (by rw [hxy]; exact hD'.2 j y hy))
  have hS' : va_S A H0 T'.heap (locs ++ LL) := ⟨Nat.le_trans hS.1 (by rw [e1]; exact hz), fun q h1 h2 => by rw [e1, hk' q (Nat.lt_of_lt_of_le h1 hS.1) (fun z => h2 (toA q z))]; exact hS.2.1 q h1 h2, fun q hq => by
      rcases List.mem_append.mp hq with h | h
      · exact hS.2.2 q h
      · exact toA _ (hL q h)⟩
  obtain ⟨t2, a1, b1⟩ := kk ad T'.heap (locs ++ LL) had hPn hDn hS' T' rfl X'
  exact ⟨t2, stp t2 a1, b1⟩
/-- an array of numbers: its class is the one known -/
theorem k_newa {ws : va_W} {cc : ByteArray} {cy : Nat → ClassId} (hexec : p.tables.exec = Jvm.exec) (hb : c.code = cc) {atype : ArrayType} (harr : (Cond.arrayClass (newarray.typeOf atype)).before args s = true) {ty : FieldType} (hty : newarray.typeOf atype = ty) (t0 kd' : Nat) (ht : (tyK cy)[t0]? = some (cy kd', ty)) (hno : ∀ C, ty ≠ .object C) (hK : va_K D vwCl (tyK cy) s) (hP : va_P D vwCl ws H) (hD : va_D A ws) (hS : va_S A H0 H locs) (hA : ∀ q, H0.size ≤ q → A q)
    {n : Int32} {N' : Nat} {a0 : vp_A} (ha : ∀ cA : ClassId, vp_cell cA a0 = arrV cA N' (fun _ => defaultValue ty)) (hn : ¬ n < 0) (hN : n.toNatClampNeg = N') (hbytes : N' * componentBytes ty ≤ 536870912) (hcells : cells + 1 ≤ R.cells) (hslots : slots + N' ≤ R.slots) (hdg : decode cc pc = .ok (.newarray atype, 2))
    (kk : ∀ (q : Nat) (H1 : Heap), va_P D vwCl (ws ++ [(q, .inl (cy kd', a0))]) H1 → va_D A (ws ++ [(q, .inl (cy kd', a0))]) → va_S A H0 H1 locs → W p l e R s m args below meth c H1 locs (cells + 1) (slots + N') Q (F0 m (pc + 2) ls (.ref q :: rest))) : W p l e R s m args below meth c H locs cells slots Q (F0 m pc ls (.int n :: rest)) := by
  refine va_newa hexec hb harr hty hK hP hD hS hA ha hn hN hbytes hcells hslots hdg (fun q cA H1 hK1 hP1 hD1 hS1 => ?_)
  have h1 := (hK1.2 5 (cA, ty) rfl).2
  have h2 := (hK.2 t0 (cy kd', ty) ht).2
  have e : cA = cy kd' := by
    cases ty with
    | object C => exact absurd rfl (hno C)
    | _ =>
      have a1 : s.vm.findClass _ = some cA := h1
      have a2 : s.vm.findClass _ = some (cy kd') := h2
      rw [a1] at a2
      exact Option.some.inj a2
  rw [e] at hP1 hD1
  exact kk q H1 hP1 hD1 hS1
/-- the array of books: its class is the one known -/
theorem k_newq {ws : va_W} {cc : ByteArray} {cy : Nat → ClassId} (hexec : p.tables.exec = Jvm.exec) (hb : c.code = cc) {own : String} {index : Nat} (hown : s.vm.findClass own = some m.cls) (hclink : (Cond.classLink own index "BorrowedPages$Book").before args s = true) (hover : va_AO "BorrowedPages$Book" s) (hK : va_K D vwCl (tyK cy) s) (hP : va_P D vwCl ws H) (hD : va_D A ws) (hS : va_S A H0 H locs) (hA : ∀ q, H0.size ≤ q → A q)
    {n : Int32} {N' : Nat} (hn : ¬ n < 0) (hN : n.toNatClampNeg = N') (hbytes : N' * 4 ≤ 536870912) (hcells : cells + 1 ≤ R.cells) (hslots : slots + N' ≤ R.slots) (hdg : decode cc pc = .ok (.anewarray index, 3))
    (kk : ∀ (q : Nat) (H1 : Heap), va_P D vwCl (ws ++ [(q, .inl (cy 13, N', .inr (.inr (.inr (.inr (fun _ => none))))))]) H1 → va_D A (ws ++ [(q, .inl (cy 13, N', .inr (.inr (.inr (.inr (fun _ => none))))))]) → va_S A H0 H1 locs → W p l e R s m args below meth c H1 locs (cells + 1) (slots + N') Q (F0 m (pc + 3) ls (.ref q :: rest))) : W p l e R s m args below meth c H locs cells slots Q (F0 m pc ls (.int n :: rest)) := by
  refine va_newq hexec hb hown hclink hover hK hP hD hS hA hn hN hbytes hcells hslots hdg (fun q cA H1 hK1 hP1 hD1 hS1 => ?_)
  obtain ⟨k1, c1, -, -, -, a1⟩ := (hK1.2 5 (cA, .object "BorrowedPages$Book") rfl).2
  obtain ⟨k2, c2, -, -, -, a2⟩ := (hK.2 4 (cy 13, .object "BorrowedPages$Book") rfl).2
  rw [a1] at a2
  have e : cA = cy 13 := Option.some.inj a2
  rw [e] at hP1 hD1
  exact kk q H1 hP1 hD1 hS1
end KN
