/-! THE RUN JUDGEMENT: a method of the class (or of the model) over a memory of typed rows. A layout (ly) names the cells: kind and length; I k j, L k j: the int, the long at place j of cell k (a field or an element); references are fixed by the layout. -/
abbrev gT : Type := va_G × (Nat → Nat) × (Nat → ClassId)
abbrev IM : Type := Nat → Int → Int
abbrev zI (z : Int) : Int32 := Int32.ofInt z
abbrev LM : Type := Nat → Int → Int64
abbrev lyT : Type := List (Nat × Nat)
def kd (ly : lyT) (k : Nat) : Nat := (ly.getD k (99, 0)).1
def ln (ly : lyT) (k : Nat) : Nat := (ly.getD k (99, 0)).2
def up2 {α : Type} (f : Nat → Int → α) (k : Nat) (j : Int) (v : α) : Nat → Int → α := fun k' j' => if k' = k then (if j' = j then v else f k' j') else f k' j'
theorem up2_same {α : Type} (f : Nat → Int → α) (k : Nat) (j : Int) (v : α) : up2 f k j v k j = v := by simp [up2]
theorem up2_cell {α : Type} (f : Nat → Int → α) {k k' : Nat} (j : Int) (v : α) (h : k' ≠ k) : up2 f k j v k' = f k' := by funext j'; simp [up2, h]
theorem up2_ne {α : Type} (f : Nat → Int → α) (k : Nat) {j j' : Int} (v : α) (h : j' ≠ j) : up2 f k j v k j' = f k j' := by simp [up2, h]
def mkE (g : gT) (q : Nat × Nat) (k : Nat) (f : Int → Int) (h : Int → Int64) : va_E := match q.1 with
  | 0 => .inr (0, [.ref (g.2.1 (k + 1)), .int (zI (f 1)), .int (zI (f 2)), .int (zI (f 3)), .int (zI (f 4))])
  | 1 => .inr (1, [.ref (g.2.1 (k + 1)), .int (zI (f 1)), .int (zI (f 2)), .int (zI (f 3)), .ref (g.2.1 (k + 4)), .ref (g.2.1 (k + 10)), .ref (g.2.1 (k + 16)), .ref (g.2.1 (k + 2)), .ref (g.2.1 (k + 3))])
  | 2 => .inr (2, [.ref (g.2.1 (k + 1)), .int (zI (f 1))])
  | 3 => .inr (3, [.ref (g.2.1 (k + 1)), .ref (g.2.1 (k + 2)), .ref (g.2.1 (k + 3)), .ref (g.2.1 (k + 4)), .ref (g.2.1 (k + 5)), .int (zI (f 5)), .int (zI (f 6)), .int (zI (f 7))])
  | 4 => .inr (4, [.int (zI (f 0)), .int (zI (f 1)), .long (h 2)])
  | 5 => .inr (5, [.ref (g.2.1 (k + 1)), .int (zI (f 1)), .int (zI (f 2)), .int (zI (f 3)), .int (zI (f 4)), .int (zI (f 5))])
  | 6 => .inr (6, [.ref (g.2.1 (k + 1)), .int (zI (f 1))])
  | 7 => .inr (7, [.ref (g.2.1 (k + 1)), .ref (g.2.1 (k + 3)), .ref (g.2.1 (k + 4)), .ref (g.2.1 (k + 18)), .ref (g.2.1 (k + 40))])
  | 8 => .inr (8, [.ref (g.2.1 (k + 1)), .int (zI (f 1)), .ref (g.2.1 (k + 2)), .ref (g.2.1 (k + 3)), .ref (g.2.1 (k + 4)), .ref (g.2.1 (k + 5)), .ref (g.2.1 (k + 6)), .int (zI (f 7)), .int (zI (f 8)), .int (zI (f 9)), .int (zI (f 10)), .int (zI (f 11)), .int (zI (f 12)), .int (zI (f 13)), .ref (g.2.1 (k + 7)), .ref (g.2.1 (k + 8)), .ref (g.2.1 (k + 9)), .ref (g.2.1 (k + 10)), .int (zI (f 18)), .ref (g.2.1 (k + 11)), .ref (g.2.1 (k + 12)), .ref (g.2.1 (k + 13)), .ref (g.2.1 (k + 14)), .ref (g.2.1 (k + 15)), .int (zI (f 24)), .ref (g.2.1 (k + 16)), .int (zI (f 26))])
  | 9 => .inl (g.2.2 9, q.2, .inl (fun j : Nat => zI (f (j : Int))))
  | 10 => .inl (g.2.2 10, q.2, .inl (fun j : Nat => zI (f (j : Int))))
  | 11 => .inl (g.2.2 11, q.2, .inr (.inl (fun j : Nat => h (j : Int))))
  | 12 => .inl (g.2.2 12, q.2, .inl (fun j : Nat => zI (f (j : Int))))
  | _ => .inl (g.2.2 13, q.2, .inr (.inr (.inr (.inr (fun j => some (g.2.1 (k + 1 + 2 * j)))))))
abbrev wl (ly : lyT) (g : gT) (I : IM) (L : LM) : va_W := (List.range ly.length).map (fun k => (g.2.1 k, mkE g (ly.getD k (99, 0)) k (I k) (L k)))
theorem kd_lt {ly : lyT} {k n : Nat} (h : kd ly k = n) (hn : n < 99) : k < ly.length := by
  rcases Nat.lt_or_ge k ly.length with q | q
  · exact q
  · have e : ly.getD k (99, 0) = (99, 0) := by simp [List.getD, List.getElem?_eq_none q]
    rw [kd, e] at h
    omega
theorem wl_get {ly : lyT} (g : gT) (I : IM) (L : LM) {k : Nat} (hk : k < ly.length) : (wl ly g I L)[k]? = some (g.2.1 k, mkE g (ly.getD k (99, 0)) k (I k) (L k)) := by
  simp [wl, List.getElem?_map, hk]
theorem wl_set {ly : lyT} (g : gT) {I I' : IM} {L L' : LM} {k : Nat} (hI : ∀ j, j ≠ k → I' j = I j) (hL : ∀ j, j ≠ k → L' j = L j) : (wl ly g I L).set k (g.2.1 k, mkE g (ly.getD k (99, 0)) k (I' k) (L' k)) = wl ly g I' L' := by
  apply List.ext_getElem?
  intro i
  rw [List.getElem?_set]
  by_cases hi : k = i
  · subst hi
    by_cases hk : k < (wl ly g I L).length
    · rw [if_pos rfl, if_pos hk, wl_get g I' L' (by simpa using hk)]
    · rw [if_pos rfl, if_neg hk]
      rw [List.getElem?_eq_none]
      simpa using hk
  · rw [if_neg hi]
    by_cases hk : i < ly.length
    · rw [wl_get g I L hk, wl_get g I' L' hk, hI i (fun q => hi q.symm), hL i (fun q => hi q.symm)]
    · rw [List.getElem?_eq_none (by simpa using hk), List.getElem?_eq_none (by simpa using hk)]
def AA (ly : lyT) (g : gT) : Nat → Prop := fun q => ∃ k, k < ly.length ∧ q = g.2.1 k
def inj (ly : lyT) (g : gT) : Prop := ∀ i j, i < ly.length → j < ly.length → g.2.1 i = g.2.1 j → i = j
theorem wl_D {ly : lyT} {g : gT} (h : inj ly g) (I : IM) (L : LM) : va_D (AA ly g) (wl ly g I L) := by
  have key : ∀ (i : Nat) (p : Nat × va_E), (wl ly g I L)[i]? = some p → i < ly.length ∧ p.1 = g.2.1 i := by
    intro i p hp
    have hi : i < ly.length := by
      have := (List.getElem?_eq_some_iff.mp hp).1
      simpa using this
    rw [wl_get g I L hi] at hp
    cases hp
    exact ⟨hi, rfl⟩
  refine ⟨fun i j p q hp hq hpq => ?_, fun k q hq => ?_⟩
  · obtain ⟨h1, h2⟩ := key i p hp
    obtain ⟨h3, h4⟩ := key j q hq
    exact h i j h1 h3 (by rw [← h2, ← h4]; exact hpq)
  · obtain ⟨h1, h2⟩ := key k q hq
    exact ⟨k, h1, h2⟩
abbrev tyG (g : gT) : List (ClassId × FieldType) := [(g.2.2 9, .byte), (g.2.2 10, .int), (g.2.2 11, .long), (g.2.2 12, .boolean), (g.2.2 13, .object "BorrowedPages$Book")]
/-- the five keywords' numbers -/
def kwv : Nat → Value := fun j => .int (match j with | 0 => 339 | 1 => 8787 | 2 => 236 | 3 => 16633 | _ => 7367)
def KW (A : Nat → Prop) (U : State) (H : Heap) : Prop := ∃ t : Nat, va_Z "BorrowedPages$Reader" "KEYWORDS" "[I" (.ref t) A U H ∧ va_T .int t 5 kwv A U H
/-- what holds of the tables at a method's start -/
def Kx (ly : lyT) (g : gT) (U : State) : Prop := va_K g.1 vwCl (tyG g) U ∧ inj ly g ∧ KW (AA ly g) U U.heap ∧ ∀ k, ln ly k < 2 ^ 31
def Bw (ly : lyT) (g : gT) (I : IM) (L : LM) (U : State) : Prop := va_P g.1 vwCl (wl ly g I L) U.heap ∧ Kx ly g U
abbrev poT : Type := Option Value → IM → LM → Prop
def Qq (ly : lyT) (g : gT) (post : poT) : Array Value → State → Outcome → State → Prop := fun _ st oc t => (∃ (v : Option Value) (I : IM) (L : LM), oc = .returned v ∧ post v I L ∧ va_P g.1 vwCl (wl ly g I L) t.heap) ∧ va_F (AA ly g) st t
abbrev rmT (f lo : Nat) : Room := { frames := f, cells := 0, slots := 0, locals := lo }
/-- a method's contract -/
def Ct (l : Launch) (y : MethodName) (cc : ByteArray) (nL : Nat) (ret : Option FieldType) (f lo : Nat) (ly : lyT) (g : gT) (av : List Value) (I : IM) (L : LM) (post : poT) : Prop :=
  Met l y (.code y cc nL ret :: UW) (rmT f lo) (va_Pc av (Bw ly g I L)) (Qq ly g post) 0 0 (AA ly g)
abbrev cT := Program × Launch × Env × Room × State × MethodId × Array Value × List Frame × Method × Code × Nat
/-- the locals: what is listed stands there -/
abbrev lvT : Type := List (Option Value)
def lvh (ls : Array Slot) (nL : Nat) (lv : lvT) : Prop := (ls.size = nL ∧ lv.length ≤ nL) ∧ lv_wf ls ∧ ∀ (i : Nat) (v : Value), lv[i]? = some (some v) → ls[i]? = some (.val v)
/-- the machine at pc, with these locals, this stack, this memory, comes to the method's end with post -/
def Rn (x : cT) (ly : lyT) (g : gT) (post : poT) (pc : Nat) (lv : lvT) (st : List Value) (I : IM) (L : LM) : Prop :=
  ∀ (H : Heap) (locs : List Loc) (ls : Array Slot), va_P g.1 vwCl (wl ly g I L) H → va_S (AA ly g) x.2.2.2.2.1.heap H locs → lvh ls x.2.2.2.2.2.2.2.2.2.2 lv →
    W x.1 x.2.1 x.2.2.1 x.2.2.2.1 x.2.2.2.2.1 x.2.2.2.2.2.1 x.2.2.2.2.2.2.1 x.2.2.2.2.2.2.2.1 x.2.2.2.2.2.2.2.2.1 x.2.2.2.2.2.2.2.2.2.1 H locs 0 0 (MQ x.2.2.2.2.2.2.2.1 (Qq ly g post) x.2.2.2.2.2.2.1 x.2.2.2.2.1 0 0 (AA ly g)) (F0 x.2.2.2.2.2.1 pc ls st)
/-- what is fixed in a method's body -/
def Fx (x : cT) (ly : lyT) (g : gT) (cc : ByteArray) (own : String) (ret : Option FieldType) (f lo : Nat) : Prop :=
  x.1.tables.exec = Jvm.exec ∧ x.2.2.2.2.2.2.2.2.2.1.code = cc ∧ x.2.2.2.2.2.2.2.2.2.1.maxLocals = x.2.2.2.2.2.2.2.2.2.2 ∧ x.2.2.2.2.1.vm.findClass own = some x.2.2.2.2.2.1.cls ∧ (∀ w ∈ UW, w.before x.2.2.2.2.2.2.1 x.2.2.2.2.1 = true) ∧ Kx ly g x.2.2.2.2.1 ∧ x.2.2.2.2.2.2.2.2.1.locks = false ∧ x.2.2.2.2.2.2.2.2.1.sig.returnType = ret ∧ x.2.2.2.1 = rmT f lo
/-- the locals at the start -/
def lvE : List Value → List (Option Value)
  | [] => []
  | v :: vs => if v.category = 2 then some v :: none :: lvE vs else some v :: lvE vs
theorem lvE_in (vs : List Value) : ∀ (b i : Nat) (v : Value), (lvE vs)[i]? = some (some v) → (b + i, v) ∈ lv_args b vs := by
  induction vs with
  | nil => intro b i v h; simp [lvE] at h
  | cons w ws ih =>
    intro b i v h
    rw [lvE] at h
    rw [lv_args]
    by_cases hc : w.category = 2
    · rw [if_pos hc] at h
      match i, h with
      | 0, h => cases h; exact List.mem_cons_self
      | 1, h => cases h
      | i + 2, h =>
        have := ih (b + 2) i v h
        rw [if_pos hc]
        refine List.mem_cons_of_mem _ ?_
        rwa [show b + (i + 2) = b + 2 + i by omega]
    · rw [if_neg hc] at h
      match i, h with
      | 0, h => cases h; exact List.mem_cons_self
      | i + 1, h =>
        have := ih (b + 1) i v h
        rw [if_neg hc]
        refine List.mem_cons_of_mem _ ?_
        rwa [show b + (i + 1) = b + 1 + i by omega]
theorem lvh_pad {ls : Array Slot} {nL : Nat} {lv : lvT} (h : lvh ls nL lv) (n : Nat) (hn : lv.length + n ≤ nL) : lvh ls nL (lv ++ List.replicate n none) := by
  refine ⟨⟨h.1.1, by simpa using hn⟩, h.2.1, fun i v hv => ?_⟩
  rcases Nat.lt_or_ge i lv.length with q | q
  · rw [List.getElem?_append_left q] at hv
    exact h.2.2 i v hv
  · rw [List.getElem?_append_right q] at hv
    have := (List.mem_replicate.mp (List.mem_of_getElem? hv)).2
    cases this
theorem lvE_len (vs : List Value) : (lvE vs).length = (lg_sl vs).length := by
  induction vs with
  | nil => rfl
  | cons w ws ih =>
    rw [lvE, lg_sl, List.flatMap_cons, List.length_append]
    by_cases hc : w.category = 2
    · rw [if_pos hc, if_pos hc, List.length_cons, List.length_cons, ih, lg_sl]
      simp
      omega
    · rw [if_neg hc, if_neg hc, List.length_cons, ih, lg_sl]
      simp
      omega
theorem Ct.of {l : Launch} {y : MethodName} {cc : ByteArray} {nL : Nat} {ret : Option FieldType} {f lo : Nat} {ly : lyT} {g : gT} {av : List Value} {I : IM} {L : LM} {post : poT} (own : String) (hy : plainName y.cls = true) (ho : y.cls = own) (hn : (lg_sl av).length ≤ nL)
    (k : ∀ x : cT, x.2.1 = l → Fx x ly g cc own ret f lo → Rn x ly g post 0 (lvE av ++ List.replicate (nL - (lvE av).length) none) [] I L) : Ct l y cc nL ret f lo ly g av I L post := by
  refine Met.ofW (cc := cc) (maxL := nL) (ret := ret) hy rfl ?_
  intro p e s m args below meth c s₁ B hml hv
  obtain ⟨rfl, hP, hK⟩ := hv
  have hts := atoms_spec (ws := .code y cc nL ret :: UW) B.pre
  have hown : s.vm.findClass y.cls = some m.cls := findClass_of_methodNamed B.named
  rw [ho] at hown
  have hl := lv_entry av (n := nL) hn
  rw [lg_entry_eq]
  refine k (p, l, e, rmT f lo, s, m, av.toArray, below, meth, c, nL) rfl ⟨B.exec, B.bytes, hml, hown, fun w hw => hts w (List.mem_cons_of_mem _ hw), hK, B.notSynchronized, B.returns, rfl⟩ s.heap [] _ hP va_S.rf (lvh_pad ⟨⟨hl.1, by rw [lvE_len]; exact hn⟩, hl.2.1, fun i v hv => ?_⟩ _ (by rw [lvE_len]; omega))
  have := lvE_in av 0 i v hv
  rw [Nat.zero_add] at this
  exact hl.2.2 (i, v) this
def lvP (lv : lvT) : List (Nat × Value) := lv.zipIdx.filterMap (fun q => q.1.map (fun v => (q.2, v)))
theorem lvP_mem {lv : lvT} {i : Nat} {v : Value} : (i, v) ∈ lvP lv ↔ lv[i]? = some (some v) := by
  rw [lvP, List.mem_filterMap]
  constructor
  · rintro ⟨⟨o, j⟩, h1, h2⟩
    have h3 := List.mem_zipIdx_iff_getElem?.mp h1
    cases o with
    | none => cases h2
    | some w => cases h2; exact h3
  · intro h
    exact ⟨(some v, i), List.mem_zipIdx_iff_getElem?.mpr h, rfl⟩
theorem lvh.has {ls : Array Slot} {nL : Nat} {lv : lvT} (h : lvh ls nL lv) : lv_has ls nL (lvP lv) := ⟨h.1.1, h.2.1, fun q hq => h.2.2 q.1 q.2 (lvP_mem.mp hq)⟩
/-- no long stands just ahead of place i -/
def nlg (lv : lvT) (i : Nat) : Bool := match i with
  | 0 => true
  | j + 1 => match lv[j]? with
    | some (some v) => v.category != 2
    | _ => true
theorem lvh_st1 {ls : Array Slot} {nL : Nat} {lv : lvT} {i : Nat} {v : Value} (hn : nlg lv i = true) (hz : lv.length ≤ nL) (h : lv_has ls nL ((i, v) :: (lvP lv).filter (fun q => !(q.1 == i) && !(q.1 + 1 == i && q.2.category == 2)))) : lvh ls nL (lv.set i (some v)) := by
  refine ⟨⟨h.1, by simpa using hz⟩, h.2.1, fun j w hj => ?_⟩
  rw [List.getElem?_set] at hj
  by_cases e : i = j
  · subst e
    by_cases hl : i < lv.length
    · rw [if_pos rfl, if_pos hl] at hj
      cases hj
      exact h.2.2 (i, v) List.mem_cons_self
    · rw [if_pos rfl, if_neg hl] at hj
      cases hj
  · rw [if_neg e] at hj
    refine h.2.2 (j, w) (List.mem_cons_of_mem _ (List.mem_filter.mpr ⟨lvP_mem.mpr hj, ?_⟩))
    have e1 : ¬ j = i := fun q => e q.symm
    simp only [Bool.and_eq_true, Bool.not_eq_true', beq_eq_false_iff_ne, ne_eq, e1, not_false_eq_true, true_and, Bool.and_eq_false_iff]
    by_cases e2 : j + 1 = i
    · subst e2
      right
      simp only [nlg, hj] at hn
      simpa using hn
    · left
      simpa using e2
theorem lvh_st2 {ls : Array Slot} {nL : Nat} {lv : lvT} {i : Nat} {v : Value} (hn : nlg lv i = true) (hz : lv.length ≤ nL) (h : lv_has ls nL ((i, v) :: (lvP lv).filter (fun q => !(q.1 == i) && (!(q.1 == i + 1) && !(q.1 + 1 == i && q.2.category == 2))))) : lvh ls nL ((lv.set i (some v)).set (i + 1) none) := by
  refine ⟨⟨h.1, by simpa using hz⟩, h.2.1, fun j w hj => ?_⟩
  rw [List.getElem?_set] at hj
  by_cases e0 : i + 1 = j
  · rw [if_pos e0] at hj
    split at hj <;> cases hj
  · rw [if_neg e0, List.getElem?_set] at hj
    by_cases e : i = j
    · subst e
      by_cases hl : i < lv.length
      · rw [if_pos rfl, if_pos hl] at hj
        cases hj
        exact h.2.2 (i, v) List.mem_cons_self
      · rw [if_pos rfl, if_neg hl] at hj
        cases hj
    · rw [if_neg e] at hj
      refine h.2.2 (j, w) (List.mem_cons_of_mem _ (List.mem_filter.mpr ⟨lvP_mem.mpr hj, ?_⟩))
      have e1 : ¬ j = i := fun q => e q.symm
      have e3 : ¬ j = i + 1 := fun q => e0 q.symm
      simp only [Bool.and_eq_true, Bool.not_eq_true', beq_eq_false_iff_ne, ne_eq, e1, e3, not_false_eq_true, true_and, Bool.and_eq_false_iff]
      by_cases e2 : j + 1 = i
      · subst e2
        right
        simp only [nlg, hj] at hn
        simpa using hn
      · left
        simpa using e2
