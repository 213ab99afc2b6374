section
/-- two dimensions of eight: a row, the row of rows with its first i told, the state behind i rows -/
def mz_in (comp : ClassId) : Cell := { cls := comp, slots := Array.replicate 8 (.int 0), vm := .none }
def mz_out (c : ClassId) (h i : Nat) : Cell := { cls := c, slots := ((List.range 8).map (fun j => if j < i then Value.ref (h + 1 + j) else .null)).toArray, vm := .none }
def mz_st (s : State) (c comp : ClassId) : Nat → State
  | 0 => s.pushCell (mz_out c s.heap.size 0)
  | i + 1 => ((mz_st s c comp i).pushCell (mz_in comp)).setCell s.heap.size (mz_out c s.heap.size (i + 1))
theorem mz_size (c : ClassId) (h i : Nat) : (mz_out c h i).slots.size = 8 := by simp [mz_out]
theorem mz_set (c : ClassId) (h : Nat) {i : Nat} (hi : i < 8) : (mz_out c h i).setSlot i (.ref (h + 1 + i)) = mz_out c h (i + 1) := by
  rcases i with _ | _ | _ | _ | _ | _ | _ | _ | i <;> first | rfl | omega
theorem mz_st_f (s : State) (c comp : ClassId) : ∀ i, (mz_st s c comp i).heap.size = s.heap.size + 1 + i ∧ (mz_st s c comp i).heap[s.heap.size]? = some (mz_out c s.heap.size i) ∧ (mz_st s c comp i).vm = s.vm ∧ (mz_st s c comp i).slotsUsed = s.slotsUsed + 8 + i * 8
  | 0 => ⟨by simp [mz_st], by simp [mz_st], rfl, by simp [mz_st, mz_size]⟩
  | i + 1 => by
    obtain ⟨f1, f2, f3, f4⟩ := mz_st_f s c comp i
    have hlt : s.heap.size < (mz_st s c comp i).heap.size := by omega
    have hb : ((mz_st s c comp i).pushCell (mz_in comp)).heap[s.heap.size]? = some (mz_out c s.heap.size i) := by rw [State.heap_pushCell_of_lt (h := hlt)]; exact f2
    refine ⟨?_, State.heap_setCell_self hb, by simp [mz_st, f3], ?_⟩
    · simp [mz_st, State.setCell, f1]; omega
    · simp [mz_st, f4, mz_in]; omega
theorem mz_st_o (s : State) (c comp : ClassId) {a : Addr} (ha : a < s.heap.size) : ∀ i, (mz_st s c comp i).heap[a]? = s.heap[a]?
  | 0 => State.heap_pushCell_of_lt _ _ ha
  | i + 1 => by
    have f1 := (mz_st_f s c comp i).1
    show (((mz_st s c comp i).pushCell (mz_in comp)).setCell s.heap.size _).heap[a]? = _
    have hlt : a < (mz_st s c comp i).heap.size := Nat.lt_of_lt_of_le ha (by rw [f1]; omega)
    rw [State.heap_setCell_other (Nat.ne_of_gt ha), State.heap_pushCell_of_lt (h := hlt)]
    exact mz_st_o s c comp ha i
theorem mz_st_r (s : State) (c comp : ClassId) : ∀ i j, j < i → (mz_st s c comp i).heap[s.heap.size + 1 + j]? = some (mz_in comp)
  | 0, _, h => absurd h (Nat.not_lt_zero _)
  | i + 1, j, h => by
    have f1 := (mz_st_f s c comp i).1
    show (((mz_st s c comp i).pushCell (mz_in comp)).setCell s.heap.size _).heap[s.heap.size + 1 + j]? = _
    rw [State.heap_setCell_other (show s.heap.size ≠ s.heap.size + 1 + j by omega)]
    by_cases e : j = i
    · subst e
      rw [← f1]
      exact State.heap_pushCell_size _ _
    · have hlt : s.heap.size + 1 + j < (mz_st s c comp i).heap.size := by rw [f1]; omega
      rw [State.heap_pushCell_of_lt (h := hlt)]
      exact mz_st_r s c comp i j (by omega)
theorem mz_st_t (s : State) (f : JFrame) (c comp : ClassId) : ∀ i, mz_st (s.setTop f) c comp i = (mz_st s c comp i).setTop f
  | 0 => rfl
  | i + 1 => by simp only [mz_st, mz_st_t s f c comp i, State.heap_setTop, State.pushCell_setTop, State.setCell_setTop]
section
variable {E : CtlPost} {e : Env} {d : Bool} {acts : List Action} {s : State}
theorem mz_arr {c comp : ClassId} {k : Class} {type : FieldType} {init : Value} (hk : s.vm.classes[c]? = some k) (hkind : k.kind = .array comp type) (hl : ¬ 8 > e.platform.arrayLengthLimit) (hh : ¬ 8 * componentBytes type > e.platform.maxHeapBytes) (hfit : fits type init = true) (hdef : init.isDefault = true) {Q : Addr → Pre}
    (h1 : s.heap.size < e.platform.maxCells) (h2 : s.slotsUsed + 8 ≤ e.platform.maxSlots) (hq : Q s.heap.size d acts (s.pushCell { cls := c, slots := Array.replicate 8 init, vm := .none })) : wp (Jvm.newArray c 8 init) Q E e d acts s := by
  have hf : ∀ i v, (Array.replicate 8 init)[i]? = some v → s.fitsSlot c .none i v = true := by
    intro i v hv
    simp only [Array.getElem?_replicate] at hv
    split at hv
    · cases hv
      simp [State.fitsSlot, State.slotType?, hk, hkind, hfit]
    · cases hv
  have ha : allocActs (Array.replicate 8 init) s.heap.size acts = acts := by
    have hall : ((Array.replicate 8 init).all (·.isDefault)) = true := by
      rw [Array.all_replicate]; split <;> simp [hdef]
    unfold allocActs
    rw [if_pos hall]
  simp only [Jvm.newArray, Jvm.arrayFits, wp_bind', W.ask, W.ite, hl, if_false, wp_pure', W.theClass, hk, hkind, hh, W.alloc, W.stop, Option.some.injEq, exists_eq_left', Array.size_replicate, ha]
  rw [if_neg (by omega)]
  exact ⟨h1, h2, hf, hq⟩
theorem mz_make1 {comp cc : ClassId} {kc : Class} (hkc : s.vm.classes[comp]? = some kc) (hkindc : kc.kind = .array cc .int) (hl : ¬ 8 > e.platform.arrayLengthLimit) (hh : ¬ 8 * componentBytes .int > e.platform.maxHeapBytes) (h1 : s.heap.size < e.platform.maxCells) (h2 : s.slotsUsed + 8 ≤ e.platform.maxSlots)
    {Q : Addr → Pre} (hq : Q s.heap.size d acts (s.pushCell (mz_in comp))) : wp (multianewarray.make comp [8]) Q E e d acts s := by
  rw [multianewarray.make]
  simp only [wp_bind', W.ite, show ¬ (8 : Int32) < 0 by decide, if_false, wp_pure', W.theClass, hkc, hkindc, Option.some.injEq, exists_eq_left']
  exact mz_arr hkc hkindc hl hh rfl rfl h1 h2 hq
theorem mz_make2 {c comp cc : ClassId} {k kc : Class} (hk : s.vm.classes[c]? = some k) (hkind : k.kind = .array comp (.array .int)) (hkc : s.vm.classes[comp]? = some kc) (hkindc : kc.kind = .array cc .int) (hl : ¬ 8 > e.platform.arrayLengthLimit) (hh0 : ¬ 8 * componentBytes (.array .int) > e.platform.maxHeapBytes) (hh : ¬ 8 * componentBytes .int > e.platform.maxHeapBytes)
    (hc : s.heap.size + 9 ≤ e.platform.maxCells) (hs : s.slotsUsed + 72 ≤ e.platform.maxSlots) {Q : Addr → Pre} (hq : ∀ d' acts', Q s.heap.size d' acts' (mz_st s c comp 8)) : wp (multianewarray.make c [8, 8]) Q E e d acts s := by
  have hfind : (([8] : List Int32).find? (· < 0)) = none := by decide
  rw [multianewarray.make]
  simp only [wp_bind', W.ite, show ¬ (8 : Int32) < 0 by decide, if_false, wp_pure', W.theClass, hk, hkind, Option.some.injEq, exists_eq_left']
  refine mz_arr hk hkind hl hh0 rfl rfl (by omega) (by omega) ?_
  simp only [hfind]
  rw [ite_self, wp_bind', Std.Legacy.Range.forIn_eq_forIn_range']
  show wp (forIn (List.range' 0 8 1) PUnit.unit _) _ E e d acts _
  refine wp_forIn_inv (fun rest s' => ∃ i, i ≤ 8 ∧ rest = List.range' i (8 - i) ∧ s' = mz_st s c comp i) _ _ ⟨0, by omega, rfl, rfl⟩ ?_ ?_
  · rintro x rest s' d' acts' Q' ⟨i, hi, hl2, rfl⟩ hnext
    have hlt : i < 8 := by
      rcases Nat.lt_or_ge i 8 with h | h
      · exact h
      · rw [show 8 - i = 0 from by omega] at hl2; simp at hl2
    obtain ⟨rfl, hrest⟩ : x = i ∧ rest = List.range' (i + 1) (8 - (i + 1)) := by
      rw [show 8 - i = (8 - (i + 1)) + 1 from by omega, List.range'_succ] at hl2
      exact ⟨(List.cons.inj hl2).1, (List.cons.inj hl2).2⟩
    obtain ⟨f1, f2, f3, f4⟩ := mz_st_f s c comp x
    simp only [wp_bind']
    refine mz_make1 (by rw [f3]; exact hkc) hkindc hl hh (by omega) (by omega) ?_
    simp only [wp_bind', W.writeLoc, wp_pure']
    have hlt0 : s.heap.size < (mz_st s c comp x).heap.size := by rw [f1]; omega
    refine ⟨mz_out c s.heap.size x, by rw [State.heap_pushCell_of_lt (h := hlt0)]; exact f2, by simp [mz_out], by rw [mz_size]; exact hlt, ?_, hnext _ _ _ ⟨x + 1, hlt, hrest, ?_⟩⟩
    · show State.fitsSlot _ (mz_out c s.heap.size x).cls (mz_out c s.heap.size x).vm x _ = true
      have e1 : (mz_out c s.heap.size x).cls = c := rfl
      have e2 : (mz_out c s.heap.size x).vm = .none := rfl
      rw [e1, e2]
      simp [State.fitsSlot, State.slotType?, f3, hk, hkind, fits]
    · rw [f1, mz_set c s.heap.size hlt]
      rfl
  · rintro s' d' acts' ⟨i, hi, hl2, rfl⟩
    have hi8 : i = 8 := by
      rcases Nat.lt_or_ge i 8 with h | h
      · rw [show 8 - i = (8 - (i + 1)) + 1 from by omega, List.range'_succ] at hl2; cases hl2
      · omega
    subst hi8
    simp only [wp_pure']
    exact hq _ _
end
section
variable {p : Program} {l : Launch} {e : Env} {R : Room} {s : State} {m : MethodId} {args : Array Value} {below : List Frame} {meth : Method} {c : Code} {T : State} {locs : List Loc} {cells slots : Nat}
theorem mz_Stand (X : Stand p l e R s m args below meth c T locs cells slots) (cA comp : ClassId) : ∀ i, i ≤ 8 → Stand p l e R s m args below meth c (mz_st T cA comp i) (locs ++ (List.range i).map fun j => ⟨T.heap.size, j⟩) (cells + 1 + i) (slots + 8 + i * 8)
  | 0, _ => by
    have h := X.pushed (mz_out cA T.heap.size 0)
    rw [mz_size] at h
    simpa [mz_st] using h
  | i + 1, hi => by
    have Xi := mz_Stand X cA comp i (by omega)
    obtain ⟨f1, f2, f3, f4⟩ := mz_st_f T cA comp i
    have hcell : ((mz_st T cA comp i).pushCell (mz_in comp)).heap[T.heap.size]? = some (mz_out cA T.heap.size i) := by
      have hlt : T.heap.size < (mz_st T cA comp i).heap.size := by rw [f1]; omega
      rw [State.heap_pushCell_of_lt (h := hlt)]
      exact f2
    have h := (Xi.pushed (mz_in comp)).stored hcell i (.ref (T.heap.size + 1 + i))
    rw [mz_set cA T.heap.size (by omega)] at h
    have e1 : (mz_in comp).slots.size = 8 := by simp [mz_in]
    rw [e1] at h
    have e2 : (locs ++ (List.range (i + 1)).map fun j => (⟨T.heap.size, j⟩ : Loc)) = (locs ++ (List.range i).map fun j => (⟨T.heap.size, j⟩ : Loc)) ++ [⟨T.heap.size, i⟩] := by simp [List.range_succ, List.append_assoc]
    rw [e2, show slots + 8 + (i + 1) * 8 = slots + 8 + i * 8 + 8 by omega]
    exact h
theorem mz_over {args : Array Value} {first s : State} {o : Option Outcome} {idx : List Nat} (h : (Cond.arrayOver (.array .int)).holds args first o s idx = true) : ∃ comp c k, s.vm.findClass (FieldType.array .int).toString = some comp ∧ s.vm.classes[c]? = some k ∧ k.kind = .array comp (.array .int) ∧ s.vm.findClass ("[" ++ (FieldType.array .int).toString) = some c := by
  simp only [Cond.holds, Cond.value, beq_iff_eq] at h
  cases hc : s.vm.findClass (FieldType.array .int).toString with
  | none => simp [hc] at h
  | some comp =>
    simp only [hc, Option.bind_some, Option.bind_eq_some_iff, Option.map_eq_some_iff] at h
    obtain ⟨c, hi, k, hk, hb⟩ := h
    obtain ⟨hlt, hp, -⟩ := Array.findIdx?_eq_some_iff_getElem.mp hi
    have hkk : s.vm.classes[c] = k := (Array.getElem?_eq_some_iff.mp hk).2
    rw [hkk] at hp
    cases hkind : k.kind with
    | array component ty =>
      rw [hkind] at hb hp
      simp at hb hp
      exact ⟨comp, c, k, rfl, hk, by rw [hkind, hp, hb.1], hb.2⟩
    | _ => rw [hkind] at hb; simp at hb
theorem mz_run (X : Stand p l e R s m args below meth c T locs cells slots) (hexec : p.tables.exec = Jvm.exec) {own : String} {index : Nat} (hown : s.vm.findClass own = some m.cls) (hclink : (Cond.classLink own index "[[I").before args s = true) {args2 : Array Value} (hover : (Cond.arrayOver (.array .int)).before args2 s = true) (harr : (Cond.arrayClass .int).before args s = true)
    {g : JFrame} (hg : g.method = m) (hdg : decode c.code g.pc = .ok (.multianewarray index 2, 4)) {rest : List Value} (hstack : g.stack = .int 8 :: .int 8 :: rest) (hcells : cells + 9 ≤ R.cells) (hslots : slots + 72 ≤ R.slots) :
    ∃ (vm₁ : Vm) (cA comp : ClassId), s.WarmedH vm₁ ∧ s.vm.findClass ("[" ++ (FieldType.array .int).toString) = some cA ∧ s.vm.findClass (FieldType.array .int).toString = some comp ∧
      Stand p l e R s m args below meth c (mz_st (T.setVm vm₁) cA comp 8) (locs ++ (List.range 8).map fun j => ⟨T.heap.size, j⟩) (cells + 9) (slots + 72) ∧
      ∀ target, Steps p.tables e below ((mz_st (T.setVm vm₁) cA comp 8).setTop { g with pc := g.pc + 4, stack := .ref T.heap.size :: rest }) target → Steps p.tables e below (T.setTop g) target := by
  subst hg
  have hpl : e.platform.magicAccessors = ({} : Platform).magicAccessors := by rw [X.admits.platform]
  obtain ⟨comp, cA, kA, hcomp, hkA, hkindA, hnameA⟩ := mz_over hover
  obtain ⟨comp', kC, cc, hcomp', hkC, hkindC⟩ := Cond.arrayClass_spec harr
  have ecomp : comp' = comp := Option.some.inj (hcomp'.symm.trans hcomp)
  subst ecomp
  obtain ⟨c0, hfc0, hcl⟩ := Cond.classLink_spec hown hclink e.platform hpl
  have e0 : cA = c0 := Option.some.inj (hnameA.symm.trans hfc0)
  subst e0
  obtain ⟨hg₁, hwarm₁, hready₁⟩ := State.classEntry (e := e) X.warmed hcl
  generalize T.vm.noted g.method.cls index (.cls cA) = vm₁ at hg₁ hwarm₁ hready₁
  have hal : s.vm.Alike vm₁ := hwarm₁.alike
  obtain ⟨kA₁, hkA₁, heA⟩ := hal.2.2 _ _ hkA
  obtain ⟨kC₁, hkC₁, heC⟩ := hal.2.2 _ _ hkC
  have hkindA₁ : kA₁.kind = .array comp' (.array .int) := by rw [heA]; exact hkindA
  have hkindC₁ : kC₁.kind = .array cc .int := by rw [heC]; exact hkindC
  have X₁ := X.noted hwarm₁
  obtain ⟨hr1, hr2⟩ := X.roomAbove hcells hslots
  have XF := mz_Stand X₁ cA comp' 8 (Nat.le_refl 8)
  refine ⟨vm₁, cA, comp', hwarm₁, hnameA, hcomp, XF, fun target hrest => ?_⟩
  have hl : ¬ 8 > e.platform.arrayLengthLimit := by rw [Launch.admits_arrayLengthLimit X.admits]; omega
  have hh0 : ¬ 8 * componentBytes (.array .int) > e.platform.maxHeapBytes := by rw [Launch.admits_maxHeapBytes X.admits]; decide
  have hh : ¬ 8 * componentBytes .int > e.platform.maxHeapBytes := by rw [Launch.admits_maxHeapBytes X.admits]; decide
  jvm_step X.here [hexec, hdg]
  simp only [multianewarray.sem, wp_bind', W.resolveClassAt_links (State.method?_setTop g X.here.top) hg₁]
  rw [W.popN, if_neg (by decide)]
  refine ⟨g, State.topJava?_setTop' (s := T.setVm vm₁) g X.here.top, [.int 8, .int 8], rest, rfl, hstack, ?_⟩
  simp only [List.mapM_cons, List.mapM_nil, wp_bind', wp_pure']
  refine mz_make2 (k := kA₁) (kc := kC₁) (comp := comp') (cc := cc) hkA₁ hkindA₁ hkC₁ hkindC₁ hl hh0 hh (by show T.heap.size + 9 ≤ _; omega) (by show T.slotsUsed + 72 ≤ _; omega) (fun d' acts' => ?_)
  have eS : ((T.setTop g).setVm vm₁).setTop { g with stack := rest } = (T.setVm vm₁).setTop { g with stack := rest } := by
    show ((T.setVm vm₁).setTop g).setTop _ = _
    rw [State.setTop_setTop]
  rw [eS, mz_st_t]
  simp only [wp_bind', W.mark, W.pushRef, State.topJava?_setTop' _ XF.here.top, Option.some.injEq, exists_eq_left', State.setTop_setTop, State.heap_setTop]
  intro acts
  simp [jvm, XF.here.top]
  exact hrest
end
end
