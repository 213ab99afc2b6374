section
variable {own : String} {cc : ByteArray} {nL : Nat} {ret : Option FieldType} {ini : Bool} {d mc ms : Nat} {Post : vx_P} {ad : Nat → Nat} {kc ks N : Nat} {Λ : vx_L} {μ : vx_mem} {pc : Nat} {ls : List (Nat × vx_v)} {st : List vx_v}
/-- a local's value -/
def vx_lk : List (Nat × vx_v) → Nat → Option vx_v
  | [], _ => none
  | q :: r, i => if q.1 = i then some q.2 else vx_lk r i
theorem vx_lk_mem : ∀ {ls : List (Nat × vx_v)} {i : Nat} {v : vx_v}, vx_lk ls i = some v → (i, v) ∈ ls
  | [], _, _, h => by cases h
  | q :: r, i, v, h => by
    unfold vx_lk at h
    split at h
    · rename_i e
      cases h
      rw [← e]
      exact List.mem_cons_self
    · exact List.mem_cons_of_mem _ (vx_lk_mem h)
theorem vx_at {ad : Nat → Nat} {LS : Array Slot} {nL : Nat} {ls : List (Nat × vx_v)} (hl : lv_has LS nL (ls.map (fun q => (q.1, vx_V ad q.2)))) {i : Nat} {v : vx_v} (h : vx_lk ls i = some v) : LS[i]? = some (.val (vx_V ad v)) :=
  hl.2.2 (i, vx_V ad v) (List.mem_map.mpr ⟨(i, v), vx_lk_mem h, rfl⟩)
theorem vx_filt (ad : Nat → Nat) (i : Nat) : ∀ (ls : List (Nat × vx_v)), (ls.map (fun q => (q.1, vx_V ad q.2))).filter (fun q => !(q.1 == i) && !(q.1 + 1 == i && q.2.category == 2)) = (ls.filter (fun q => !(q.1 == i))).map (fun q => (q.1, vx_V ad q.2))
  | [] => rfl
  | q :: r => by
    have ih := vx_filt ad i r
    have hc : (vx_V ad q.2).category = 1 := vx_V_cat ad q.2
    by_cases h : q.1 = i
    · simp [List.filter_cons, h, hc, ih] <;> simpa using ih
    · simp [List.filter_cons, h, hc, ih] <;> simpa using ih
/-- the locals with one set -/
def vx_se (ls : List (Nat × vx_v)) (i : Nat) (v : vx_v) : List (Nat × vx_v) := (i, v) :: ls.filter (fun q => !(q.1 == i))
theorem vx_se_eq (ad : Nat → Nat) (ls : List (Nat × vx_v)) (i : Nat) (v : vx_v) : (i, vx_V ad v) :: (ls.map (fun q => (q.1, vx_V ad q.2))).filter (fun q => !(q.1 == i) && !(q.1 + 1 == i && q.2.category == 2)) = (vx_se ls i v).map (fun q => (q.1, vx_V ad q.2)) := by
  rw [vx_filt]
  rfl

theorem vx_sub {ls2 : List (Nat × vx_v)} (h : ls2.all (fun q => decide (vx_lk ls q.1 = some q.2)) = true) (k : vx_J own cc nL ret ini d mc ms Post ad kc ks N Λ μ (pc) (ls2) (st)) : vx_J own cc nL ret ini d mc ms Post ad kc ks N Λ μ (pc) (ls) (st) := by
  intro p l e s m args below meth c D dA A H locs LS hC hS hA hK hP hD hX hl
  refine k p l e s m args below meth c D dA A H locs LS hC hS hA hK hP hD hX ⟨hl.1, hl.2.1, fun q hq => ?_⟩
  obtain ⟨x, hx, rfl⟩ := List.mem_map.mp hq
  exact vx_at hl (by simpa using List.all_eq_true.mp h x hx)
theorem vx_eq {μ2 : vx_mem} {ls2 : List (Nat × vx_v)} {st2 : List vx_v} (h1 : μ = μ2) (h2 : ls = ls2) (h3 : st = st2) (k : vx_J own cc nL ret ini d mc ms Post ad kc ks N Λ μ2 (pc) (ls2) (st2)) : vx_J own cc nL ret ini d mc ms Post ad kc ks N Λ μ (pc) (ls) (st) := by
  subst h1; subst h2; subst h3; exact k
theorem vx_locs {ls2 : List (Nat × vx_v)} (h : ∀ (i : Nat) (v : vx_v), (i, v) ∈ ls2 → vx_lk ls i = some v) (k : vx_J own cc nL ret ini d mc ms Post ad kc ks N Λ μ (pc) (ls2) (st)) : vx_J own cc nL ret ini d mc ms Post ad kc ks N Λ μ (pc) (ls) (st) := by
  intro p l e s m args below meth c D dA A H locs LS hC hS hA hK hP hD hX hl
  refine k p l e s m args below meth c D dA A H locs LS hC hS hA hK hP hD hX ⟨hl.1, hl.2.1, fun q hq => ?_⟩
  obtain ⟨⟨i, v⟩, hx, rfl⟩ := List.mem_map.mp hq
  exact vx_at hl (h i v hx)
theorem vx_top {x : Int32} (k : ∀ y : Int32, y = x → vx_J own cc nL ret ini d mc ms Post ad kc ks N Λ μ (pc) (ls) (.inl y :: st)) : vx_J own cc nL ret ini d mc ms Post ad kc ks N Λ μ (pc) (ls) (.inl x :: st) := k x rfl

theorem vx_iconst {n : Int} {v : Int32} (hd : decode cc pc = .ok (.iconst n, 1)) (hv : Int32.ofInt n = v) (k : vx_J own cc nL ret ini d mc ms Post ad kc ks N Λ μ (pc + 1) (ls) (.inl v :: st)) : vx_J own cc nL ret ini d mc ms Post ad kc ks N Λ μ (pc) (ls) (st) := by
  intro p l e s m args below meth c D dA A H locs LS hC hS hA hK hP hD hX hl
  exact lv_iconst hC.1 hC.2.1 hd hv (k p l e s m args below meth c D dA A H locs LS hC hS hA hK hP hD hX hl)
theorem vx_bipush {n : Int} {v : Int32} (hd : decode cc pc = .ok (.bipush n, 2)) (hv : (Int8.ofInt n).toInt32 = v) (k : vx_J own cc nL ret ini d mc ms Post ad kc ks N Λ μ (pc + 2) (ls) (.inl v :: st)) : vx_J own cc nL ret ini d mc ms Post ad kc ks N Λ μ (pc) (ls) (st) := by
  intro p l e s m args below meth c D dA A H locs LS hC hS hA hK hP hD hX hl
  exact lv_bipush hC.1 hC.2.1 hd hv (k p l e s m args below meth c D dA A H locs LS hC hS hA hK hP hD hX hl)
theorem vx_sipush {n : Int} {v : Int32} (hd : decode cc pc = .ok (.sipush n, 3)) (hv : (Int16.ofInt n).toInt32 = v) (k : vx_J own cc nL ret ini d mc ms Post ad kc ks N Λ μ (pc + 3) (ls) (.inl v :: st)) : vx_J own cc nL ret ini d mc ms Post ad kc ks N Λ μ (pc) (ls) (st) := by
  intro p l e s m args below meth c D dA A H locs LS hC hS hA hK hP hD hX hl
  exact lv_sipush hC.1 hC.2.1 hd hv (k p l e s m args below meth c D dA A H locs LS hC hS hA hK hP hD hX hl)
theorem vx_ldc {index : Nat} {v : Int32} (hd : decode cc pc = .ok (.ldc index, 2)) (hw : Cond.constant own index v ∈ vx_tbl) (k : vx_J own cc nL ret ini d mc ms Post ad kc ks N Λ μ (pc + 2) (ls) (.inl v :: st)) : vx_J own cc nL ret ini d mc ms Post ad kc ks N Λ μ (pc) (ls) (st) := by
  intro p l e s m args below meth c D dA A H locs LS hC hS hA hK hP hD hX hl
  exact lv_ldc hC.1 hC.2.1 hC.2.2.2.2.1 (hC.2.2.2.2.2.1 _ hw) hd (k p l e s m args below meth c D dA A H locs LS hC hS hA hK hP hD hX hl)
theorem vx_ldcS {index i : Nat} {tx : String} (hd : decode cc pc = .ok (.ldc index, 2)) (hi : vx_lit[i]? = some (own, index, tx)) (k : vx_J own cc nL ret ini d mc ms Post ad kc ks N Λ μ (pc + 2) (ls) (vx_r (1000 + i) :: st)) : vx_J own cc nL ret ini d mc ms Post ad kc ks N Λ μ (pc) (ls) (st) := by
  intro p l e s m args below meth c D dA A H locs LS hC hS hA hK hP hD hX hl
  exact va_ldcS hC.1 hC.2.1 hC.2.2.2.2.1 (hX.2.2.2.1 i _ hi) hd (k p l e s m args below meth c D dA A H locs LS hC hS hA hK hP hD hX hl)

theorem vx_iload_n {q : Fin 4} {x : Int32} (hd : decode cc pc = .ok (.iload_n q, 1)) (h : vx_lk ls q = some (.inl x)) (k : vx_J own cc nL ret ini d mc ms Post ad kc ks N Λ μ (pc + 1) (ls) (.inl x :: st)) : vx_J own cc nL ret ini d mc ms Post ad kc ks N Λ μ (pc) (ls) (st) := by
  intro p l e s m args below meth c D dA A H locs LS hC hS hA hK hP hD hX hl
  exact lv_iload_n hC.1 hC.2.1 hd rfl (vx_at hl h) (k p l e s m args below meth c D dA A H locs LS hC hS hA hK hP hD hX hl)
theorem vx_iload {i : Nat} {x : Int32} (hd : decode cc pc = .ok (.iload i, 2)) (h : vx_lk ls i = some (.inl x)) (k : vx_J own cc nL ret ini d mc ms Post ad kc ks N Λ μ (pc + 2) (ls) (.inl x :: st)) : vx_J own cc nL ret ini d mc ms Post ad kc ks N Λ μ (pc) (ls) (st) := by
  intro p l e s m args below meth c D dA A H locs LS hC hS hA hK hP hD hX hl
  exact lv_iload hC.1 hC.2.1 hd (vx_at hl h) (k p l e s m args below meth c D dA A H locs LS hC hS hA hK hP hD hX hl)
theorem vx_aload_n {q : Fin 4} {x : Nat} (hd : decode cc pc = .ok (.aload_n q, 1)) (h : vx_lk ls q = some (vx_r x)) (k : vx_J own cc nL ret ini d mc ms Post ad kc ks N Λ μ (pc + 1) (ls) (vx_r x :: st)) : vx_J own cc nL ret ini d mc ms Post ad kc ks N Λ μ (pc) (ls) (st) := by
  intro p l e s m args below meth c D dA A H locs LS hC hS hA hK hP hD hX hl
  exact lv_aload_n hC.1 hC.2.1 hd rfl (vx_at hl h) (k p l e s m args below meth c D dA A H locs LS hC hS hA hK hP hD hX hl)
theorem vx_aload {i : Nat} {x : Nat} (hd : decode cc pc = .ok (.aload i, 2)) (h : vx_lk ls i = some (vx_r x)) (k : vx_J own cc nL ret ini d mc ms Post ad kc ks N Λ μ (pc + 2) (ls) (vx_r x :: st)) : vx_J own cc nL ret ini d mc ms Post ad kc ks N Λ μ (pc) (ls) (st) := by
  intro p l e s m args below meth c D dA A H locs LS hC hS hA hK hP hD hX hl
  exact lv_aload hC.1 hC.2.1 hd (vx_at hl h) (k p l e s m args below meth c D dA A H locs LS hC hS hA hK hP hD hX hl)

theorem vx_istore_n {q : Fin 4} {x : Int32} {ls2 : List (Nat × vx_v)} (hd : decode cc pc = .ok (.istore_n q, 1)) (hn : (q : Nat) < nL) (h : vx_se ls q (.inl x) = ls2) (k : vx_J own cc nL ret ini d mc ms Post ad kc ks N Λ μ (pc + 1) (ls2) (st)) : vx_J own cc nL ret ini d mc ms Post ad kc ks N Λ μ (pc) (ls) (.inl x :: st) := by
  subst h
  intro p l e s m args below meth c D dA A H locs LS hC hS hA hK hP hD hX hl
  exact lv_istore_n hC.1 hC.2.1 hd rfl hl hn (vx_se_eq ad ls q (.inl x)) (fun LS hl => k p l e s m args below meth c D dA A H locs LS hC hS hA hK hP hD hX hl)
theorem vx_istore {i : Nat} {x : Int32} {ls2 : List (Nat × vx_v)} (hd : decode cc pc = .ok (.istore i, 2)) (hn : i < nL) (h : vx_se ls i (.inl x) = ls2) (k : vx_J own cc nL ret ini d mc ms Post ad kc ks N Λ μ (pc + 2) (ls2) (st)) : vx_J own cc nL ret ini d mc ms Post ad kc ks N Λ μ (pc) (ls) (.inl x :: st) := by
  subst h
  intro p l e s m args below meth c D dA A H locs LS hC hS hA hK hP hD hX hl
  exact lv_istore hC.1 hC.2.1 hd hl hn (vx_se_eq ad ls i (.inl x)) (fun LS hl => k p l e s m args below meth c D dA A H locs LS hC hS hA hK hP hD hX hl)
theorem vx_astore_n {q : Fin 4} {x : Nat} {ls2 : List (Nat × vx_v)} (hd : decode cc pc = .ok (.astore_n q, 1)) (hn : (q : Nat) < nL) (h : vx_se ls q (vx_r x) = ls2) (k : vx_J own cc nL ret ini d mc ms Post ad kc ks N Λ μ (pc + 1) (ls2) (st)) : vx_J own cc nL ret ini d mc ms Post ad kc ks N Λ μ (pc) (ls) (vx_r x :: st) := by
  subst h
  intro p l e s m args below meth c D dA A H locs LS hC hS hA hK hP hD hX hl
  exact lv_astore_n hC.1 hC.2.1 hd rfl hl hn (vx_se_eq ad ls q (vx_r x)) (fun LS hl => k p l e s m args below meth c D dA A H locs LS hC hS hA hK hP hD hX hl)
theorem vx_iinc {i : Nat} {n : Int} {x v : Int32} {ls2 : List (Nat × vx_v)} (hd : decode cc pc = .ok (.iinc i n, 3)) (hk : vx_lk ls i = some (.inl x)) (hv : x + Int32.ofInt n = v) (hn : i < nL) (h : vx_se ls i (.inl v) = ls2) (k : vx_J own cc nL ret ini d mc ms Post ad kc ks N Λ μ (pc + 3) (ls2) (st)) : vx_J own cc nL ret ini d mc ms Post ad kc ks N Λ μ (pc) (ls) (st) := by
  subst h
  intro p l e s m args below meth c D dA A H locs LS hC hS hA hK hP hD hX hl
  obtain ⟨j, hj⟩ := List.getElem?_of_mem (List.mem_map.mpr ⟨(i, .inl x), vx_lk_mem hk, rfl⟩ : (i, vx_V ad (.inl x)) ∈ ls.map (fun q => (q.1, vx_V ad q.2)))
  exact lv_iinc (k := j) (x := x) (v := v) hC.1 hC.2.1 hd hl hj hv hn (vx_se_eq ad ls i (.inl v)) (fun LS hl => k p l e s m args below meth c D dA A H locs LS hC hS hA hK hP hD hX hl)

theorem vx_iadd {x y : Int32} (hd : decode cc pc = .ok (.iadd, 1)) (k : vx_J own cc nL ret ini d mc ms Post ad kc ks N Λ μ (pc + 1) (ls) (.inl (x + y) :: st)) : vx_J own cc nL ret ini d mc ms Post ad kc ks N Λ μ (pc) (ls) (.inl y :: .inl x :: st) := by
  intro p l e s m args below meth c D dA A H locs LS hC hS hA hK hP hD hX hl
  exact lv_iadd hC.1 hC.2.1 hd (k p l e s m args below meth c D dA A H locs LS hC hS hA hK hP hD hX hl)
theorem vx_isub {x y : Int32} (hd : decode cc pc = .ok (.isub, 1)) (k : vx_J own cc nL ret ini d mc ms Post ad kc ks N Λ μ (pc + 1) (ls) (.inl (x - y) :: st)) : vx_J own cc nL ret ini d mc ms Post ad kc ks N Λ μ (pc) (ls) (.inl y :: .inl x :: st) := by
  intro p l e s m args below meth c D dA A H locs LS hC hS hA hK hP hD hX hl
  exact lv_isub hC.1 hC.2.1 hd (k p l e s m args below meth c D dA A H locs LS hC hS hA hK hP hD hX hl)
theorem vx_imul {x y : Int32} (hd : decode cc pc = .ok (.imul, 1)) (k : vx_J own cc nL ret ini d mc ms Post ad kc ks N Λ μ (pc + 1) (ls) (.inl (x * y) :: st)) : vx_J own cc nL ret ini d mc ms Post ad kc ks N Λ μ (pc) (ls) (.inl y :: .inl x :: st) := by
  intro p l e s m args below meth c D dA A H locs LS hC hS hA hK hP hD hX hl
  exact lv_imul hC.1 hC.2.1 hd (k p l e s m args below meth c D dA A H locs LS hC hS hA hK hP hD hX hl)
theorem vx_iand {x y : Int32} (hd : decode cc pc = .ok (.iand, 1)) (k : vx_J own cc nL ret ini d mc ms Post ad kc ks N Λ μ (pc + 1) (ls) (.inl (x &&& y) :: st)) : vx_J own cc nL ret ini d mc ms Post ad kc ks N Λ μ (pc) (ls) (.inl y :: .inl x :: st) := by
  intro p l e s m args below meth c D dA A H locs LS hC hS hA hK hP hD hX hl
  exact lv_iand hC.1 hC.2.1 hd (k p l e s m args below meth c D dA A H locs LS hC hS hA hK hP hD hX hl)
theorem vx_ior {x y : Int32} (hd : decode cc pc = .ok (.ior, 1)) (k : vx_J own cc nL ret ini d mc ms Post ad kc ks N Λ μ (pc + 1) (ls) (.inl (x ||| y) :: st)) : vx_J own cc nL ret ini d mc ms Post ad kc ks N Λ μ (pc) (ls) (.inl y :: .inl x :: st) := by
  intro p l e s m args below meth c D dA A H locs LS hC hS hA hK hP hD hX hl
  exact lv_ior hC.1 hC.2.1 hd (k p l e s m args below meth c D dA A H locs LS hC hS hA hK hP hD hX hl)
theorem vx_ixor {x y : Int32} (hd : decode cc pc = .ok (.ixor, 1)) (k : vx_J own cc nL ret ini d mc ms Post ad kc ks N Λ μ (pc + 1) (ls) (.inl (x ^^^ y) :: st)) : vx_J own cc nL ret ini d mc ms Post ad kc ks N Λ μ (pc) (ls) (.inl y :: .inl x :: st) := by
  intro p l e s m args below meth c D dA A H locs LS hC hS hA hK hP hD hX hl
  exact lv_ixor hC.1 hC.2.1 hd (k p l e s m args below meth c D dA A H locs LS hC hS hA hK hP hD hX hl)
theorem vx_ishl {x y : Int32} (hd : decode cc pc = .ok (.ishl, 1)) (k : vx_J own cc nL ret ini d mc ms Post ad kc ks N Λ μ (pc + 1) (ls) (.inl (x <<< (y &&& 31)) :: st)) : vx_J own cc nL ret ini d mc ms Post ad kc ks N Λ μ (pc) (ls) (.inl y :: .inl x :: st) := by
  intro p l e s m args below meth c D dA A H locs LS hC hS hA hK hP hD hX hl
  exact lv_ishl hC.1 hC.2.1 hd (k p l e s m args below meth c D dA A H locs LS hC hS hA hK hP hD hX hl)
theorem vx_ishr {x y : Int32} (hd : decode cc pc = .ok (.ishr, 1)) (k : vx_J own cc nL ret ini d mc ms Post ad kc ks N Λ μ (pc + 1) (ls) (.inl (x >>> (y &&& 31)) :: st)) : vx_J own cc nL ret ini d mc ms Post ad kc ks N Λ μ (pc) (ls) (.inl y :: .inl x :: st) := by
  intro p l e s m args below meth c D dA A H locs LS hC hS hA hK hP hD hX hl
  exact lv_ishr hC.1 hC.2.1 hd (k p l e s m args below meth c D dA A H locs LS hC hS hA hK hP hD hX hl)
theorem vx_idiv {x y : Int32} (hd : decode cc pc = .ok (.idiv, 1)) (hne : ¬ y = 0) (k : vx_J own cc nL ret ini d mc ms Post ad kc ks N Λ μ (pc + 1) (ls) (.inl (x / y) :: st)) : vx_J own cc nL ret ini d mc ms Post ad kc ks N Λ μ (pc) (ls) (.inl y :: .inl x :: st) := by
  intro p l e s m args below meth c D dA A H locs LS hC hS hA hK hP hD hX hl
  exact lv_idiv hC.1 hC.2.1 hd hne (k p l e s m args below meth c D dA A H locs LS hC hS hA hK hP hD hX hl)
theorem vx_irem {x y : Int32} (hd : decode cc pc = .ok (.irem, 1)) (hne : ¬ y = 0) (k : vx_J own cc nL ret ini d mc ms Post ad kc ks N Λ μ (pc + 1) (ls) (.inl (x - x / y * y) :: st)) : vx_J own cc nL ret ini d mc ms Post ad kc ks N Λ μ (pc) (ls) (.inl y :: .inl x :: st) := by
  intro p l e s m args below meth c D dA A H locs LS hC hS hA hK hP hD hX hl
  exact lv_irem hC.1 hC.2.1 hd hne (k p l e s m args below meth c D dA A H locs LS hC hS hA hK hP hD hX hl)
theorem vx_iushr {x y v : Int32} (hd : decode cc pc = .ok (.iushr, 1)) (hv : (x.toUInt32 >>> (y.toUInt32 &&& Int32.toUInt32 31)).toInt32 = v) (k : vx_J own cc nL ret ini d mc ms Post ad kc ks N Λ μ (pc + 1) (ls) (.inl v :: st)) : vx_J own cc nL ret ini d mc ms Post ad kc ks N Λ μ (pc) (ls) (.inl y :: .inl x :: st) := by
  intro p l e s m args below meth c D dA A H locs LS hC hS hA hK hP hD hX hl
  exact lv_iushr hC.1 hC.2.1 hd hv (k p l e s m args below meth c D dA A H locs LS hC hS hA hK hP hD hX hl)
theorem vx_dup {v : vx_v} (hd : decode cc pc = .ok (.dup, 1)) (k : vx_J own cc nL ret ini d mc ms Post ad kc ks N Λ μ (pc + 1) (ls) (v :: v :: st)) : vx_J own cc nL ret ini d mc ms Post ad kc ks N Λ μ (pc) (ls) (v :: st) := by
  intro p l e s m args below meth c D dA A H locs LS hC hS hA hK hP hD hX hl
  exact lv_dup hC.1 hC.2.1 hd (vx_V_cat ad v) (k p l e s m args below meth c D dA A H locs LS hC hS hA hK hP hD hX hl)
theorem vx_dup2 {v u : vx_v} (hd : decode cc pc = .ok (.dup2, 1)) (k : vx_J own cc nL ret ini d mc ms Post ad kc ks N Λ μ (pc + 1) (ls) (v :: u :: v :: u :: st)) : vx_J own cc nL ret ini d mc ms Post ad kc ks N Λ μ (pc) (ls) (v :: u :: st) := by
  intro p l e s m args below meth c D dA A H locs LS hC hS hA hK hP hD hX hl
  exact lv_dup2_11 hC.1 hC.2.1 hd (vx_V_cat ad v) (vx_V_cat ad u) (k p l e s m args below meth c D dA A H locs LS hC hS hA hK hP hD hX hl)
theorem vx_pop {v : vx_v} (hd : decode cc pc = .ok (.pop, 1)) (k : vx_J own cc nL ret ini d mc ms Post ad kc ks N Λ μ (pc + 1) (ls) (st)) : vx_J own cc nL ret ini d mc ms Post ad kc ks N Λ μ (pc) (ls) (v :: st) := by
  intro p l e s m args below meth c D dA A H locs LS hC hS hA hK hP hD hX hl
  exact lv_pop hC.1 hC.2.1 hd (vx_V_cat ad v) (k p l e s m args below meth c D dA A H locs LS hC hS hA hK hP hD hX hl)
theorem vx_goto {off : Int} {tgt : Nat} (hd : decode cc pc = .ok (.goto off, 3)) (ht : (pc : Int) + off = (tgt : Int)) (k : vx_J own cc nL ret ini d mc ms Post ad kc ks N Λ μ (tgt) (ls) (st)) : vx_J own cc nL ret ini d mc ms Post ad kc ks N Λ μ (pc) (ls) (st) := by
  intro p l e s m args below meth c D dA A H locs LS hC hS hA hK hP hD hX hl
  exact lv_goto hC.1 hC.2.1 hd ht (k p l e s m args below meth c D dA A H locs LS hC hS hA hK hP hD hX hl)

theorem vx_if_eq {x : Int32} {off : Int} {tgt : Nat} (hd : decode cc pc = .ok (.ifCond .eq off, 3)) (ht : (pc : Int) + off = (tgt : Int)) (kt : x = 0 → vx_J own cc nL ret ini d mc ms Post ad kc ks N Λ μ (tgt) (ls) (st)) (kf : ¬ x = 0 → vx_J own cc nL ret ini d mc ms Post ad kc ks N Λ μ (pc + 3) (ls) (st)) : vx_J own cc nL ret ini d mc ms Post ad kc ks N Λ μ (pc) (ls) (.inl x :: st) := by
  intro p l e s m args below meth c D dA A H locs LS hC hS hA hK hP hD hX hl
  exact lv_if_eq hC.1 hC.2.1 hd ht (fun h => kt h p l e s m args below meth c D dA A H locs LS hC hS hA hK hP hD hX hl) (fun h => kf h p l e s m args below meth c D dA A H locs LS hC hS hA hK hP hD hX hl)
theorem vx_icmp_eq {x y : Int32} {off : Int} {tgt : Nat} (hd : decode cc pc = .ok (.if_icmp .eq off, 3)) (ht : (pc : Int) + off = (tgt : Int)) (kt : x = y → vx_J own cc nL ret ini d mc ms Post ad kc ks N Λ μ (tgt) (ls) (st)) (kf : ¬ x = y → vx_J own cc nL ret ini d mc ms Post ad kc ks N Λ μ (pc + 3) (ls) (st)) : vx_J own cc nL ret ini d mc ms Post ad kc ks N Λ μ (pc) (ls) (.inl y :: .inl x :: st) := by
  intro p l e s m args below meth c D dA A H locs LS hC hS hA hK hP hD hX hl
  exact lv_icmp_eq hC.1 hC.2.1 hd ht (fun h => kt h p l e s m args below meth c D dA A H locs LS hC hS hA hK hP hD hX hl) (fun h => kf h p l e s m args below meth c D dA A H locs LS hC hS hA hK hP hD hX hl)
theorem vx_if_ne {x : Int32} {off : Int} {tgt : Nat} (hd : decode cc pc = .ok (.ifCond .ne off, 3)) (ht : (pc : Int) + off = (tgt : Int)) (kt : ¬ x = 0 → vx_J own cc nL ret ini d mc ms Post ad kc ks N Λ μ (tgt) (ls) (st)) (kf : x = 0 → vx_J own cc nL ret ini d mc ms Post ad kc ks N Λ μ (pc + 3) (ls) (st)) : vx_J own cc nL ret ini d mc ms Post ad kc ks N Λ μ (pc) (ls) (.inl x :: st) := by
  intro p l e s m args below meth c D dA A H locs LS hC hS hA hK hP hD hX hl
  exact lv_if_ne hC.1 hC.2.1 hd ht (fun h => kt h p l e s m args below meth c D dA A H locs LS hC hS hA hK hP hD hX hl) (fun h => kf h p l e s m args below meth c D dA A H locs LS hC hS hA hK hP hD hX hl)
theorem vx_icmp_ne {x y : Int32} {off : Int} {tgt : Nat} (hd : decode cc pc = .ok (.if_icmp .ne off, 3)) (ht : (pc : Int) + off = (tgt : Int)) (kt : ¬ x = y → vx_J own cc nL ret ini d mc ms Post ad kc ks N Λ μ (tgt) (ls) (st)) (kf : x = y → vx_J own cc nL ret ini d mc ms Post ad kc ks N Λ μ (pc + 3) (ls) (st)) : vx_J own cc nL ret ini d mc ms Post ad kc ks N Λ μ (pc) (ls) (.inl y :: .inl x :: st) := by
  intro p l e s m args below meth c D dA A H locs LS hC hS hA hK hP hD hX hl
  exact lv_icmp_ne hC.1 hC.2.1 hd ht (fun h => kt h p l e s m args below meth c D dA A H locs LS hC hS hA hK hP hD hX hl) (fun h => kf h p l e s m args below meth c D dA A H locs LS hC hS hA hK hP hD hX hl)
theorem vx_if_lt {x : Int32} {off : Int} {tgt : Nat} (hd : decode cc pc = .ok (.ifCond .lt off, 3)) (ht : (pc : Int) + off = (tgt : Int)) (kt : x < 0 → vx_J own cc nL ret ini d mc ms Post ad kc ks N Λ μ (tgt) (ls) (st)) (kf : ¬ x < 0 → vx_J own cc nL ret ini d mc ms Post ad kc ks N Λ μ (pc + 3) (ls) (st)) : vx_J own cc nL ret ini d mc ms Post ad kc ks N Λ μ (pc) (ls) (.inl x :: st) := by
  intro p l e s m args below meth c D dA A H locs LS hC hS hA hK hP hD hX hl
  exact lv_if_lt hC.1 hC.2.1 hd ht (fun h => kt h p l e s m args below meth c D dA A H locs LS hC hS hA hK hP hD hX hl) (fun h => kf h p l e s m args below meth c D dA A H locs LS hC hS hA hK hP hD hX hl)
theorem vx_icmp_lt {x y : Int32} {off : Int} {tgt : Nat} (hd : decode cc pc = .ok (.if_icmp .lt off, 3)) (ht : (pc : Int) + off = (tgt : Int)) (kt : x < y → vx_J own cc nL ret ini d mc ms Post ad kc ks N Λ μ (tgt) (ls) (st)) (kf : ¬ x < y → vx_J own cc nL ret ini d mc ms Post ad kc ks N Λ μ (pc + 3) (ls) (st)) : vx_J own cc nL ret ini d mc ms Post ad kc ks N Λ μ (pc) (ls) (.inl y :: .inl x :: st) := by
  intro p l e s m args below meth c D dA A H locs LS hC hS hA hK hP hD hX hl
  exact lv_icmp_lt hC.1 hC.2.1 hd ht (fun h => kt h p l e s m args below meth c D dA A H locs LS hC hS hA hK hP hD hX hl) (fun h => kf h p l e s m args below meth c D dA A H locs LS hC hS hA hK hP hD hX hl)
theorem vx_if_ge {x : Int32} {off : Int} {tgt : Nat} (hd : decode cc pc = .ok (.ifCond .ge off, 3)) (ht : (pc : Int) + off = (tgt : Int)) (kt : 0 ≤ x → vx_J own cc nL ret ini d mc ms Post ad kc ks N Λ μ (tgt) (ls) (st)) (kf : ¬ 0 ≤ x → vx_J own cc nL ret ini d mc ms Post ad kc ks N Λ μ (pc + 3) (ls) (st)) : vx_J own cc nL ret ini d mc ms Post ad kc ks N Λ μ (pc) (ls) (.inl x :: st) := by
  intro p l e s m args below meth c D dA A H locs LS hC hS hA hK hP hD hX hl
  exact lv_if_ge hC.1 hC.2.1 hd ht (fun h => kt h p l e s m args below meth c D dA A H locs LS hC hS hA hK hP hD hX hl) (fun h => kf h p l e s m args below meth c D dA A H locs LS hC hS hA hK hP hD hX hl)
theorem vx_icmp_ge {x y : Int32} {off : Int} {tgt : Nat} (hd : decode cc pc = .ok (.if_icmp .ge off, 3)) (ht : (pc : Int) + off = (tgt : Int)) (kt : y ≤ x → vx_J own cc nL ret ini d mc ms Post ad kc ks N Λ μ (tgt) (ls) (st)) (kf : ¬ y ≤ x → vx_J own cc nL ret ini d mc ms Post ad kc ks N Λ μ (pc + 3) (ls) (st)) : vx_J own cc nL ret ini d mc ms Post ad kc ks N Λ μ (pc) (ls) (.inl y :: .inl x :: st) := by
  intro p l e s m args below meth c D dA A H locs LS hC hS hA hK hP hD hX hl
  exact lv_icmp_ge hC.1 hC.2.1 hd ht (fun h => kt h p l e s m args below meth c D dA A H locs LS hC hS hA hK hP hD hX hl) (fun h => kf h p l e s m args below meth c D dA A H locs LS hC hS hA hK hP hD hX hl)
theorem vx_if_gt {x : Int32} {off : Int} {tgt : Nat} (hd : decode cc pc = .ok (.ifCond .gt off, 3)) (ht : (pc : Int) + off = (tgt : Int)) (kt : 0 < x → vx_J own cc nL ret ini d mc ms Post ad kc ks N Λ μ (tgt) (ls) (st)) (kf : ¬ 0 < x → vx_J own cc nL ret ini d mc ms Post ad kc ks N Λ μ (pc + 3) (ls) (st)) : vx_J own cc nL ret ini d mc ms Post ad kc ks N Λ μ (pc) (ls) (.inl x :: st) := by
  intro p l e s m args below meth c D dA A H locs LS hC hS hA hK hP hD hX hl
  exact lv_if_gt hC.1 hC.2.1 hd ht (fun h => kt h p l e s m args below meth c D dA A H locs LS hC hS hA hK hP hD hX hl) (fun h => kf h p l e s m args below meth c D dA A H locs LS hC hS hA hK hP hD hX hl)
theorem vx_icmp_gt {x y : Int32} {off : Int} {tgt : Nat} (hd : decode cc pc = .ok (.if_icmp .gt off, 3)) (ht : (pc : Int) + off = (tgt : Int)) (kt : y < x → vx_J own cc nL ret ini d mc ms Post ad kc ks N Λ μ (tgt) (ls) (st)) (kf : ¬ y < x → vx_J own cc nL ret ini d mc ms Post ad kc ks N Λ μ (pc + 3) (ls) (st)) : vx_J own cc nL ret ini d mc ms Post ad kc ks N Λ μ (pc) (ls) (.inl y :: .inl x :: st) := by
  intro p l e s m args below meth c D dA A H locs LS hC hS hA hK hP hD hX hl
  exact lv_icmp_gt hC.1 hC.2.1 hd ht (fun h => kt h p l e s m args below meth c D dA A H locs LS hC hS hA hK hP hD hX hl) (fun h => kf h p l e s m args below meth c D dA A H locs LS hC hS hA hK hP hD hX hl)
theorem vx_if_le {x : Int32} {off : Int} {tgt : Nat} (hd : decode cc pc = .ok (.ifCond .le off, 3)) (ht : (pc : Int) + off = (tgt : Int)) (kt : x ≤ 0 → vx_J own cc nL ret ini d mc ms Post ad kc ks N Λ μ (tgt) (ls) (st)) (kf : ¬ x ≤ 0 → vx_J own cc nL ret ini d mc ms Post ad kc ks N Λ μ (pc + 3) (ls) (st)) : vx_J own cc nL ret ini d mc ms Post ad kc ks N Λ μ (pc) (ls) (.inl x :: st) := by
  intro p l e s m args below meth c D dA A H locs LS hC hS hA hK hP hD hX hl
  exact lv_if_le hC.1 hC.2.1 hd ht (fun h => kt h p l e s m args below meth c D dA A H locs LS hC hS hA hK hP hD hX hl) (fun h => kf h p l e s m args below meth c D dA A H locs LS hC hS hA hK hP hD hX hl)
theorem vx_icmp_le {x y : Int32} {off : Int} {tgt : Nat} (hd : decode cc pc = .ok (.if_icmp .le off, 3)) (ht : (pc : Int) + off = (tgt : Int)) (kt : x ≤ y → vx_J own cc nL ret ini d mc ms Post ad kc ks N Λ μ (tgt) (ls) (st)) (kf : ¬ x ≤ y → vx_J own cc nL ret ini d mc ms Post ad kc ks N Λ μ (pc + 3) (ls) (st)) : vx_J own cc nL ret ini d mc ms Post ad kc ks N Λ μ (pc) (ls) (.inl y :: .inl x :: st) := by
  intro p l e s m args below meth c D dA A H locs LS hC hS hA hK hP hD hX hl
  exact lv_icmp_le hC.1 hC.2.1 hd ht (fun h => kt h p l e s m args below meth c D dA A H locs LS hC hS hA hK hP hD hX hl) (fun h => kf h p l e s m args below meth c D dA A H locs LS hC hS hA hK hP hD hX hl)
theorem vx_tabIn {dflt lo hi : Int} {offs : Array Int} {len : Nat} {x : Int32} {off : Int} {tgt : Nat} (hd : decode cc pc = .ok (.tableswitch dflt lo hi offs, len)) (h1 : ¬ x.toInt < lo) (h2 : ¬ hi < x.toInt) (ho : offs[(x.toInt - lo).toNat]? = some off) (ht : (pc : Int) + off = (tgt : Int)) (k : vx_J own cc nL ret ini d mc ms Post ad kc ks N Λ μ (tgt) (ls) (st)) : vx_J own cc nL ret ini d mc ms Post ad kc ks N Λ μ (pc) (ls) (.inl x :: st) := by
  intro p l e s m args below meth c D dA A H locs LS hC hS hA hK hP hD hX hl
  exact lv_tableIn hC.1 hC.2.1 hd h1 h2 ho ht (k p l e s m args below meth c D dA A H locs LS hC hS hA hK hP hD hX hl)
theorem vx_tabOut {dflt lo hi : Int} {offs : Array Int} {len : Nat} {x : Int32} {tgt : Nat} (hd : decode cc pc = .ok (.tableswitch dflt lo hi offs, len)) (h : x.toInt < lo ∨ hi < x.toInt) (ht : (pc : Int) + dflt = (tgt : Int)) (k : vx_J own cc nL ret ini d mc ms Post ad kc ks N Λ μ (tgt) (ls) (st)) : vx_J own cc nL ret ini d mc ms Post ad kc ks N Λ μ (pc) (ls) (.inl x :: st) := by
  intro p l e s m args below meth c D dA A H locs LS hC hS hA hK hP hD hX hl
  exact lv_tableOut hC.1 hC.2.1 hd h ht (k p l e s m args below meth c D dA A H locs LS hC hS hA hK hP hD hX hl)
theorem vx_lksw {dflt : Int} {ps : Array (Int × Int)} {len : Nat} {x : Int32} {off : Int} {tgt : Nat} (hd : decode cc pc = .ok (.lookupswitch dflt ps, len)) (hp : (ps.toList.zip (ps.toList.drop 1)).all (fun (a, next) => a.1 < next.1) = true) (ho : Op.lookupswitch.offset ps.toList dflt x.toInt = off) (ht : (pc : Int) + off = (tgt : Int)) (k : vx_J own cc nL ret ini d mc ms Post ad kc ks N Λ μ (tgt) (ls) (st)) : vx_J own cc nL ret ini d mc ms Post ad kc ks N Λ μ (pc) (ls) (.inl x :: st) := by
  intro p l e s m args below meth c D dA A H locs LS hC hS hA hK hP hD hX hl
  exact lv_lookup hC.1 hC.2.1 hd hp ho ht (k p l e s m args below meth c D dA A H locs LS hC hS hA hK hP hD hX hl)

theorem vx_ret {x : Int32} {ty : FieldType} (hd : decode cc pc = .ok (.ireturn, 1)) (hr : ret = some ty) (hn : narrow ty (.int x) = .int x) (h1 : kc ≤ mc) (h2 : ks ≤ ms) (k : Post (some (.inl x)) ad N Λ μ) : vx_J own cc nL ret ini d mc ms Post ad kc ks N Λ μ (pc) (ls) ([.inl x]) := by
  intro p l e s m args below meth c D dA A H locs LS hC hS hA hK hP hD hX hl
  refine W.widen (k := mc) (n := ms) h1 h2 ?_
  exact W.zret (v := x) hC.1 hC.2.1 (hC.2.2.2.1.trans hr) hn (fun t ht hW => ⟨⟨some (.inl x), ad, N, Λ, μ, rfl, k, by rw [ht]; exact hP, va_K.moved hW.alike hK, hD⟩, hS.F ht⟩) hS.2.2 hd hC.2.2.2.2.2.2.1
theorem vx_vret (hd : decode cc pc = .ok (.return_, 1)) (hr : ret = none) (h1 : kc ≤ mc) (h2 : ks ≤ ms) (k : Post none ad N Λ μ) : vx_J own cc nL ret ini d mc ms Post ad kc ks N Λ μ (pc) (ls) ([]) := by
  intro p l e s m args below meth c D dA A H locs LS hC hS hA hK hP hD hX hl
  refine W.widen (k := mc) (n := ms) h1 h2 ?_
  exact W.vret hC.1 hC.2.1 (hC.2.2.2.1.trans hr) (fun t ht hW => ⟨⟨none, ad, N, Λ, μ, rfl, k, by rw [ht]; exact hP, va_K.moved hW.alike hK, hD⟩, hS.F ht⟩) hS.2.2 hd hC.2.2.2.2.2.2.1
theorem vx_aret {x : Nat} {ty : String} (hd : decode cc pc = .ok (.areturn, 1)) (hr : ret = some (.object ty)) (h1 : kc ≤ mc) (h2 : ks ≤ ms) (k : Post (some (vx_r x)) ad N Λ μ) : vx_J own cc nL ret ini d mc ms Post ad kc ks N Λ μ (pc) (ls) ([vx_r x]) := by
  intro p l e s m args below meth c D dA A H locs LS hC hS hA hK hP hD hX hl
  refine W.widen (k := mc) (n := ms) h1 h2 ?_
  exact W.aret (v := .ref (ad x)) hC.1 hC.2.1 (hC.2.2.2.1.trans hr) (Or.inl ⟨ty, rfl⟩) (Or.inr ⟨_, rfl⟩) (fun t ht hW => ⟨⟨some (vx_r x), ad, N, Λ, μ, rfl, k, by rw [ht]; exact hP, va_K.moved hW.alike hK, hD⟩, hS.F ht⟩) hS.2.2 hd hC.2.2.2.2.2.2.1

theorem vx_getI {C : String} {T : u_T} {n ci index a j : Nat} {fr : List (Option (Option Nat))} {v : Int32} (hd : decode cc pc = .ok (.getfield index, 3)) (hc : vwCl[ci]? = some (C, T, n)) (hin : ∀ w ∈ u_ws C T n, w ∈ vx_tbl) (hj : j < n) (hlk : Cond.fieldLink own index (T j).1 (T j).2.1 (T j).2.2.1 ∈ vx_tbl) (ha : a < N) (hΛ : Λ a = .inl (ci, fr)) (hf : fr[j]? = some none) (hv : μ a j = v) (k : vx_J own cc nL ret ini d mc ms Post ad kc ks N Λ μ (pc + 3) (ls) (.inl v :: st)) : vx_J own cc nL ret ini d mc ms Post ad kc ks N Λ μ (pc) (ls) (vx_r a :: st) := by
  subst hv
  intro p l e s m args below meth c D dA A H locs LS hC hS hA hK hP hD hX hl
  refine va_get (D := D) (v := .int (μ a j)) hC.1 hC.2.1 hC.2.2.2.2.2.1 hin hC.2.2.2.2.1 hK hP a (fs := vx_fs ad fr (μ a)) (by rw [vx_W_at ha, hΛ]; rfl) hc j hj (hC.2.2.2.2.2.1 _ hlk) (fun _ h9 => h9) (vx_fs_at hf) hd (k p l e s m args below meth c D dA A H locs LS hC hS hA hK hP hD hX hl)
theorem vx_getR {C : String} {T : u_T} {n ci index a j r : Nat} {fr : List (Option (Option Nat))} (hd : decode cc pc = .ok (.getfield index, 3)) (hc : vwCl[ci]? = some (C, T, n)) (hin : ∀ w ∈ u_ws C T n, w ∈ vx_tbl) (hj : j < n) (hlk : Cond.fieldLink own index (T j).1 (T j).2.1 (T j).2.2.1 ∈ vx_tbl) (ha : a < N) (hΛ : Λ a = .inl (ci, fr)) (hf : fr[j]? = some (some (some r))) (k : vx_J own cc nL ret ini d mc ms Post ad kc ks N Λ μ (pc + 3) (ls) (vx_r r :: st)) : vx_J own cc nL ret ini d mc ms Post ad kc ks N Λ μ (pc) (ls) (vx_r a :: st) := by
  intro p l e s m args below meth c D dA A H locs LS hC hS hA hK hP hD hX hl
  refine va_get (D := D) (v := .ref (ad r)) hC.1 hC.2.1 hC.2.2.2.2.2.1 hin hC.2.2.2.2.1 hK hP a (fs := vx_fs ad fr (μ a)) (by rw [vx_W_at ha, hΛ]; rfl) hc j hj (hC.2.2.2.2.2.1 _ hlk) (fun _ h9 => h9) (vx_fs_at hf) hd (k p l e s m args below meth c D dA A H locs LS hC hS hA hK hP hD hX hl)
theorem vx_putI {C : String} {T : u_T} {n ci index a j : Nat} {fr : List (Option (Option Nat))} {x : Int32} {ty0 : Nat → FieldType} {ty : FieldType} (hd : decode cc pc = .ok (.putfield index, 3)) (hc : vwCl[ci]? = some (C, T, n)) (hin : ∀ w ∈ u_ws C T n, w ∈ vx_tbl) (hty : ∀ k, k < n → parseFieldDescriptor (T k).2.2.1 = some (ty0 k)) (hnm : ∀ a, a < n → ∀ b, b < n → a ≠ b → (T a).2.1 ≠ (T b).2.1) (hj : j < n) (hlk : Cond.fieldLink own index (T j).1 (T j).2.1 (T j).2.2.1 ∈ vx_tbl) (hfin : (T j).2.2.2 = false) (ht : ty0 j = ty) (hn : narrow ty (.int x) = .int x) (hfit : fits ty (.int x) = true) (ha : a < N) (hΛ : Λ a = .inl (ci, fr)) (hf : fr[j]? = some none) {μ2 : vx_mem} (hm : va_up μ a (upd (μ a) j x) = μ2) (k : vx_J own cc nL ret ini d mc ms Post ad kc ks N Λ μ2 (pc + 3) (ls) (st)) : vx_J own cc nL ret ini d mc ms Post ad kc ks N Λ μ (pc) (ls) (.inl x :: vx_r a :: st) := by
  subst hm
  intro p l e s m args below meth c D dA A H locs LS hC hS hA hK hP hD hX hl
  refine va_put (D := D) (v := .int x) hC.1 hC.2.1 hC.2.2.2.2.2.1 hin ty0 hty hnm hC.2.2.2.2.1 hK hP hD hS a (fs := vx_fs ad fr (μ a)) (by rw [vx_W_at ha, hΛ]; rfl) hc j hj (hC.2.2.2.2.2.1 _ hlk) (fun _ h9 => h9) hfin ((hty j hj).trans (congrArg some ht)) hn hfit (by rw [vx_fs_len]; exact (List.getElem?_eq_some_iff.mp hf).1) hd (fun H locs hP hD hS => ?_)
  have e1 : (vx_W dA ad N Λ μ).set a (ad a, .inr (ci, (vx_fs ad fr (μ a)).set j (.int x))) = vx_W dA ad N Λ (va_up μ a (upd (μ a) j x)) := by
    rw [vx_fs_set hf]
    have e2 := vx_W_set (dA := dA) (ad := ad) (N := N) (Λ := Λ) (μ := μ) (k := a) (κ := Λ a) (f := upd (μ a) j x) ha
    rw [vx_up_id] at e2
    rw [← e2, hΛ]
    rfl
  rw [e1] at hP hD
  exact k p l e s m args below meth c D dA A H locs LS hC hS hA hK hP hD hX hl

theorem vx_iald {a n : Nat} {i v : Int32} (hd : decode cc pc = .ok (.iaload, 1)) (ha : a < N) (hΛ : Λ a = .inr (0, n, none)) (hi : vp_in i n) (hv : μ a i.toNatClampNeg = v) (k : vx_J own cc nL ret ini d mc ms Post ad kc ks N Λ μ (pc + 1) (ls) (.inl v :: st)) : vx_J own cc nL ret ini d mc ms Post ad kc ks N Λ μ (pc) (ls) (.inl i :: vx_r a :: st) := by
  subst hv
  intro p l e s m args below meth c D dA A H locs LS hC hS hA hK hP hD hX hl
  exact va_iald hC.1 hC.2.1 hK hP a 0 (f := μ a) (n := n) (by rw [vx_W_at ha, hΛ]; rfl) rfl hi hd (k p l e s m args below meth c D dA A H locs LS hC hS hA hK hP hD hX hl)
theorem vx_zald {a n : Nat} {i v : Int32} (hd : decode cc pc = .ok (.baload, 1)) (ha : a < N) (hΛ : Λ a = .inr (1, n, none)) (hi : vp_in i n) (hv : μ a i.toNatClampNeg = v) (k : vx_J own cc nL ret ini d mc ms Post ad kc ks N Λ μ (pc + 1) (ls) (.inl v :: st)) : vx_J own cc nL ret ini d mc ms Post ad kc ks N Λ μ (pc) (ls) (.inl i :: vx_r a :: st) := by
  subst hv
  intro p l e s m args below meth c D dA A H locs LS hC hS hA hK hP hD hX hl
  exact va_zald hC.1 hC.2.1 hK hP a 1 (f := μ a) (n := n) (by rw [vx_W_at ha, hΛ]; rfl) rfl hi hd (k p l e s m args below meth c D dA A H locs LS hC hS hA hK hP hD hX hl)
theorem vx_iast {a n : Nat} {i x : Int32} (hd : decode cc pc = .ok (.iastore, 1)) (ha : a < N) (hΛ : Λ a = .inr (0, n, none)) (hi : vp_in i n) {μ2 : vx_mem} (hm : va_up μ a (upd (μ a) i.toNatClampNeg x) = μ2) (k : vx_J own cc nL ret ini d mc ms Post ad kc ks N Λ μ2 (pc + 1) (ls) (st)) : vx_J own cc nL ret ini d mc ms Post ad kc ks N Λ μ (pc) (ls) (.inl x :: .inl i :: vx_r a :: st) := by
  subst hm
  intro p l e s m args below meth c D dA A H locs LS hC hS hA hK hP hD hX hl
  refine va_iast hC.1 hC.2.1 hK hP hD hS a 0 (f := μ a) (n := n) (by rw [vx_W_at ha, hΛ]; rfl) rfl hi hd (fun H locs hP hD hS => ?_)
  have e1 : (vx_W dA ad N Λ μ).set a (ad a, .inl (dA 0, n, .inl (upd (μ a) i.toNatClampNeg x))) = vx_W dA ad N Λ (va_up μ a (upd (μ a) i.toNatClampNeg x)) := by
    have e2 := vx_W_set (dA := dA) (ad := ad) (N := N) (Λ := Λ) (μ := μ) (k := a) (κ := Λ a) (f := upd (μ a) i.toNatClampNeg x) ha
    rw [vx_up_id] at e2
    rw [← e2, hΛ]
    rfl
  rw [e1] at hP hD
  exact k p l e s m args below meth c D dA A H locs LS hC hS hA hK hP hD hX hl
theorem vx_zast {a n : Nat} {i x : Int32} (hd : decode cc pc = .ok (.bastore, 1)) (ha : a < N) (hΛ : Λ a = .inr (1, n, none)) (hi : vp_in i n) {μ2 : vx_mem} (hm : va_up μ a (upd (μ a) i.toNatClampNeg (vp_nar .boolean x)) = μ2) (k : vx_J own cc nL ret ini d mc ms Post ad kc ks N Λ μ2 (pc + 1) (ls) (st)) : vx_J own cc nL ret ini d mc ms Post ad kc ks N Λ μ (pc) (ls) (.inl x :: .inl i :: vx_r a :: st) := by
  subst hm
  intro p l e s m args below meth c D dA A H locs LS hC hS hA hK hP hD hX hl
  refine va_zast hC.1 hC.2.1 hK hP hD hS a 1 (f := μ a) (n := n) (by rw [vx_W_at ha, hΛ]; rfl) rfl hi hd (fun H locs hP hD hS => ?_)
  have e1 : (vx_W dA ad N Λ μ).set a (ad a, .inl (dA 1, n, .inl (upd (μ a) i.toNatClampNeg (vp_nar .boolean x)))) = vx_W dA ad N Λ (va_up μ a (upd (μ a) i.toNatClampNeg (vp_nar .boolean x))) := by
    have e2 := vx_W_set (dA := dA) (ad := ad) (N := N) (Λ := Λ) (μ := μ) (k := a) (κ := Λ a) (f := upd (μ a) i.toNatClampNeg (vp_nar .boolean x)) ha
    rw [vx_up_id] at e2
    rw [← e2, hΛ]
    rfl
  rw [e1] at hP hD
  exact k p l e s m args below meth c D dA A H locs LS hC hS hA hK hP hD hX hl
theorem vx_alen {a t n : Nat} {o : Option (List Nat)} {v : Int32} (hd : decode cc pc = .ok (.arraylength, 1)) (ha : a < N) (hΛ : Λ a = .inr (t, n, o)) (ht : t < 3) (hv : Int32.ofNat n = v) (k : vx_J own cc nL ret ini d mc ms Post ad kc ks N Λ μ (pc + 1) (ls) (.inl v :: st)) : vx_J own cc nL ret ini d mc ms Post ad kc ks N Λ μ (pc) (ls) (vx_r a :: st) := by
  intro p l e s m args below meth c D dA A H locs LS hC hS hA hK hP hD hX hl
  obtain ⟨ty, hty⟩ : ∃ ty, (vx_T dA)[t]? = some (dA t, ty) := by
    rcases (show t = 0 ∨ t = 1 ∨ t = 2 by omega) with rfl | rfl | rfl
    · exact ⟨_, rfl⟩
    · exact ⟨_, rfl⟩
    · exact ⟨_, rfl⟩
  cases o with
  | none => exact va_alen hC.1 hC.2.1 hK hP a t (x := (n, .inl (μ a))) (by rw [vx_W_at ha, hΛ]; rfl) hty hv hd (k p l e s m args below meth c D dA A H locs LS hC hS hA hK hP hD hX hl)
  | some g => exact va_alen hC.1 hC.2.1 hK hP a t (x := (n, .inr (.inr (.inr (.inr (fun i => (g[i]?).map ad)))))) (by rw [vx_W_at ha, hΛ]; rfl) hty hv hd (k p l e s m args below meth c D dA A H locs LS hC hS hA hK hP hD hX hl)
theorem vx_aald {a n r : Nat} {g : List Nat} {i : Int32} (hd : decode cc pc = .ok (.aaload, 1)) (ha : a < N) (hΛ : Λ a = .inr (2, n, some g)) (hi : vp_in i n) (hr : g[i.toNatClampNeg]? = some r) (k : vx_J own cc nL ret ini d mc ms Post ad kc ks N Λ μ (pc + 1) (ls) (vx_r r :: st)) : vx_J own cc nL ret ini d mc ms Post ad kc ks N Λ μ (pc) (ls) (.inl i :: vx_r a :: st) := by
  intro p l e s m args below meth c D dA A H locs LS hC hS hA hK hP hD hX hl
  have hc : H[ad a]? = some (vp_cell (dA 2) (n, .inr (.inr (.inr (.inr (fun i => (g[i]?).map ad)))))) := by
    have := hP a (ad a, _) (vx_W_at ha)
    rw [hΛ] at this
    exact this
  refine W.aald hC.1 hC.2.1 hc (by rw [vp_cell_q]; exact (hK.2 2 _ rfl).1 n _) rfl (by rw [vp_cell_q]; exact fun q => by cases q) (by rw [vp_cell_q, arrV_size]; exact hi) (v := .ref (ad r)) ?_ rfl rfl hd (k p l e s m args below meth c D dA A H locs LS hC hS hA hK hP hD hX hl)
  rw [vp_cell_q]
  have hlt : i.toNatClampNeg < n := by
    unfold vp_in at hi
    omega
  rw [arrV_read _ _ hlt, hr]
  rfl
/-- rows that nobody writes -/
theorem vx_ialdX {j : Nat} {i v : Int32} (hd : decode cc pc = .ok (.iaload, 1)) (hj : j < 3) (hi : vp_in i 6) (hv : (vx_sv j).getD i.toNatClampNeg 0 = v) (k : vx_J own cc nL ret ini d mc ms Post ad kc ks N Λ μ (pc + 1) (ls) (.inl v :: st)) : vx_J own cc nL ret ini d mc ms Post ad kc ks N Λ μ (pc) (ls) (.inl i :: vx_r (1200 + j) :: st) := by
  intro p l e s m args below meth c D dA A H locs LS hC hS hA hK hP hD hX hl
  exact va_ti hC.1 hC.2.1 (hX.2.1 j hj).2 hS hi (v := .int v) (by show Value.int _ = Value.int _; rw [hv]) hd (k p l e s m args below meth c D dA A H locs LS hC hS hA hK hP hD hX hl)
theorem vx_alenX {j : Nat} (hd : decode cc pc = .ok (.arraylength, 1)) (hj : j < 3) (k : vx_J own cc nL ret ini d mc ms Post ad kc ks N Λ μ (pc + 1) (ls) (.inl 6 :: st)) : vx_J own cc nL ret ini d mc ms Post ad kc ks N Λ μ (pc) (ls) (vx_r (1200 + j) :: st) := by
  intro p l e s m args below meth c D dA A H locs LS hC hS hA hK hP hD hX hl
  exact va_tlen hC.1 hC.2.1 (hX.2.1 j hj).2 hS (v := 6) rfl hd (k p l e s m args below meth c D dA A H locs LS hC hS hA hK hP hD hX hl)
theorem vx_getsX {j index : Nat} (hd : decode cc pc = .ok (.getstatic index, 3)) (hj : j < 3) (hlk : Cond.fieldLink own index "ThreshRound$Customs" (vx_sn j) "[I" ∈ vx_tbl) (k : vx_J own cc nL ret ini d mc ms Post ad kc ks N Λ μ (pc + 3) (ls) (vx_r (1200 + j) :: st)) : vx_J own cc nL ret ini d mc ms Post ad kc ks N Λ μ (pc) (ls) (st) := by
  intro p l e s m args below meth c D dA A H locs LS hC hS hA hK hP hD hX hl
  exact va_gets hC.1 hC.2.1 (hX.2.1 j hj).1 hS hC.2.2.2.2.1 (hC.2.2.2.2.2.1 _ hlk) (fun _ h9 => h9) hd (k p l e s m args below meth c D dA A H locs LS hC hS hA hK hP hD hX hl)

theorem vx_mmax {index : Nat} {x y : Int32} (hd : decode cc pc = .ok (.invokestatic index, 3)) (hlk : Cond.methodLink own index Lib.Math.max.name ∈ vx_tbl) (hd1 : 1 ≤ d) (hst : st.length ≤ 8) (h1 : kc ≤ mc) (h2 : ks ≤ ms) (k : vx_J own cc nL ret ini d mc ms Post ad kc ks N Λ μ (pc + 3) (ls) (.inl (if x < y then y else x) :: st)) : vx_J own cc nL ret ini d mc ms Post ad kc ks N Λ μ (pc) (ls) (.inl y :: .inl x :: st) := by
  intro p l e s m args below meth c D dA A H locs LS hC hS hA hK hP hD hX hl
  have hs : ((st.map (vx_V ad)).map fun v => v.category).sum ≤ 8 := by
    have e : ((st.map (vx_V ad)).map fun v => v.category) = List.replicate st.length 1 := by
      apply List.ext_getElem?
      intro i
      by_cases hi : i < st.length
      · simp [List.getElem?_replicate, hi, vx_V_cat]
      · simp [List.getElem?_replicate, hi]
    rw [e, List.sum_replicate_nat]
    omega
  exact va_mmax hC.1 hC.2.1 (hC.2.2.1.trans hl.1.symm) hC.2.2.2.2.1 (hC.2.2.2.2.2.1 _ hlk) (hC.2.2.2.2.2.1 (.static Lib.Math.max.name) (vx_w 573 (by decide +kernel) rfl)) (hC.2.2.2.2.2.1 (.initialized "java/lang/Math") (vx_w 59 (by decide +kernel) rfl)) (hC.2.2.2.2.2.1 (.code Lib.Math.max.name Lib.Math.max.code 2 (some .int)) (vx_w 574 (by decide +kernel) rfl)) hd1 (by show _ ≤ 64 * d; omega) h1 h2 hd (k p l e s m args below meth c D dA A H locs LS hC hS hA hK hP hD hX hl)
theorem vx_mmin {index : Nat} {x y : Int32} (hd : decode cc pc = .ok (.invokestatic index, 3)) (hlk : Cond.methodLink own index Lib.Math.min.name ∈ vx_tbl) (hd1 : 1 ≤ d) (hst : st.length ≤ 8) (h1 : kc ≤ mc) (h2 : ks ≤ ms) (k : vx_J own cc nL ret ini d mc ms Post ad kc ks N Λ μ (pc + 3) (ls) (.inl (if y < x then y else x) :: st)) : vx_J own cc nL ret ini d mc ms Post ad kc ks N Λ μ (pc) (ls) (.inl y :: .inl x :: st) := by
  intro p l e s m args below meth c D dA A H locs LS hC hS hA hK hP hD hX hl
  have hs : ((st.map (vx_V ad)).map fun v => v.category).sum ≤ 8 := by
    have e : ((st.map (vx_V ad)).map fun v => v.category) = List.replicate st.length 1 := by
      apply List.ext_getElem?
      intro i
      by_cases hi : i < st.length
      · simp [List.getElem?_replicate, hi, vx_V_cat]
      · simp [List.getElem?_replicate, hi]
    rw [e, List.sum_replicate_nat]
    omega
  exact va_mmin hC.1 hC.2.1 (hC.2.2.1.trans hl.1.symm) hC.2.2.2.2.1 (hC.2.2.2.2.2.1 _ hlk) (hC.2.2.2.2.2.1 (.static Lib.Math.min.name) (vx_w 490 (by decide +kernel) rfl)) (hC.2.2.2.2.2.1 (.initialized "java/lang/Math") (vx_w 59 (by decide +kernel) rfl)) (hC.2.2.2.2.2.1 (.code Lib.Math.min.name Lib.Math.min.code 2 (some .int)) (vx_w 491 (by decide +kernel) rfl)) hd1 (by show _ ≤ 64 * d; omega) h1 h2 hd (k p l e s m args below meth c D dA A H locs LS hC hS hA hK hP hD hX hl)
end
