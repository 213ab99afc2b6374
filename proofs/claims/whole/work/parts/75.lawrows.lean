section
/-- what the law's walk rests on -/
def vl_C (p : Program) (s : State) (m : MethodId) (meth : Method) (c : Code) (D : va_G) (dA : Nat → ClassId) (b L : Nat) (xs : Nat → Int32) : Prop :=
  p.tables.exec = Jvm.exec ∧ c.code = code ∧ c.maxLocals = 4 ∧ s.vm.findClass R_law = some m.cls ∧ (∀ w ∈ vx_tbl, w.before #[Value.ref b] s = true) ∧ meth.sig.returnType = ret ∧ meth.locks = false ∧ va_K D vwCl (vx_T dA) s ∧ va_X b L xs s s.heap ∧ b < s.heap.size
abbrev vl_A (s : State) : Nat → Prop := fun q => s.heap.size ≤ q
/-- from here the law comes to its end, with true -/
def vl_J (p : Program) (l : Launch) (e : Env) (s : State) (m : MethodId) (below : List Frame) (meth : Method) (c : Code) (D : va_G) (dA : Nat → ClassId) (b : Nat) (ad : Nat → Nat) (kc ks N : Nat) (Λ : vx_L) (μ : vx_mem) (pc : Nat) (ls : List (Nat × vx_v)) (st : List vx_v) : Prop :=
  ∀ (H : Heap) (locs : List Loc) (LS : Array Slot), va_S (vl_A s) s.heap H locs → va_P D vwCl (vx_W dA ad N Λ μ) H → va_D (vl_A s) (vx_W dA ad N Λ μ) → vx_X ad (vl_A s) s s.heap → lv_has LS 4 (ls.map (fun q => (q.1, vx_V ad q.2))) →
    W p l e room_1 s m #[Value.ref b] below meth c H locs kc ks (lw_Z below #[Value.ref b] s) (F0 m pc LS (st.map (vx_V ad)))
variable {p : Program} {l : Launch} {e : Env} {s : State} {m : MethodId} {below : List Frame} {meth : Method} {c : Code} {D : va_G} {dA : Nat → ClassId} {b L : Nat} {xs : Nat → Int32} {ad : Nat → Nat} {kc ks N : Nat} {Λ : vx_L} {μ : vx_mem} {pc : Nat} {ls : List (Nat × vx_v)} {st : List vx_v}

theorem vl_iconst (hC : vl_C p s m meth c D dA b L xs) {n : Int} {v : Int32} (hd : decode code pc = .ok (.iconst n, 1)) (hv : Int32.ofInt n = v) (k : vl_J p l e s m below meth c D dA b ad kc ks N Λ μ (pc + 1) (ls) (.inl v :: st)) : vl_J p l e s m below meth c D dA b ad kc ks N Λ μ pc ls (st) := by
  intro H locs LS hS hP hD hX hl
  exact lv_iconst hC.1 hC.2.1 hd hv (k H locs LS hS hP hD hX hl)
theorem vl_bipush (hC : vl_C p s m meth c D dA b L xs) {n : Int} {v : Int32} (hd : decode code pc = .ok (.bipush n, 2)) (hv : (Int8.ofInt n).toInt32 = v) (k : vl_J p l e s m below meth c D dA b ad kc ks N Λ μ (pc + 2) (ls) (.inl v :: st)) : vl_J p l e s m below meth c D dA b ad kc ks N Λ μ pc ls (st) := by
  intro H locs LS hS hP hD hX hl
  exact lv_bipush hC.1 hC.2.1 hd hv (k H locs LS hS hP hD hX hl)
theorem vl_iload_n (hC : vl_C p s m meth c D dA b L xs) {q : Fin 4} {x : Int32} (hd : decode code pc = .ok (.iload_n q, 1)) (h : vx_lk ls q = some (.inl x)) (k : vl_J p l e s m below meth c D dA b ad kc ks N Λ μ (pc + 1) (ls) (.inl x :: st)) : vl_J p l e s m below meth c D dA b ad kc ks N Λ μ pc ls (st) := by
  intro H locs LS hS hP hD hX hl
  exact lv_iload_n hC.1 hC.2.1 hd rfl (vx_at hl h) (k H locs LS hS hP hD hX hl)
theorem vl_aload_n (hC : vl_C p s m meth c D dA b L xs) {q : Fin 4} {x : Nat} (hd : decode code pc = .ok (.aload_n q, 1)) (h : vx_lk ls q = some (vx_r x)) (k : vl_J p l e s m below meth c D dA b ad kc ks N Λ μ (pc + 1) (ls) (vx_r x :: st)) : vl_J p l e s m below meth c D dA b ad kc ks N Λ μ pc ls (st) := by
  intro H locs LS hS hP hD hX hl
  exact lv_aload_n hC.1 hC.2.1 hd rfl (vx_at hl h) (k H locs LS hS hP hD hX hl)
theorem vl_istore_n (hC : vl_C p s m meth c D dA b L xs) {q : Fin 4} {x : Int32} {ls2 : List (Nat × vx_v)} (hd : decode code pc = .ok (.istore_n q, 1)) (hn : (q : Nat) < 4) (h : vx_se ls q (.inl x) = ls2) (k : vl_J p l e s m below meth c D dA b ad kc ks N Λ μ (pc + 1) (ls2) (st)) : vl_J p l e s m below meth c D dA b ad kc ks N Λ μ pc ls (.inl x :: st) := by
  subst h
  intro H locs LS hS hP hD hX hl
  exact lv_istore_n hC.1 hC.2.1 hd rfl hl hn (vx_se_eq ad ls q (.inl x)) (fun LS hl => k H locs LS hS hP hD hX hl)
theorem vl_astore_n (hC : vl_C p s m meth c D dA b L xs) {q : Fin 4} {x : Nat} {ls2 : List (Nat × vx_v)} (hd : decode code pc = .ok (.astore_n q, 1)) (hn : (q : Nat) < 4) (h : vx_se ls q (vx_r x) = ls2) (k : vl_J p l e s m below meth c D dA b ad kc ks N Λ μ (pc + 1) (ls2) (st)) : vl_J p l e s m below meth c D dA b ad kc ks N Λ μ pc ls (vx_r x :: st) := by
  subst h
  intro H locs LS hS hP hD hX hl
  exact lv_astore_n hC.1 hC.2.1 hd rfl hl hn (vx_se_eq ad ls q (vx_r x)) (fun LS hl => k H locs LS hS hP hD hX hl)
theorem vl_iinc (hC : vl_C p s m meth c D dA b L xs) {i : Nat} {n : Int} {x v : Int32} {ls2 : List (Nat × vx_v)} (hd : decode code pc = .ok (.iinc i n, 3)) (hk : vx_lk ls i = some (.inl x)) (hv : x + Int32.ofInt n = v) (hn : i < 4) (h : vx_se ls i (.inl v) = ls2) (k : vl_J p l e s m below meth c D dA b ad kc ks N Λ μ (pc + 3) ls2 st) : vl_J p l e s m below meth c D dA b ad kc ks N Λ μ pc ls st := by
  subst h
  intro H locs LS hS hP hD hX hl
  obtain ⟨j, hj⟩ := List.getElem?_of_mem (List.mem_map.mpr ⟨(i, .inl x), vx_lk_mem hk, rfl⟩ : (i, vx_V ad (.inl x)) ∈ ls.map (fun q => (q.1, vx_V ad q.2)))
  exact lv_iinc (k := j) (x := x) (v := v) hC.1 hC.2.1 hd hl hj hv hn (vx_se_eq ad ls i (.inl v)) (fun LS hl => k H locs LS hS hP hD hX hl)
theorem vl_iadd (hC : vl_C p s m meth c D dA b L xs) {x y : Int32} (hd : decode code pc = .ok (.iadd, 1)) (k : vl_J p l e s m below meth c D dA b ad kc ks N Λ μ (pc + 1) (ls) (.inl (x + y) :: st)) : vl_J p l e s m below meth c D dA b ad kc ks N Λ μ pc ls (.inl y :: .inl x :: st) := by
  intro H locs LS hS hP hD hX hl
  exact lv_iadd hC.1 hC.2.1 hd (k H locs LS hS hP hD hX hl)
theorem vl_isub (hC : vl_C p s m meth c D dA b L xs) {x y : Int32} (hd : decode code pc = .ok (.isub, 1)) (k : vl_J p l e s m below meth c D dA b ad kc ks N Λ μ (pc + 1) (ls) (.inl (x - y) :: st)) : vl_J p l e s m below meth c D dA b ad kc ks N Λ μ pc ls (.inl y :: .inl x :: st) := by
  intro H locs LS hS hP hD hX hl
  exact lv_isub hC.1 hC.2.1 hd (k H locs LS hS hP hD hX hl)
theorem vl_iand (hC : vl_C p s m meth c D dA b L xs) {x y : Int32} (hd : decode code pc = .ok (.iand, 1)) (k : vl_J p l e s m below meth c D dA b ad kc ks N Λ μ (pc + 1) (ls) (.inl (x &&& y) :: st)) : vl_J p l e s m below meth c D dA b ad kc ks N Λ μ pc ls (.inl y :: .inl x :: st) := by
  intro H locs LS hS hP hD hX hl
  exact lv_iand hC.1 hC.2.1 hd (k H locs LS hS hP hD hX hl)
theorem vl_goto (hC : vl_C p s m meth c D dA b L xs) {off : Int} {tgt : Nat} (hd : decode code pc = .ok (.goto off, 3)) (ht : (pc : Int) + off = (tgt : Int)) (k : vl_J p l e s m below meth c D dA b ad kc ks N Λ μ (tgt) (ls) (st)) : vl_J p l e s m below meth c D dA b ad kc ks N Λ μ pc ls (st) := by
  intro H locs LS hS hP hD hX hl
  exact lv_goto hC.1 hC.2.1 hd ht (k H locs LS hS hP hD hX hl)
theorem vl_tabIn (hC : vl_C p s m meth c D dA b L xs) {dflt lo hi : Int} {offs : Array Int} {len : Nat} {x : Int32} {off : Int} {tgt : Nat} (hd : decode code pc = .ok (.tableswitch dflt lo hi offs, len)) (h1 : ¬ x.toInt < lo) (h2 : ¬ hi < x.toInt) (ho : offs[(x.toInt - lo).toNat]? = some off) (ht : (pc : Int) + off = (tgt : Int)) (k : vl_J p l e s m below meth c D dA b ad kc ks N Λ μ (tgt) (ls) (st)) : vl_J p l e s m below meth c D dA b ad kc ks N Λ μ pc ls (.inl x :: st) := by
  intro H locs LS hS hP hD hX hl
  exact lv_tableIn hC.1 hC.2.1 hd h1 h2 ho ht (k H locs LS hS hP hD hX hl)
theorem vl_tabOut (hC : vl_C p s m meth c D dA b L xs) {dflt lo hi : Int} {offs : Array Int} {len : Nat} {x : Int32} {tgt : Nat} (hd : decode code pc = .ok (.tableswitch dflt lo hi offs, len)) (h : x.toInt < lo ∨ hi < x.toInt) (ht : (pc : Int) + dflt = (tgt : Int)) (k : vl_J p l e s m below meth c D dA b ad kc ks N Λ μ (tgt) (ls) (st)) : vl_J p l e s m below meth c D dA b ad kc ks N Λ μ pc ls (.inl x :: st) := by
  intro H locs LS hS hP hD hX hl
  exact lv_tableOut hC.1 hC.2.1 hd h ht (k H locs LS hS hP hD hX hl)
theorem vl_icmp_eqT (hC : vl_C p s m meth c D dA b L xs) {x : Int32} {off : Int} {tgt : Nat} (hd : decode code pc = .ok (.if_icmp .eq off, 3)) (ht : (pc : Int) + off = (tgt : Int)) (k : vl_J p l e s m below meth c D dA b ad kc ks N Λ μ tgt ls st) : vl_J p l e s m below meth c D dA b ad kc ks N Λ μ pc ls (.inl x :: .inl x :: st) := by
  intro H locs LS hS hP hD hX hl
  exact lv_icmp_eq hC.1 hC.2.1 hd ht (fun _ => k H locs LS hS hP hD hX hl) (fun h => absurd rfl h)
theorem vl_icmp_gt (hC : vl_C p s m meth c D dA b L xs) {x y : Int32} {off : Int} {tgt : Nat} (hd : decode code pc = .ok (.if_icmp .gt off, 3)) (ht : (pc : Int) + off = (tgt : Int)) (kt : y < x → vl_J p l e s m below meth c D dA b ad kc ks N Λ μ tgt ls st) (kf : ¬ y < x → vl_J p l e s m below meth c D dA b ad kc ks N Λ μ (pc + 3) ls st) : vl_J p l e s m below meth c D dA b ad kc ks N Λ μ pc ls (.inl y :: .inl x :: st) := by
  intro H locs LS hS hP hD hX hl
  exact lv_icmp_gt hC.1 hC.2.1 hd ht (fun h => kt h H locs LS hS hP hD hX hl) (fun h => kf h H locs LS hS hP hD hX hl)
theorem vl_dup (hC : vl_C p s m meth c D dA b L xs) {v : vx_v} (hd : decode code pc = .ok (.dup, 1)) (k : vl_J p l e s m below meth c D dA b ad kc ks N Λ μ (pc + 1) ls (v :: v :: st)) : vl_J p l e s m below meth c D dA b ad kc ks N Λ μ pc ls (v :: st) := by
  intro H locs LS hS hP hD hX hl
  exact lv_dup hC.1 hC.2.1 hd (vx_V_cat ad v) (k H locs LS hS hP hD hX hl)
theorem vl_slen (hC : vl_C p s m meth c D dA b L xs) (hB : ad 1400 = b) (hd : decode code pc = .ok (.arraylength, 1)) (k : vl_J p l e s m below meth c D dA b ad kc ks N Λ μ (pc + 1) ls (.inl (nI L) :: st)) : vl_J p l e s m below meth c D dA b ad kc ks N Λ μ pc ls (vx_r 1400 :: st) := by
  intro H locs LS hS hP hD hX hl
  have hbA : ¬ vl_A s b := Nat.not_le.mpr hC.2.2.2.2.2.2.2.2.2
  have e1 : vx_V ad (vx_r 1400) = .ref b := by show va_rf (some (ad 1400)) = _; rw [hB]; rfl
  rw [List.map_cons, e1]
  exact va_slen hC.1 hC.2.1 hC.2.2.2.2.2.2.2.2.1 hC.2.2.2.2.2.2.2.2.2 hbA hS hd (k H locs LS hS hP hD hX hl)
theorem vl_sld (hC : vl_C p s m meth c D dA b L xs) (hB : ad 1400 = b) {i v : Int32} (hd : decode code pc = .ok (.iaload, 1)) (hi : vp_in i L) (hv : xs i.toNatClampNeg = v) (k : vl_J p l e s m below meth c D dA b ad kc ks N Λ μ (pc + 1) ls (.inl v :: st)) : vl_J p l e s m below meth c D dA b ad kc ks N Λ μ pc ls (.inl i :: vx_r 1400 :: st) := by
  subst hv
  intro H locs LS hS hP hD hX hl
  have hbA : ¬ vl_A s b := Nat.not_le.mpr hC.2.2.2.2.2.2.2.2.2
  have e1 : vx_V ad (vx_r 1400) = .ref b := by show va_rf (some (ad 1400)) = _; rw [hB]; rfl
  rw [List.map_cons, List.map_cons, e1]
  exact va_sld hC.1 hC.2.1 hC.2.2.2.2.2.2.2.2.1 hC.2.2.2.2.2.2.2.2.2 hbA hS hi hd (k H locs LS hS hP hD hX hl)
theorem vl_ret1 (hC : vl_C p s m meth c D dA b L xs) (hd : decode code pc = .ok (.ireturn, 1)) (h1 : kc ≤ 600000) (h2 : ks ≤ 7302250) : vl_J p l e s m below meth c D dA b ad kc ks N Λ μ pc ls [.inl 1] := by
  intro H locs LS hS hP hD hX hl
  refine va_forget (fun q hq => hS.2.2 q hq) ?_
  refine W.widen (k := 600000) (n := 7302250) h1 h2 ?_
  exact lw_ret hC.1 hC.2.1 hC.2.2.2.2.2.1 hC.2.2.2.2.2.2.1 hd
theorem vl_eq {μ2 : vx_mem} {ls2 : List (Nat × vx_v)} {st2 : List vx_v} (h1 : μ = μ2) (h2 : ls = ls2) (h3 : st = st2) (k : vl_J p l e s m below meth c D dA b ad kc ks N Λ μ2 pc ls2 st2) : vl_J p l e s m below meth c D dA b ad kc ks N Λ μ pc ls st := by
  subst h1; subst h2; subst h3; exact k
theorem vl_locs {ls2 : List (Nat × vx_v)} (h : vx_all ls ls2) (k : vl_J p l e s m below meth c D dA b ad kc ks N Λ μ pc ls2 st) : vl_J p l e s m below meth c D dA b ad kc ks N Λ μ pc ls st := by
  intro H locs LS hS hP hD hX hl
  refine k H locs LS hS hP hD hX ⟨hl.1, hl.2.1, fun q hq => ?_⟩
  obtain ⟨⟨i, v⟩, hx, rfl⟩ := List.mem_map.mp hq
  exact vx_at hl (vx_all_at h i v hx)
variable {y : MethodName} {cc2 : ByteArray} {nL2 : Nat} {ret2 : Option FieldType} {d2 mc2 ms2 index : Nat} {vs : List vx_v}
theorem vl_room (hl : d2 ≤ 1000) (hnl : nL2 ≤ 45) : d2 + 1 ≤ room_1.frames ∧ 8 + (nL2 + 11) + 64 * d2 ≤ room_1.locals := by
  refine ⟨?_, ?_⟩
  · show d2 + 1 ≤ 2048
    omega
  · show 8 + (nL2 + 11) + 64 * d2 ≤ 84000
    omega
theorem vl_callV {bb ci nn : Nat} {fr : List (Option (Option Nat))} {C : String} {T : u_T} {r0 : Option vx_v} {μ0 : vx_mem} (hC : vl_C p s m meth c D dA b L xs) (hd : decode code pc = .ok (.invokevirtual index, 3)) (hM : vx_Mf y cc2 nL2 ret2 d2 ad N Λ μ (vx_r bb :: vs) r0 μ0) (hl : Cond.methodLink R_law index y ∈ vx_tbl) (hc : Cond.code y cc2 nL2 ret2 ∈ vx_tbl) (hn : Cond.initialized y.cls ∈ vx_tbl) (hy : y.cls ≠ "java/lang/invoke/MethodHandle" ∧ y.cls ≠ "java/lang/invoke/VarHandle" ∧ (parseMethodDescriptor y.desc).map (fun d => d.parameters.length) = some vs.length) (hi : Cond.instanceMethod y ∈ vx_tbl) (hs : Cond.selects y.cls y y ∈ vx_tbl) (hb : bb < N) (hΛ : Λ bb = .inl (ci, fr)) (hcl : vwCl[ci]? = some (C, T, nn)) (hC9 : C = y.cls) (hd2 : d2 ≤ 1000) (hnl : nL2 ≤ 45) (hst : st.length ≤ 8) (hmc : kc ≤ 600000) (hms : ks ≤ 7302250)
    (kk : vl_J p l e s m below meth c D dA b ad kc ks N Λ μ0 (pc + 3) ls (r0.toList ++ st)) : vl_J p l e s m below meth c D dA b ad kc ks N Λ μ pc ls (vs.reverse ++ vx_r bb :: st) := by
  intro H locs LS hS hP hD hX hl'
  subst hC9
  have hts : ∀ w ∈ vx_tbl, w.before #[Value.ref b] s = true := hC.2.2.2.2.1
  have hK := hC.2.2.2.2.2.2.2.1
  have hA : ∀ q : Nat, s.heap.size ≤ q → vl_A s q := fun _ h => h
  have hs8 := vx_cat ad st
  have hrun := va_runV (As := vs.map (vx_V ad)) (rest := st.map (vx_V ad)) (g := F0 m pc LS ((vs.reverse ++ vx_r bb :: st).map (vx_V ad))) (locs := locs) (cells := kc) (slots := ks) (below := below) (e := e) (meth := meth) (l := l) (R := room_1) ⟨hC.1, hC.2.1, hC.2.2.1, hC.2.2.2.1, hts⟩ (hM l D dA H.size) ⟨callB_of (n := vs.length) (rm := vx_R d2 0 0) (R := room_1) hts (vx_good hc) rfl rfl rfl (hts _ hn) (hts _ hl) hy (vl_room hd2 hnl), hts _ hi, hts _ hs⟩ ⟨vx_blind, va_recv hK hP hcl (q0 := bb) (by rw [vx_W_at hb, hΛ]; rfl), vx_pre (vs := vx_r bb :: vs) hS hA hK hP hD hX⟩ rfl (by rw [List.length_map]) hl'.1 (by simp [List.map_append, List.map_reverse, vx_V, va_rf]) (lv_room (by rw [hs8]; exact hst)) hd ⟨hmc, hms⟩
  refine vx_after hrun hS (fun q _ h => vx_sub_A (D := D) hS hA hD q h) (fun q h => vx_sub_A (D := D) hS hA hD q h) (fun r ad' N' Λ' μ' H1 locs1 hp hP1 hD1 hS1 => ?_)
  obtain ⟨rfl, rfl, rfl, rfl, rfl⟩ := hp
  have hw := kk H1 locs1 LS hS1 hP1 (hD1.weaken (fun k q _ h => vx_sub_A (D := D) hS hA hD q.1 h)) hX hl'
  have e1 : (r.toList ++ st).map (vx_V ad') = (r.map (vx_V ad')).toList ++ st.map (vx_V ad') := by
    rw [List.map_append]
    cases r <;> rfl
  rw [e1] at hw
  exact hw
theorem vl_callI {bb : Nat} {P : vx_P} (hC : vl_C p s m meth c D dA b L xs) (hd : decode code pc = .ok (.invokespecial index, 3)) (hM : vx_M y cc2 nL2 none d2 mc2 ms2 ad N Λ μ (vx_r bb :: vs) P) (hl : Cond.methodLink R_law index y ∈ vx_tbl) (hc : Cond.code y cc2 nL2 none ∈ vx_tbl) (hn : Cond.initialized y.cls ∈ vx_tbl) (hy : y.cls ≠ "java/lang/invoke/MethodHandle" ∧ y.cls ≠ "java/lang/invoke/VarHandle" ∧ (parseMethodDescriptor y.desc).map (fun d => d.parameters.length) = some vs.length) (hi : Cond.instanceMethod y ∈ vx_tbl) (hin : y.name = "<init>") (hd2 : d2 ≤ 1000) (hnl : nL2 ≤ 45) (hst : st.length ≤ 8) (hmc : kc + mc2 ≤ 600000) (hms : ks + ms2 ≤ 7302250)
    (kk : ∀ (r : Option vx_v) (ad' : Nat → Nat) (N' : Nat) (Λ' : vx_L) (μ' : vx_mem), P r ad' N' Λ' μ' → vx_al ad ad' ls st ∧ vl_J p l e s m below meth c D dA b ad' (kc + mc2) (ks + ms2) N' Λ' μ' (pc + 3) ls (r.toList ++ st)) : vl_J p l e s m below meth c D dA b ad kc ks N Λ μ pc ls (vs.reverse ++ vx_r bb :: st) := by
  intro H locs LS hS hP hD hX hl'
  have hts : ∀ w ∈ vx_tbl, w.before #[Value.ref b] s = true := hC.2.2.2.2.1
  have hK := hC.2.2.2.2.2.2.2.1
  have hA : ∀ q : Nat, s.heap.size ≤ q → vl_A s q := fun _ h => h
  have hs8 := vx_cat ad st
  have hrun := va_runI (As := vs.map (vx_V ad)) (rest := st.map (vx_V ad)) (g := F0 m pc LS ((vs.reverse ++ vx_r bb :: st).map (vx_V ad))) (locs := locs) (cells := kc) (slots := ks) (below := below) (e := e) (meth := meth) (l := l) (R := room_1) ⟨hC.1, hC.2.1, hC.2.2.1, hC.2.2.2.1, hts⟩ (hM l D dA H.size) ⟨callB_of (n := vs.length) (rm := vx_R d2 mc2 ms2) (R := room_1) hts (vx_good hc) rfl rfl rfl (hts _ hn) (hts _ hl) hy (vl_room hd2 hnl), hin, hts _ hi⟩ ⟨vx_blind, vx_pre (vs := vx_r bb :: vs) hS hA hK hP hD hX⟩ rfl (by rw [List.length_map]) hl'.1 (by simp [List.map_append, List.map_reverse, vx_V, va_rf]) (lv_room (by rw [hs8]; exact hst)) hd ⟨hmc, hms⟩
  refine vx_after hrun hS (fun q _ h => vx_sub_A (D := D) hS hA hD q h) (fun q h => vx_sub_A (D := D) hS hA hD q h) (fun r ad' N' Λ' μ' H1 locs1 hp hP1 hD1 hS1 => ?_)
  obtain ⟨hal, hk⟩ := kk r ad' N' Λ' μ' hp
  have hl2 : lv_has LS 4 (ls.map (fun q => (q.1, vx_V ad' q.2))) := by rw [hal.l]; exact hl'
  have hw := hk H1 locs1 LS hS1 hP1 (hD1.weaken (fun k q _ h => vx_sub_A (D := D) hS hA hD q.1 h)) (hX.ad hal.2.2) hl2
  have e1 : (r.toList ++ st).map (vx_V ad') = (r.map (vx_V ad')).toList ++ st.map (vx_V ad) := by
    rw [List.map_append, hal.s]
    cases r <;> rfl
  rw [e1] at hw
  exact hw
theorem vl_new {C : String} {T : u_T} {n ci : Nat} {fr : List (Option (Option Nat))} (ty0 : Nat → FieldType) (hC : vl_C p s m meth c D dA b L xs) (hd : decode code pc = .ok (.new index, 3)) (hc : vwCl[ci]? = some (C, T, n)) (hin : ∀ w ∈ u_ws C T n, w ∈ vx_tbl) (hty : ∀ k, k < n → parseFieldDescriptor (T k).2.2.1 = some (ty0 k)) (hcl : Cond.classLink R_law index C ∈ vx_tbl) (hinst : Cond.instantiable C n ∈ vx_tbl) (hini : Cond.initialized C ∈ vx_tbl) (hfr : ∀ j, j < n → fr[j]? = some none ∧ defaultValue (ty0 j) = .int 0 ∨ fr[j]? = some (some none) ∧ defaultValue (ty0 j) = .null) (hmu : μ N = fun _ => 0) (hN : N + 1 ≤ 1000) (hok : vx_okN N Λ = true) (hls : vx_fars N (N + 1) ls st = true) (hmc : kc + 1 ≤ 600000) (hms : ks + n ≤ 7302250) (hok2 : vx_ok N (.inl (ci, fr)) = true)
    (kk : ∀ ad' : Nat → Nat, (∀ k, k < N ∨ N + 1 ≤ k → ad' k = ad k) → vl_J p l e s m below meth c D dA b ad' (kc + 1) (ks + n) (N + 1) (va_up Λ N (.inl (ci, fr))) μ (pc + 3) ls (vx_r N :: st)) : vl_J p l e s m below meth c D dA b ad kc ks N Λ μ pc ls st := by
  intro H locs LS hS hP hD hX hl
  have hts : ∀ w ∈ vx_tbl, w.before #[Value.ref b] s = true := hC.2.2.2.2.1
  have hK := hC.2.2.2.2.2.2.2.1
  have hA : ∀ q : Nat, s.heap.size ≤ q → vl_A s q := fun _ h => h
  have hfs : ∀ j, j < n → defaultValue (ty0 j) = vp_V (vx_fs ad fr (fun _ => 0)) j := by
    intro j hj
    unfold vp_V
    rw [List.getD_eq_getElem?_getD]
    rcases hfr j hj with ⟨a1, a2⟩ | ⟨a1, a2⟩
    · rw [vx_fs_at a1, a2]; rfl
    · rw [vx_fs_at a1, a2]; rfl
  refine va_new (D := D) (ci := ci) (fs := vx_fs ad fr (fun _ => 0)) (N := n) hC.1 hC.2.1 hts hin ty0 hty hC.2.2.2.1 (hts _ hcl) (hts _ hinst) (hts _ hini) hK hP hD hS hA hc hfs hmc hms hd (fun q H1 hP1 hD1 hS1 => ?_)
  have e1 : vx_W dA ad N Λ μ ++ [(q, .inr (ci, vx_fs ad fr (fun _ => 0)))] = vx_W dA (va_up ad N q) (N + 1) (va_up Λ N (.inl (ci, fr))) (va_up μ N (fun _ => 0)) := vx_W_push (κ := .inl (ci, fr)) hok hok2
  rw [e1, ← hmu, vx_up_id] at hP1 hD1
  have had : ∀ k, k < N ∨ N + 1 ≤ k → va_up ad N q k = ad k := fun k hk => vx_up_ne (by omega)
  have hal := vx_fars_al (ls := ls) (st := st) had hN hls
  have hw := kk (va_up ad N q) had H1 locs LS hS1 hP1 hD1 (hX.ad hal.2.2) (by rw [hal.l]; exact hl)
  have e2 : (vx_r N :: st).map (vx_V (va_up ad N q)) = .ref q :: st.map (vx_V ad) := by
    rw [List.map_cons, hal.s]
    show va_rf (some (va_up ad N q N)) :: _ = _
    rw [vx_up_eq]
    rfl
  rw [e2] at hw
  exact hw
end
