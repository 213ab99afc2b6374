section
variable {own : String} {cc : ByteArray} {nL : Nat} {ret : Option FieldType} {ini : Bool} {d mc ms : Nat} {Post : vx_P} {ad : Nat → Nat} {kc ks N : Nat} {Λ : vx_L} {μ : vx_mem} {pc : Nat} {ls : List (Nat × vx_v)} {st : List vx_v}
theorem vx_cat (ad : Nat → Nat) (st : List vx_v) : (((st.map (vx_V ad)).map fun v => v.category).sum) = st.length := by
  have e : ((st.map (vx_V ad)).map fun v => v.category) = List.replicate st.length 1 := by
    apply List.ext_getElem?
    intro i
    by_cases hi : i < st.length
    · simp [List.getElem?_replicate, hi, vx_V_cat]
    · simp [List.getElem?_replicate, hi]
  rw [e, List.sum_replicate_nat]
  omega
theorem vx_sub_A {D : va_G} {dA : Nat → ClassId} {ad : Nat → Nat} {N : Nat} {Λ : vx_L} {μ : vx_mem} {A : Nat → Prop} {H0 H : Heap} {locs : List Loc} (hS : va_S A H0 H locs) (hA : ∀ q : Nat, H0.size ≤ q → A q) (hD : va_D A (vx_W dA ad N Λ μ)) : ∀ q, va_A (vx_W dA ad N Λ μ) H.size q → A q := by
  intro q h
  rcases h with ⟨k, e, h⟩ | h
  · exact hD.2 k _ h
  · exact hA q (Nat.le_trans hS.1 h)
theorem vx_blind {D : va_G} {dA : Nat → ClassId} {vs : List Value} {sz : Nat} {ws : va_W} {ad : Nat → Nat} : FrameBlind (va_Pc vs (fun U => U.heap.size = sz ∧ va_P D vwCl ws U.heap ∧ va_K D vwCl (vx_T dA) U ∧ va_D (fun _ => True) ws ∧ vx_X ad (va_A ws sz) U U.heap)) :=
  fun a U g mk q => by
    obtain ⟨q0, q1, qP, qK, qD, qX⟩ := q
    exact ⟨q0, q1, qP, va_K.moved (u := U) (U := U.calling g mk a) (Vm.Alike.refl U.vm) qK, qD, vx_X.same (s := U) (U := U.calling g mk a) rfl qX⟩
theorem vx_pre {s : State} {D : va_G} {dA : Nat → ClassId} {ad : Nat → Nat} {N : Nat} {Λ : vx_L} {μ : vx_mem} {A : Nat → Prop} {H : Heap} {locs : List Loc} {vs : List vx_v} (hS : va_S A s.heap H locs) (hA : ∀ q : Nat, s.heap.size ≤ q → A q) (hK : va_K D vwCl (vx_T dA) s) (hP : va_P D vwCl (vx_W dA ad N Λ μ) H) (hD : va_D A (vx_W dA ad N Λ μ)) (hX : vx_X ad A s s.heap) :
    ∀ U : State, U.heap = H → s.WarmedH U.vm → va_Pc (vs.map (vx_V ad)) (fun U => U.heap.size = H.size ∧ va_P D vwCl (vx_W dA ad N Λ μ) U.heap ∧ va_K D vwCl (vx_T dA) U ∧ va_D (fun _ => True) (vx_W dA ad N Λ μ) ∧ vx_X ad (va_A (vx_W dA ad N Λ μ) H.size) U U.heap) (vs.map (vx_V ad)).toArray U := by
  intro U hU hW
  refine ⟨rfl, by rw [hU], by rw [hU]; exact hP, va_K.moved hW.alike hK, hD.weaken (fun _ _ _ _ => trivial), ?_⟩
  rw [hU]
  exact ((hX.kept hS.2.1).narrow (vx_sub_A (D := D) hS hA hD)).warm hW
/-- behind a call -/
theorem vx_after {p : Program} {l : Launch} {e : Env} {R : Room} {s : State} {m : MethodId} {args : Array Value} {below : List Frame} {meth : Method} {c : Code} {H : Heap} {locs : List Loc} {kc ks mc2 ms2 : Nat} {Q : State → Prop} {D : va_G} {dA : Nat → ClassId} {A A1 : Nat → Prop} {P : vx_P} {a : Array Value} {free : Addr → Prop} {LS : Array Slot} {st0 rest : List Value}
    (hr : va_Run p l e R s m args below meth c H locs kc ks mc2 ms2 (F0 m pc LS st0) rest (vx_Q D dA A1 P a) free) (hS : va_S A s.heap H locs) (hA : ∀ q, q < H.size → A1 q → A q) (hf : ∀ q, free q → A q)
    (kk : ∀ (r : Option vx_v) (ad' : Nat → Nat) (N' : Nat) (Λ' : vx_L) (μ' : vx_mem) (H1 : Heap) (locs1 : List Loc), P r ad' N' Λ' μ' → va_P D vwCl (vx_W dA ad' N' Λ' μ') H1 → va_D A1 (vx_W dA ad' N' Λ' μ') → va_S A s.heap H1 locs1 → W p l e R s m args below meth c H1 locs1 (kc + mc2) (ks + ms2) Q (F0 m (pc + 3) LS ((r.map (vx_V ad')).toList ++ rest))) : W p l e R s m args below meth c H locs kc ks Q (F0 m pc LS st0) := by
  intro T hT X
  obtain ⟨v, st₀, t, T', L, h0, X', hL, e1, e2, ⟨⟨r, ad', N', Λ', μ', hv, hp, hP1, hK1, hD1⟩, hz, hk⟩, hst⟩ := hr T hT X
  cases hv
  rw [h0] at hz hk
  rw [← e1] at hP1
  obtain ⟨t2, a1, b1⟩ := kk r ad' N' Λ' μ' T'.heap (locs ++ L) hp hP1 hD1
    ⟨Nat.le_trans hS.1 (by rw [e1]; exact hz), fun q h1 h2 => by rw [e1, hk q (Nat.lt_of_lt_of_le h1 hS.1) (fun z => h2 (hA q (Nat.lt_of_lt_of_le h1 hS.1) z))]; exact hS.2.1 q h1 h2, fun q hq => by
      rcases List.mem_append.mp hq with h | h
      · exact hS.2.2 q h
      · exact hf _ (hL q h)⟩ T' rfl X'
  exact ⟨t2, hst t2 a1, b1⟩
/-- a method that makes nothing: what it answers, and the memory behind it -/
def vx_D (ad : Nat → Nat) (N : Nat) (Λ : vx_L) (Q : Option vx_v → vx_mem → Prop) : vx_P := fun r a n L m => a = ad ∧ n = N ∧ L = Λ ∧ Q r m
abbrev vx_Mn (y : MethodName) (cc : ByteArray) (nL : Nat) (ret : Option FieldType) (d : Nat) (ad : Nat → Nat) (N : Nat) (Λ : vx_L) (μ : vx_mem) (vs : List vx_v) (Q : Option vx_v → vx_mem → Prop) : Prop := vx_M y cc nL ret d 0 0 ad N Λ μ vs (vx_D ad N Λ Q)
/-- .. one answer, one memory -/
abbrev vx_Mf (y : MethodName) (cc : ByteArray) (nL : Nat) (ret : Option FieldType) (d : Nat) (ad : Nat → Nat) (N : Nat) (Λ : vx_L) (μ : vx_mem) (vs : List vx_v) (r0 : Option vx_v) (μ0 : vx_mem) : Prop := vx_Mn y cc nL ret d ad N Λ μ vs (fun r m => r = r0 ∧ m = μ0)
/-- values that two address books tell alike -/
def vx_al (ad ad' : Nat → Nat) (ls : List (Nat × vx_v)) (st : List vx_v) : Prop := (∀ q ∈ ls, vx_V ad' q.2 = vx_V ad q.2) ∧ (∀ v ∈ st, vx_V ad' v = vx_V ad v) ∧ ∀ k, 1000 ≤ k → ad' k = ad k
theorem vx_al.l {ad ad' : Nat → Nat} {ls : List (Nat × vx_v)} {st : List vx_v} (h : vx_al ad ad' ls st) : ls.map (fun q => (q.1, vx_V ad' q.2)) = ls.map (fun q => (q.1, vx_V ad q.2)) := List.map_congr_left (fun q hq => by rw [h.1 q hq])
theorem vx_al.s {ad ad' : Nat → Nat} {ls : List (Nat × vx_v)} {st : List vx_v} (h : vx_al ad ad' ls st) : st.map (vx_V ad') = st.map (vx_V ad) := List.map_congr_left (fun v hv => h.2.1 v hv)
theorem vx_al.rf {ad : Nat → Nat} {ls : List (Nat × vx_v)} {st : List vx_v} : vx_al ad ad ls st := ⟨fun _ _ => rfl, fun _ _ => rfl, fun _ _ => rfl⟩
variable {y : MethodName} {cc2 : ByteArray} {nL2 : Nat} {ret2 : Option FieldType} {d2 mc2 ms2 index : Nat} {vs : List vx_v}

theorem vx_callVG {b ci nn : Nat} {fr : List (Option (Option Nat))} {C : String} {T : u_T} {P : vx_P} (hd : decode cc pc = .ok (.invokevirtual index, 3)) (hM : vx_M y cc2 nL2 ret2 d2 mc2 ms2 ad N Λ μ (vx_r b :: vs) P) (hl : Cond.methodLink own index y ∈ vx_tbl) (hc : Cond.code y cc2 nL2 ret2 ∈ vx_tbl) (hn : Cond.initialized y.cls ∈ vx_tbl) (hy : y.cls ≠ "java/lang/invoke/MethodHandle" ∧ y.cls ≠ "java/lang/invoke/VarHandle" ∧ (parseMethodDescriptor y.desc).map (fun d => d.parameters.length) = some vs.length) (hi : Cond.instanceMethod y ∈ vx_tbl) (hs : Cond.selects y.cls y y ∈ vx_tbl) (hb : b < N) (hΛ : Λ b = .inl (ci, fr)) (hcl : vwCl[ci]? = some (C, T, nn)) (hC9 : C = y.cls) (hd2 : d2 < d) (hnl : nL2 ≤ 45) (hst : st.length ≤ 8) (hmc : kc + mc2 ≤ mc) (hms : ks + ms2 ≤ ms)
    (kk : ∀ (r : Option vx_v) (ad' : Nat → Nat) (N' : Nat) (Λ' : vx_L) (μ' : vx_mem), P r ad' N' Λ' μ' → vx_al ad ad' ls st ∧ vx_J own cc nL ret ini d mc ms Post ad' (kc + mc2) (ks + ms2) N' Λ' μ' (pc + 3) (ls) (r.toList ++ st)) : vx_J own cc nL ret ini d mc ms Post ad kc ks N Λ μ (pc) (ls) (vs.reverse ++ vx_r b :: st) := by
  intro p l e s m args below meth c D dA A H locs LS hC hS hA hK hP hD hX hl'
  subst hC9
  have hts : ∀ w ∈ vx_tbl, w.before args s = true := hC.2.2.2.2.2.1
  have hs8 := vx_cat ad st
  have hrun := va_runV (As := vs.map (vx_V ad)) (rest := st.map (vx_V ad)) (g := F0 m pc LS ((vs.reverse ++ vx_r b :: st).map (vx_V ad))) (locs := locs) (cells := kc) (slots := ks) (below := below) (e := e) (meth := meth) (l := l) ⟨hC.1, hC.2.1, hC.2.2.1, hC.2.2.2.2.1, hts⟩ (hM l D dA H.size) ⟨callB_of (n := vs.length) (rm := vx_R d2 mc2 ms2) (R := vx_R d mc ms) hts (vx_good hc) rfl rfl rfl (hts _ hn) (hts _ hl) hy ⟨Nat.succ_le_of_lt hd2, by show 8 + (nL2 + 11) + 64 * d2 ≤ 64 * d; omega⟩, hts _ hi, hts _ hs⟩ ⟨vx_blind, va_recv hK hP hcl (q0 := b) (by rw [vx_W_at hb, hΛ]; rfl), vx_pre (vs := vx_r b :: vs) hS hA hK hP hD hX⟩ rfl (by rw [List.length_map]) hl'.1 (by simp [List.map_append, List.map_reverse, vx_V, va_rf]) (lv_room (by rw [hs8]; exact hst)) hd ⟨hmc, hms⟩
  refine vx_after hrun hS (fun q _ h => vx_sub_A (D := D) hS hA hD q h) (fun q h => vx_sub_A (D := D) hS hA hD q h) (fun r ad' N' Λ' μ' H1 locs1 hp hP1 hD1 hS1 => ?_)
  obtain ⟨hal, hk⟩ := kk r ad' N' Λ' μ' hp
  have hl2 : lv_has LS nL (ls.map (fun q => (q.1, vx_V ad' q.2))) := by rw [hal.l]; exact hl'
  have hw := hk p l e s m args below meth c D dA A H1 locs1 LS hC hS1 hA hK hP1 (hD1.weaken (fun k q _ h => vx_sub_A (D := D) hS hA hD q.1 h)) (hX.ad hal.2.2) hl2
  have e1 : (r.toList ++ st).map (vx_V ad') = (r.map (vx_V ad')).toList ++ st.map (vx_V ad) := by
    rw [List.map_append, hal.s]
    cases r <;> rfl
  rw [e1] at hw
  exact hw
theorem vx_callVN {b ci nn : Nat} {fr : List (Option (Option Nat))} {C : String} {T : u_T} {Q : Option vx_v → vx_mem → Prop} (hd : decode cc pc = .ok (.invokevirtual index, 3)) (hM : vx_Mn y cc2 nL2 ret2 d2 ad N Λ μ (vx_r b :: vs) Q) (hl : Cond.methodLink own index y ∈ vx_tbl) (hc : Cond.code y cc2 nL2 ret2 ∈ vx_tbl) (hn : Cond.initialized y.cls ∈ vx_tbl) (hy : y.cls ≠ "java/lang/invoke/MethodHandle" ∧ y.cls ≠ "java/lang/invoke/VarHandle" ∧ (parseMethodDescriptor y.desc).map (fun d => d.parameters.length) = some vs.length) (hi : Cond.instanceMethod y ∈ vx_tbl) (hs : Cond.selects y.cls y y ∈ vx_tbl) (hb : b < N) (hΛ : Λ b = .inl (ci, fr)) (hcl : vwCl[ci]? = some (C, T, nn)) (hC9 : C = y.cls) (hd2 : d2 < d) (hnl : nL2 ≤ 45) (hst : st.length ≤ 8) (hmc : kc ≤ mc) (hms : ks ≤ ms)
    (kk : ∀ (r : Option vx_v) (μ' : vx_mem), Q r μ' → vx_J own cc nL ret ini d mc ms Post ad kc ks N Λ μ' (pc + 3) (ls) (r.toList ++ st)) : vx_J own cc nL ret ini d mc ms Post ad kc ks N Λ μ (pc) (ls) (vs.reverse ++ vx_r b :: st) :=
  vx_callVG hd hM hl hc hn hy hi hs hb hΛ hcl hC9 hd2 hnl hst hmc hms (fun r ad' N' Λ' μ' hp => by
    obtain ⟨rfl, rfl, rfl, hq⟩ := hp
    exact ⟨vx_al.rf, kk r μ' hq⟩)
theorem vx_callV {b ci nn : Nat} {fr : List (Option (Option Nat))} {C : String} {T : u_T} {r0 : Option vx_v} {μ0 : vx_mem} (hd : decode cc pc = .ok (.invokevirtual index, 3)) (hM : vx_Mf y cc2 nL2 ret2 d2 ad N Λ μ (vx_r b :: vs) r0 μ0) (hl : Cond.methodLink own index y ∈ vx_tbl) (hc : Cond.code y cc2 nL2 ret2 ∈ vx_tbl) (hn : Cond.initialized y.cls ∈ vx_tbl) (hy : y.cls ≠ "java/lang/invoke/MethodHandle" ∧ y.cls ≠ "java/lang/invoke/VarHandle" ∧ (parseMethodDescriptor y.desc).map (fun d => d.parameters.length) = some vs.length) (hi : Cond.instanceMethod y ∈ vx_tbl) (hs : Cond.selects y.cls y y ∈ vx_tbl) (hb : b < N) (hΛ : Λ b = .inl (ci, fr)) (hcl : vwCl[ci]? = some (C, T, nn)) (hC9 : C = y.cls) (hd2 : d2 < d) (hnl : nL2 ≤ 45) (hst : st.length ≤ 8) (hmc : kc ≤ mc) (hms : ks ≤ ms)
    (kk : vx_J own cc nL ret ini d mc ms Post ad kc ks N Λ μ0 (pc + 3) (ls) (r0.toList ++ st)) : vx_J own cc nL ret ini d mc ms Post ad kc ks N Λ μ (pc) (ls) (vs.reverse ++ vx_r b :: st) :=
  vx_callVN hd hM hl hc hn hy hi hs hb hΛ hcl hC9 hd2 hnl hst hmc hms (fun r μ' hp => by
    obtain ⟨rfl, rfl⟩ := hp
    exact kk)
theorem vx_callSG {P : vx_P} (hd : decode cc pc = .ok (.invokestatic index, 3)) (hM : vx_M y cc2 nL2 ret2 d2 mc2 ms2 ad N Λ μ (vs) P) (hl : Cond.methodLink own index y ∈ vx_tbl) (hc : Cond.code y cc2 nL2 ret2 ∈ vx_tbl) (hn : Cond.initialized y.cls ∈ vx_tbl) (hy : y.cls ≠ "java/lang/invoke/MethodHandle" ∧ y.cls ≠ "java/lang/invoke/VarHandle" ∧ (parseMethodDescriptor y.desc).map (fun d => d.parameters.length) = some vs.length) (hsta : Cond.static y ∈ vx_tbl) (hd2 : d2 < d) (hnl : nL2 ≤ 45) (hst : st.length ≤ 8) (hmc : kc + mc2 ≤ mc) (hms : ks + ms2 ≤ ms)
    (kk : ∀ (r : Option vx_v) (ad' : Nat → Nat) (N' : Nat) (Λ' : vx_L) (μ' : vx_mem), P r ad' N' Λ' μ' → vx_al ad ad' ls st ∧ vx_J own cc nL ret ini d mc ms Post ad' (kc + mc2) (ks + ms2) N' Λ' μ' (pc + 3) (ls) (r.toList ++ st)) : vx_J own cc nL ret ini d mc ms Post ad kc ks N Λ μ (pc) (ls) (vs.reverse ++ st) := by
  intro p l e s m args below meth c D dA A H locs LS hC hS hA hK hP hD hX hl'
  skip
  have hts : ∀ w ∈ vx_tbl, w.before args s = true := hC.2.2.2.2.2.1
  have hs8 := vx_cat ad st
  have hrun := va_runS (As := vs.map (vx_V ad)) (rest := st.map (vx_V ad)) (g := F0 m pc LS ((vs.reverse ++ st).map (vx_V ad))) (locs := locs) (cells := kc) (slots := ks) (below := below) (e := e) (meth := meth) (l := l) ⟨hC.1, hC.2.1, hC.2.2.1, hC.2.2.2.2.1, hts⟩ (hM l D dA H.size) ⟨callB_of (n := vs.length) (rm := vx_R d2 mc2 ms2) (R := vx_R d mc ms) hts (vx_good hc) rfl rfl rfl (hts _ hn) (hts _ hl) hy ⟨Nat.succ_le_of_lt hd2, by show 8 + (nL2 + 11) + 64 * d2 ≤ 64 * d; omega⟩, hts _ hsta⟩ ⟨vx_blind, vx_pre (vs := vs) hS hA hK hP hD hX⟩ rfl (by rw [List.length_map]) hl'.1 (by simp [List.map_append, List.map_reverse, vx_V, va_rf]) (lv_room (by rw [hs8]; exact hst)) hd ⟨hmc, hms⟩
  refine vx_after hrun hS (fun q _ h => vx_sub_A (D := D) hS hA hD q h) (fun q h => vx_sub_A (D := D) hS hA hD q h) (fun r ad' N' Λ' μ' H1 locs1 hp hP1 hD1 hS1 => ?_)
  obtain ⟨hal, hk⟩ := kk r ad' N' Λ' μ' hp
  have hl2 : lv_has LS nL (ls.map (fun q => (q.1, vx_V ad' q.2))) := by rw [hal.l]; exact hl'
  have hw := hk p l e s m args below meth c D dA A H1 locs1 LS hC hS1 hA hK hP1 (hD1.weaken (fun k q _ h => vx_sub_A (D := D) hS hA hD q.1 h)) (hX.ad hal.2.2) hl2
  have e1 : (r.toList ++ st).map (vx_V ad') = (r.map (vx_V ad')).toList ++ st.map (vx_V ad) := by
    rw [List.map_append, hal.s]
    cases r <;> rfl
  rw [e1] at hw
  exact hw
theorem vx_callSN {Q : Option vx_v → vx_mem → Prop} (hd : decode cc pc = .ok (.invokestatic index, 3)) (hM : vx_Mn y cc2 nL2 ret2 d2 ad N Λ μ (vs) Q) (hl : Cond.methodLink own index y ∈ vx_tbl) (hc : Cond.code y cc2 nL2 ret2 ∈ vx_tbl) (hn : Cond.initialized y.cls ∈ vx_tbl) (hy : y.cls ≠ "java/lang/invoke/MethodHandle" ∧ y.cls ≠ "java/lang/invoke/VarHandle" ∧ (parseMethodDescriptor y.desc).map (fun d => d.parameters.length) = some vs.length) (hsta : Cond.static y ∈ vx_tbl) (hd2 : d2 < d) (hnl : nL2 ≤ 45) (hst : st.length ≤ 8) (hmc : kc ≤ mc) (hms : ks ≤ ms)
    (kk : ∀ (r : Option vx_v) (μ' : vx_mem), Q r μ' → vx_J own cc nL ret ini d mc ms Post ad kc ks N Λ μ' (pc + 3) (ls) (r.toList ++ st)) : vx_J own cc nL ret ini d mc ms Post ad kc ks N Λ μ (pc) (ls) (vs.reverse ++ st) :=
  vx_callSG hd hM hl hc hn hy hsta hd2 hnl hst hmc hms (fun r ad' N' Λ' μ' hp => by
    obtain ⟨rfl, rfl, rfl, hq⟩ := hp
    exact ⟨vx_al.rf, kk r μ' hq⟩)
theorem vx_callS {r0 : Option vx_v} {μ0 : vx_mem} (hd : decode cc pc = .ok (.invokestatic index, 3)) (hM : vx_Mf y cc2 nL2 ret2 d2 ad N Λ μ (vs) r0 μ0) (hl : Cond.methodLink own index y ∈ vx_tbl) (hc : Cond.code y cc2 nL2 ret2 ∈ vx_tbl) (hn : Cond.initialized y.cls ∈ vx_tbl) (hy : y.cls ≠ "java/lang/invoke/MethodHandle" ∧ y.cls ≠ "java/lang/invoke/VarHandle" ∧ (parseMethodDescriptor y.desc).map (fun d => d.parameters.length) = some vs.length) (hsta : Cond.static y ∈ vx_tbl) (hd2 : d2 < d) (hnl : nL2 ≤ 45) (hst : st.length ≤ 8) (hmc : kc ≤ mc) (hms : ks ≤ ms)
    (kk : vx_J own cc nL ret ini d mc ms Post ad kc ks N Λ μ0 (pc + 3) (ls) (r0.toList ++ st)) : vx_J own cc nL ret ini d mc ms Post ad kc ks N Λ μ (pc) (ls) (vs.reverse ++ st) :=
  vx_callSN hd hM hl hc hn hy hsta hd2 hnl hst hmc hms (fun r μ' hp => by
    obtain ⟨rfl, rfl⟩ := hp
    exact kk)
theorem vx_callXG {P : vx_P} (hd : decode cc pc = .ok (.invokestatic index, 3)) (hM : vx_M y cc2 nL2 ret2 d2 mc2 ms2 ad N Λ μ (vs) P) (hl : Cond.methodLinkNest own index y "ThreshRound" ∈ vx_nest) (hc : Cond.code y cc2 nL2 ret2 ∈ vx_tbl) (hn : Cond.initialized y.cls ∈ vx_tbl) (hy : y.cls ≠ "java/lang/invoke/MethodHandle" ∧ y.cls ≠ "java/lang/invoke/VarHandle" ∧ (parseMethodDescriptor y.desc).map (fun d => d.parameters.length) = some vs.length) (hsta : Cond.static y ∈ vx_tbl) (hd2 : d2 < d) (hnl : nL2 ≤ 45) (hst : st.length ≤ 8) (hmc : kc + mc2 ≤ mc) (hms : ks + ms2 ≤ ms)
    (kk : ∀ (r : Option vx_v) (ad' : Nat → Nat) (N' : Nat) (Λ' : vx_L) (μ' : vx_mem), P r ad' N' Λ' μ' → vx_al ad ad' ls st ∧ vx_J own cc nL ret ini d mc ms Post ad' (kc + mc2) (ks + ms2) N' Λ' μ' (pc + 3) (ls) (r.toList ++ st)) : vx_J own cc nL ret ini d mc ms Post ad kc ks N Λ μ (pc) (ls) (vs.reverse ++ st) := by
  intro p l e s m args below meth c D dA A H locs LS hC hS hA hK hP hD hX hl'
  skip
  have hts : ∀ w ∈ vx_tbl, w.before args s = true := hC.2.2.2.2.2.1
  have hs8 := vx_cat ad st
  have hrun := va_runSN (As := vs.map (vx_V ad)) (rest := st.map (vx_V ad)) (g := F0 m pc LS ((vs.reverse ++ st).map (vx_V ad))) (locs := locs) (cells := kc) (slots := ks) (below := below) (e := e) (meth := meth) (l := l) ⟨hC.1, hC.2.1, hC.2.2.1, hC.2.2.2.2.1, hts⟩ (hM l D dA H.size) ⟨va_cnB (rm := vx_R d2 mc2 ms2) (R := vx_R d mc ms) vs.length hts (vx_good hc) rfl rfl rfl (hX.1 _ hl) (hts _ hn) hy ⟨Nat.succ_le_of_lt hd2, by show 8 + (nL2 + 11) + 64 * d2 ≤ 64 * d; omega⟩, hts _ hsta, trivial⟩ ⟨vx_blind, vx_pre (vs := vs) hS hA hK hP hD hX⟩ rfl (by rw [List.length_map]) hl'.1 (by simp [List.map_append, List.map_reverse, vx_V, va_rf]) (lv_room (by rw [hs8]; exact hst)) hd ⟨hmc, hms⟩
  refine vx_after hrun hS (fun q _ h => vx_sub_A (D := D) hS hA hD q h) (fun q h => vx_sub_A (D := D) hS hA hD q h) (fun r ad' N' Λ' μ' H1 locs1 hp hP1 hD1 hS1 => ?_)
  obtain ⟨hal, hk⟩ := kk r ad' N' Λ' μ' hp
  have hl2 : lv_has LS nL (ls.map (fun q => (q.1, vx_V ad' q.2))) := by rw [hal.l]; exact hl'
  have hw := hk p l e s m args below meth c D dA A H1 locs1 LS hC hS1 hA hK hP1 (hD1.weaken (fun k q _ h => vx_sub_A (D := D) hS hA hD q.1 h)) (hX.ad hal.2.2) hl2
  have e1 : (r.toList ++ st).map (vx_V ad') = (r.map (vx_V ad')).toList ++ st.map (vx_V ad) := by
    rw [List.map_append, hal.s]
    cases r <;> rfl
  rw [e1] at hw
  exact hw
theorem vx_callXN {Q : Option vx_v → vx_mem → Prop} (hd : decode cc pc = .ok (.invokestatic index, 3)) (hM : vx_Mn y cc2 nL2 ret2 d2 ad N Λ μ (vs) Q) (hl : Cond.methodLinkNest own index y "ThreshRound" ∈ vx_nest) (hc : Cond.code y cc2 nL2 ret2 ∈ vx_tbl) (hn : Cond.initialized y.cls ∈ vx_tbl) (hy : y.cls ≠ "java/lang/invoke/MethodHandle" ∧ y.cls ≠ "java/lang/invoke/VarHandle" ∧ (parseMethodDescriptor y.desc).map (fun d => d.parameters.length) = some vs.length) (hsta : Cond.static y ∈ vx_tbl) (hd2 : d2 < d) (hnl : nL2 ≤ 45) (hst : st.length ≤ 8) (hmc : kc ≤ mc) (hms : ks ≤ ms)
    (kk : ∀ (r : Option vx_v) (μ' : vx_mem), Q r μ' → vx_J own cc nL ret ini d mc ms Post ad kc ks N Λ μ' (pc + 3) (ls) (r.toList ++ st)) : vx_J own cc nL ret ini d mc ms Post ad kc ks N Λ μ (pc) (ls) (vs.reverse ++ st) :=
  vx_callXG hd hM hl hc hn hy hsta hd2 hnl hst hmc hms (fun r ad' N' Λ' μ' hp => by
    obtain ⟨rfl, rfl, rfl, hq⟩ := hp
    exact ⟨vx_al.rf, kk r μ' hq⟩)
theorem vx_callX {r0 : Option vx_v} {μ0 : vx_mem} (hd : decode cc pc = .ok (.invokestatic index, 3)) (hM : vx_Mf y cc2 nL2 ret2 d2 ad N Λ μ (vs) r0 μ0) (hl : Cond.methodLinkNest own index y "ThreshRound" ∈ vx_nest) (hc : Cond.code y cc2 nL2 ret2 ∈ vx_tbl) (hn : Cond.initialized y.cls ∈ vx_tbl) (hy : y.cls ≠ "java/lang/invoke/MethodHandle" ∧ y.cls ≠ "java/lang/invoke/VarHandle" ∧ (parseMethodDescriptor y.desc).map (fun d => d.parameters.length) = some vs.length) (hsta : Cond.static y ∈ vx_tbl) (hd2 : d2 < d) (hnl : nL2 ≤ 45) (hst : st.length ≤ 8) (hmc : kc ≤ mc) (hms : ks ≤ ms)
    (kk : vx_J own cc nL ret ini d mc ms Post ad kc ks N Λ μ0 (pc + 3) (ls) (r0.toList ++ st)) : vx_J own cc nL ret ini d mc ms Post ad kc ks N Λ μ (pc) (ls) (vs.reverse ++ st) :=
  vx_callXN hd hM hl hc hn hy hsta hd2 hnl hst hmc hms (fun r μ' hp => by
    obtain ⟨rfl, rfl⟩ := hp
    exact kk)
theorem vx_callIG {b : Nat} {P : vx_P} (hd : decode cc pc = .ok (.invokespecial index, 3)) (hM : vx_M y cc2 nL2 none d2 mc2 ms2 ad N Λ μ (vx_r b :: vs) P) (hl : Cond.methodLink own index y ∈ vx_tbl) (hc : Cond.code y cc2 nL2 none ∈ vx_tbl) (hn : Cond.initialized y.cls ∈ vx_tbl) (hy : y.cls ≠ "java/lang/invoke/MethodHandle" ∧ y.cls ≠ "java/lang/invoke/VarHandle" ∧ (parseMethodDescriptor y.desc).map (fun d => d.parameters.length) = some vs.length) (hi : Cond.instanceMethod y ∈ vx_tbl) (hin : y.name = "<init>") (hd2 : d2 < d) (hnl : nL2 ≤ 45) (hst : st.length ≤ 8) (hmc : kc + mc2 ≤ mc) (hms : ks + ms2 ≤ ms)
    (kk : ∀ (r : Option vx_v) (ad' : Nat → Nat) (N' : Nat) (Λ' : vx_L) (μ' : vx_mem), P r ad' N' Λ' μ' → vx_al ad ad' ls st ∧ vx_J own cc nL ret ini d mc ms Post ad' (kc + mc2) (ks + ms2) N' Λ' μ' (pc + 3) (ls) (r.toList ++ st)) : vx_J own cc nL ret ini d mc ms Post ad kc ks N Λ μ (pc) (ls) (vs.reverse ++ vx_r b :: st) := by
  intro p l e s m args below meth c D dA A H locs LS hC hS hA hK hP hD hX hl'
  skip
  have hts : ∀ w ∈ vx_tbl, w.before args s = true := hC.2.2.2.2.2.1
  have hs8 := vx_cat ad st
  have hrun := va_runI (As := vs.map (vx_V ad)) (rest := st.map (vx_V ad)) (g := F0 m pc LS ((vs.reverse ++ vx_r b :: st).map (vx_V ad))) (locs := locs) (cells := kc) (slots := ks) (below := below) (e := e) (meth := meth) (l := l) ⟨hC.1, hC.2.1, hC.2.2.1, hC.2.2.2.2.1, hts⟩ (hM l D dA H.size) ⟨callB_of (n := vs.length) (rm := vx_R d2 mc2 ms2) (R := vx_R d mc ms) hts (vx_good hc) rfl rfl rfl (hts _ hn) (hts _ hl) hy ⟨Nat.succ_le_of_lt hd2, by show 8 + (nL2 + 11) + 64 * d2 ≤ 64 * d; omega⟩, hin, hts _ hi⟩ ⟨vx_blind, vx_pre (vs := vx_r b :: vs) hS hA hK hP hD hX⟩ rfl (by rw [List.length_map]) hl'.1 (by simp [List.map_append, List.map_reverse, vx_V, va_rf]) (lv_room (by rw [hs8]; exact hst)) hd ⟨hmc, hms⟩
  refine vx_after hrun hS (fun q _ h => vx_sub_A (D := D) hS hA hD q h) (fun q h => vx_sub_A (D := D) hS hA hD q h) (fun r ad' N' Λ' μ' H1 locs1 hp hP1 hD1 hS1 => ?_)
  obtain ⟨hal, hk⟩ := kk r ad' N' Λ' μ' hp
  have hl2 : lv_has LS nL (ls.map (fun q => (q.1, vx_V ad' q.2))) := by rw [hal.l]; exact hl'
  have hw := hk p l e s m args below meth c D dA A H1 locs1 LS hC hS1 hA hK hP1 (hD1.weaken (fun k q _ h => vx_sub_A (D := D) hS hA hD q.1 h)) (hX.ad hal.2.2) hl2
  have e1 : (r.toList ++ st).map (vx_V ad') = (r.map (vx_V ad')).toList ++ st.map (vx_V ad) := by
    rw [List.map_append, hal.s]
    cases r <;> rfl
  rw [e1] at hw
  exact hw
theorem vx_Mf.to {ad : Nat → Nat} {N : Nat} {Λ : vx_L} {μ : vx_mem} {r r' : Option vx_v} {m m' : vx_mem} {d : Nat} (h : vx_Mf y cc2 nL2 ret2 d ad N Λ μ vs r m) (hr : r = r') (hm : m = m') : vx_Mf y cc2 nL2 ret2 d ad N Λ μ vs r' m' := by
  subst hr; subst hm; exact h
theorem vx_m1 {m : vx_mem} {k : Nat} {f g : Nat → Int32} : va_up (va_up m k f) k g = va_up m k g := bx_uu _ _ _ _
theorem vx_m2 {m : vx_mem} {a b : Nat} {f g : Nat → Int32} (h : a ≠ b) : va_up (va_up m a f) b g = va_up (va_up m b g) a f := by
  funext z
  unfold va_up
  by_cases h1 : z = b
  · by_cases h2 : z = a
    · exact absurd (h2.symm.trans h1) h
    · simp [h1, Ne.symm h]
  · simp [h1]
end
