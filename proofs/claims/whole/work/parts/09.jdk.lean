section
variable {own : String} {cc : ByteArray} {nL : Nat} {ret : Option FieldType} {ini : Bool} {d mc ms : Nat} {Post : vx_P} {ad : Nat → Nat} {kc ks N : Nat} {Λ : vx_L} {μ : vx_mem} {pc : Nat} {ls : List (Nat × vx_v)} {st : List vx_v}
/-- a text's byte -/
def vx_tb (i j : Nat) : Int32 := (vx_lb.getD i []).getD j 0
theorem vx_i2c {x v : Int32} (hd : decode cc pc = .ok (.i2c, 1)) (hv : (x.toUInt32 % 65536).toInt32 = v) (k : vx_J own cc nL ret ini d mc ms Post ad kc ks N Λ μ (pc + 1) (ls) (.inl v :: st)) : vx_J own cc nL ret ini d mc ms Post ad kc ks N Λ μ (pc) (ls) (.inl x :: st) := by
  intro p l e s m args below meth c D dA A H locs LS hC hS hA hK hP hD hX hl
  exact lv_i2c hC.1 hC.2.1 hd hv (k p l e s m args below meth c D dA A H locs LS hC hS hA hK hP hD hX hl)
theorem vx_getCo {index i : Nat} (hd : decode cc pc = .ok (.getfield index, 3)) (hlk : Cond.fieldLink own index "java/lang/String" "coder" "B" ∈ vx_tbl) (hi : i < 7) (k : vx_J own cc nL ret ini d mc ms Post ad kc ks N Λ μ (pc + 3) (ls) (.inl 0 :: st)) : vx_J own cc nL ret ini d mc ms Post ad kc ks N Λ μ (pc) (ls) (vx_r (1000 + i) :: st) := by
  intro p l e s m args below meth c D dA A H locs LS hC hS hA hK hP hD hX hl
  exact vk_getf hC.1 hC.2.1 (hX.2.2.1.1 i hi).2.1 hS hC.2.2.2.2.1 (hC.2.2.2.2.2.1 _ hlk) (fun _ h9 => h9) hd (k p l e s m args below meth c D dA A H locs LS hC hS hA hK hP hD hX hl)
theorem vx_getVa {index i : Nat} (hd : decode cc pc = .ok (.getfield index, 3)) (hlk : Cond.fieldLink own index "java/lang/String" "value" "[B" ∈ vx_tbl) (hi : i < 7) (k : vx_J own cc nL ret ini d mc ms Post ad kc ks N Λ μ (pc + 3) (ls) (vx_r (1100 + i) :: st)) : vx_J own cc nL ret ini d mc ms Post ad kc ks N Λ μ (pc) (ls) (vx_r (1000 + i) :: st) := by
  intro p l e s m args below meth c D dA A H locs LS hC hS hA hK hP hD hX hl
  exact vk_getf hC.1 hC.2.1 (hX.2.2.1.1 i hi).2.2.1 hS hC.2.2.2.2.1 (hC.2.2.2.2.2.1 _ hlk) (fun _ h9 => h9) hd (k p l e s m args below meth c D dA A H locs LS hC hS hA hK hP hD hX hl)
theorem vx_getCS {index : Nat} (hd : decode cc pc = .ok (.getstatic index, 3)) (hlk : Cond.fieldLink own index "java/lang/String" "COMPACT_STRINGS" "Z" ∈ vx_tbl) (k : vx_J own cc nL ret ini d mc ms Post ad kc ks N Λ μ (pc + 3) (ls) (.inl 1 :: st)) : vx_J own cc nL ret ini d mc ms Post ad kc ks N Λ μ (pc) (ls) (st) := by
  intro p l e s m args below meth c D dA A H locs LS hC hS hA hK hP hD hX hl
  exact va_gets hC.1 hC.2.1 hX.2.2.2.2.1 hS hC.2.2.2.2.1 (hC.2.2.2.2.2.1 _ hlk) (fun _ h9 => h9) hd (k p l e s m args below meth c D dA A H locs LS hC hS hA hK hP hD hX hl)
theorem vx_getFm {index : Nat} (hd : decode cc pc = .ok (.getstatic index, 3)) (hlk : Cond.fieldLink own index "jdk/internal/util/Preconditions" "SIOOBE_FORMATTER" "Ljava/util/function/BiFunction;" ∈ vx_tbl) (k : ∀ v : vx_v, vx_J own cc nL ret ini d mc ms Post ad kc ks N Λ μ (pc + 3) (ls) (v :: st)) : vx_J own cc nL ret ini d mc ms Post ad kc ks N Λ μ (pc) (ls) (st) := by
  intro p l e s m args below meth c D dA A H locs LS hC hS hA hK hP hD hX hl
  rcases hX.2.2.2.2.2.1 with hz | hz
  · exact va_gets hC.1 hC.2.1 hz hS hC.2.2.2.2.1 (hC.2.2.2.2.2.1 _ hlk) (fun _ h9 => h9) hd (k (Sum.inr none) p l e s m args below meth c D dA A H locs LS hC hS hA hK hP hD hX hl)
  · exact va_gets hC.1 hC.2.1 hz hS hC.2.2.2.2.1 (hC.2.2.2.2.2.1 _ hlk) (fun _ h9 => h9) hd (k (vx_r 1300) p l e s m args below meth c D dA A H locs LS hC hS hA hK hP hD hX hl)
theorem vx_baldX {i : Nat} {j v : Int32} (hd : decode cc pc = .ok (.baload, 1)) (hi : i < 7) (hj : vp_in j (vx_ll.getD i 0)) (hv : vx_tb i j.toNatClampNeg = v) (k : vx_J own cc nL ret ini d mc ms Post ad kc ks N Λ μ (pc + 1) (ls) (.inl v :: st)) : vx_J own cc nL ret ini d mc ms Post ad kc ks N Λ μ (pc) (ls) (.inl j :: vx_r (1100 + i) :: st) := by
  intro p l e s m args below meth c D dA A H locs LS hC hS hA hK hP hD hX hl
  exact va_tb hC.1 hC.2.1 (hX.2.2.1.1 i hi).2.2.2 hS hj (v := .int v) (by show Value.int _ = Value.int _; rw [← hv]; rfl) hd (k p l e s m args below meth c D dA A H locs LS hC hS hA hK hP hD hX hl)
theorem vx_alenB {i : Nat} {v : Int32} (hd : decode cc pc = .ok (.arraylength, 1)) (hi : i < 7) (hv : Int32.ofNat (vx_ll.getD i 0) = v) (k : vx_J own cc nL ret ini d mc ms Post ad kc ks N Λ μ (pc + 1) (ls) (.inl v :: st)) : vx_J own cc nL ret ini d mc ms Post ad kc ks N Λ μ (pc) (ls) (vx_r (1100 + i) :: st) := by
  intro p l e s m args below meth c D dA A H locs LS hC hS hA hK hP hD hX hl
  exact va_tlen hC.1 hC.2.1 (hX.2.2.1.1 i hi).2.2.2 hS hv hd (k p l e s m args below meth c D dA A H locs LS hC hS hA hK hP hD hX hl)

variable {y : MethodName} {cc2 : ByteArray} {nL2 : Nat} {ret2 : Option FieldType} {d2 index : Nat} {vs : List vx_v}
theorem vx_callK {i : Nat} {r0 : Option vx_v} {μ0 : vx_mem} (hd : decode cc pc = .ok (.invokevirtual index, 3)) (hM : vx_Mf y cc2 nL2 ret2 d2 ad N Λ μ (vx_r (1000 + i) :: vs) r0 μ0) (hl : Cond.methodLink own index y ∈ vx_tbl) (hc : Cond.code y cc2 nL2 ret2 ∈ vx_tbl) (hn : Cond.initialized y.cls ∈ vx_tbl) (hy : y.cls ≠ "java/lang/invoke/MethodHandle" ∧ y.cls ≠ "java/lang/invoke/VarHandle" ∧ (parseMethodDescriptor y.desc).map (fun d => d.parameters.length) = some vs.length) (hi : Cond.instanceMethod y ∈ vx_tbl) (hs : Cond.selects y.cls y y ∈ vx_tbl) (hi7 : i < 7) (hcl : y.cls = "java/lang/String") (hd2 : d2 < d) (hnl : nL2 ≤ 45) (hst : st.length ≤ 8) (hmc : kc ≤ mc) (hms : ks ≤ ms)
    (kk : vx_J own cc nL ret ini d mc ms Post ad kc ks N Λ μ0 (pc + 3) (ls) (r0.toList ++ st)) : vx_J own cc nL ret ini d mc ms Post ad kc ks N Λ μ (pc) (ls) (vs.reverse ++ vx_r (1000 + i) :: st) := by
  intro p l e s m args below meth c D dA A H locs LS hC hS hA hK hP hD hX hl'
  have hts : ∀ w ∈ vx_tbl, w.before args s = true := hC.2.2.2.2.2.1
  have hs8 := vx_cat ad st
  have hrcv := vk_recv hX.2.2.1 hi7 hS
  rw [← hcl] at hrcv
  have hrun := va_runV (As := vs.map (vx_V ad)) (rest := st.map (vx_V ad)) (g := F0 m pc LS ((vs.reverse ++ vx_r (1000 + i) :: st).map (vx_V ad))) (locs := locs) (cells := kc) (slots := ks) (below := below) (e := e) (meth := meth) (l := l) ⟨hC.1, hC.2.1, hC.2.2.1, hC.2.2.2.2.1, hts⟩ (hM l D dA H.size) ⟨callB_of (n := vs.length) (rm := vx_R d2 0 0) (R := vx_R d mc ms) hts (vx_good hc) rfl rfl rfl (hts _ hn) (hts _ hl) hy ⟨Nat.succ_le_of_lt hd2, by show 8 + (nL2 + 11) + 64 * d2 ≤ 64 * d; omega⟩, hts _ hi, hts _ hs⟩ ⟨vx_blind, hrcv, vx_pre (vs := vx_r (1000 + i) :: vs) hS hA hK hP hD hX⟩ rfl (by rw [List.length_map]) hl'.1 (by simp [List.map_append, List.map_reverse, vx_V, va_rf]) (lv_room (by rw [hs8]; exact hst)) hd ⟨hmc, hms⟩
  refine vx_after hrun hS (fun q _ h => vx_sub_A (D := D) hS hA hD q h) (fun q h => vx_sub_A (D := D) hS hA hD q h) (fun r ad' N' Λ' μ' H1 locs1 hp hP1 hD1 hS1 => ?_)
  obtain ⟨rfl, rfl, rfl, rfl, rfl⟩ := hp
  have hw := kk p l e s m args below meth c D dA A H1 locs1 LS hC hS1 hA hK hP1 (hD1.weaken (fun k q _ h => vx_sub_A (D := D) hS hA hD q.1 h)) hX hl'
  have e1 : (r.toList ++ st).map (vx_V ad') = (r.map (vx_V ad')).toList ++ st.map (vx_V ad') := by
    rw [List.map_append]
    cases r <;> rfl
  rw [e1] at hw
  exact hw
end
