section
variable {own : String} {cc : ByteArray} {nL : Nat} {ret : Option FieldType} {ini : Bool} {d mc ms : Nat} {Post : vx_P} {ad : Nat → Nat} {kc ks N : Nat} {Λ : vx_L} {μ : vx_mem} {pc : Nat} {ls : List (Nat × vx_v)} {st : List vx_v}
/-- a value that names none of the new places -/
def vx_far (a b : Nat) : vx_v → Bool
  | .inr (some k) => decide (k < a) || decide (b ≤ k)
  | _ => true
def vx_fars (a b : Nat) (ls : List (Nat × vx_v)) (st : List vx_v) : Bool := ls.all (fun q => vx_far a b q.2) && st.all (vx_far a b)
theorem vx_far_V {a b : Nat} {ad ad' : Nat → Nat} (h : ∀ k, k < a ∨ b ≤ k → ad' k = ad k) {v : vx_v} (hv : vx_far a b v = true) : vx_V ad' v = vx_V ad v := by
  rcases v with x | _ | k
  · rfl
  · rfl
  · unfold vx_far at hv
    simp only [Bool.or_eq_true, decide_eq_true_eq] at hv
    show va_rf (some (ad' k)) = va_rf (some (ad k))
    rw [h k hv]
theorem vx_fars_al {a b : Nat} {ad ad' : Nat → Nat} (h : ∀ k, k < a ∨ b ≤ k → ad' k = ad k) (hb : b ≤ 1000) (hv : vx_fars a b ls st = true) : vx_al ad ad' ls st := by
  unfold vx_fars at hv
  rw [Bool.and_eq_true, List.all_eq_true, List.all_eq_true] at hv
  exact ⟨fun q hq => vx_far_V h (hv.1 q hq), fun v hv2 => vx_far_V h (hv.2 v hv2), fun k hk => h k (by omega)⟩
theorem vx_J_lam {Λ' : vx_L} (h : ∀ k, k < N → Λ k = Λ' k) (k : vx_J own cc nL ret ini d mc ms Post ad kc ks N Λ' μ pc ls st) : vx_J own cc nL ret ini d mc ms Post ad kc ks N Λ μ pc ls st := by
  intro p l e s m args below meth c D dA A H locs LS hC hS hA hK hP hD hX hl
  have e1 : vx_W dA ad N Λ μ = vx_W dA ad N Λ' μ := by
    unfold vx_W
    apply List.map_congr_left
    intro k hk
    rw [h k (List.mem_range.mp hk)]
  rw [e1] at hP hD
  exact k p l e s m args below meth c D dA A H locs LS hC hS hA hK hP hD hX hl
theorem vx_up_up {α : Type} {f : Nat → α} {k : Nat} {a b : α} : va_up (va_up f k a) k b = va_up f k b := by
  funext j
  unfold va_up
  split <;> rfl
theorem vx_up_ne {α : Type} {f : Nat → α} {k j : Nat} {a : α} (h : j ≠ k) : va_up f k a j = f j := by unfold va_up; rw [if_neg h]
theorem vx_up_eq {α : Type} {f : Nat → α} {k : Nat} {a : α} : va_up f k a k = a := by unfold va_up; rw [if_pos rfl]
def vx_okN (N : Nat) (Λ : vx_L) : Bool := (List.range N).all (fun k => vx_ok N (Λ k))
/-- a new object -/
theorem vx_new {C : String} {T : u_T} {n ci index : Nat} {fr : List (Option (Option Nat))} (ty0 : Nat → FieldType) (hd : decode cc pc = .ok (.new index, 3)) (hc : vwCl[ci]? = some (C, T, n)) (hin : ∀ w ∈ u_ws C T n, w ∈ vx_tbl) (hty : ∀ k, k < n → parseFieldDescriptor (T k).2.2.1 = some (ty0 k)) (hcl : Cond.classLink own index C ∈ vx_tbl) (hinst : Cond.instantiable C n ∈ vx_tbl) (hini : Cond.initialized C ∈ vx_tbl) (hfr : ∀ j, j < n → fr[j]? = some none ∧ defaultValue (ty0 j) = .int 0 ∨ fr[j]? = some (some none) ∧ defaultValue (ty0 j) = .null) (hfl : fr.length = n) (hmu : μ N = fun _ => 0) (hN : N + 1 ≤ 1000) (hok : vx_okN N Λ = true) (hls : vx_fars N (N + 1) ls st = true) (hmc : kc + 1 ≤ mc) (hms : ks + n ≤ ms) (hok2 : vx_ok N (.inl (ci, fr)) = true)
    (kk : ∀ ad' : Nat → Nat, (∀ k, k < N ∨ N + 1 ≤ k → ad' k = ad k) → vx_J own cc nL ret ini d mc ms Post ad' (kc + 1) (ks + n) (N + 1) (va_up Λ N (.inl (ci, fr))) μ (pc + 3) ls (vx_r N :: st)) : vx_J own cc nL ret ini d mc ms Post ad kc ks N Λ μ pc ls st := by
  intro p l e s m args below meth c D dA A H locs LS hC hS hA hK hP hD hX hl
  have hfs : ∀ j, j < n → defaultValue (ty0 j) = vp_V (vx_fs ad fr (fun _ => 0)) j := by
    intro j hj
    unfold vp_V
    rw [List.getD_eq_getElem?_getD]
    rcases hfr j hj with ⟨a1, a2⟩ | ⟨a1, a2⟩
    · rw [vx_fs_at a1, a2]; rfl
    · rw [vx_fs_at a1, a2]; rfl
  refine va_new (D := D) (ci := ci) (fs := vx_fs ad fr (fun _ => 0)) (N := n) hC.1 hC.2.1 hC.2.2.2.2.2.1 hin ty0 hty hC.2.2.2.2.1 (hC.2.2.2.2.2.1 _ hcl) (hC.2.2.2.2.2.1 _ hinst) (hC.2.2.2.2.2.1 _ hini) hK hP hD hS hA hc hfs hmc hms hd (fun q H1 hP1 hD1 hS1 => ?_)
  have e1 : vx_W dA ad N Λ μ ++ [(q, .inr (ci, vx_fs ad fr (fun _ => 0)))] = vx_W dA (va_up ad N q) (N + 1) (va_up Λ N (.inl (ci, fr))) (va_up μ N (fun _ => 0)) := vx_W_push (κ := .inl (ci, fr)) hok hok2
  rw [e1, ← hmu, vx_up_id] at hP1 hD1
  have had : ∀ k, k < N ∨ N + 1 ≤ k → va_up ad N q k = ad k := fun k hk => vx_up_ne (by omega)
  have hal := vx_fars_al (ls := ls) (st := st) had hN hls
  have hw := kk (va_up ad N q) had p l e s m args below meth c D dA A H1 locs LS hC hS1 hA hK hP1 hD1 (hX.ad hal.2.2) (by rw [hal.l]; exact hl)
  have e2 : (vx_r N :: st).map (vx_V (va_up ad N q)) = .ref q :: st.map (vx_V ad) := by
    rw [List.map_cons, hal.s]
    show va_rf (some (va_up ad N q N)) :: _ = _
    rw [vx_up_eq]
    rfl
  rw [e2] at hw
  exact hw
/-- a new array -/
theorem vx_newa {t L : Nat} {n : Int32} {atype : ArrayType} (hd : decode cc pc = .ok (.newarray atype, 2)) (ht : t = 0 ∧ atype = .int ∨ t = 1 ∧ atype = .boolean) (hw : Cond.arrayClass (newarray.typeOf atype) ∈ vx_tbl) (hn : ¬ n < 0) (hnL : n.toNatClampNeg = L) (hL : L ≤ 1000) (hΛ : Λ N = .inr (t, L, none)) (hmu : μ N = fun _ => 0) (hN : N + 1 ≤ 1000) (hok : vx_okN N Λ = true) (hls : vx_fars N (N + 1) ls st = true) (hmc : kc + 1 ≤ mc) (hms : ks + L ≤ ms)
    (kk : ∀ ad' : Nat → Nat, (∀ k, k < N ∨ N + 1 ≤ k → ad' k = ad k) → vx_J own cc nL ret ini d mc ms Post ad' (kc + 1) (ks + L) (N + 1) Λ μ (pc + 2) ls (vx_r N :: st)) : vx_J own cc nL ret ini d mc ms Post ad kc ks N Λ μ pc ls (.inl n :: st) := by
  intro p l e s m args below meth c D dA A H locs LS hC hS hA hK hP hD hX hl
  refine va_newa (D := D) (ty := newarray.typeOf atype) (a0 := (L, .inl (fun _ => 0))) hC.1 hC.2.1 (hC.2.2.2.2.2.1 _ hw) rfl hK hP hD hS hA (N' := L) ?_ hn hnL ?_ hmc hms hd (fun q cA H1 hK1 hP1 hD1 hS1 => ?_)
  · intro cA
    rcases ht with ⟨_, rfl⟩ | ⟨_, rfl⟩ <;> rfl
  · rcases ht with ⟨_, rfl⟩ | ⟨_, rfl⟩
    · show L * 4 ≤ _; omega
    · show L * 1 ≤ _; omega
  · have ecA : cA = dA t := by
      have h3 := (hK1.2 3 (cA, newarray.typeOf atype) rfl).2
      rcases ht with ⟨rfl, rfl⟩ | ⟨rfl, rfl⟩
      · have h0 := (hK.2 0 (dA 0, .int) rfl).2
        exact Option.some.inj ((show s.vm.findClass ("[" ++ (FieldType.int).toString) = some cA from h3).symm.trans h0)
      · have h0 := (hK.2 1 (dA 1, .boolean) rfl).2
        exact Option.some.inj ((show s.vm.findClass ("[" ++ (FieldType.boolean).toString) = some cA from h3).symm.trans h0)
    subst ecA
    have e1 : vx_W dA ad N Λ μ ++ [(q, .inl (dA t, L, .inl (fun _ => 0)))] = vx_W dA (va_up ad N q) (N + 1) (va_up Λ N (.inr (t, L, none))) (va_up μ N (fun _ => 0)) := vx_W_push (κ := .inr (t, L, none)) hok rfl
    rw [e1, ← hmu, vx_up_id, ← hΛ, vx_up_id] at hP1 hD1
    have had : ∀ k, k < N ∨ N + 1 ≤ k → va_up ad N q k = ad k := fun k hk => vx_up_ne (by omega)
    have hal := vx_fars_al (ls := ls) (st := st) had hN hls
    have hw := kk (va_up ad N q) had p l e s m args below meth c D dA A H1 locs LS hC hS1 hA hK hP1 hD1 (hX.ad hal.2.2) (by rw [hal.l]; exact hl)
    have e2 : (vx_r N :: st).map (vx_V (va_up ad N q)) = .ref q :: st.map (vx_V ad) := by
      rw [List.map_cons, hal.s]
      show va_rf (some (va_up ad N q N)) :: _ = _
      rw [vx_up_eq]
      rfl
    rw [e2] at hw
    exact hw
/-- a reference put -/
theorem vx_putR {C : String} {T : u_T} {n ci index a j r : Nat} {fr : List (Option (Option Nat))} {ty0 : Nat → FieldType} {ty : FieldType} (hd : decode cc pc = .ok (.putfield index, 3)) (hc : vwCl[ci]? = some (C, T, n)) (hin : ∀ w ∈ u_ws C T n, w ∈ vx_tbl) (hty : ∀ k, k < n → parseFieldDescriptor (T k).2.2.1 = some (ty0 k)) (hnm : ∀ a, a < n → ∀ b, b < n → a ≠ b → (T a).2.1 ≠ (T b).2.1) (hj : j < n) (hlk : Cond.fieldLink own index (T j).1 (T j).2.1 (T j).2.2.1 ∈ vx_tbl) (hfin : (T j).2.2.2 = true) (hini : ini = true) (hdecl : (T j).1 = own) (ht : ty0 j = ty) (hn : ∀ x : Nat, narrow ty (.ref x) = .ref x) (hfit : ∀ x : Nat, fits ty (.ref x) = true) (ha : a < N) (hΛ : Λ a = .inl (ci, fr)) (hf : j < fr.length)
    (k : vx_J own cc nL ret ini d mc ms Post ad kc ks N (va_up Λ a (.inl (ci, fr.set j (some (some r))))) μ (pc + 3) ls st) : vx_J own cc nL ret ini d mc ms Post ad kc ks N Λ μ pc ls (vx_r r :: vx_r a :: st) := by
  intro p l e s m args below meth c D dA A H locs LS hC hS hA hK hP hD hX hl
  refine va_putF (D := D) (v := .ref (ad r)) hC.1 hC.2.1 hC.2.2.2.2.2.1 hin ty0 hty hnm hC.2.2.2.2.1 hK hP hD hS a (fs := vx_fs ad fr (μ a)) (by rw [vx_W_at ha, hΛ]; rfl) hc j hj (hC.2.2.2.2.2.1 _ hlk) (fun _ h9 => h9) hfin (hC.2.2.2.2.2.2.2 hini) hdecl ((hty j hj).trans (congrArg some ht)) (hn _) (hfit _) (by rw [vx_fs_len]; exact hf) hd (fun H locs hP hD hS => ?_)
  have e1 : (vx_W dA ad N Λ μ).set a (ad a, .inr (ci, (vx_fs ad fr (μ a)).set j (.ref (ad r)))) = vx_W dA ad N (va_up Λ a (.inl (ci, fr.set j (some (some r))))) μ := by
    have e0 : (vx_fs ad fr (μ a)).set j (.ref (ad r)) = vx_fs ad (fr.set j (some (some r))) (μ a) := vx_fs_setr (r := some r) hf
    rw [e0]
    have e2 := vx_W_set (dA := dA) (ad := ad) (N := N) (Λ := Λ) (μ := μ) (k := a) (κ := .inl (ci, fr.set j (some (some r)))) (f := μ a) ha
    rw [vx_up_id] at e2
    exact e2
  rw [e1] at hP hD
  exact k p l e s m args below meth c D dA A H locs LS hC hS hA hK hP hD hX hl
theorem vx_objI {index a : Nat} (hd : decode cc pc = .ok (.invokespecial index, 3)) (hl : Cond.methodLink own index Lib.objectInit ∈ vx_tbl) (hi : Cond.instanceMethod Lib.objectInit ∈ vx_tbl) (hc : Cond.code Lib.objectInit ⟨#[0xb1]⟩ 1 none ∈ vx_tbl) (hd2 : 1 ≤ d) (hst : st.length ≤ 8)
    (k : vx_J own cc nL ret ini d mc ms Post ad kc ks N Λ μ (pc + 3) ls st) : vx_J own cc nL ret ini d mc ms Post ad kc ks N Λ μ pc ls (vx_r a :: st) := by
  intro p l e s m args below meth c D dA A H locs LS hC hS hA hK hP hD hX hl'
  have hs8 := vx_cat ad st
  refine W.objInit hC.1 hC.2.1 hC.2.2.2.2.1 (hC.2.2.2.2.2.1 _ hl) (hC.2.2.2.2.2.1 _ hi) (hC.2.2.2.2.2.1 _ hc) rfl (hl'.1.trans hC.2.2.1.symm) rfl hd hd2 ?_ (k p l e s m args below meth c D dA A H locs LS hC hS hA hK hP hD hX hl')
  show 2 * 0 + ((st.map (vx_V ad)).map fun v => v.category).sum + 12 ≤ 64 * d
  rw [hs8]
  omega
/-- more cells -/
theorem vx_grow {D : va_G} {dA : Nat → ClassId} {M : Nat} {ad' : Nat → Nat} {H H1 : Heap} {A : Nat → Prop} (hP : va_P D vwCl (vx_W dA ad N Λ μ) H) (hD : va_D A (vx_W dA ad N Λ μ)) (hM : N ≤ M) (hold : ∀ a : Nat, a < H.size → H1[a]? = H[a]?) (had : ∀ k, k < N → ad' k = ad k) (hok : ∀ k, k < N → vx_E dA ad' (Λ k) (μ k) = vx_E dA ad (Λ k) (μ k)) (hnew : ∀ k, N ≤ k → k < M → va_at D vwCl (ad' k, vx_E dA ad' (Λ k) (μ k)) H1) (hna : ∀ k, N ≤ k → k < M → H.size ≤ ad' k ∧ A (ad' k)) (hinj : ∀ k k', N ≤ k → k < M → N ≤ k' → k' < M → ad' k = ad' k' → k = k') : va_P D vwCl (vx_W dA ad' M Λ μ) H1 ∧ va_D A (vx_W dA ad' M Λ μ) := by
  have key : ∀ k (q : Nat × va_E), (vx_W dA ad' M Λ μ)[k]? = some q → k < M ∧ q = (ad' k, vx_E dA ad' (Λ k) (μ k)) := by
    intro k q hk
    have hlt : k < M := by
      have := (List.getElem?_eq_some_iff.mp hk).1
      rwa [vx_W_len] at this
    rw [vx_W_at hlt] at hk
    exact ⟨hlt, (Option.some.inj hk).symm⟩
  have hP1 := hP.kept (fun k q hk => hold q.1 ((hP k q hk).lt))
  have hlt2 : ∀ k, k < N → ad k < H.size := fun k hk => (hP k _ (vx_W_at hk)).lt
  refine ⟨fun k q hk => ?_, fun i j p q hi hj e => ?_, fun k q hk => ?_⟩
  · obtain ⟨h1, rfl⟩ := key k q hk
    by_cases h2 : k < N
    · have := hP1 k _ (vx_W_at h2)
      rw [hok k h2, had k h2]
      exact this
    · exact hnew k (by omega) h1
  · obtain ⟨i1, rfl⟩ := key i p hi
    obtain ⟨j1, rfl⟩ := key j q hj
    dsimp only at e
    by_cases hi2 : i < N
    · by_cases hj2 : j < N
      · rw [had i hi2, had j hj2] at e
        exact hD.1 i j _ _ (vx_W_at hi2) (vx_W_at hj2) e
      · have a := hlt2 i hi2
        have b := (hna j (by omega) j1).1
        rw [had i hi2] at e
        omega
    · by_cases hj2 : j < N
      · have a := hlt2 j hj2
        have b := (hna i (by omega) i1).1
        rw [had j hj2] at e
        omega
      · exact hinj i j (by omega) i1 (by omega) j1 e
  · obtain ⟨h1, rfl⟩ := key k q hk
    by_cases h2 : k < N
    · show A (ad' k)
      rw [had k h2]
      exact hD.2 k _ (vx_W_at h2)
    · exact (hna k (by omega) h1).2
theorem mz_out_cell (cA : ClassId) (h : Nat) (f : Nat → Option Nat) (hf : ∀ j, j < 8 → f j = some (h + 1 + j)) : mz_out cA h 8 = vp_cell cA (8, .inr (.inr (.inr (.inr f)))) := by
  show mz_out cA h 8 = arrV cA 8 (fun j => va_rf (f j))
  unfold mz_out arrV
  congr 1
  apply Array.ext
  · simp
  · intro i h1 h2
    have h8 : i < 8 := by simpa using h1
    simp [hf i h8, va_rf, h8]
theorem vx_multi {index : Nat} (hd : decode cc pc = .ok (.multianewarray index 2, 4)) (hcl : Cond.classLink own index "[[I" ∈ vx_tbl) (hac : Cond.arrayClass .int ∈ vx_tbl) (hN : N + 9 ≤ 1000) (hL : Λ N = .inr (2, 8, some [N + 1, N + 2, N + 3, N + 4, N + 5, N + 6, N + 7, N + 8])) (hrow : ∀ j, j < 8 → Λ (N + 1 + j) = .inr (0, 8, none)) (hmu : ∀ j, j < 8 → μ (N + 1 + j) = fun _ => 0) (hok : ∀ k, k < N → ∀ M, N ≤ M → M < N + 9 → vx_ok M (Λ k) = true) (hls : vx_fars N (N + 9) ls st = true) (hmc : kc + 9 ≤ mc) (hms : ks + 72 ≤ ms)
    (kk : ∀ ad' : Nat → Nat, (∀ k, k < N ∨ N + 9 ≤ k → ad' k = ad k) → vx_J own cc nL ret ini d mc ms Post ad' (kc + 9) (ks + 72) (N + 9) Λ μ (pc + 4) ls (vx_r N :: st)) : vx_J own cc nL ret ini d mc ms Post ad kc ks N Λ μ pc ls (.inl 8 :: .inl 8 :: st) := by
  intro p l e s m args below meth c D dA A H locs LS hC hS hA hK hP hD hX hl
  intro T hT X
  have hb := hC.2.1
  obtain ⟨vm₁, cA, comp, hW, hfA, hfC, X', step⟩ := mz_run X hC.1 hC.2.2.2.2.1 (hC.2.2.2.2.2.1 _ hcl) hX.2.2.2.2.2.2 (hC.2.2.2.2.2.1 _ hac) (g := F0 m pc LS ((.inl 8 :: .inl 8 :: st : List vx_v).map (vx_V ad))) rfl (by rw [hb]; exact hd) rfl hmc hms
  have e0 : comp = dA 0 := by
    have h0 : s.vm.findClass ("[" ++ (FieldType.int).toString) = some (dA 0) := (hK.2 0 (dA 0, .int) rfl).2
    exact Option.some.inj (hfC.symm.trans h0)
  have e2 : cA = dA 2 := by
    have h0 : s.vm.findClass ("[" ++ (FieldType.array .int).toString) = some (dA 2) := (hK.2 2 (dA 2, .array .int) rfl).2
    exact Option.some.inj (hfA.symm.trans h0)
  subst e0 e2
  obtain ⟨f1, f2, _, _⟩ := mz_st_f (T.setVm vm₁) (dA 2) (dA 0) 8
  have f3 := fun a ha => mz_st_o (T.setVm vm₁) (dA 2) (dA 0) (a := a) ha 8
  have f4 := mz_st_r (T.setVm vm₁) (dA 2) (dA 0) 8
  have hTh : (T.setVm vm₁).heap = H := hT
  rw [hTh] at f1 f2 f3 f4
  obtain ⟨ad', hadd⟩ : ∃ ad' : Nat → Nat, ad' = fun k => if N ≤ k ∧ k < N + 9 then H.size + (k - N) else ad k := ⟨_, rfl⟩
  have had : ∀ k, k < N ∨ N + 9 ≤ k → ad' k = ad k := fun k hk => by rw [hadd]; exact if_neg (by omega)
  have hadn : ∀ k, N ≤ k → k < N + 9 → ad' k = H.size + (k - N) := fun k h1 h2 => by rw [hadd]; exact if_pos ⟨h1, h2⟩
  have hsz := hS.1
  have hE : ∀ k, k < N → vx_E dA ad' (Λ k) (μ k) = vx_E dA ad (Λ k) (μ k) := by
    intro k hk
    have h1 := fun M a b => hok k hk M a b
    generalize Λ k = κ at h1
    rcases κ with ⟨cI, fr⟩ | ⟨t, n, _ | g⟩
    · have hfs : vx_fs ad' fr (μ k) = vx_fs ad fr (μ k) := by
        apply List.ext_getElem?
        intro i
        by_cases hi : i < fr.length
        · obtain ⟨o, ho⟩ : ∃ o, fr[i]? = some o := ⟨fr[i], by simp [hi]⟩
          rw [vx_fs_at ho, vx_fs_at ho]
          rcases o with _ | _ | r
          · rfl
          · rfl
          · have hm : some (some r) ∈ fr := List.mem_of_getElem? ho
            have hr : r < N ∨ N + 9 ≤ r := by
              rcases Nat.lt_or_ge r N with q | q
              · exact Or.inl q
              · rcases Nat.lt_or_ge r (N + 9) with q2 | q2
                · have h2 := List.all_eq_true.mp (h1 r q q2) _ hm
                  simp at h2
                · exact Or.inr q2
            simp [vx_fl, had r hr]
        · rw [List.getElem?_eq_none (by simp [vx_fs_len]; omega), List.getElem?_eq_none (by simp [vx_fs_len]; omega)]
      simp only [vx_E, hfs]
    · rfl
    · have hg : (fun i : Nat => (g[i]?).map ad') = (fun i : Nat => (g[i]?).map ad) := by
        funext i
        cases hi : g[i]? with
        | none => rfl
        | some r =>
          have hm := List.mem_of_getElem? hi
          have hr : r < N ∨ N + 9 ≤ r := by
            rcases Nat.lt_or_ge r N with q | q
            · exact Or.inl q
            · rcases Nat.lt_or_ge r (N + 9) with q2 | q2
              · have h2 := List.all_eq_true.mp (h1 r q q2) _ hm
                simp at h2
              · exact Or.inr q2
          simp [had r hr]
      simp only [vx_E, hg]
  obtain ⟨hP1, hD1⟩ := vx_grow (M := N + 9) (ad' := ad') (H1 := (mz_st (T.setVm vm₁) (dA 2) (dA 0) 8).heap) hP hD (by omega) (fun a ha => f3 a ha) (fun k hk => had k (Or.inl hk)) hE (fun k h1 h2 => by
    by_cases e : k = N
    · subst e
      rw [hL, hadn k (by omega) (by omega), Nat.sub_self, Nat.add_zero]
      show (mz_st (T.setVm vm₁) (dA 2) (dA 0) 8).heap[H.size]? = some (vp_cell (dA 2) (8, .inr (.inr (.inr (.inr (fun i => ([k + 1, k + 2, k + 3, k + 4, k + 5, k + 6, k + 7, k + 8][i]?).map ad'))))))
      rw [f2, mz_out_cell (dA 2) H.size]
      intro j hj
      have e3 : ([k + 1, k + 2, k + 3, k + 4, k + 5, k + 6, k + 7, k + 8] : List Nat)[j]? = some (k + 1 + j) := by
        rcases j with _ | _ | _ | _ | _ | _ | _ | _ | j
        · rfl
        · rfl
        · rfl
        · rfl
        · rfl
        · rfl
        · rfl
        · rfl
        · omega
      rw [e3, Option.map_some, hadn _ (by omega) (by omega)]
      exact congrArg some (by omega)
    · obtain ⟨j, rfl⟩ : ∃ j, k = N + 1 + j := ⟨k - N - 1, by omega⟩
      rw [hrow j (by omega), hmu j (by omega), hadn _ (by omega) (by omega), show H.size + (N + 1 + j - N) = H.size + 1 + j by omega]
      show (mz_st (T.setVm vm₁) (dA 2) (dA 0) 8).heap[H.size + 1 + j]? = some (arrV (dA 0) 8 (fun _ => .int 0))
      rw [f4 j (by omega), ← arrV_new]
      rfl) (fun k h1 h2 => by rw [hadn k h1 h2]; exact ⟨by omega, hA _ (by omega)⟩) (fun k k' a1 a2 a3 a4 e => by rw [hadn k a1 a2, hadn k' a3 a4] at e; omega)
  have hS1 : va_S A s.heap (mz_st (T.setVm vm₁) (dA 2) (dA 0) 8).heap (locs ++ (List.range 8).map fun j => ⟨T.heap.size, j⟩) := by
    refine ⟨by omega, fun q h1 h2 => (f3 q (Nat.lt_of_lt_of_le h1 hsz)).trans (hS.2.1 q h1 h2), fun q hq => ?_⟩
    rcases List.mem_append.mp hq with h | h
    · exact hS.2.2 q h
    · obtain ⟨j, _, rfl⟩ := List.mem_map.mp h
      show A T.heap.size
      rw [show T.heap = H from hT]
      exact hA _ hsz
  have hal := vx_fars_al (ls := ls) (st := st) had hN hls
  have hw := kk ad' had p l e s m args below meth c D dA A _ _ LS hC hS1 hA hK hP1 hD1 (hX.ad hal.2.2) (by rw [hal.l]; exact hl)
  have e3 : (vx_r N :: st).map (vx_V ad') = .ref T.heap.size :: st.map (vx_V ad) := by
    rw [List.map_cons, hal.s]
    show va_rf (some (ad' N)) :: _ = _
    rw [hadn N (by omega) (by omega), Nat.sub_self, show T.heap = H from hT]
    rfl
  rw [e3] at hw
  obtain ⟨t, a1, b1⟩ := hw _ rfl X'
  exact ⟨t, step t a1, b1⟩
end
