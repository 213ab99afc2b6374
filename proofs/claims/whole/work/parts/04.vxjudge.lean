section
/-- the words of the tables that any state keeps -/
def vx_tbl : List Cond := lw_tbl.filter goodWord
theorem vx_w {w : Cond} (i : Nat) (h : lw_tbl[i]? = some w) (hg : goodWord w = true) : w ∈ vx_tbl := List.mem_filter.mpr ⟨List.mem_of_getElem? h, hg⟩
theorem vx_good {y : MethodName} {cc : ByteArray} {nL : Nat} {ret : Option FieldType} (h : Cond.code y cc nL ret ∈ vx_tbl) : GoodIn vx_tbl (Cond.code y cc nL ret :: vx_tbl) := by
  intro w hw
  have hm : w ∈ vx_tbl := by
    rcases List.mem_cons.mp hw with rfl | h2
    · exact h
    · exact h2
  exact ⟨hm, good_of_word (List.mem_filter.mp hm).2⟩
/-- the text of the constants: place, owner, entry, text -/
def vx_lit : List (String × Nat × String) := [("ThreshRound$Customs", 99, "hands"), ("ThreshRound$Customs", 101, "rate"), ("ThreshRound$Customs", 103, "sheaves"), ("ThreshRound$Customs", 105, "late"), ("ThreshRound$Customs", 107, "first"), ("ThreshRound$Customs", 109, "damp"), ("ThreshRoundModel", 130, "hands rate sheaves late first damp ")]
def vx_lb : List (List Int32) := [[104, 97, 110, 100, 115], [114, 97, 116, 101], [115, 104, 101, 97, 118, 101, 115], [108, 97, 116, 101], [102, 105, 114, 115, 116], [100, 97, 109, 112], [104, 97, 110, 100, 115, 32, 114, 97, 116, 101, 32, 115, 104, 101, 97, 118, 101, 115, 32, 108, 97, 116, 101, 32, 102, 105, 114, 115, 116, 32, 100, 97, 109, 112, 32]]
def vx_ll : List Nat := vx_lb.map List.length
def vx_sn : Nat → String := fun i => if i = 0 then "USUAL" else if i = 1 then "LEAST" else "MOST"
def vx_sv : Nat → List Int32 := fun i => if i = 0 then [8, 10, 4, 1, 0, 5] else if i = 1 then [1, 1, 1, 0, 1, 0] else [20, 99, 50, 99, 7, 10]
def vx_nest : List Cond := [.methodLinkNest "ThreshRound$Customs" 52 ⟨"ThreshRound", "put", "([III)V"⟩ "ThreshRound", .methodLinkNest "ThreshRound$Customs" 24 ⟨"ThreshRound", "at", "([II)I"⟩ "ThreshRound", .methodLinkNest "ThreshRound$Roads" 16 ⟨"ThreshRound", "put", "([[IIII)V"⟩ "ThreshRound", .methodLinkNest "ThreshRound$Tape" 25 ⟨"ThreshRound", "put", "([III)V"⟩ "ThreshRound", .methodLinkNest "ThreshRound$Tape" 29 ⟨"ThreshRound", "at", "([II)I"⟩ "ThreshRound", .methodLinkNest "ThreshRound$Tape" 37 ⟨"ThreshRound", "within", "(III)Z"⟩ "ThreshRound", .methodLinkNest "ThreshRound$Customs" 84 ⟨"ThreshRound", "within", "(III)Z"⟩ "ThreshRound", .methodLinkNest "ThreshRound$Farms" 49 ⟨"ThreshRound", "put", "([III)V"⟩ "ThreshRound", .methodLinkNest "ThreshRound$Farms" 57 ⟨"ThreshRound", "at", "([II)I"⟩ "ThreshRound", .methodLinkNest "ThreshRound$Debts" 20 ⟨"ThreshRound", "put", "([III)V"⟩ "ThreshRound", .methodLinkNest "ThreshRound$Debts" 29 ⟨"ThreshRound", "at", "([II)I"⟩ "ThreshRound", .methodLinkNest "ThreshRound$Debts" 49 ⟨"ThreshRound", "at", "([[III)I"⟩ "ThreshRound", .methodLinkNest "ThreshRound$Search" 61 ⟨"ThreshRound", "put", "([III)V"⟩ "ThreshRound", .methodLinkNest "ThreshRound$Search" 65 ⟨"ThreshRound", "at", "([II)I"⟩ "ThreshRound", .methodLinkNest "ThreshRound$Roads" 20 ⟨"ThreshRound", "at", "([[III)I"⟩ "ThreshRound", .methodLinkNest "ThreshRound$Plan" 52 ⟨"ThreshRound", "at", "([II)I"⟩ "ThreshRound", .methodLinkNest "ThreshRound$Plan" 61 ⟨"ThreshRound", "put", "([III)V"⟩ "ThreshRound", .methodLinkNest "ThreshRound$Debts" 52 ⟨"ThreshRound", "put", "([[IIII)V"⟩ "ThreshRound"]
def vx_AO (U : State) : Prop := (Cond.arrayOver (.array .int)).before #[] U = true
theorem vx_AO.use {A : Array Value} {U : State} (h : vx_AO U) : (Cond.arrayOver (.array .int)).before A U = true := h
theorem vx_AO.moved {u U : State} (hvm : u.vm.Alike U.vm) (h : vx_AO u) : vx_AO U := by
  have h0 := h
  unfold vx_AO Cond.before Cond.holds at h
  simp only [Cond.value, beq_iff_eq, Option.bind_eq_some_iff, Option.map_eq_some_iff] at h
  obtain ⟨comp, h1, c, h2, k, h3, h4⟩ := h
  obtain ⟨k', hk', he⟩ := hvm.2.2 _ _ h3
  have b1 := va_idx_bare U.vm comp
  have b2 := va_idx_bare u.vm comp
  first | rw [hvm.bare_eq] at b1 | rw [← hvm.bare_eq] at b1
  have f1 : U.vm.findClass (FieldType.array .int).toString = some comp := by rw [hvm.findClass]; exact h1
  have h5 : ∃ cc, k.kind = .array cc (.array .int) ∧ u.vm.findClass ("[" ++ (FieldType.array .int).toString) = some c := by
    revert h4
    generalize k.kind = kd
    intro h4
    split at h4
    · simp only [Bool.and_eq_true, decide_eq_true_eq] at h4
      exact ⟨_, by rw [h4.1], h4.2⟩
    · cases h4
  obtain ⟨cc, h6, h7⟩ := h5
  have hkk : k'.kind = .array cc (.array .int) := by rw [he]; exact h6
  have f2 : U.vm.findClass ("[" ++ (FieldType.array .int).toString) = some c := by rw [hvm.findClass]; exact h7
  unfold vx_AO Cond.before Cond.holds
  simp only [Cond.value]
  rw [f1, Option.bind_some]
  refine (congrArg (fun o : Option Nat => (o.bind (fun c => (U.vm.classes[c]?).map fun (k : Class) => match k.kind with | .array _ ty => decide (ty = FieldType.array .int) && decide (U.vm.findClass ("[" ++ (FieldType.array .int).toString) = some c) | _ => false) == some true)) (b1.symm.trans (b2.trans h2))).trans ?_
  simp [hk', hkk, f2]
/-- what lies outside: the texts at 1000 .., their bytes at 1100 .., the static rows at 1200 .. -/
def vx_X (ad : Nat → Nat) (A : Nat → Prop) (U : State) (H : Heap) : Prop :=
  (∀ q ∈ vx_nest, va_Nw q U) ∧
  (∀ i : Nat, i < 3 → va_Z "ThreshRound$Customs" (vx_sn i) "[I" (.ref (ad (1200 + i))) A U H ∧ va_T .int (ad (1200 + i)) 6 (fun j => .int ((vx_sv i).getD j 0)) A U H) ∧
  vk_S 7 vx_ll vx_lb (fun i => ad (1000 + i)) (fun i => ad (1100 + i)) A U H ∧
  (∀ (i : Nat) (q : String × Nat × String), vx_lit[i]? = some q → vk_R q.1 q.2.1 q.2.2 (ad (1000 + i)) U) ∧
  va_Z "java/lang/String" "COMPACT_STRINGS" "Z" (.int 1) A U H ∧
  (va_Z "jdk/internal/util/Preconditions" "SIOOBE_FORMATTER" "Ljava/util/function/BiFunction;" .null A U H ∨ va_Z "jdk/internal/util/Preconditions" "SIOOBE_FORMATTER" "Ljava/util/function/BiFunction;" (.ref (ad 1300)) A U H) ∧ vx_AO U
theorem vx_X.kept {ad : Nat → Nat} {A : Nat → Prop} {U : State} {H H1 : Heap} (h : vx_X ad A U H) (hq : ∀ a : Nat, a < H.size → ¬ A a → H1[a]? = H[a]?) : vx_X ad A U H1 :=
  ⟨h.1, fun i hi => ⟨(h.2.1 i hi).1.kept hq, (h.2.1 i hi).2.kept hq⟩, h.2.2.1.kept hq, h.2.2.2.1, h.2.2.2.2.1.kept hq, h.2.2.2.2.2.1.imp (fun z => z.kept hq) (fun z => z.kept hq), h.2.2.2.2.2.2⟩
theorem vx_X.narrow {ad : Nat → Nat} {A B : Nat → Prop} {U : State} {H : Heap} (h : vx_X ad A U H) (hAB : ∀ q, B q → A q) : vx_X ad B U H :=
  ⟨h.1, fun i hi => ⟨(h.2.1 i hi).1.narrow hAB, (h.2.1 i hi).2.narrow hAB⟩, h.2.2.1.narrow hAB, h.2.2.2.1, h.2.2.2.2.1.narrow hAB, h.2.2.2.2.2.1.imp (fun z => z.narrow hAB) (fun z => z.narrow hAB), h.2.2.2.2.2.2⟩
theorem vx_nest_all {P : Cond → Prop} (h : ∀ a i x b, Cond.methodLinkNest a i x b ∈ vx_nest → P (.methodLinkNest a i x b)) : ∀ q ∈ vx_nest, P q := by
  intro q hq
  have hk : vx_nest.all (fun q => match q with | .methodLinkNest _ _ _ _ => true | _ => false) = true := by decide +kernel
  have h2 := List.all_eq_true.mp hk q hq
  cases q <;> first | exact h _ _ _ _ hq | simp at h2
theorem vx_X.warm {ad : Nat → Nat} {A : Nat → Prop} {s U : State} {H : Heap} (hW : s.WarmedH U.vm) (h : vx_X ad A s H) : vx_X ad A U H :=
  ⟨vx_nest_all (P := fun q => va_Nw q U) (fun a i x b hm => va_Nw.warmM hW (h.1 _ hm)), fun i hi => ⟨(h.2.1 i hi).1.moved hW.alike, (h.2.1 i hi).2.moved hW.alike⟩, h.2.2.1.moved hW.alike, fun i q hq => (h.2.2.2.1 i q hq).warm hW, h.2.2.2.2.1.moved hW.alike, h.2.2.2.2.2.1.imp (fun z => z.moved hW.alike) (fun z => z.moved hW.alike), h.2.2.2.2.2.2.moved hW.alike⟩
theorem vx_X.same {ad : Nat → Nat} {A : Nat → Prop} {s U : State} {H : Heap} (hv : s.vm = U.vm) (h : vx_X ad A s H) : vx_X ad A U H := by
  have hal : s.vm.Alike U.vm := by rw [hv]; exact Vm.Alike.refl _
  exact ⟨vx_nest_all (P := fun q => va_Nw q U) (fun a i x b hm => va_Nw.same rfl hv (h.1 _ hm)), fun i hi => ⟨(h.2.1 i hi).1.moved hal, (h.2.1 i hi).2.moved hal⟩, h.2.2.1.moved hal, fun i q hq => (h.2.2.2.1 i q hq).same hv.symm, h.2.2.2.2.1.moved hal, h.2.2.2.2.2.1.imp (fun z => z.moved hal) (fun z => z.moved hal), h.2.2.2.2.2.2.moved hal⟩
theorem vx_X.ad {ad ad' : Nat → Nat} {A : Nat → Prop} {U : State} {H : Heap} (ha : ∀ k, 1000 ≤ k → ad' k = ad k) (h : vx_X ad A U H) : vx_X ad' A U H := by
  have e1 : (fun i => ad' (1000 + i)) = (fun i => ad (1000 + i)) := funext fun i => ha _ (by omega)
  have e2 : (fun i => ad' (1100 + i)) = (fun i => ad (1100 + i)) := funext fun i => ha _ (by omega)
  have e3 : ∀ i, ad' (1200 + i) = ad (1200 + i) := fun i => ha _ (by omega)
  have e4 : ∀ i, ad' (1000 + i) = ad (1000 + i) := fun i => ha _ (by omega)
  unfold vx_X
  simp only [e1, e2, e3, e4, ha 1300 (by omega)]
  exact h
def vx_R (d mc ms : Nat) : Room := { frames := d, cells := mc, slots := ms, locals := 64 * d }
abbrev vx_P : Type := Option vx_v → (Nat → Nat) → Nat → vx_L → vx_mem → Prop
/-- what a method's end says -/
def vx_Q (D : va_G) (dA : Nat → ClassId) (A : Nat → Prop) (Post : vx_P) : Array Value → State → Outcome → State → Prop := fun _ st oc t =>
  (∃ (r : Option vx_v) (ad' : Nat → Nat) (N' : Nat) (Λ' : vx_L) (μ' : vx_mem), oc = .returned (r.map (vx_V ad')) ∧ Post r ad' N' Λ' μ' ∧ va_P D vwCl (vx_W dA ad' N' Λ' μ') t.heap ∧ va_K D vwCl (vx_T dA) t ∧ va_D A (vx_W dA ad' N' Λ' μ')) ∧ va_F A st t
/-- what a method's walk rests on -/
def vx_C (own : String) (cc : ByteArray) (nL : Nat) (ret : Option FieldType) (ini : Bool) (p : Program) (s : State) (m : MethodId) (args : Array Value) (meth : Method) (c : Code) : Prop :=
  p.tables.exec = Jvm.exec ∧ c.code = cc ∧ c.maxLocals = nL ∧ meth.sig.returnType = ret ∧ s.vm.findClass own = some m.cls ∧ (∀ w ∈ vx_tbl, w.before args s = true) ∧ meth.locks = false ∧ (ini = true → meth.name = "<init>")
/-- the judgement: from here the method comes to its end, and Post holds there -/
def vx_J (own : String) (cc : ByteArray) (nL : Nat) (ret : Option FieldType) (ini : Bool) (d mc ms : Nat) (Post : vx_P) (ad : Nat → Nat) (kc ks N : Nat) (Λ : vx_L) (μ : vx_mem) (pc : Nat) (ls : List (Nat × vx_v)) (st : List vx_v) : Prop :=
  ∀ (p : Program) (l : Launch) (e : Env) (s : State) (m : MethodId) (args : Array Value) (below : List Frame) (meth : Method) (c : Code) (D : va_G) (dA : Nat → ClassId) (A : Nat → Prop) (H : Heap) (locs : List Loc) (LS : Array Slot),
    vx_C own cc nL ret ini p s m args meth c → va_S A s.heap H locs → (∀ q : Nat, s.heap.size ≤ q → A q) → va_K D vwCl (vx_T dA) s → va_P D vwCl (vx_W dA ad N Λ μ) H → va_D A (vx_W dA ad N Λ μ) → vx_X ad A s s.heap → lv_has LS nL (ls.map (fun q => (q.1, vx_V ad q.2))) →
    W p l e (vx_R d mc ms) s m args below meth c H locs kc ks (MQ below (vx_Q D dA A Post) args s mc ms A) (F0 m pc LS (st.map (vx_V ad)))
/-- a contract -/
def vx_M (y : MethodName) (cc : ByteArray) (nL : Nat) (ret : Option FieldType) (d mc ms : Nat) (ad : Nat → Nat) (N : Nat) (Λ : vx_L) (μ : vx_mem) (vs : List vx_v) (Post : vx_P) : Prop :=
  ∀ (l : Launch) (D : va_G) (dA : Nat → ClassId) (sz : Nat), Met l y (.code y cc nL ret :: vx_tbl) (vx_R d mc ms)
    (va_Pc (vs.map (vx_V ad)) (fun U => U.heap.size = sz ∧ va_P D vwCl (vx_W dA ad N Λ μ) U.heap ∧ va_K D vwCl (vx_T dA) U ∧ va_D (fun _ => True) (vx_W dA ad N Λ μ) ∧ vx_X ad (va_A (vx_W dA ad N Λ μ) sz) U U.heap))
    (vx_Q D dA (va_A (vx_W dA ad N Λ μ) sz) Post) mc ms (va_A (vx_W dA ad N Λ μ) sz)
/-- the locals at the entry -/
def vx_in : Nat → List vx_v → List (Nat × vx_v)
  | _, [] => []
  | k, v :: vs => (k, v) :: vx_in (k + 1) vs
theorem vx_in_args (ad : Nat → Nat) : ∀ (vs : List vx_v) (k : Nat), lv_args k (vs.map (vx_V ad)) = (vx_in k vs).map (fun q => (q.1, vx_V ad q.2))
  | [], k => by first | rfl | simp [lv_args, vx_in]
  | v :: vs, k => by
    have ih := vx_in_args ad vs (k + 1)
    have hc : (vx_V ad v).category = 1 := vx_V_cat ad v
    have e : lv_args k ((v :: vs).map (vx_V ad)) = (k, vx_V ad v) :: lv_args (if (vx_V ad v).category = 2 then k + 2 else k + 1) (vs.map (vx_V ad)) := rfl
    rw [e, hc, if_neg (by decide), ih]
    rfl
theorem vx_sl_len (ad : Nat → Nat) (vs : List vx_v) : (lg_sl (vs.map (vx_V ad))).length = vs.length := by
  induction vs with
  | nil => rfl
  | cons v vs ih =>
    have hc : (vx_V ad v).category = 1 := vx_V_cat ad v
    unfold lg_sl at ih ⊢
    rw [List.map_cons, List.flatMap_cons, List.length_append, ih, hc, if_neg (by decide)]
    simp only [List.length_cons, List.length_nil]
    omega
theorem vx_J.M {y : MethodName} {cc : ByteArray} {nL : Nat} {ret : Option FieldType} {d mc ms : Nat} {ad : Nat → Nat} {N : Nat} {Λ : vx_L} {μ : vx_mem} {vs : List vx_v} {Post : vx_P} (hy : plainName y.cls = true) (hn : vs.length ≤ nL)
    (k : vx_J y.cls cc nL ret (y.name == "<init>") d mc ms Post ad 0 0 N Λ μ 0 (vx_in 0 vs) []) : vx_M y cc nL ret d mc ms ad N Λ μ vs Post := by
  intro l D dA sz
  refine Met.ofW (cc := cc) (maxL := nL) (ret := ret) hy rfl ?_
  intro p e s m args below meth c s₁ B hml hv
  obtain ⟨rfl, hsz, hP, hK, hD0, hX⟩ := hv
  have hts := atoms_spec (ws := .code y cc nL ret :: vx_tbl) B.pre
  subst hsz
  have hD := hD0.self (sz := s.heap.size)
  have hA : ∀ q : Nat, s.heap.size ≤ q → va_A (vx_W dA ad N Λ μ) s.heap.size q := fun q h => Or.inr h
  have hl := lv_entry (vs.map (vx_V ad)) (n := nL) (by rw [vx_sl_len]; exact hn)
  rw [vx_in_args] at hl
  rw [lg_entry_eq]
  exact k p l e s m _ below meth c D dA _ s.heap [] _ ⟨B.exec, B.bytes, hml, B.returns, findClass_of_methodNamed B.named, fun w hw => hts w (List.mem_cons_of_mem _ hw), B.notSynchronized, fun h => by
    have hn := (name_of_methodNamed B.named B.method).1
    rw [hn]
    simpa using h⟩ va_S.rf hA hK hP hD hX hl
end

