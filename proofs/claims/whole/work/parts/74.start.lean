section
/-! THE CLAIM OUT OF ONE WALK OF THE LAW'S BODY. Your part is whole_start (and what it stands on); all else here is the same for every law, but numbers. -/
def R_law : String := "ThreshRoundLaw"
def lw_P (b : Addr) (xs : List Int32) (args : Array Value) (s : State) : Prop := args = #[.ref b] ∧ s.IntsAt b xs ∧ xs.length ≤ 3584 ∧ (Jvm.Cond.and given_1 narrow_1).before args s = true
def lw_Q (_ : Array Value) (s : State) (o : Outcome) (t : State) : Prop := o = .returned (some (.int 1)) ∧ Framed s o t [] 600000 7302250
def lw_Z (below : List Frame) (a : Array Value) (s : State) : State → Prop := fun t => ∃ o, t.status = .running ∧ Ended t below o ∧ lw_Q a s o t
/-- the law's own end, with 1 on the stack, nothing written that was there before, its room as the claim has it -/
theorem lw_ret {p : Program} {l : Launch} {e : Env} {s : State} {m : MethodId} {below : List Frame} {meth : Method} {c : Code} {b : Nat} (hx : p.tables.exec = Jvm.exec) (hb : c.code = code) (hr : meth.sig.returnType = ret) (hlocks : meth.locks = false) {pc : Nat} {H : Heap} {ls : Array Slot} (hdg : decode code pc = .ok (.ireturn, 1)) : W p l e room_1 s m #[Value.ref b] below meth c H [] 600000 7302250 (lw_Z below #[Value.ref b] s) (F0 m pc ls [.int 1]) := by
  intro T hT X
  obtain ⟨fs, hret, hrun, hended, hW, hframe⟩ := X.leave (v := some (.int 1)) (hlocks := hlocks) (fun h => by rw [hr] at h; cases h)
  have hmeth' : T.vm.method? m = some meth := X.method'
  refine ⟨T.setFrames fs, ?_, .returned (some (.int 1)), hrun, hended, rfl, ⟨_, rfl⟩, hW, hframe⟩
  jvm_step X.here [X.here.top, hx, hb, hdg, hmeth', hr, ret, narrow_b1]
  (try refine ⟨rfl, ?_⟩); (try refine ⟨rfl, ?_⟩)
  first | (intro acts; rw [hret _ acts rfl rfl rfl]) | rw [hret _ _ rfl rfl rfl]
  exact Steps.refl _
/-- what holds at the law's entry: the machine, the code, the tables' words (any of lw_tbl by 'hts w (by decide +kernel)'), the script of L ints xs at the cell b, what the Statement gives of the start (any of its parts by flat_of_before) -/
def lw_At (p : Program) (s : State) (m : MethodId) (meth : Method) (c : Code) (b L : Nat) (xs : Nat → Int32) : Prop :=
  p.tables.exec = Jvm.exec ∧ c.code = code ∧ meth.sig.returnType = ret ∧ c.maxLocals = 4 ∧ s.vm.findClass R_law = some m.cls ∧ (∀ w ∈ lw_tbl, w.before #[Value.ref b] s = true) ∧ va_X b L xs s s.heap ∧ b < s.heap.size ∧ meth.locks = false ∧ (Jvm.Cond.and given_1 narrow_1).before #[Value.ref b] s = true

def vl_tm : Nat → Term := fun i => if i = 0 then .string "ThreshRound$Customs" 99 else if i = 1 then .string "ThreshRound$Customs" 101 else if i = 2 then .string "ThreshRound$Customs" 103 else if i = 3 then .string "ThreshRound$Customs" 105 else if i = 4 then .string "ThreshRound$Customs" 107 else if i = 5 then .string "ThreshRound$Customs" 109 else .string "ThreshRoundModel" 130
def vl_g : Cond := Jvm.Cond.and given_1 narrow_1
set_option maxRecDepth 100000 in
theorem vl_s1 : ∀ i, i < 7 → (Cond.exactly (vl_tm i) "java/lang/String") ∈ flatC vl_g := by decide +kernel
set_option maxRecDepth 100000 in
theorem vl_s2 : ∀ i, i < 7 → (Cond.eq (.field (vl_tm i) "java/lang/String" "coder" "B") (.int 0)) ∈ flatC vl_g := by decide +kernel
set_option maxRecDepth 100000 in
theorem vl_s3 : ∀ i, i < 7 → (Cond.arrayOf (.field (vl_tm i) "java/lang/String" "value" "[B") .byte) ∈ flatC vl_g := by decide +kernel
set_option maxRecDepth 100000 in
theorem vl_s4 : ∀ i, i < 7 → (Cond.eq (.length (.field (vl_tm i) "java/lang/String" "value" "[B")) (.int (Int32.ofNat (vx_ll.getD i 0)))) ∈ flatC vl_g := by decide +kernel
set_option maxRecDepth 100000 in
theorem vl_s5 : ∀ i, i < 7 → ∀ j, j < vx_ll.getD i 0 → (Cond.eq (.elem (.field (vl_tm i) "java/lang/String" "value" "[B") (.int (Int32.ofNat j))) (.int ((vx_lb.getD i []).getD j 0))) ∈ flatC vl_g := by decide +kernel
set_option maxRecDepth 100000 in
theorem vl_s6 : ∀ i, i < 7 → ∀ j, j < 7 → i ≠ j → (Cond.not (Cond.eq (vl_tm i) (vl_tm j))) ∈ flatC vl_g ∨ (Cond.not (Cond.eq (vl_tm j) (vl_tm i))) ∈ flatC vl_g := by decide +kernel
set_option maxRecDepth 100000 in
theorem vl_t1 : ∀ i, i < 3 → (Cond.arrayOf (.static "ThreshRound$Customs" (vx_sn i) "[I") .int) ∈ flatC vl_g := by decide +kernel
set_option maxRecDepth 100000 in
theorem vl_t2 : ∀ i, i < 3 → (Cond.eq (.length (.static "ThreshRound$Customs" (vx_sn i) "[I")) (.int (Int32.ofNat 6))) ∈ flatC vl_g := by decide +kernel
set_option maxRecDepth 100000 in
theorem vl_t3 : ∀ i, i < 3 → ∀ j, j < 6 → (Cond.eq (.elem (.static "ThreshRound$Customs" (vx_sn i) "[I") (.int (Int32.ofNat j))) (.int ((vx_sv i).getD j 0))) ∈ flatC vl_g := by decide +kernel
set_option maxRecDepth 100000 in
theorem vl_u1 : (Cond.eq (.static "java/lang/String" "COMPACT_STRINGS" "Z") (.int 1)) ∈ flatC vl_g := by decide +kernel
set_option maxRecDepth 100000 in
theorem vl_u2 : (Cond.isRef (.static "jdk/internal/util/Preconditions" "SIOOBE_FORMATTER" "Ljava/util/function/BiFunction;")) ∈ flatC vl_g := by decide +kernel
theorem vl_m {q : Cond} (i : Nat) (h : lw_tbl[i]? = some q) : q ∈ lw_tbl := List.mem_of_getElem? h
set_option maxRecDepth 100000 in
theorem vl_nest : ∀ q ∈ vx_nest, q ∈ lw_tbl ∧ q.onTables = true := by decide +kernel
/-- the world at the law's entry -/
theorem vl_start {p : Program} {s : State} {m : MethodId} {meth : Method} {c : Code} {b L : Nat} {xs : Nat → Int32} (C0 : lw_At p s m meth c b L xs) : ∃ (D : va_G) (dA : Nat → ClassId) (ad : Nat → Nat), va_K D vwCl (vx_T dA) s ∧ vx_X ad (fun q => s.heap.size ≤ q) s s.heap ∧ ad 1400 = b := by
  obtain ⟨hx, hb, hr, hml, hown, hts, hX, hbl, hlocks, hgv⟩ := C0
  have hs : ∀ q, q ∈ flatC vl_g → q.before #[Value.ref b] s = true := flat_of_before _ hgv
  have hA : ∀ a : Nat, a < s.heap.size → ¬ (fun q : Nat => s.heap.size ≤ q) a := fun a h => Nat.not_le.mpr h
  have htv : ∀ w ∈ vx_tbl, w.before #[Value.ref b] s = true := fun w hw => hts w (List.mem_filter.mp hw).1
  have hcl : ∀ k : Nat, ∃ f : ClassId × (Nat → Nat), ∀ q : vw_C, vwCl[k]? = some q → u_Kn s q.1 q.2.1 q.2.2 f.1 f.2 := by
    intro k
    match k with
    | 0 => obtain ⟨cC, iS, h⟩ := u_known (C := RX0) (T := TX0) (N := 4) (n := 4) htv lay_X0 (htv _ wd_91); exact ⟨(cC, iS), fun q hq => by cases hq; exact h⟩
    | 1 => obtain ⟨cC, iS, h⟩ := u_known (C := RX1) (T := TX1) (N := 2) (n := 2) htv lay_X1 (htv _ wd_202); exact ⟨(cC, iS), fun q hq => by cases hq; exact h⟩
    | 2 => obtain ⟨cC, iS, h⟩ := u_known (C := RX2) (T := TX2) (N := 6) (n := 6) htv lay_X2 (htv _ wd_313); exact ⟨(cC, iS), fun q hq => by cases hq; exact h⟩
    | 3 => obtain ⟨cC, iS, h⟩ := u_known (C := RX3) (T := TX3) (N := 12) (n := 12) htv lay_X3 (htv _ wd_128); exact ⟨(cC, iS), fun q hq => by cases hq; exact h⟩
    | 4 => obtain ⟨cC, iS, h⟩ := u_known (C := RX4) (T := TX4) (N := 8) (n := 8) htv lay_X4 (htv _ wd_274); exact ⟨(cC, iS), fun q hq => by cases hq; exact h⟩
    | 5 => obtain ⟨cC, iS, h⟩ := u_known (C := RX5) (T := TX5) (N := 1) (n := 1) htv lay_X5 (htv _ wd_186); exact ⟨(cC, iS), fun q hq => by cases hq; exact h⟩
    | 6 => obtain ⟨cC, iS, h⟩ := u_known (C := RX6) (T := TX6) (N := 12) (n := 12) htv lay_X6 (htv _ wd_218); exact ⟨(cC, iS), fun q hq => by cases hq; exact h⟩
    | 7 => obtain ⟨cC, iS, h⟩ := u_known (C := RX7) (T := TX7) (N := 4) (n := 4) htv lay_X7 (htv _ wd_69); exact ⟨(cC, iS), fun q hq => by cases hq; exact h⟩
    | 8 => obtain ⟨cC, iS, h⟩ := u_known (C := RX8) (T := TX8) (N := 8) (n := 8) htv lay_X8 (htv _ wd_61); exact ⟨(cC, iS), fun q hq => by cases hq; exact h⟩
    | 9 => obtain ⟨cC, iS, h⟩ := u_known (C := RX9) (T := TX9) (N := 56) (n := 56) htv lay_X9 (htv _ wd_731); exact ⟨(cC, iS), fun q hq => by cases hq; exact h⟩
    | k + 10 => exact ⟨(0, fun _ => 0), fun q hq => by simp [vwCl] at hq⟩
  obtain ⟨f, hf⟩ := Classical.axiomOfChoice hcl
  obtain ⟨d0, k0, e0, a1, a2, a3⟩ := Cond.arrayClass_spec (hts (.arrayClass .int) (vl_m 89 (by decide +kernel)))
  obtain ⟨d1, k1, e1, b1, b2, b3⟩ := Cond.arrayClass_spec (hts (.arrayClass .boolean) (vl_m 272 (by decide +kernel)))
  have hov := hts (.arrayOver (.array .int)) (vl_m 192 (by decide +kernel))
  obtain ⟨e2, d2, k2, c1, c2, c3, c4⟩ := mz_over hov
  have hK : va_K (fun k => (f k).1, fun k => (f k).2) vwCl (vx_T (fun k => if k = 0 then d0 else if k = 1 then d1 else d2)) s := by
    refine ⟨hf, fun k q hq => ?_⟩
    match k, hq with
    | 0, hq => cases hq; exact ⟨fun n z => ⟨fun k h => (by cases h), k0, a2, e0, a3⟩, a1⟩
    | 1, hq => cases hq; exact ⟨fun n z => ⟨fun k h => (by cases h), k1, b2, e1, b3⟩, b1⟩
    | 2, hq => cases hq; exact ⟨fun n z => ⟨fun k h => (by cases h), k2, c2, e2, c3⟩, c4⟩
    | k + 3, hq => simp [vx_T] at hq
  obtain ⟨adK, adV, hS, hSe⟩ := vk_Sof (s := s) (args := #[Value.ref b]) (N := 7) (tm := vl_tm) (len := vx_ll) (byt := vx_lb) (A := fun q => s.heap.size ≤ q) (by decide) (fun i hi => hs _ (vl_s1 i hi)) (fun i hi => hs _ (vl_s2 i hi)) (fun i hi => hs _ (vl_s3 i hi)) (fun i hi => hs _ (vl_s4 i hi)) (fun i hi j hj => hs _ (vl_s5 i hi j hj)) (fun i j hi hj h => (vl_s6 i hi j hj h).imp (hs _) (hs _)) hA
  have hT : ∀ i, i < 3 → ∃ t : Nat, (Term.static "ThreshRound$Customs" (vx_sn i) "[I").eval #[Value.ref b] s none [] s = some (.ref t) ∧ va_T .int t 6 (fun j => .int ((vx_sv i).getD j 0)) (fun q => s.heap.size ≤ q) s s.heap := fun i hi => va_Tof (by decide) (hs _ (vl_t1 i hi)) (va_eqt (hs _ (vl_t2 i hi))) (fun j hj => va_eqt (hs _ (vl_t3 i hi j hj))) hA
  obtain ⟨t0, u0, v0⟩ := hT 0 (by decide)
  obtain ⟨t1, u1, v1⟩ := hT 1 (by decide)
  obtain ⟨t2, u2, v2⟩ := hT 2 (by decide)
  have iC := hts (.initialized "ThreshRound$Customs") (vl_m 47 (by decide +kernel))
  have z0 := va_Zof (A := fun q => s.heap.size ≤ q) (hts (.laysStatic "ThreshRound$Customs" "USUAL" "[I") (vl_m 111 (by decide +kernel))) iC u0 hA
  have z1 := va_Zof (A := fun q => s.heap.size ≤ q) (hts (.laysStatic "ThreshRound$Customs" "LEAST" "[I") (vl_m 493 (by decide +kernel))) iC u1 hA
  have z2 := va_Zof (A := fun q => s.heap.size ≤ q) (hts (.laysStatic "ThreshRound$Customs" "MOST" "[I") (vl_m 495 (by decide +kernel))) iC u2 hA
  have zC := va_Zof (A := fun q => s.heap.size ≤ q) (hts (.laysStatic "java/lang/String" "COMPACT_STRINGS" "Z") (vl_m 442 (by decide +kernel))) (hts (.initialized "java/lang/String") (vl_m 55 (by decide +kernel))) (va_eqt (hs _ vl_u1)) hA
  have zP := va_Zqof (A := fun q => s.heap.size ≤ q) (hts (.laysStatic "jdk/internal/util/Preconditions" "SIOOBE_FORMATTER" "Ljava/util/function/BiFunction;") (vl_m 458 (by decide +kernel))) (hts (.initialized "jdk/internal/util/Preconditions") (vl_m 57 (by decide +kernel))) (hs _ vl_u2) hA
  obtain ⟨tp, htp⟩ : ∃ tp : Nat, va_Z "jdk/internal/util/Preconditions" "SIOOBE_FORMATTER" "Ljava/util/function/BiFunction;" .null (fun q => s.heap.size ≤ q) s s.heap ∨ va_Z "jdk/internal/util/Preconditions" "SIOOBE_FORMATTER" "Ljava/util/function/BiFunction;" (.ref tp) (fun q => s.heap.size ≤ q) s s.heap := by
    rcases zP with h | ⟨t, h⟩
    · exact ⟨0, Or.inl h⟩
    · exact ⟨t, Or.inr h⟩
  obtain ⟨ad, had⟩ : ∃ ad : Nat → Nat, ad = fun k => if k < 1100 then adK (k - 1000) else if k < 1200 then adV (k - 1100) else if k = 1200 then t0 else if k = 1201 then t1 else if k = 1202 then t2 else if k = 1300 then tp else b := ⟨_, rfl⟩
  have aK : ∀ i, i < 7 → ad (1000 + i) = adK i := fun i hi => by rw [had]; show (if 1000 + i < 1100 then adK (1000 + i - 1000) else _) = _; rw [if_pos (by omega), show 1000 + i - 1000 = i by omega]
  have aV : ∀ i, i < 7 → ad (1100 + i) = adV i := fun i hi => by rw [had]; show (if 1100 + i < 1100 then _ else if 1100 + i < 1200 then adV (1100 + i - 1100) else _) = _; rw [if_neg (by omega), if_pos (by omega), show 1100 + i - 1100 = i by omega]
  have aS0 : ad 1200 = t0 := by rw [had]; rfl
  have aS1 : ad 1201 = t1 := by rw [had]; rfl
  have aS2 : ad 1202 = t2 := by rw [had]; rfl
  have aP : ad 1300 = tp := by rw [had]; rfl
  have aB : ad 1400 = b := by rw [had]; rfl
  refine ⟨_, _, ad, hK, ⟨fun q hq => va_Nw.of (vl_nest q hq).2 (hts q (vl_nest q hq).1), fun i hi => ?_, ⟨fun i hi => ?_, fun i j hi hj e => ?_⟩, fun i q hq => ?_, zC, by rw [aP]; exact htp, hov⟩, aB⟩
  · rcases i with _ | _ | _ | i
    · show va_Z _ "USUAL" _ (.ref (ad 1200)) _ _ _ ∧ va_T .int (ad 1200) _ _ _ _ _
      rw [aS0]
      exact ⟨z0, v0⟩
    · show va_Z _ "LEAST" _ (.ref (ad 1201)) _ _ _ ∧ va_T .int (ad 1201) _ _ _ _ _
      rw [aS1]
      exact ⟨z1, v1⟩
    · show va_Z _ "MOST" _ (.ref (ad 1202)) _ _ _ ∧ va_T .int (ad 1202) _ _ _ _ _
      rw [aS2]
      exact ⟨z2, v2⟩
    · omega
  · have h := hS.1 i hi
    dsimp only
    rw [aK i hi, aV i hi]
    exact h
  · dsimp only at e
    rw [aK i hi, aK j hj] at e
    exact hS.2 i j hi hj e
  · match i, hq with
    | 0, hq => cases hq; show vk_R _ _ _ (ad (1000 + 0)) s; rw [aK 0 (by decide)]; exact vk_R.of (hts _ (vl_m 423 (by decide +kernel))) (hSe 0 (by decide))
    | 1, hq => cases hq; show vk_R _ _ _ (ad (1000 + 1)) s; rw [aK 1 (by decide)]; exact vk_R.of (hts _ (vl_m 424 (by decide +kernel))) (hSe 1 (by decide))
    | 2, hq => cases hq; show vk_R _ _ _ (ad (1000 + 2)) s; rw [aK 2 (by decide)]; exact vk_R.of (hts _ (vl_m 425 (by decide +kernel))) (hSe 2 (by decide))
    | 3, hq => cases hq; show vk_R _ _ _ (ad (1000 + 3)) s; rw [aK 3 (by decide)]; exact vk_R.of (hts _ (vl_m 426 (by decide +kernel))) (hSe 3 (by decide))
    | 4, hq => cases hq; show vk_R _ _ _ (ad (1000 + 4)) s; rw [aK 4 (by decide)]; exact vk_R.of (hts _ (vl_m 427 (by decide +kernel))) (hSe 4 (by decide))
    | 5, hq => cases hq; show vk_R _ _ _ (ad (1000 + 5)) s; rw [aK 5 (by decide)]; exact vk_R.of (hts _ (vl_m 428 (by decide +kernel))) (hSe 5 (by decide))
    | 6, hq => cases hq; show vk_R _ _ _ (ad (1000 + 6)) s; rw [aK 6 (by decide)]; exact vk_R.of (hts _ (vl_m 928 (by decide +kernel))) (hSe 6 (by decide))
    | k + 7, hq => simp [vx_lit] at hq
end
