section
/-- what a constructor leaves -/
def vx_mk (ad : Nat → Nat) (a N1 : Nat) (Λ1 : vx_L) (μ1 : vx_mem) : vx_P := fun r ad' N' Λ' μ' => r = none ∧ (∀ k, k < a ∨ 1000 ≤ k → ad' k = ad k) ∧ N' = N1 ∧ Λ' = Λ1 ∧ μ' = μ1
def rd_m (μ : vx_mem) (i j : Nat) : vx_mem := fun p q => if (20 ≤ p ∧ p < 28) ∧ q < 8 ∧ (p - 20 < i ∨ p - 20 = i ∧ q < j) then -1 else μ p q
theorem rd_m_o {μ : vx_mem} {i j p : Nat} (h : ¬ (20 ≤ p ∧ p < 28)) : rd_m μ i j p = μ p := by
  funext q
  unfold rd_m
  rw [if_neg (fun z => h z.1)]
theorem vx_ok9 {N : Nat} {Λ : vx_L} (h : (List.range N).all (fun k => (List.range 9).all (fun j => vx_ok (N + j) (Λ k))) = true) : ∀ k, k < N → ∀ M, N ≤ M → M < N + 9 → vx_ok M (Λ k) = true := by
  intro k hk M h1 h2
  have h3 := List.all_eq_true.mp (List.all_eq_true.mp h k (List.mem_range.mpr hk)) (M - N) (List.mem_range.mpr (by omega))
  rw [show N + (M - N) = M by omega] at h3
  exact h3
theorem rd_m_0 {μ : vx_mem} : rd_m μ 0 0 = μ := by
  funext p q
  unfold rd_m
  rw [if_neg (by omega)]
theorem rd_m_n {μ : vx_mem} {i : Nat} : rd_m μ i 8 = rd_m μ (i + 1) 0 := by
  funext p q
  unfold rd_m
  by_cases h : (20 ≤ p ∧ p < 28) ∧ q < 8 ∧ (p - 20 < i ∨ p - 20 = i ∧ q < 8)
  · rw [if_pos h, if_pos (by omega)]
  · rw [if_neg h, if_neg (by omega)]
theorem rd_m_s {μ : vx_mem} {i j : Nat} (hi : i < 8) (hj : j < 8) : sp_set (rd_m μ i j) 20 i j (-1) = rd_m μ i (j + 1) := by
  funext p q
  unfold sp_set va_up upd
  by_cases e : p = 20 + i
  · rw [if_pos e]
    by_cases e2 : q = j
    · rw [if_pos e2]
      unfold rd_m
      rw [if_pos (by omega)]
    · rw [if_neg e2, e]
      unfold rd_m
      by_cases h : (20 ≤ 20 + i ∧ 20 + i < 28) ∧ q < 8 ∧ (20 + i - 20 < i ∨ 20 + i - 20 = i ∧ q < j)
      · rw [if_pos h, if_pos (by omega)]
      · rw [if_neg h, if_neg (by omega)]
  · rw [if_neg e]
    unfold rd_m
    by_cases h : (20 ≤ p ∧ p < 28) ∧ q < 8 ∧ (p - 20 < i ∨ p - 20 = i ∧ q < j)
    · rw [if_pos h, if_pos (by omega)]
    · rw [if_neg h, if_neg (by omega)]
set_option maxRecDepth 20000 in
set_option maxHeartbeats 8000000 in
theorem c_X7_init (ad : Nat → Nat) (μ : vx_mem) (hz : ∀ k, 1 ≤ k → k < 82 → μ k = fun _ => 0) : vx_M yX7_init cX7_init 1 none 10 1 300 ad 2 (va_up (va_up vx_lay 0 (.inl (8, [some none, some none, some none, some none, some none, some none, some none, some none]))) 1 (.inl (7, [some none, none, none, none]))) μ [vx_r 1] (vx_mk ad 2 3 (va_up vx_lay 0 (.inl (8, [some none, some none, some none, some none, some none, some none, some none, some none]))) μ) := by
  have key : ∀ (ini : Bool), ini = true → vx_J RX7 cX7_init 1 none ini 10 1 300 (vx_mk ad 2 3 (va_up vx_lay 0 (.inl (8, [some none, some none, some none, some none, some none, some none, some none, some none]))) μ) ad 0 0 2 (va_up (va_up vx_lay 0 (.inl (8, [some none, some none, some none, some none, some none, some none, some none, some none]))) 1 (.inl (7, [some none, none, none, none]))) μ 0 [(0, vx_r 1)] [] := by
    intro ini hini
    refine vx_aload_n dX7_init_0 rfl ?_
    refine vx_objI dX7_init_1 wd_73 wd_66 wd_67 (by decide) (by decide) ?_
    refine vx_aload_n dX7_init_4 rfl ?_
    refine vx_sipush (v := 300) dX7_init_5 (by decide) ?_
    refine vx_newa (t := 0) (L := 300) dX7_init_8 (by decide) wd_89 (by decide) (by decide) (by decide) rfl (hz 2 (by decide) (by decide)) (by decide) (by decide +kernel) (by decide) (by decide) (by decide) (fun ad1 g1 => ?_)
    have hA1 : ∀ k, k < 2 ∨ 1000 ≤ k → ad1 k = ad k := fun k hk => (g1 k (by omega)).trans ((fun k _ => rfl) k hk)
    refine vx_putR (ci := 7) (T := TX7) (n := 4) (j := 0) (a := 1) (r := 2) (fr := [some none, none, none, none]) (ty := tyX7 0) dX7_init_10 rfl lay_X7 tyX7_ok nmX7 (by decide) wd_74 rfl hini rfl rfl (fun _ => rfl) (fun _ => rfl) (by decide) rfl (by decide) ?_
    refine vx_J_lam (Λ' := (va_up (va_up vx_lay 0 (.inl (8, [some none, some none, some none, some none, some none, some none, some none, some none]))) 1 (.inl (7, [some (some 2), none, none, none])))) (fun k _ => congrFun vx_up_up k) ?_
    refine vx_J_lam (Λ' := (va_up vx_lay 0 (.inl (8, [some none, some none, some none, some none, some none, some none, some none, some none])))) (fun k _ => congrFun (vx_up_id (va_up vx_lay 0 (.inl (8, [some none, some none, some none, some none, some none, some none, some none, some none]))) 1) k) ?_
    refine vx_aload_n dX7_init_13 rfl ?_
    refine vx_iconst (v := 0) dX7_init_14 (by decide) ?_
    refine vx_putI (ci := 7) (T := TX7) (n := 4) (j := 1) (a := 1) (ty := .int) (μ2 := (va_up μ 1 (upd (μ 1) 1 0))) dX7_init_15 rfl lay_X7 tyX7_ok nmX7 (by decide) wd_75 rfl rfl rfl rfl (by decide) rfl rfl rfl ?_
    refine vx_eq (μ2 := μ) (by rw [sp_ups (f := (μ 1)) (k := 1) (congrFun (hz 1 (by decide) (by decide)) 1), vx_up_id]) rfl rfl ?_
    refine vx_aload_n dX7_init_18 rfl ?_
    refine vx_iconst (v := 0) dX7_init_19 (by decide) ?_
    refine vx_putI (ci := 7) (T := TX7) (n := 4) (j := 2) (a := 1) (ty := .int) (μ2 := (va_up μ 1 (upd (μ 1) 2 0))) dX7_init_20 rfl lay_X7 tyX7_ok nmX7 (by decide) wd_77 rfl rfl rfl rfl (by decide) rfl rfl rfl ?_
    refine vx_eq (μ2 := μ) (by rw [sp_ups (f := (μ 1)) (k := 2) (congrFun (hz 1 (by decide) (by decide)) 2), vx_up_id]) rfl rfl ?_
    refine vx_aload_n dX7_init_23 rfl ?_
    refine vx_iconst (v := 0) dX7_init_24 (by decide) ?_
    refine vx_putI (ci := 7) (T := TX7) (n := 4) (j := 3) (a := 1) (ty := .int) (μ2 := (va_up μ 1 (upd (μ 1) 3 0))) dX7_init_25 rfl lay_X7 tyX7_ok nmX7 (by decide) wd_79 rfl rfl rfl rfl (by decide) rfl rfl rfl ?_
    refine vx_eq (μ2 := μ) (by rw [sp_ups (f := (μ 1)) (k := 3) (congrFun (hz 1 (by decide) (by decide)) 3), vx_up_id]) rfl rfl ?_
    exact vx_vret dX7_init_28 rfl (by decide) (by decide) (⟨rfl, hA1, rfl, rfl, rfl⟩)
  exact vx_J.M pn_X7_init (Nat.le_of_ble_eq_true rfl) (key _ (by decide))
set_option maxRecDepth 20000 in
set_option maxHeartbeats 8000000 in
theorem c_X0_init (ad : Nat → Nat) (μ : vx_mem) (hz : ∀ k, 3 ≤ k → k < 82 → μ k = fun _ => 0) : vx_M yX0_init cX0_init 1 none 10 2 12 ad 4 (va_up (va_up vx_lay 0 (.inl (8, [some (some 1), some none, some none, some none, some none, some none, some none, some none]))) 3 (.inl (0, [some none, some none, none, none]))) μ [vx_r 3] (vx_mk ad 4 6 (va_up vx_lay 0 (.inl (8, [some (some 1), some none, some none, some none, some none, some none, some none, some none]))) (va_up (va_up (va_up μ 3 (upd (upd (μ 3) 2 0) 3 (-1))) 4 (sp_pif (μ 4) (sp_no (μ 5)) 6)) 5 (sp_no (μ 5)))) := by
  have key : ∀ (ini : Bool), ini = true → vx_J RX0 cX0_init 1 none ini 10 2 12 (vx_mk ad 4 6 (va_up vx_lay 0 (.inl (8, [some (some 1), some none, some none, some none, some none, some none, some none, some none]))) (va_up (va_up (va_up μ 3 (upd (upd (μ 3) 2 0) 3 (-1))) 4 (sp_pif (μ 4) (sp_no (μ 5)) 6)) 5 (sp_no (μ 5)))) ad 0 0 4 (va_up (va_up vx_lay 0 (.inl (8, [some (some 1), some none, some none, some none, some none, some none, some none, some none]))) 3 (.inl (0, [some none, some none, none, none]))) μ 0 [(0, vx_r 3)] [] := by
    intro ini hini
    refine vx_aload_n dX0_init_0 rfl ?_
    refine vx_objI dX0_init_1 wd_95 wd_66 wd_67 (by decide) (by decide) ?_
    refine vx_aload_n dX0_init_4 rfl ?_
    refine vx_bipush (v := 6) dX0_init_5 (by decide) ?_
    refine vx_newa (t := 0) (L := 6) dX0_init_7 (by decide) wd_89 (by decide) (by decide) (by decide) rfl (hz 4 (by decide) (by decide)) (by decide) (by decide +kernel) (by decide) (by decide) (by decide) (fun ad1 g1 => ?_)
    have hA1 : ∀ k, k < 4 ∨ 1000 ≤ k → ad1 k = ad k := fun k hk => (g1 k (by omega)).trans ((fun k _ => rfl) k hk)
    refine vx_putR (ci := 0) (T := TX0) (n := 4) (j := 0) (a := 3) (r := 4) (fr := [some none, some none, none, none]) (ty := tyX0 0) dX0_init_9 rfl lay_X0 tyX0_ok nmX0 (by decide) wd_112 rfl hini rfl rfl (fun _ => rfl) (fun _ => rfl) (by decide) rfl (by decide) ?_
    refine vx_J_lam (Λ' := (va_up (va_up vx_lay 0 (.inl (8, [some (some 1), some none, some none, some none, some none, some none, some none, some none]))) 3 (.inl (0, [some (some 4), some none, none, none])))) (fun k _ => congrFun vx_up_up k) ?_
    refine vx_aload_n dX0_init_12 rfl ?_
    refine vx_bipush (v := 6) dX0_init_13 (by decide) ?_
    refine vx_newa (t := 0) (L := 6) dX0_init_15 (by decide) wd_89 (by decide) (by decide) (by decide) rfl (hz 5 (by decide) (by decide)) (by decide) (by decide +kernel) (by decide) (by decide) (by decide) (fun ad2 g2 => ?_)
    have hA2 : ∀ k, k < 4 ∨ 1000 ≤ k → ad2 k = ad k := fun k hk => (g2 k (by omega)).trans (hA1 k hk)
    refine vx_putR (ci := 0) (T := TX0) (n := 4) (j := 1) (a := 3) (r := 5) (fr := [some (some 4), some none, none, none]) (ty := tyX0 1) dX0_init_17 rfl lay_X0 tyX0_ok nmX0 (by decide) wd_113 rfl hini rfl rfl (fun _ => rfl) (fun _ => rfl) (by decide) rfl (by decide) ?_
    refine vx_J_lam (Λ' := (va_up (va_up vx_lay 0 (.inl (8, [some (some 1), some none, some none, some none, some none, some none, some none, some none]))) 3 (.inl (0, [some (some 4), some (some 5), none, none])))) (fun k _ => congrFun vx_up_up k) ?_
    refine vx_J_lam (Λ' := (va_up vx_lay 0 (.inl (8, [some (some 1), some none, some none, some none, some none, some none, some none, some none])))) (fun k _ => congrFun (vx_up_id (va_up vx_lay 0 (.inl (8, [some (some 1), some none, some none, some none, some none, some none, some none, some none]))) 3) k) ?_
    refine vx_aload_n dX0_init_20 rfl ?_
    refine vx_callV (b := 3) (vs := []) (st := []) (r0 := none) (μ0 := (va_up (va_up μ 3 (upd (upd (μ 3) 2 0) 3 (-1))) 5 (sp_no (μ 5)))) dX0_init_21 (c_X0_forgetTold 9 (by omega) ad2 6 (va_up vx_lay 0 (.inl (8, [some (some 1), some none, some none, some none, some none, some none, some none, some none]))) μ (by decide) rfl (by decide) rfl (by decide) rfl) wd_96 wd_99 wd_47 hy_X0_forgetTold wd_98 wd_0 (by decide) rfl rfl rfl (by decide) (Nat.le_of_ble_eq_true rfl) (Nat.le_of_ble_eq_true rfl) (by decide) (by decide) ?_
    refine vx_eq (μ2 := (va_up (va_up μ 3 (upd (upd (μ 3) 2 0) 3 (-1))) 5 (sp_no (μ 5)))) (ls2 := [(0, vx_r 3)]) (st2 := []) rfl rfl rfl ?_
    refine vx_aload_n dX0_init_24 rfl ?_
    refine vx_callV (b := 3) (vs := []) (st := []) (r0 := none) (μ0 := (va_up (va_up (va_up μ 3 (upd (upd (μ 3) 2 0) 3 (-1))) 4 (sp_pif (μ 4) (sp_no (μ 5)) 6)) 5 (sp_no (μ 5)))) dX0_init_25 ((c_X0_putInForce 9 (by omega) ad2 6 (va_up vx_lay 0 (.inl (8, [some (some 1), some none, some none, some none, some none, some none, some none, some none]))) (va_up (va_up μ 3 (upd (upd (μ 3) 2 0) 3 (-1))) 5 (sp_no (μ 5))) (by decide) rfl (by decide) rfl (by decide) rfl).to rfl (vx_m2 (by decide))) wd_103 wd_106 wd_47 hy_X0_putInForce wd_105 wd_1 (by decide) rfl rfl rfl (by decide) (Nat.le_of_ble_eq_true rfl) (Nat.le_of_ble_eq_true rfl) (by decide) (by decide) ?_
    refine vx_eq (μ2 := (va_up (va_up (va_up μ 3 (upd (upd (μ 3) 2 0) 3 (-1))) 4 (sp_pif (μ 4) (sp_no (μ 5)) 6)) 5 (sp_no (μ 5)))) (ls2 := [(0, vx_r 3)]) (st2 := []) rfl rfl rfl ?_
    exact vx_vret dX0_init_28 rfl (by decide) (by decide) (⟨rfl, hA2, rfl, rfl, rfl⟩)
  exact vx_J.M pn_X0_init (Nat.le_of_ble_eq_true rfl) (key _ (by decide))
set_option maxRecDepth 20000 in
set_option maxHeartbeats 8000000 in
theorem c_X3_init (ad : Nat → Nat) (μ : vx_mem) (hz : ∀ k, 6 ≤ k → k < 82 → μ k = fun _ => 0) : vx_M yX3_init cX3_init 1 none 10 11 88 ad 7 (va_up (va_up vx_lay 0 (.inl (8, [some (some 1), some (some 3), some none, some none, some none, some none, some none, some none]))) 6 (.inl (3, [none, some none, some none, some none, some none, some none, some none, some none, some none, some none, some none, some none]))) μ [vx_r 6] (vx_mk ad 7 18 (va_up vx_lay 0 (.inl (8, [some (some 1), some (some 3), some none, some none, some none, some none, some none, some none]))) μ) := by
  have key : ∀ (ini : Bool), ini = true → vx_J RX3 cX3_init 1 none ini 10 11 88 (vx_mk ad 7 18 (va_up vx_lay 0 (.inl (8, [some (some 1), some (some 3), some none, some none, some none, some none, some none, some none]))) μ) ad 0 0 7 (va_up (va_up vx_lay 0 (.inl (8, [some (some 1), some (some 3), some none, some none, some none, some none, some none, some none]))) 6 (.inl (3, [none, some none, some none, some none, some none, some none, some none, some none, some none, some none, some none, some none]))) μ 0 [(0, vx_r 6)] [] := by
    intro ini hini
    refine vx_aload_n dX3_init_0 rfl ?_
    refine vx_objI dX3_init_1 wd_132 wd_66 wd_67 (by decide) (by decide) ?_
    refine vx_aload_n dX3_init_4 rfl ?_
    refine vx_iconst (v := 0) dX3_init_5 (by decide) ?_
    refine vx_putI (ci := 3) (T := TX3) (n := 12) (j := 0) (a := 6) (ty := .int) (μ2 := (va_up μ 6 (upd (μ 6) 0 0))) dX3_init_6 rfl lay_X3 tyX3_ok nmX3 (by decide) wd_133 rfl rfl rfl rfl (by decide) rfl rfl rfl ?_
    refine vx_eq (μ2 := μ) (by rw [sp_ups (f := (μ 6)) (k := 0) (congrFun (hz 6 (by decide) (by decide)) 0), vx_up_id]) rfl rfl ?_
    refine vx_aload_n dX3_init_9 rfl ?_
    refine vx_bipush (v := 8) dX3_init_10 (by decide) ?_
    refine vx_newa (t := 0) (L := 8) dX3_init_12 (by decide) wd_89 (by decide) (by decide) (by decide) rfl (hz 7 (by decide) (by decide)) (by decide) (by decide +kernel) (by decide) (by decide) (by decide) (fun ad1 g1 => ?_)
    have hA1 : ∀ k, k < 7 ∨ 1000 ≤ k → ad1 k = ad k := fun k hk => (g1 k (by omega)).trans ((fun k _ => rfl) k hk)
    refine vx_putR (ci := 3) (T := TX3) (n := 12) (j := 1) (a := 6) (r := 7) (fr := [none, some none, some none, some none, some none, some none, some none, some none, some none, some none, some none, some none]) (ty := tyX3 1) dX3_init_14 rfl lay_X3 tyX3_ok nmX3 (by decide) wd_136 rfl hini rfl rfl (fun _ => rfl) (fun _ => rfl) (by decide) rfl (by decide) ?_
    refine vx_J_lam (Λ' := (va_up (va_up vx_lay 0 (.inl (8, [some (some 1), some (some 3), some none, some none, some none, some none, some none, some none]))) 6 (.inl (3, [none, some (some 7), some none, some none, some none, some none, some none, some none, some none, some none, some none, some none])))) (fun k _ => congrFun vx_up_up k) ?_
    refine vx_aload_n dX3_init_17 rfl ?_
    refine vx_bipush (v := 8) dX3_init_18 (by decide) ?_
    refine vx_newa (t := 0) (L := 8) dX3_init_20 (by decide) wd_89 (by decide) (by decide) (by decide) rfl (hz 8 (by decide) (by decide)) (by decide) (by decide +kernel) (by decide) (by decide) (by decide) (fun ad2 g2 => ?_)
    have hA2 : ∀ k, k < 7 ∨ 1000 ≤ k → ad2 k = ad k := fun k hk => (g2 k (by omega)).trans (hA1 k hk)
    refine vx_putR (ci := 3) (T := TX3) (n := 12) (j := 2) (a := 6) (r := 8) (fr := [none, some (some 7), some none, some none, some none, some none, some none, some none, some none, some none, some none, some none]) (ty := tyX3 2) dX3_init_22 rfl lay_X3 tyX3_ok nmX3 (by decide) wd_138 rfl hini rfl rfl (fun _ => rfl) (fun _ => rfl) (by decide) rfl (by decide) ?_
    refine vx_J_lam (Λ' := (va_up (va_up vx_lay 0 (.inl (8, [some (some 1), some (some 3), some none, some none, some none, some none, some none, some none]))) 6 (.inl (3, [none, some (some 7), some (some 8), some none, some none, some none, some none, some none, some none, some none, some none, some none])))) (fun k _ => congrFun vx_up_up k) ?_
    refine vx_aload_n dX3_init_25 rfl ?_
    refine vx_bipush (v := 8) dX3_init_26 (by decide) ?_
    refine vx_newa (t := 0) (L := 8) dX3_init_28 (by decide) wd_89 (by decide) (by decide) (by decide) rfl (hz 9 (by decide) (by decide)) (by decide) (by decide +kernel) (by decide) (by decide) (by decide) (fun ad3 g3 => ?_)
    have hA3 : ∀ k, k < 7 ∨ 1000 ≤ k → ad3 k = ad k := fun k hk => (g3 k (by omega)).trans (hA2 k hk)
    refine vx_putR (ci := 3) (T := TX3) (n := 12) (j := 3) (a := 6) (r := 9) (fr := [none, some (some 7), some (some 8), some none, some none, some none, some none, some none, some none, some none, some none, some none]) (ty := tyX3 3) dX3_init_30 rfl lay_X3 tyX3_ok nmX3 (by decide) wd_140 rfl hini rfl rfl (fun _ => rfl) (fun _ => rfl) (by decide) rfl (by decide) ?_
    refine vx_J_lam (Λ' := (va_up (va_up vx_lay 0 (.inl (8, [some (some 1), some (some 3), some none, some none, some none, some none, some none, some none]))) 6 (.inl (3, [none, some (some 7), some (some 8), some (some 9), some none, some none, some none, some none, some none, some none, some none, some none])))) (fun k _ => congrFun vx_up_up k) ?_
    refine vx_aload_n dX3_init_33 rfl ?_
    refine vx_bipush (v := 8) dX3_init_34 (by decide) ?_
    refine vx_newa (t := 0) (L := 8) dX3_init_36 (by decide) wd_89 (by decide) (by decide) (by decide) rfl (hz 10 (by decide) (by decide)) (by decide) (by decide +kernel) (by decide) (by decide) (by decide) (fun ad4 g4 => ?_)
    have hA4 : ∀ k, k < 7 ∨ 1000 ≤ k → ad4 k = ad k := fun k hk => (g4 k (by omega)).trans (hA3 k hk)
    refine vx_putR (ci := 3) (T := TX3) (n := 12) (j := 4) (a := 6) (r := 10) (fr := [none, some (some 7), some (some 8), some (some 9), some none, some none, some none, some none, some none, some none, some none, some none]) (ty := tyX3 4) dX3_init_38 rfl lay_X3 tyX3_ok nmX3 (by decide) wd_142 rfl hini rfl rfl (fun _ => rfl) (fun _ => rfl) (by decide) rfl (by decide) ?_
    refine vx_J_lam (Λ' := (va_up (va_up vx_lay 0 (.inl (8, [some (some 1), some (some 3), some none, some none, some none, some none, some none, some none]))) 6 (.inl (3, [none, some (some 7), some (some 8), some (some 9), some (some 10), some none, some none, some none, some none, some none, some none, some none])))) (fun k _ => congrFun vx_up_up k) ?_
    refine vx_aload_n dX3_init_41 rfl ?_
    refine vx_bipush (v := 8) dX3_init_42 (by decide) ?_
    refine vx_newa (t := 0) (L := 8) dX3_init_44 (by decide) wd_89 (by decide) (by decide) (by decide) rfl (hz 11 (by decide) (by decide)) (by decide) (by decide +kernel) (by decide) (by decide) (by decide) (fun ad5 g5 => ?_)
    have hA5 : ∀ k, k < 7 ∨ 1000 ≤ k → ad5 k = ad k := fun k hk => (g5 k (by omega)).trans (hA4 k hk)
    refine vx_putR (ci := 3) (T := TX3) (n := 12) (j := 5) (a := 6) (r := 11) (fr := [none, some (some 7), some (some 8), some (some 9), some (some 10), some none, some none, some none, some none, some none, some none, some none]) (ty := tyX3 5) dX3_init_46 rfl lay_X3 tyX3_ok nmX3 (by decide) wd_145 rfl hini rfl rfl (fun _ => rfl) (fun _ => rfl) (by decide) rfl (by decide) ?_
    refine vx_J_lam (Λ' := (va_up (va_up vx_lay 0 (.inl (8, [some (some 1), some (some 3), some none, some none, some none, some none, some none, some none]))) 6 (.inl (3, [none, some (some 7), some (some 8), some (some 9), some (some 10), some (some 11), some none, some none, some none, some none, some none, some none])))) (fun k _ => congrFun vx_up_up k) ?_
    refine vx_aload_n dX3_init_49 rfl ?_
    refine vx_bipush (v := 8) dX3_init_50 (by decide) ?_
    refine vx_newa (t := 0) (L := 8) dX3_init_52 (by decide) wd_89 (by decide) (by decide) (by decide) rfl (hz 12 (by decide) (by decide)) (by decide) (by decide +kernel) (by decide) (by decide) (by decide) (fun ad6 g6 => ?_)
    have hA6 : ∀ k, k < 7 ∨ 1000 ≤ k → ad6 k = ad k := fun k hk => (g6 k (by omega)).trans (hA5 k hk)
    refine vx_putR (ci := 3) (T := TX3) (n := 12) (j := 6) (a := 6) (r := 12) (fr := [none, some (some 7), some (some 8), some (some 9), some (some 10), some (some 11), some none, some none, some none, some none, some none, some none]) (ty := tyX3 6) dX3_init_54 rfl lay_X3 tyX3_ok nmX3 (by decide) wd_148 rfl hini rfl rfl (fun _ => rfl) (fun _ => rfl) (by decide) rfl (by decide) ?_
    refine vx_J_lam (Λ' := (va_up (va_up vx_lay 0 (.inl (8, [some (some 1), some (some 3), some none, some none, some none, some none, some none, some none]))) 6 (.inl (3, [none, some (some 7), some (some 8), some (some 9), some (some 10), some (some 11), some (some 12), some none, some none, some none, some none, some none])))) (fun k _ => congrFun vx_up_up k) ?_
    refine vx_aload_n dX3_init_57 rfl ?_
    refine vx_bipush (v := 8) dX3_init_58 (by decide) ?_
    refine vx_newa (t := 0) (L := 8) dX3_init_60 (by decide) wd_89 (by decide) (by decide) (by decide) rfl (hz 13 (by decide) (by decide)) (by decide) (by decide +kernel) (by decide) (by decide) (by decide) (fun ad7 g7 => ?_)
    have hA7 : ∀ k, k < 7 ∨ 1000 ≤ k → ad7 k = ad k := fun k hk => (g7 k (by omega)).trans (hA6 k hk)
    refine vx_putR (ci := 3) (T := TX3) (n := 12) (j := 7) (a := 6) (r := 13) (fr := [none, some (some 7), some (some 8), some (some 9), some (some 10), some (some 11), some (some 12), some none, some none, some none, some none, some none]) (ty := tyX3 7) dX3_init_62 rfl lay_X3 tyX3_ok nmX3 (by decide) wd_150 rfl hini rfl rfl (fun _ => rfl) (fun _ => rfl) (by decide) rfl (by decide) ?_
    refine vx_J_lam (Λ' := (va_up (va_up vx_lay 0 (.inl (8, [some (some 1), some (some 3), some none, some none, some none, some none, some none, some none]))) 6 (.inl (3, [none, some (some 7), some (some 8), some (some 9), some (some 10), some (some 11), some (some 12), some (some 13), some none, some none, some none, some none])))) (fun k _ => congrFun vx_up_up k) ?_
    refine vx_aload_n dX3_init_65 rfl ?_
    refine vx_bipush (v := 8) dX3_init_66 (by decide) ?_
    refine vx_newa (t := 0) (L := 8) dX3_init_68 (by decide) wd_89 (by decide) (by decide) (by decide) rfl (hz 14 (by decide) (by decide)) (by decide) (by decide +kernel) (by decide) (by decide) (by decide) (fun ad8 g8 => ?_)
    have hA8 : ∀ k, k < 7 ∨ 1000 ≤ k → ad8 k = ad k := fun k hk => (g8 k (by omega)).trans (hA7 k hk)
    refine vx_putR (ci := 3) (T := TX3) (n := 12) (j := 8) (a := 6) (r := 14) (fr := [none, some (some 7), some (some 8), some (some 9), some (some 10), some (some 11), some (some 12), some (some 13), some none, some none, some none, some none]) (ty := tyX3 8) dX3_init_70 rfl lay_X3 tyX3_ok nmX3 (by decide) wd_152 rfl hini rfl rfl (fun _ => rfl) (fun _ => rfl) (by decide) rfl (by decide) ?_
    refine vx_J_lam (Λ' := (va_up (va_up vx_lay 0 (.inl (8, [some (some 1), some (some 3), some none, some none, some none, some none, some none, some none]))) 6 (.inl (3, [none, some (some 7), some (some 8), some (some 9), some (some 10), some (some 11), some (some 12), some (some 13), some (some 14), some none, some none, some none])))) (fun k _ => congrFun vx_up_up k) ?_
    refine vx_aload_n dX3_init_73 rfl ?_
    refine vx_bipush (v := 8) dX3_init_74 (by decide) ?_
    refine vx_newa (t := 0) (L := 8) dX3_init_76 (by decide) wd_89 (by decide) (by decide) (by decide) rfl (hz 15 (by decide) (by decide)) (by decide) (by decide +kernel) (by decide) (by decide) (by decide) (fun ad9 g9 => ?_)
    have hA9 : ∀ k, k < 7 ∨ 1000 ≤ k → ad9 k = ad k := fun k hk => (g9 k (by omega)).trans (hA8 k hk)
    refine vx_putR (ci := 3) (T := TX3) (n := 12) (j := 9) (a := 6) (r := 15) (fr := [none, some (some 7), some (some 8), some (some 9), some (some 10), some (some 11), some (some 12), some (some 13), some (some 14), some none, some none, some none]) (ty := tyX3 9) dX3_init_78 rfl lay_X3 tyX3_ok nmX3 (by decide) wd_154 rfl hini rfl rfl (fun _ => rfl) (fun _ => rfl) (by decide) rfl (by decide) ?_
    refine vx_J_lam (Λ' := (va_up (va_up vx_lay 0 (.inl (8, [some (some 1), some (some 3), some none, some none, some none, some none, some none, some none]))) 6 (.inl (3, [none, some (some 7), some (some 8), some (some 9), some (some 10), some (some 11), some (some 12), some (some 13), some (some 14), some (some 15), some none, some none])))) (fun k _ => congrFun vx_up_up k) ?_
    refine vx_aload_n dX3_init_81 rfl ?_
    refine vx_bipush (v := 8) dX3_init_82 (by decide) ?_
    refine vx_newa (t := 0) (L := 8) dX3_init_84 (by decide) wd_89 (by decide) (by decide) (by decide) rfl (hz 16 (by decide) (by decide)) (by decide) (by decide +kernel) (by decide) (by decide) (by decide) (fun ad10 g10 => ?_)
    have hA10 : ∀ k, k < 7 ∨ 1000 ≤ k → ad10 k = ad k := fun k hk => (g10 k (by omega)).trans (hA9 k hk)
    refine vx_putR (ci := 3) (T := TX3) (n := 12) (j := 10) (a := 6) (r := 16) (fr := [none, some (some 7), some (some 8), some (some 9), some (some 10), some (some 11), some (some 12), some (some 13), some (some 14), some (some 15), some none, some none]) (ty := tyX3 10) dX3_init_86 rfl lay_X3 tyX3_ok nmX3 (by decide) wd_156 rfl hini rfl rfl (fun _ => rfl) (fun _ => rfl) (by decide) rfl (by decide) ?_
    refine vx_J_lam (Λ' := (va_up (va_up vx_lay 0 (.inl (8, [some (some 1), some (some 3), some none, some none, some none, some none, some none, some none]))) 6 (.inl (3, [none, some (some 7), some (some 8), some (some 9), some (some 10), some (some 11), some (some 12), some (some 13), some (some 14), some (some 15), some (some 16), some none])))) (fun k _ => congrFun vx_up_up k) ?_
    refine vx_aload_n dX3_init_89 rfl ?_
    refine vx_bipush (v := 8) dX3_init_90 (by decide) ?_
    refine vx_newa (t := 0) (L := 8) dX3_init_92 (by decide) wd_89 (by decide) (by decide) (by decide) rfl (hz 17 (by decide) (by decide)) (by decide) (by decide +kernel) (by decide) (by decide) (by decide) (fun ad11 g11 => ?_)
    have hA11 : ∀ k, k < 7 ∨ 1000 ≤ k → ad11 k = ad k := fun k hk => (g11 k (by omega)).trans (hA10 k hk)
    refine vx_putR (ci := 3) (T := TX3) (n := 12) (j := 11) (a := 6) (r := 17) (fr := [none, some (some 7), some (some 8), some (some 9), some (some 10), some (some 11), some (some 12), some (some 13), some (some 14), some (some 15), some (some 16), some none]) (ty := tyX3 11) dX3_init_94 rfl lay_X3 tyX3_ok nmX3 (by decide) wd_158 rfl hini rfl rfl (fun _ => rfl) (fun _ => rfl) (by decide) rfl (by decide) ?_
    refine vx_J_lam (Λ' := (va_up (va_up vx_lay 0 (.inl (8, [some (some 1), some (some 3), some none, some none, some none, some none, some none, some none]))) 6 (.inl (3, [none, some (some 7), some (some 8), some (some 9), some (some 10), some (some 11), some (some 12), some (some 13), some (some 14), some (some 15), some (some 16), some (some 17)])))) (fun k _ => congrFun vx_up_up k) ?_
    refine vx_J_lam (Λ' := (va_up vx_lay 0 (.inl (8, [some (some 1), some (some 3), some none, some none, some none, some none, some none, some none])))) (fun k _ => congrFun (vx_up_id (va_up vx_lay 0 (.inl (8, [some (some 1), some (some 3), some none, some none, some none, some none, some none, some none]))) 6) k) ?_
    exact vx_vret dX3_init_97 rfl (by decide) (by decide) (⟨rfl, hA11, rfl, rfl, rfl⟩)
  exact vx_J.M pn_X3_init (Nat.le_of_ble_eq_true rfl) (key _ (by decide))
set_option maxRecDepth 20000 in
set_option maxHeartbeats 8000000 in
theorem c_X5_init (ad : Nat → Nat) (μ : vx_mem) (hz : ∀ k, 18 ≤ k → k < 82 → μ k = fun _ => 0) : vx_M yX5_init cX5_init 3 none 10 9 72 ad 19 (va_up (va_up vx_lay 0 (.inl (8, [some (some 1), some (some 3), some (some 6), some none, some none, some none, some none, some none]))) 18 (.inl (5, [some none]))) μ [vx_r 18] (vx_mk ad 19 28 (va_up vx_lay 0 (.inl (8, [some (some 1), some (some 3), some (some 6), some none, some none, some none, some none, some none]))) (rd_m μ 8 0)) := by
  have key : ∀ (ini : Bool), ini = true → vx_J RX5 cX5_init 3 none ini 10 9 72 (vx_mk ad 19 28 (va_up vx_lay 0 (.inl (8, [some (some 1), some (some 3), some (some 6), some none, some none, some none, some none, some none]))) (rd_m μ 8 0)) ad 0 0 19 (va_up (va_up vx_lay 0 (.inl (8, [some (some 1), some (some 3), some (some 6), some none, some none, some none, some none, some none]))) 18 (.inl (5, [some none]))) μ 0 [(0, vx_r 18)] [] := by
    intro ini hini
    refine vx_aload_n dX5_init_0 rfl ?_
    refine vx_objI dX5_init_1 wd_190 wd_66 wd_67 (by decide) (by decide) ?_
    refine vx_aload_n dX5_init_4 rfl ?_
    refine vx_bipush (v := 8) dX5_init_5 (by decide) ?_
    refine vx_bipush (v := 8) dX5_init_7 (by decide) ?_
    refine vx_multi dX5_init_9 wd_191 wd_89 (by decide) rfl (fun j hj => by rcases j with _ | _ | _ | _ | _ | _ | _ | _ | j <;> first | rfl | omega) (fun j hj => hz (19 + 1 + j) (by omega) (by omega)) (vx_ok9 (by decide +kernel)) (by decide) (by decide) (by decide) (fun ad1 g1 => ?_)
    have hA1 : ∀ k, k < 19 ∨ 1000 ≤ k → ad1 k = ad k := fun k hk => (g1 k (by omega)).trans ((fun k _ => rfl) k hk)
    refine vx_putR (ci := 5) (T := TX5) (n := 1) (j := 0) (a := 18) (r := 19) (fr := [some none]) (ty := tyX5 0) dX5_init_13 rfl lay_X5 tyX5_ok nmX5 (by decide) wd_196 rfl hini rfl rfl (fun _ => rfl) (fun _ => rfl) (by decide) rfl (by decide) ?_
    refine vx_J_lam (Λ' := (va_up (va_up vx_lay 0 (.inl (8, [some (some 1), some (some 3), some (some 6), some none, some none, some none, some none, some none]))) 18 (.inl (5, [some (some 19)])))) (fun k _ => congrFun vx_up_up k) ?_
    refine vx_J_lam (Λ' := (va_up vx_lay 0 (.inl (8, [some (some 1), some (some 3), some (some 6), some none, some none, some none, some none, some none])))) (fun k _ => congrFun (vx_up_id (va_up vx_lay 0 (.inl (8, [some (some 1), some (some 3), some (some 6), some none, some none, some none, some none, some none]))) 18) k) ?_
    refine vx_iconst (v := 0) dX5_init_16 (by decide) ?_
    refine vx_istore_n (ls2 := [(1, .inl 0), (0, vx_r 18)]) dX5_init_17 (by decide) rfl ?_
    generalize hPP : vx_mk ad 19 28 (va_up vx_lay 0 (.inl (8, [some (some 1), some (some 3), some (some 6), some none, some none, some none, some none, some none]))) (rd_m μ 8 0) = PP
    have fin : PP none ad1 28 (va_up vx_lay 0 (.inl (8, [some (some 1), some (some 3), some (some 6), some none, some none, some none, some none, some none]))) (rd_m μ 8 0) := by rw [← hPP]; exact ⟨rfl, hA1, rfl, rfl, rfl⟩
    have loop2 : ∀ (i : Nat), i < 8 → (vx_J RX5 cX5_init 3 none ini 10 9 72 PP ad1 9 72 28 (va_up vx_lay 0 (.inl (8, [some (some 1), some (some 3), some (some 6), some none, some none, some none, some none, some none]))) (rd_m μ (i + 1) 0) 18 [(1, .inl (nI (i + 1))), (0, vx_r 18)] []) → ∀ r j, j + r = 8 → vx_J RX5 cX5_init 3 none ini 10 9 72 PP ad1 9 72 28 (va_up vx_lay 0 (.inl (8, [some (some 1), some (some 3), some (some 6), some none, some none, some none, some none, some none]))) (rd_m μ i j) 26 [(2, .inl (nI j)), (1, .inl (nI i)), (0, vx_r 18)] [] := by
      intro i hi hnext r
      induction r with
      | zero =>
        intro j hj
        refine vx_iload_n dX5_init_26 rfl ?_
        refine vx_bipush (v := 8) dX5_init_27 (by decide) ?_
        refine vx_icmp_ge (tgt := 48) dX5_init_29 (by decide) (fun _ => ?_) (fun h => absurd (by show (nI (8) ≤ nI (j)); rw [nI_leI (by omega) (by omega)]; omega) h)
        refine vx_iinc (v := (nI (i + 1))) (ls2 := [(1, .inl (nI (i + 1))), (2, .inl (nI j)), (0, vx_r 18)]) dX5_init_48 rfl (nI_1 _) (by decide) rfl ?_
        refine vx_goto (tgt := 18) dX5_init_51 (by decide) ?_
        refine vx_keep (ls2 := [(1, .inl (nI (i + 1))), (0, vx_r 18)]) ⟨rfl, rfl, trivial⟩ ?_
        refine vx_eq (μ2 := (rd_m μ (i + 1) 0)) (by rw [show j = 8 by omega, rd_m_n]) rfl rfl ?_
        exact hnext
      | succ r ih =>
        intro j hj
        refine vx_iload_n dX5_init_26 rfl ?_
        refine vx_bipush (v := 8) dX5_init_27 (by decide) ?_
        refine vx_icmp_ge (tgt := 48) dX5_init_29 (by decide) (fun h => absurd h (by show ¬ (nI (8) ≤ nI (j)); rw [nI_leI (by omega) (by omega)]; omega)) (fun _ => ?_)
        refine vx_aload_n dX5_init_32 rfl ?_
        refine vx_getR (ci := 5) (T := TX5) (n := 1) (j := 0) (a := 18) (r := 19) dX5_init_33 rfl lay_X5 (by decide) wd_196 (by decide) rfl rfl ?_
        refine vx_iload_n dX5_init_36 rfl ?_
        refine vx_iload_n dX5_init_37 rfl ?_
        refine vx_iconst (v := (-1)) dX5_init_38 (by decide) ?_
        refine vx_callX (vs := [vx_r 19, .inl (nI i), .inl (nI j), .inl (-1)]) (st := []) (r0 := none) (μ0 := (rd_m μ i (j + 1))) dX5_init_39 ((c_X8_put_ 9 ad1 28 (va_up vx_lay 0 (.inl (8, [some (some 1), some (some 3), some (some 6), some none, some none, some none, some none, some none]))) (rd_m μ i j) 19 8 8 [20, 21, 22, 23, 24, 25, 26, 27] (by decide) rfl (by decide) (by decide) rfl (fun r hr => by revert r; decide +kernel) (nI i) (nI j) (-1)).to rfl ((sp_put2_20 _ (a := i) (b := j) _ (by omega) (by omega)).trans (rd_m_s (by omega) (by omega)))) nst_2 wd_195 wd_45 hy_X8_put_ wd_194 (by decide) (Nat.le_of_ble_eq_true rfl) (Nat.le_of_ble_eq_true rfl) (by decide) (by decide) ?_
        refine vx_eq (μ2 := (rd_m μ i (j + 1))) (ls2 := [(2, .inl (nI j)), (1, .inl (nI i)), (0, vx_r 18)]) (st2 := []) rfl rfl rfl ?_
        refine vx_iinc (v := (nI (j + 1))) (ls2 := [(2, .inl (nI (j + 1))), (1, .inl (nI i)), (0, vx_r 18)]) dX5_init_42 rfl (nI_1 _) (by decide) rfl ?_
        refine vx_goto (tgt := 26) dX5_init_45 (by decide) ?_
        refine vx_keep (ls2 := [(2, .inl (nI (j + 1))), (1, .inl (nI i)), (0, vx_r 18)]) ⟨rfl, rfl, rfl, trivial⟩ ?_
        exact ih (j + 1) (by omega)
    have loop1 : ∀ (r i : Nat), i + r = 8 → vx_J RX5 cX5_init 3 none ini 10 9 72 PP ad1 9 72 28 (va_up vx_lay 0 (.inl (8, [some (some 1), some (some 3), some (some 6), some none, some none, some none, some none, some none]))) (rd_m μ i 0) 18 [(1, .inl (nI i)), (0, vx_r 18)] [] := by
      intro r
      induction r with
      | zero =>
        intro i hi
        refine vx_iload_n dX5_init_18 rfl ?_
        refine vx_bipush (v := 8) dX5_init_19 (by decide) ?_
        refine vx_icmp_ge (tgt := 54) dX5_init_21 (by decide) (fun _ => ?_) (fun h => absurd (by show (nI (8) ≤ nI (i)); rw [nI_leI (by omega) (by omega)]; omega) h)
        exact vx_vret dX5_init_54 rfl (by decide) (by decide) (by rw [show i = 8 by omega]; exact fin)
      | succ r ih =>
        intro i hi
        refine vx_iload_n dX5_init_18 rfl ?_
        refine vx_bipush (v := 8) dX5_init_19 (by decide) ?_
        refine vx_icmp_ge (tgt := 54) dX5_init_21 (by decide) (fun h => absurd h (by show ¬ (nI (8) ≤ nI (i)); rw [nI_leI (by omega) (by omega)]; omega)) (fun _ => ?_)
        refine vx_iconst (v := 0) dX5_init_24 (by decide) ?_
        refine vx_istore_n (ls2 := [(2, .inl 0), (1, .inl (nI i)), (0, vx_r 18)]) dX5_init_25 (by decide) rfl ?_
        refine vx_keep (ls2 := [(2, .inl 0), (1, .inl (nI i)), (0, vx_r 18)]) ⟨rfl, rfl, rfl, trivial⟩ ?_
        exact loop2 i (by omega) (ih (i + 1) (by omega)) 8 0 (by omega)
    refine vx_keep (ls2 := [(1, .inl 0), (0, vx_r 18)]) ⟨rfl, rfl, trivial⟩ ?_
    refine vx_eq (μ2 := (rd_m μ 0 0)) (ls2 := [(1, .inl (nI 0)), (0, vx_r 18)]) rd_m_0.symm rfl rfl ?_
    exact loop1 8 0 (by omega)
  exact vx_J.M pn_X5_init (Nat.le_of_ble_eq_true rfl) (key _ (by decide))
set_option maxRecDepth 20000 in
set_option maxHeartbeats 8000000 in
theorem c_X1_init (ad : Nat → Nat) (μ : vx_mem) (hz : ∀ k, 28 ≤ k → k < 82 → μ k = fun _ => 0) : vx_M yX1_init cX1_init 1 none 10 10 80 ad 29 (va_up (va_up vx_lay 0 (.inl (8, [some (some 1), some (some 3), some (some 6), some (some 18), some none, some none, some none, some none]))) 28 (.inl (1, [some none, some none]))) μ [vx_r 28] (vx_mk ad 29 39 (va_up vx_lay 0 (.inl (8, [some (some 1), some (some 3), some (some 6), some (some 18), some none, some none, some none, some none]))) μ) := by
  have key : ∀ (ini : Bool), ini = true → vx_J RX1 cX1_init 1 none ini 10 10 80 (vx_mk ad 29 39 (va_up vx_lay 0 (.inl (8, [some (some 1), some (some 3), some (some 6), some (some 18), some none, some none, some none, some none]))) μ) ad 0 0 29 (va_up (va_up vx_lay 0 (.inl (8, [some (some 1), some (some 3), some (some 6), some (some 18), some none, some none, some none, some none]))) 28 (.inl (1, [some none, some none]))) μ 0 [(0, vx_r 28)] [] := by
    intro ini hini
    refine vx_aload_n dX1_init_0 rfl ?_
    refine vx_objI dX1_init_1 wd_206 wd_66 wd_67 (by decide) (by decide) ?_
    refine vx_aload_n dX1_init_4 rfl ?_
    refine vx_bipush (v := 8) dX1_init_5 (by decide) ?_
    refine vx_bipush (v := 8) dX1_init_7 (by decide) ?_
    refine vx_multi dX1_init_9 wd_207 wd_89 (by decide) rfl (fun j hj => by rcases j with _ | _ | _ | _ | _ | _ | _ | _ | j <;> first | rfl | omega) (fun j hj => hz (29 + 1 + j) (by omega) (by omega)) (vx_ok9 (by decide +kernel)) (by decide) (by decide) (by decide) (fun ad1 g1 => ?_)
    have hA1 : ∀ k, k < 29 ∨ 1000 ≤ k → ad1 k = ad k := fun k hk => (g1 k (by omega)).trans ((fun k _ => rfl) k hk)
    refine vx_putR (ci := 1) (T := TX1) (n := 2) (j := 0) (a := 28) (r := 29) (fr := [some none, some none]) (ty := tyX1 0) dX1_init_13 rfl lay_X1 tyX1_ok nmX1 (by decide) wd_208 rfl hini rfl rfl (fun _ => rfl) (fun _ => rfl) (by decide) rfl (by decide) ?_
    refine vx_J_lam (Λ' := (va_up (va_up vx_lay 0 (.inl (8, [some (some 1), some (some 3), some (some 6), some (some 18), some none, some none, some none, some none]))) 28 (.inl (1, [some (some 29), some none])))) (fun k _ => congrFun vx_up_up k) ?_
    refine vx_aload_n dX1_init_16 rfl ?_
    refine vx_bipush (v := 8) dX1_init_17 (by decide) ?_
    refine vx_newa (t := 0) (L := 8) dX1_init_19 (by decide) wd_89 (by decide) (by decide) (by decide) rfl (hz 38 (by decide) (by decide)) (by decide) (by decide +kernel) (by decide) (by decide) (by decide) (fun ad2 g2 => ?_)
    have hA2 : ∀ k, k < 29 ∨ 1000 ≤ k → ad2 k = ad k := fun k hk => (g2 k (by omega)).trans (hA1 k hk)
    refine vx_putR (ci := 1) (T := TX1) (n := 2) (j := 1) (a := 28) (r := 38) (fr := [some (some 29), some none]) (ty := tyX1 1) dX1_init_21 rfl lay_X1 tyX1_ok nmX1 (by decide) wd_210 rfl hini rfl rfl (fun _ => rfl) (fun _ => rfl) (by decide) rfl (by decide) ?_
    refine vx_J_lam (Λ' := (va_up (va_up vx_lay 0 (.inl (8, [some (some 1), some (some 3), some (some 6), some (some 18), some none, some none, some none, some none]))) 28 (.inl (1, [some (some 29), some (some 38)])))) (fun k _ => congrFun vx_up_up k) ?_
    refine vx_J_lam (Λ' := (va_up vx_lay 0 (.inl (8, [some (some 1), some (some 3), some (some 6), some (some 18), some none, some none, some none, some none])))) (fun k _ => congrFun (vx_up_id (va_up vx_lay 0 (.inl (8, [some (some 1), some (some 3), some (some 6), some (some 18), some none, some none, some none, some none]))) 28) k) ?_
    exact vx_vret dX1_init_24 rfl (by decide) (by decide) (⟨rfl, hA2, rfl, rfl, rfl⟩)
  exact vx_J.M pn_X1_init (Nat.le_of_ble_eq_true rfl) (key _ (by decide))
set_option maxRecDepth 20000 in
set_option maxHeartbeats 8000000 in
theorem c_X6_init (ad : Nat → Nat) (μ : vx_mem) (hz : ∀ k, 39 ≤ k → k < 82 → μ k = fun _ => 0) : vx_M yX6_init cX6_init 1 none 10 7 53 ad 40 (va_up (va_up vx_lay 0 (.inl (8, [some (some 1), some (some 3), some (some 6), some (some 18), some (some 28), some none, some none, some none]))) 39 (.inl (6, [none, some none, some none, some none, some none, some none, none, some none, some none, none, none, none]))) μ [vx_r 39] (vx_mk ad 40 47 (va_up vx_lay 0 (.inl (8, [some (some 1), some (some 3), some (some 6), some (some 18), some (some 28), some none, some none, some none]))) (va_up (va_up μ 39 (sp_s0 (μ 39) 0)) 43 (sp_w0 (μ 43)))) := by
  have key : ∀ (ini : Bool), ini = true → vx_J RX6 cX6_init 1 none ini 10 7 53 (vx_mk ad 40 47 (va_up vx_lay 0 (.inl (8, [some (some 1), some (some 3), some (some 6), some (some 18), some (some 28), some none, some none, some none]))) (va_up (va_up μ 39 (sp_s0 (μ 39) 0)) 43 (sp_w0 (μ 43)))) ad 0 0 40 (va_up (va_up vx_lay 0 (.inl (8, [some (some 1), some (some 3), some (some 6), some (some 18), some (some 28), some none, some none, some none]))) 39 (.inl (6, [none, some none, some none, some none, some none, some none, none, some none, some none, none, none, none]))) μ 0 [(0, vx_r 39)] [] := by
    intro ini hini
    refine vx_aload_n dX6_init_0 rfl ?_
    refine vx_objI dX6_init_1 wd_222 wd_66 wd_67 (by decide) (by decide) ?_
    refine vx_aload_n dX6_init_4 rfl ?_
    refine vx_bipush (v := 8) dX6_init_5 (by decide) ?_
    refine vx_newa (t := 0) (L := 8) dX6_init_7 (by decide) wd_89 (by decide) (by decide) (by decide) rfl (hz 40 (by decide) (by decide)) (by decide) (by decide +kernel) (by decide) (by decide) (by decide) (fun ad1 g1 => ?_)
    have hA1 : ∀ k, k < 40 ∨ 1000 ≤ k → ad1 k = ad k := fun k hk => (g1 k (by omega)).trans ((fun k _ => rfl) k hk)
    refine vx_putR (ci := 6) (T := TX6) (n := 12) (j := 1) (a := 39) (r := 40) (fr := [none, some none, some none, some none, some none, some none, none, some none, some none, none, none, none]) (ty := tyX6 1) dX6_init_9 rfl lay_X6 tyX6_ok nmX6 (by decide) wd_233 rfl hini rfl rfl (fun _ => rfl) (fun _ => rfl) (by decide) rfl (by decide) ?_
    refine vx_J_lam (Λ' := (va_up (va_up vx_lay 0 (.inl (8, [some (some 1), some (some 3), some (some 6), some (some 18), some (some 28), some none, some none, some none]))) 39 (.inl (6, [none, some (some 40), some none, some none, some none, some none, none, some none, some none, none, none, none])))) (fun k _ => congrFun vx_up_up k) ?_
    refine vx_aload_n dX6_init_12 rfl ?_
    refine vx_bipush (v := 8) dX6_init_13 (by decide) ?_
    refine vx_newa (t := 0) (L := 8) dX6_init_15 (by decide) wd_89 (by decide) (by decide) (by decide) rfl (hz 41 (by decide) (by decide)) (by decide) (by decide +kernel) (by decide) (by decide) (by decide) (fun ad2 g2 => ?_)
    have hA2 : ∀ k, k < 40 ∨ 1000 ≤ k → ad2 k = ad k := fun k hk => (g2 k (by omega)).trans (hA1 k hk)
    refine vx_putR (ci := 6) (T := TX6) (n := 12) (j := 2) (a := 39) (r := 41) (fr := [none, some (some 40), some none, some none, some none, some none, none, some none, some none, none, none, none]) (ty := tyX6 2) dX6_init_17 rfl lay_X6 tyX6_ok nmX6 (by decide) wd_234 rfl hini rfl rfl (fun _ => rfl) (fun _ => rfl) (by decide) rfl (by decide) ?_
    refine vx_J_lam (Λ' := (va_up (va_up vx_lay 0 (.inl (8, [some (some 1), some (some 3), some (some 6), some (some 18), some (some 28), some none, some none, some none]))) 39 (.inl (6, [none, some (some 40), some (some 41), some none, some none, some none, none, some none, some none, none, none, none])))) (fun k _ => congrFun vx_up_up k) ?_
    refine vx_aload_n dX6_init_20 rfl ?_
    refine vx_bipush (v := 8) dX6_init_21 (by decide) ?_
    refine vx_newa (t := 0) (L := 8) dX6_init_23 (by decide) wd_89 (by decide) (by decide) (by decide) rfl (hz 42 (by decide) (by decide)) (by decide) (by decide +kernel) (by decide) (by decide) (by decide) (fun ad3 g3 => ?_)
    have hA3 : ∀ k, k < 40 ∨ 1000 ≤ k → ad3 k = ad k := fun k hk => (g3 k (by omega)).trans (hA2 k hk)
    refine vx_putR (ci := 6) (T := TX6) (n := 12) (j := 3) (a := 39) (r := 42) (fr := [none, some (some 40), some (some 41), some none, some none, some none, none, some none, some none, none, none, none]) (ty := tyX6 3) dX6_init_25 rfl lay_X6 tyX6_ok nmX6 (by decide) wd_235 rfl hini rfl rfl (fun _ => rfl) (fun _ => rfl) (by decide) rfl (by decide) ?_
    refine vx_J_lam (Λ' := (va_up (va_up vx_lay 0 (.inl (8, [some (some 1), some (some 3), some (some 6), some (some 18), some (some 28), some none, some none, some none]))) 39 (.inl (6, [none, some (some 40), some (some 41), some (some 42), some none, some none, none, some none, some none, none, none, none])))) (fun k _ => congrFun vx_up_up k) ?_
    refine vx_aload_n dX6_init_28 rfl ?_
    refine vx_bipush (v := 8) dX6_init_29 (by decide) ?_
    refine vx_newa (t := 1) (L := 8) dX6_init_31 (by decide) wd_272 (by decide) (by decide) (by decide) rfl (hz 43 (by decide) (by decide)) (by decide) (by decide +kernel) (by decide) (by decide) (by decide) (fun ad4 g4 => ?_)
    have hA4 : ∀ k, k < 40 ∨ 1000 ≤ k → ad4 k = ad k := fun k hk => (g4 k (by omega)).trans (hA3 k hk)
    refine vx_putR (ci := 6) (T := TX6) (n := 12) (j := 4) (a := 39) (r := 43) (fr := [none, some (some 40), some (some 41), some (some 42), some none, some none, none, some none, some none, none, none, none]) (ty := tyX6 4) dX6_init_33 rfl lay_X6 tyX6_ok nmX6 (by decide) wd_236 rfl hini rfl rfl (fun _ => rfl) (fun _ => rfl) (by decide) rfl (by decide) ?_
    refine vx_J_lam (Λ' := (va_up (va_up vx_lay 0 (.inl (8, [some (some 1), some (some 3), some (some 6), some (some 18), some (some 28), some none, some none, some none]))) 39 (.inl (6, [none, some (some 40), some (some 41), some (some 42), some (some 43), some none, none, some none, some none, none, none, none])))) (fun k _ => congrFun vx_up_up k) ?_
    refine vx_aload_n dX6_init_36 rfl ?_
    refine vx_bipush (v := 7) dX6_init_37 (by decide) ?_
    refine vx_newa (t := 0) (L := 7) dX6_init_39 (by decide) wd_89 (by decide) (by decide) (by decide) rfl (hz 44 (by decide) (by decide)) (by decide) (by decide +kernel) (by decide) (by decide) (by decide) (fun ad5 g5 => ?_)
    have hA5 : ∀ k, k < 40 ∨ 1000 ≤ k → ad5 k = ad k := fun k hk => (g5 k (by omega)).trans (hA4 k hk)
    refine vx_putR (ci := 6) (T := TX6) (n := 12) (j := 5) (a := 39) (r := 44) (fr := [none, some (some 40), some (some 41), some (some 42), some (some 43), some none, none, some none, some none, none, none, none]) (ty := tyX6 5) dX6_init_41 rfl lay_X6 tyX6_ok nmX6 (by decide) wd_237 rfl hini rfl rfl (fun _ => rfl) (fun _ => rfl) (by decide) rfl (by decide) ?_
    refine vx_J_lam (Λ' := (va_up (va_up vx_lay 0 (.inl (8, [some (some 1), some (some 3), some (some 6), some (some 18), some (some 28), some none, some none, some none]))) 39 (.inl (6, [none, some (some 40), some (some 41), some (some 42), some (some 43), some (some 44), none, some none, some none, none, none, none])))) (fun k _ => congrFun vx_up_up k) ?_
    refine vx_aload_n dX6_init_44 rfl ?_
    refine vx_bipush (v := 7) dX6_init_45 (by decide) ?_
    refine vx_newa (t := 0) (L := 7) dX6_init_47 (by decide) wd_89 (by decide) (by decide) (by decide) rfl (hz 45 (by decide) (by decide)) (by decide) (by decide +kernel) (by decide) (by decide) (by decide) (fun ad6 g6 => ?_)
    have hA6 : ∀ k, k < 40 ∨ 1000 ≤ k → ad6 k = ad k := fun k hk => (g6 k (by omega)).trans (hA5 k hk)
    refine vx_putR (ci := 6) (T := TX6) (n := 12) (j := 7) (a := 39) (r := 45) (fr := [none, some (some 40), some (some 41), some (some 42), some (some 43), some (some 44), none, some none, some none, none, none, none]) (ty := tyX6 7) dX6_init_49 rfl lay_X6 tyX6_ok nmX6 (by decide) wd_239 rfl hini rfl rfl (fun _ => rfl) (fun _ => rfl) (by decide) rfl (by decide) ?_
    refine vx_J_lam (Λ' := (va_up (va_up vx_lay 0 (.inl (8, [some (some 1), some (some 3), some (some 6), some (some 18), some (some 28), some none, some none, some none]))) 39 (.inl (6, [none, some (some 40), some (some 41), some (some 42), some (some 43), some (some 44), none, some (some 45), some none, none, none, none])))) (fun k _ => congrFun vx_up_up k) ?_
    refine vx_aload_n dX6_init_52 rfl ?_
    refine vx_bipush (v := 7) dX6_init_53 (by decide) ?_
    refine vx_newa (t := 0) (L := 7) dX6_init_55 (by decide) wd_89 (by decide) (by decide) (by decide) rfl (hz 46 (by decide) (by decide)) (by decide) (by decide +kernel) (by decide) (by decide) (by decide) (fun ad7 g7 => ?_)
    have hA7 : ∀ k, k < 40 ∨ 1000 ≤ k → ad7 k = ad k := fun k hk => (g7 k (by omega)).trans (hA6 k hk)
    refine vx_putR (ci := 6) (T := TX6) (n := 12) (j := 8) (a := 39) (r := 46) (fr := [none, some (some 40), some (some 41), some (some 42), some (some 43), some (some 44), none, some (some 45), some none, none, none, none]) (ty := tyX6 8) dX6_init_57 rfl lay_X6 tyX6_ok nmX6 (by decide) wd_240 rfl hini rfl rfl (fun _ => rfl) (fun _ => rfl) (by decide) rfl (by decide) ?_
    refine vx_J_lam (Λ' := (va_up (va_up vx_lay 0 (.inl (8, [some (some 1), some (some 3), some (some 6), some (some 18), some (some 28), some none, some none, some none]))) 39 (.inl (6, [none, some (some 40), some (some 41), some (some 42), some (some 43), some (some 44), none, some (some 45), some (some 46), none, none, none])))) (fun k _ => congrFun vx_up_up k) ?_
    refine vx_J_lam (Λ' := (va_up vx_lay 0 (.inl (8, [some (some 1), some (some 3), some (some 6), some (some 18), some (some 28), some none, some none, some none])))) (fun k _ => congrFun (vx_up_id (va_up vx_lay 0 (.inl (8, [some (some 1), some (some 3), some (some 6), some (some 18), some (some 28), some none, some none, some none]))) 39) k) ?_
    refine vx_aload_n dX6_init_60 rfl ?_
    refine vx_iconst (v := 0) dX6_init_61 (by decide) ?_
    refine vx_callV (b := 39) (vs := [.inl 0]) (st := []) (r0 := none) (μ0 := (va_up (va_up μ 39 (sp_s0 (μ 39) 0)) 43 (sp_w0 (μ 43)))) dX6_init_62 (c_X6_startAnew 9 (by omega) ad7 47 (va_up vx_lay 0 (.inl (8, [some (some 1), some (some 3), some (some 6), some (some 18), some (some 28), some none, some none, some none]))) μ (by decide) rfl (by decide) rfl 0) wd_223 wd_226 wd_51 hy_X6_startAnew wd_224 wd_225 (by decide) rfl rfl rfl (by decide) (Nat.le_of_ble_eq_true rfl) (Nat.le_of_ble_eq_true rfl) (by decide) (by decide) ?_
    refine vx_eq (μ2 := (va_up (va_up μ 39 (sp_s0 (μ 39) 0)) 43 (sp_w0 (μ 43)))) (ls2 := [(0, vx_r 39)]) (st2 := []) rfl rfl rfl ?_
    exact vx_vret dX6_init_65 rfl (by decide) (by decide) (⟨rfl, hA7, rfl, rfl, rfl⟩)
  exact vx_J.M pn_X6_init (Nat.le_of_ble_eq_true rfl) (key _ (by decide))
set_option maxRecDepth 20000 in
set_option maxHeartbeats 8000000 in
theorem c_X4_init (ad : Nat → Nat) (μ : vx_mem) (hz : ∀ k, 47 ≤ k → k < 82 → μ k = fun _ => 0) : vx_M yX4_init cX4_init 1 none 10 5 35 ad 48 (va_up (va_up vx_lay 0 (.inl (8, [some (some 1), some (some 3), some (some 6), some (some 18), some (some 28), some (some 39), some none, some none]))) 47 (.inl (4, [none, none, none, some none, some none, some none, some none, some none]))) μ [vx_r 47] (vx_mk ad 48 53 (va_up vx_lay 0 (.inl (8, [some (some 1), some (some 3), some (some 6), some (some 18), some (some 28), some (some 39), some none, some none]))) μ) := by
  have key : ∀ (ini : Bool), ini = true → vx_J RX4 cX4_init 1 none ini 10 5 35 (vx_mk ad 48 53 (va_up vx_lay 0 (.inl (8, [some (some 1), some (some 3), some (some 6), some (some 18), some (some 28), some (some 39), some none, some none]))) μ) ad 0 0 48 (va_up (va_up vx_lay 0 (.inl (8, [some (some 1), some (some 3), some (some 6), some (some 18), some (some 28), some (some 39), some none, some none]))) 47 (.inl (4, [none, none, none, some none, some none, some none, some none, some none]))) μ 0 [(0, vx_r 47)] [] := by
    intro ini hini
    refine vx_aload_n dX4_init_0 rfl ?_
    refine vx_objI dX4_init_1 wd_278 wd_66 wd_67 (by decide) (by decide) ?_
    refine vx_aload_n dX4_init_4 rfl ?_
    refine vx_iconst (v := 0) dX4_init_5 (by decide) ?_
    refine vx_putI (ci := 4) (T := TX4) (n := 8) (j := 0) (a := 47) (ty := .int) (μ2 := (va_up μ 47 (upd (μ 47) 0 0))) dX4_init_6 rfl lay_X4 tyX4_ok nmX4 (by decide) wd_279 rfl rfl rfl rfl (by decide) rfl rfl rfl ?_
    refine vx_eq (μ2 := μ) (by rw [sp_ups (f := (μ 47)) (k := 0) (congrFun (hz 47 (by decide) (by decide)) 0), vx_up_id]) rfl rfl ?_
    refine vx_aload_n dX4_init_9 rfl ?_
    refine vx_iconst (v := 0) dX4_init_10 (by decide) ?_
    refine vx_putI (ci := 4) (T := TX4) (n := 8) (j := 1) (a := 47) (ty := .int) (μ2 := (va_up μ 47 (upd (μ 47) 1 0))) dX4_init_11 rfl lay_X4 tyX4_ok nmX4 (by decide) wd_281 rfl rfl rfl rfl (by decide) rfl rfl rfl ?_
    refine vx_eq (μ2 := μ) (by rw [sp_ups (f := (μ 47)) (k := 1) (congrFun (hz 47 (by decide) (by decide)) 1), vx_up_id]) rfl rfl ?_
    refine vx_aload_n dX4_init_14 rfl ?_
    refine vx_iconst (v := 0) dX4_init_15 (by decide) ?_
    refine vx_putI (ci := 4) (T := TX4) (n := 8) (j := 2) (a := 47) (ty := .boolean) (μ2 := (va_up μ 47 (upd (μ 47) 2 0))) dX4_init_16 rfl lay_X4 tyX4_ok nmX4 (by decide) wd_283 rfl rfl rfl rfl (by decide) rfl rfl rfl ?_
    refine vx_eq (μ2 := μ) (by rw [sp_ups (f := (μ 47)) (k := 2) (congrFun (hz 47 (by decide) (by decide)) 2), vx_up_id]) rfl rfl ?_
    refine vx_aload_n dX4_init_19 rfl ?_
    refine vx_bipush (v := 7) dX4_init_20 (by decide) ?_
    refine vx_newa (t := 0) (L := 7) dX4_init_22 (by decide) wd_89 (by decide) (by decide) (by decide) rfl (hz 48 (by decide) (by decide)) (by decide) (by decide +kernel) (by decide) (by decide) (by decide) (fun ad1 g1 => ?_)
    have hA1 : ∀ k, k < 48 ∨ 1000 ≤ k → ad1 k = ad k := fun k hk => (g1 k (by omega)).trans ((fun k _ => rfl) k hk)
    refine vx_putR (ci := 4) (T := TX4) (n := 8) (j := 3) (a := 47) (r := 48) (fr := [none, none, none, some none, some none, some none, some none, some none]) (ty := tyX4 3) dX4_init_24 rfl lay_X4 tyX4_ok nmX4 (by decide) wd_285 rfl hini rfl rfl (fun _ => rfl) (fun _ => rfl) (by decide) rfl (by decide) ?_
    refine vx_J_lam (Λ' := (va_up (va_up vx_lay 0 (.inl (8, [some (some 1), some (some 3), some (some 6), some (some 18), some (some 28), some (some 39), some none, some none]))) 47 (.inl (4, [none, none, none, some (some 48), some none, some none, some none, some none])))) (fun k _ => congrFun vx_up_up k) ?_
    refine vx_aload_n dX4_init_27 rfl ?_
    refine vx_bipush (v := 7) dX4_init_28 (by decide) ?_
    refine vx_newa (t := 0) (L := 7) dX4_init_30 (by decide) wd_89 (by decide) (by decide) (by decide) rfl (hz 49 (by decide) (by decide)) (by decide) (by decide +kernel) (by decide) (by decide) (by decide) (fun ad2 g2 => ?_)
    have hA2 : ∀ k, k < 48 ∨ 1000 ≤ k → ad2 k = ad k := fun k hk => (g2 k (by omega)).trans (hA1 k hk)
    refine vx_putR (ci := 4) (T := TX4) (n := 8) (j := 4) (a := 47) (r := 49) (fr := [none, none, none, some (some 48), some none, some none, some none, some none]) (ty := tyX4 4) dX4_init_32 rfl lay_X4 tyX4_ok nmX4 (by decide) wd_287 rfl hini rfl rfl (fun _ => rfl) (fun _ => rfl) (by decide) rfl (by decide) ?_
    refine vx_J_lam (Λ' := (va_up (va_up vx_lay 0 (.inl (8, [some (some 1), some (some 3), some (some 6), some (some 18), some (some 28), some (some 39), some none, some none]))) 47 (.inl (4, [none, none, none, some (some 48), some (some 49), some none, some none, some none])))) (fun k _ => congrFun vx_up_up k) ?_
    refine vx_aload_n dX4_init_35 rfl ?_
    refine vx_bipush (v := 7) dX4_init_36 (by decide) ?_
    refine vx_newa (t := 0) (L := 7) dX4_init_38 (by decide) wd_89 (by decide) (by decide) (by decide) rfl (hz 50 (by decide) (by decide)) (by decide) (by decide +kernel) (by decide) (by decide) (by decide) (fun ad3 g3 => ?_)
    have hA3 : ∀ k, k < 48 ∨ 1000 ≤ k → ad3 k = ad k := fun k hk => (g3 k (by omega)).trans (hA2 k hk)
    refine vx_putR (ci := 4) (T := TX4) (n := 8) (j := 5) (a := 47) (r := 50) (fr := [none, none, none, some (some 48), some (some 49), some none, some none, some none]) (ty := tyX4 5) dX4_init_40 rfl lay_X4 tyX4_ok nmX4 (by decide) wd_289 rfl hini rfl rfl (fun _ => rfl) (fun _ => rfl) (by decide) rfl (by decide) ?_
    refine vx_J_lam (Λ' := (va_up (va_up vx_lay 0 (.inl (8, [some (some 1), some (some 3), some (some 6), some (some 18), some (some 28), some (some 39), some none, some none]))) 47 (.inl (4, [none, none, none, some (some 48), some (some 49), some (some 50), some none, some none])))) (fun k _ => congrFun vx_up_up k) ?_
    refine vx_aload_n dX4_init_43 rfl ?_
    refine vx_bipush (v := 7) dX4_init_44 (by decide) ?_
    refine vx_newa (t := 0) (L := 7) dX4_init_46 (by decide) wd_89 (by decide) (by decide) (by decide) rfl (hz 51 (by decide) (by decide)) (by decide) (by decide +kernel) (by decide) (by decide) (by decide) (fun ad4 g4 => ?_)
    have hA4 : ∀ k, k < 48 ∨ 1000 ≤ k → ad4 k = ad k := fun k hk => (g4 k (by omega)).trans (hA3 k hk)
    refine vx_putR (ci := 4) (T := TX4) (n := 8) (j := 6) (a := 47) (r := 51) (fr := [none, none, none, some (some 48), some (some 49), some (some 50), some none, some none]) (ty := tyX4 6) dX4_init_48 rfl lay_X4 tyX4_ok nmX4 (by decide) wd_291 rfl hini rfl rfl (fun _ => rfl) (fun _ => rfl) (by decide) rfl (by decide) ?_
    refine vx_J_lam (Λ' := (va_up (va_up vx_lay 0 (.inl (8, [some (some 1), some (some 3), some (some 6), some (some 18), some (some 28), some (some 39), some none, some none]))) 47 (.inl (4, [none, none, none, some (some 48), some (some 49), some (some 50), some (some 51), some none])))) (fun k _ => congrFun vx_up_up k) ?_
    refine vx_aload_n dX4_init_51 rfl ?_
    refine vx_bipush (v := 7) dX4_init_52 (by decide) ?_
    refine vx_newa (t := 0) (L := 7) dX4_init_54 (by decide) wd_89 (by decide) (by decide) (by decide) rfl (hz 52 (by decide) (by decide)) (by decide) (by decide +kernel) (by decide) (by decide) (by decide) (fun ad5 g5 => ?_)
    have hA5 : ∀ k, k < 48 ∨ 1000 ≤ k → ad5 k = ad k := fun k hk => (g5 k (by omega)).trans (hA4 k hk)
    refine vx_putR (ci := 4) (T := TX4) (n := 8) (j := 7) (a := 47) (r := 52) (fr := [none, none, none, some (some 48), some (some 49), some (some 50), some (some 51), some none]) (ty := tyX4 7) dX4_init_56 rfl lay_X4 tyX4_ok nmX4 (by decide) wd_293 rfl hini rfl rfl (fun _ => rfl) (fun _ => rfl) (by decide) rfl (by decide) ?_
    refine vx_J_lam (Λ' := (va_up (va_up vx_lay 0 (.inl (8, [some (some 1), some (some 3), some (some 6), some (some 18), some (some 28), some (some 39), some none, some none]))) 47 (.inl (4, [none, none, none, some (some 48), some (some 49), some (some 50), some (some 51), some (some 52)])))) (fun k _ => congrFun vx_up_up k) ?_
    refine vx_J_lam (Λ' := (va_up vx_lay 0 (.inl (8, [some (some 1), some (some 3), some (some 6), some (some 18), some (some 28), some (some 39), some none, some none])))) (fun k _ => congrFun (vx_up_id (va_up vx_lay 0 (.inl (8, [some (some 1), some (some 3), some (some 6), some (some 18), some (some 28), some (some 39), some none, some none]))) 47) k) ?_
    exact vx_vret dX4_init_59 rfl (by decide) (by decide) (⟨rfl, hA5, rfl, rfl, rfl⟩)
  exact vx_J.M pn_X4_init (Nat.le_of_ble_eq_true rfl) (key _ (by decide))
set_option maxRecDepth 20000 in
set_option maxHeartbeats 8000000 in
theorem c_X2_init (ad : Nat → Nat) (μ : vx_mem) (hz : ∀ k, 53 ≤ k → k < 82 → μ k = fun _ => 0) : vx_M yX2_init cX2_init 1 none 10 0 0 ad 54 (va_up vx_lay 0 (.inl (8, [some (some 1), some (some 3), some (some 6), some (some 18), some (some 28), some (some 39), some (some 47), some none]))) μ [vx_r 53] (vx_mk ad 54 54 (va_up vx_lay 0 (.inl (8, [some (some 1), some (some 3), some (some 6), some (some 18), some (some 28), some (some 39), some (some 47), some none]))) μ) := by
  have key : ∀ (ini : Bool), ini = true → vx_J RX2 cX2_init 1 none ini 10 0 0 (vx_mk ad 54 54 (va_up vx_lay 0 (.inl (8, [some (some 1), some (some 3), some (some 6), some (some 18), some (some 28), some (some 39), some (some 47), some none]))) μ) ad 0 0 54 (va_up vx_lay 0 (.inl (8, [some (some 1), some (some 3), some (some 6), some (some 18), some (some 28), some (some 39), some (some 47), some none]))) μ 0 [(0, vx_r 53)] [] := by
    intro ini hini
    refine vx_aload_n dX2_init_0 rfl ?_
    refine vx_objI dX2_init_1 wd_317 wd_66 wd_67 (by decide) (by decide) ?_
    refine vx_aload_n dX2_init_4 rfl ?_
    refine vx_iconst (v := 0) dX2_init_5 (by decide) ?_
    refine vx_putI (ci := 2) (T := TX2) (n := 6) (j := 0) (a := 53) (ty := .int) (μ2 := (va_up μ 53 (upd (μ 53) 0 0))) dX2_init_6 rfl lay_X2 tyX2_ok nmX2 (by decide) wd_318 rfl rfl rfl rfl (by decide) rfl rfl rfl ?_
    refine vx_eq (μ2 := μ) (by rw [sp_ups (f := (μ 53)) (k := 0) (congrFun (hz 53 (by decide) (by decide)) 0), vx_up_id]) rfl rfl ?_
    refine vx_aload_n dX2_init_9 rfl ?_
    refine vx_iconst (v := 0) dX2_init_10 (by decide) ?_
    refine vx_putI (ci := 2) (T := TX2) (n := 6) (j := 1) (a := 53) (ty := .int) (μ2 := (va_up μ 53 (upd (μ 53) 1 0))) dX2_init_11 rfl lay_X2 tyX2_ok nmX2 (by decide) wd_320 rfl rfl rfl rfl (by decide) rfl rfl rfl ?_
    refine vx_eq (μ2 := μ) (by rw [sp_ups (f := (μ 53)) (k := 1) (congrFun (hz 53 (by decide) (by decide)) 1), vx_up_id]) rfl rfl ?_
    refine vx_aload_n dX2_init_14 rfl ?_
    refine vx_iconst (v := 0) dX2_init_15 (by decide) ?_
    refine vx_putI (ci := 2) (T := TX2) (n := 6) (j := 2) (a := 53) (ty := .int) (μ2 := (va_up μ 53 (upd (μ 53) 2 0))) dX2_init_16 rfl lay_X2 tyX2_ok nmX2 (by decide) wd_322 rfl rfl rfl rfl (by decide) rfl rfl rfl ?_
    refine vx_eq (μ2 := μ) (by rw [sp_ups (f := (μ 53)) (k := 2) (congrFun (hz 53 (by decide) (by decide)) 2), vx_up_id]) rfl rfl ?_
    refine vx_aload_n dX2_init_19 rfl ?_
    refine vx_iconst (v := 0) dX2_init_20 (by decide) ?_
    refine vx_putI (ci := 2) (T := TX2) (n := 6) (j := 3) (a := 53) (ty := .int) (μ2 := (va_up μ 53 (upd (μ 53) 3 0))) dX2_init_21 rfl lay_X2 tyX2_ok nmX2 (by decide) wd_324 rfl rfl rfl rfl (by decide) rfl rfl rfl ?_
    refine vx_eq (μ2 := μ) (by rw [sp_ups (f := (μ 53)) (k := 3) (congrFun (hz 53 (by decide) (by decide)) 3), vx_up_id]) rfl rfl ?_
    refine vx_aload_n dX2_init_24 rfl ?_
    refine vx_iconst (v := 0) dX2_init_25 (by decide) ?_
    refine vx_putI (ci := 2) (T := TX2) (n := 6) (j := 4) (a := 53) (ty := .boolean) (μ2 := (va_up μ 53 (upd (μ 53) 4 0))) dX2_init_26 rfl lay_X2 tyX2_ok nmX2 (by decide) wd_326 rfl rfl rfl rfl (by decide) rfl rfl rfl ?_
    refine vx_eq (μ2 := μ) (by rw [sp_ups (f := (μ 53)) (k := 4) (congrFun (hz 53 (by decide) (by decide)) 4), vx_up_id]) rfl rfl ?_
    refine vx_aload_n dX2_init_29 rfl ?_
    refine vx_iconst (v := 0) dX2_init_30 (by decide) ?_
    refine vx_putI (ci := 2) (T := TX2) (n := 6) (j := 5) (a := 53) (ty := .int) (μ2 := (va_up μ 53 (upd (μ 53) 5 0))) dX2_init_31 rfl lay_X2 tyX2_ok nmX2 (by decide) wd_328 rfl rfl rfl rfl (by decide) rfl rfl rfl ?_
    refine vx_eq (μ2 := μ) (by rw [sp_ups (f := (μ 53)) (k := 5) (congrFun (hz 53 (by decide) (by decide)) 5), vx_up_id]) rfl rfl ?_
    exact vx_vret dX2_init_34 rfl (by decide) (by decide) (⟨rfl, (fun k _ => rfl), rfl, rfl, rfl⟩)
  exact vx_J.M pn_X2_init (Nat.le_of_ble_eq_true rfl) (key _ (by decide))
end
