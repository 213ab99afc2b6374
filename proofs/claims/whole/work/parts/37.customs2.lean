section
def sp_cuM (μ : vx_mem) (e : Nat) : vx_mem := va_up (va_up (va_up (va_up μ 1 (upd (sp_c1 μ e (sp_Z μ e).2.1) 1 0)) 3 (upd (upd (sp_c30 μ) 2 (sp_Z μ e).1) 3 (if (sp_Z μ e).1 = 0 then -1 else nI (sp_Z μ e).2.1))) 4 (if (sp_Z μ e).1 = 0 then sp_pif (μ 4) (sp_Z μ e).2.2.2 6 else μ 4)) 5 (sp_Z μ e).2.2.2
abbrev sp_cok (μ : vx_mem) (n : Int32) : Prop := ¬ n < 0 ∧ n ≤ μ 1 1
set_option maxRecDepth 20000 in
set_option maxHeartbeats 2000000 in
theorem c_X8_customs (d : Nat) (hd : 8 ≤ d) (ad : Nat → Nat) (μ : vx_mem) (len : Nat) (hl : μ 1 1 = nI len) (hl3 : len ≤ 300) (n : Int32) : vx_Mf yX8_customs cX8_customs 3 (some (.int)) d ad 82 vx_lay μ [vx_r 0, .inl n] (some (.inl (if sp_cok μ n then (if (sp_Z μ n.toNatClampNeg).1 = 0 then nI (sp_Z μ n.toNatClampNeg).2.2.1 else -1) else -2))) (if sp_cok μ n then sp_cuM μ n.toNatClampNeg else μ) := by
  have key : ∀ (Post : vx_P) (ini : Bool), Post (some (.inl (if sp_cok μ n then (if (sp_Z μ n.toNatClampNeg).1 = 0 then nI (sp_Z μ n.toNatClampNeg).2.2.1 else -1) else -2))) ad 82 vx_lay (if sp_cok μ n then sp_cuM μ n.toNatClampNeg else μ) → vx_J RX8 cX8_customs 3 (some (.int)) ini d 0 0 Post ad 0 0 82 vx_lay μ 0 [(0, vx_r 0), (1, .inl n)] [] := by
    intro Post ini hP
    refine vx_iload_n dX8_customs_0 rfl ?_
    refine vx_if_lt (tgt := 15) dX8_customs_1 (by decide) (fun c_1 => ?_) (fun c_1 => ?_)
    · refine vx_bipush (v := (-2)) dX8_customs_15 (by decide) ?_
      exact vx_ret (ty := .int) dX8_customs_17 rfl rfl (Nat.le_refl 0) (Nat.le_refl 0) (vx_pst hP (by rw [if_neg (show ¬ sp_cok μ n from fun h => h.1 c_1)]) (by rw [if_neg (show ¬ sp_cok μ n from fun h => h.1 c_1)]))
    · refine vx_iload_n dX8_customs_4 rfl ?_
      refine vx_aload_n dX8_customs_5 rfl ?_
      refine vx_getR (ci := 8) (T := TX8) (n := 8) (j := 0) (a := 0) (r := 1) dX8_customs_6 rfl lay_X8 (by decide) wd_343 (by decide) ly_0 rfl ?_
      refine vx_getI (ci := 7) (T := TX7) (n := 4) (j := 1) (a := 1) (v := (nI len)) dX8_customs_9 rfl lay_X7 (by decide) wd_76 (by decide) ly_1 rfl hl ?_
      refine vx_icmp_le (tgt := 18) dX8_customs_12 (by decide) (fun c_12 => ?_) (fun c_12 => ?_)
      · rw [if_pos (show sp_cok μ n from ⟨c_1, hl ▸ c_12⟩), if_pos (show sp_cok μ n from ⟨c_1, hl ▸ c_12⟩)] at hP
        obtain ⟨e, he, rfl⟩ := nI_of c_1
        have hel : e ≤ len := by rw [nI_leI (by omega) (by omega)] at c_12; omega
        rw [nI_clamp (by omega)] at hP
        refine vx_aload_n dX8_customs_18 rfl ?_
        refine vx_getR (ci := 8) (T := TX8) (n := 8) (j := 1) (a := 0) (r := 3) dX8_customs_19 rfl lay_X8 (by decide) wd_344 (by decide) ly_0 rfl ?_
        refine vx_aload_n dX8_customs_22 rfl ?_
        refine vx_getR (ci := 8) (T := TX8) (n := 8) (j := 0) (a := 0) (r := 1) dX8_customs_23 rfl lay_X8 (by decide) wd_343 (by decide) ly_0 rfl ?_
        refine vx_iload_n dX8_customs_26 rfl ?_
        refine vx_callV (b := 3) (vs := [vx_r 1, .inl (nI e)]) (st := []) (r0 := (some (.inl (if (sp_Z μ e).1 = 0 then nI (sp_Z μ e).2.2.1 else -1)))) (μ0 := (va_up (va_up (va_up (va_up μ 1 (sp_c1 μ e (sp_Z μ e).2.1)) 3 (upd (upd (sp_c30 μ) 2 (sp_Z μ e).1) 3 (if (sp_Z μ e).1 = 0 then -1 else nI (sp_Z μ e).2.1))) 4 (if (sp_Z μ e).1 = 0 then sp_pif (μ 4) (sp_Z μ e).2.2.2 6 else μ 4)) 5 (sp_Z μ e).2.2.2)) dX8_customs_27 (c_X0_read (d - 1) (by omega) ad μ e (by omega)) wd_385 wd_388 wd_47 hy_X0_read wd_386 wd_387 (by decide) ly_3 rfl rfl (by omega) (Nat.le_of_ble_eq_true rfl) (Nat.le_of_ble_eq_true rfl) (Nat.le_refl 0) (Nat.le_refl 0) ?_
        refine vx_eq (μ2 := (va_up (va_up (va_up (va_up μ 1 (sp_c1 μ e (sp_Z μ e).2.1)) 3 (upd (upd (sp_c30 μ) 2 (sp_Z μ e).1) 3 (if (sp_Z μ e).1 = 0 then -1 else nI (sp_Z μ e).2.1))) 4 (if (sp_Z μ e).1 = 0 then sp_pif (μ 4) (sp_Z μ e).2.2.2 6 else μ 4)) 5 (sp_Z μ e).2.2.2)) (ls2 := [(0, vx_r 0), (1, .inl (nI e))]) (st2 := [.inl (if (sp_Z μ e).1 = 0 then nI (sp_Z μ e).2.2.1 else -1)]) rfl rfl rfl ?_
        refine vx_istore_n (ls2 := [(2, .inl (if (sp_Z μ e).1 = 0 then nI (sp_Z μ e).2.2.1 else -1)), (0, vx_r 0), (1, .inl (nI e))]) dX8_customs_30 (by decide) rfl ?_
        refine vx_aload_n dX8_customs_31 rfl ?_
        refine vx_getR (ci := 8) (T := TX8) (n := 8) (j := 0) (a := 0) (r := 1) dX8_customs_32 rfl lay_X8 (by decide) wd_343 (by decide) ly_0 rfl ?_
        refine vx_iconst (v := 0) dX8_customs_35 (by decide) ?_
        refine vx_putI (ci := 7) (T := TX7) (n := 4) (j := 1) (a := 1) (ty := .int) (μ2 := (va_up (va_up (va_up (va_up μ 1 (upd (sp_c1 μ e (sp_Z μ e).2.1) 1 0)) 3 (upd (upd (sp_c30 μ) 2 (sp_Z μ e).1) 3 (if (sp_Z μ e).1 = 0 then -1 else nI (sp_Z μ e).2.1))) 4 (if (sp_Z μ e).1 = 0 then sp_pif (μ 4) (sp_Z μ e).2.2.2 6 else μ 4)) 5 (sp_Z μ e).2.2.2)) dX8_customs_36 rfl lay_X7 tyX7_ok nmX7 (by decide) wd_76 rfl rfl rfl rfl (by decide) ly_1 rfl ((vx_m2 (by decide)).trans (congrArg (fun m => va_up m 5 (sp_Z μ e).2.2.2) ((vx_m2 (by decide)).trans (congrArg (fun m => va_up m 4 (if (sp_Z μ e).1 = 0 then sp_pif (μ 4) (sp_Z μ e).2.2.2 6 else μ 4)) ((vx_m2 (by decide)).trans (congrArg (fun m => va_up m 3 (upd (upd (sp_c30 μ) 2 (sp_Z μ e).1) 3 (if (sp_Z μ e).1 = 0 then -1 else nI (sp_Z μ e).2.1))) vx_m1)))))) ?_
        refine vx_iload_n dX8_customs_39 rfl ?_
        exact vx_ret (ty := .int) dX8_customs_40 rfl rfl (Nat.le_refl 0) (Nat.le_refl 0) (vx_pst hP rfl rfl)
      · refine vx_bipush (v := (-2)) dX8_customs_15 (by decide) ?_
        exact vx_ret (ty := .int) dX8_customs_17 rfl rfl (Nat.le_refl 0) (Nat.le_refl 0) (vx_pst hP (by rw [if_neg (show ¬ sp_cok μ n from fun h => c_12 (hl ▸ h.2))]) (by rw [if_neg (show ¬ sp_cok μ n from fun h => c_12 (hl ▸ h.2))]))
  exact vx_J.M pn_X8_customs (Nat.le_of_ble_eq_true rfl) (key _ _ ⟨rfl, rfl, rfl, rfl, rfl⟩)
end
