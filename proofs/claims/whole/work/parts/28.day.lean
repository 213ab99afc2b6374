section
theorem sp_in1 {n a b : Int32} (h : ¬ sp_in n a b = 0) : sp_in n a b = 1 := by
  unfold sp_in at h ⊢
  split
  · rename_i q; rw [if_pos q] at h; exact absurd rfl h
  · rename_i q
    rw [if_neg q] at h
    split
    · rename_i q2; rw [if_pos q2] at h; exact absurd rfl h
    · rfl
/-- the set's state, as the day needs it: where it is; if it goes: its step, the plan's length, the farm behind -/
def sp_go (μ : vx_mem) (n pl sp L nx : Nat) : Prop := ¬ μ 53 4 = 0 → 1 ≤ pl ∧ pl ≤ n ∧ μ 53 5 = nI sp ∧ μ 47 0 = nI L ∧ sp < L ∧ L ≤ 7 ∧ (sp + 1 < L → μ 48 (sp + 1) = nI nx) ∧ nx < 8
def sp_dm (μ : vx_mem) (n pl sp L nx : Nat) : vx_mem := if ¬ μ 53 3 ≤ 0 then va_up μ 53 (upd (μ 53) 3 (μ 53 3 - 1)) else if ¬ μ 53 4 = 0 ∧ ¬ μ 53 2 ≤ 0 then va_up μ 53 (upd (μ 53) 2 (μ 53 2 - 1)) else if ¬ μ 53 4 = 0 ∧ μ 53 0 ≥ μ 12 pl then sp_thr μ n pl sp L nx else μ
def sp_day (μ : vx_mem) (n pl sp L nx : Nat) : vx_mem := va_up (sp_dm μ n pl sp L nx) 53 (upd (sp_dm μ n pl sp L nx 53) 0 (sp_dm μ n pl sp L nx 53 0 + 1))
theorem sp_ahead0 {μ : vx_mem} {p : Nat} : sp_ahead μ p = 0 ↔ μ 12 p ≤ μ 53 0 := by
  unfold sp_ahead
  by_cases h : μ 12 p ≤ μ 53 0 <;> simp [h]
set_option maxRecDepth 20000 in
set_option maxHeartbeats 2000000 in
theorem c_X8_passDay (d : Nat) (hd : 5 ≤ d) (ad : Nat → Nat) (μ : vx_mem) (n : Nat) (hk : sp_ck μ n) (pl sp L nx : Nat) (hp : μ 53 1 = nI pl) (hp8 : pl < 8) (hg : sp_go μ n pl sp L nx) : vx_Mf yX8_passDay cX8_passDay 1 none d ad 82 vx_lay μ [vx_r 0] none (sp_day μ n pl sp L nx) := by
  have key : ∀ (Post : vx_P) (ini : Bool), Post none ad 82 vx_lay (sp_day μ n pl sp L nx) → vx_J RX8 cX8_passDay 1 none ini d 0 0 Post ad 0 0 82 vx_lay μ 0 [(0, vx_r 0)] [] := by
    intro Post ini hP
    refine vx_aload_n dX8_passDay_0 rfl ?_
    refine vx_getR (ci := 8) (T := TX8) (n := 8) (j := 7) (a := 0) (r := 53) dX8_passDay_1 rfl lay_X8 (by decide) wd_350 (by decide) ly_0 rfl ?_
    refine vx_getI (ci := 2) (T := TX2) (n := 6) (j := 3) (a := 53) (v := (μ 53 3)) dX8_passDay_4 rfl lay_X2 (by decide) wd_325 (by decide) ly_53 rfl rfl ?_
    refine vx_if_le (tgt := 26) dX8_passDay_7 (by decide) (fun c_7 => ?_) (fun c_7 => ?_)
    · refine vx_aload_n dX8_passDay_26 rfl ?_
      refine vx_getR (ci := 8) (T := TX8) (n := 8) (j := 7) (a := 0) (r := 53) dX8_passDay_27 rfl lay_X8 (by decide) wd_350 (by decide) ly_0 rfl ?_
      refine vx_getI (ci := 2) (T := TX2) (n := 6) (j := 4) (a := 53) (v := (μ 53 4)) dX8_passDay_30 rfl lay_X2 (by decide) wd_327 (by decide) ly_53 rfl rfl ?_
      refine vx_if_eq (tgt := 62) dX8_passDay_33 (by decide) (fun c_33 => ?_) (fun c_33 => ?_)
      · refine vx_aload_n dX8_passDay_62 rfl ?_
        refine vx_getR (ci := 8) (T := TX8) (n := 8) (j := 7) (a := 0) (r := 53) dX8_passDay_63 rfl lay_X8 (by decide) wd_350 (by decide) ly_0 rfl ?_
        refine vx_getI (ci := 2) (T := TX2) (n := 6) (j := 4) (a := 53) (v := (μ 53 4)) dX8_passDay_66 rfl lay_X2 (by decide) wd_327 (by decide) ly_53 rfl rfl ?_
        refine vx_if_eq (tgt := 90) dX8_passDay_69 (by decide) (fun _ => ?_) (fun h => absurd c_33 h)
        refine vx_eq (μ2 := (sp_dm μ n pl sp L nx)) (by unfold sp_dm; rw [if_neg (fun h => h c_7), if_neg (fun h => h.1 c_33), if_neg (fun h => h.1 c_33)]) rfl rfl ?_
        refine vx_aload_n dX8_passDay_90 rfl ?_
        refine vx_getR (ci := 8) (T := TX8) (n := 8) (j := 7) (a := 0) (r := 53) dX8_passDay_91 rfl lay_X8 (by decide) wd_350 (by decide) ly_0 rfl ?_
        refine vx_dup dX8_passDay_94 ?_
        refine vx_getI (ci := 2) (T := TX2) (n := 6) (j := 0) (a := 53) (v := ((sp_dm μ n pl sp L nx) 53 0)) dX8_passDay_95 rfl lay_X2 (by decide) wd_319 (by decide) ly_53 rfl rfl ?_
        refine vx_iconst (v := 1) dX8_passDay_98 (by decide) ?_
        refine vx_iadd dX8_passDay_99 ?_
        refine vx_putI (ci := 2) (T := TX2) (n := 6) (j := 0) (a := 53) (ty := .int) (μ2 := (va_up (sp_dm μ n pl sp L nx) 53 (upd ((sp_dm μ n pl sp L nx) 53) 0 (((sp_dm μ n pl sp L nx) 53 0) + 1)))) dX8_passDay_100 rfl lay_X2 tyX2_ok nmX2 (by decide) wd_319 rfl rfl rfl rfl (by decide) ly_53 rfl rfl ?_
        exact vx_vret dX8_passDay_103 rfl (Nat.le_refl 0) (Nat.le_refl 0) (vx_pst hP rfl rfl)
      · refine vx_aload_n dX8_passDay_36 rfl ?_
        refine vx_getR (ci := 8) (T := TX8) (n := 8) (j := 7) (a := 0) (r := 53) dX8_passDay_37 rfl lay_X8 (by decide) wd_350 (by decide) ly_0 rfl ?_
        refine vx_getI (ci := 2) (T := TX2) (n := 6) (j := 2) (a := 53) (v := (μ 53 2)) dX8_passDay_40 rfl lay_X2 (by decide) wd_323 (by decide) ly_53 rfl rfl ?_
        refine vx_if_le (tgt := 62) dX8_passDay_43 (by decide) (fun c_43 => ?_) (fun c_43 => ?_)
        · refine vx_aload_n dX8_passDay_62 rfl ?_
          refine vx_getR (ci := 8) (T := TX8) (n := 8) (j := 7) (a := 0) (r := 53) dX8_passDay_63 rfl lay_X8 (by decide) wd_350 (by decide) ly_0 rfl ?_
          refine vx_getI (ci := 2) (T := TX2) (n := 6) (j := 4) (a := 53) (v := (μ 53 4)) dX8_passDay_66 rfl lay_X2 (by decide) wd_327 (by decide) ly_53 rfl rfl ?_
          refine vx_if_eq (tgt := 90) dX8_passDay_69 (by decide) (fun h => absurd h c_33) (fun _ => ?_)
          refine vx_aload_n dX8_passDay_72 rfl ?_
          refine vx_callV (b := 0) (vs := []) (st := []) (r0 := (some (.inl (sp_ahead μ pl)))) (μ0 := μ) dX8_passDay_73 (c_X8_isAheadOfFrom (d - 1) (by omega) ad μ pl hp hp8) wd_665 wd_668 wd_45 hy_X8_isAheadOfFrom wd_667 wd_15 (by decide) ly_0 rfl rfl (by omega) (Nat.le_of_ble_eq_true rfl) (Nat.le_of_ble_eq_true rfl) (Nat.le_refl 0) (Nat.le_refl 0) ?_
          refine vx_eq (μ2 := μ) (ls2 := [(0, vx_r 0)]) (st2 := [.inl (sp_ahead μ pl)]) rfl rfl rfl ?_
          refine vx_if_ne (tgt := 90) dX8_passDay_76 (by decide) (fun c_76 => ?_) (fun c_76 => ?_)
          · refine vx_eq (μ2 := (sp_dm μ n pl sp L nx)) (by unfold sp_dm; rw [if_neg (fun h => h c_7), if_neg (fun h => h.2 c_43), if_neg (fun h => c_76 (sp_ahead0.mpr h.2))]) rfl rfl ?_
            refine vx_aload_n dX8_passDay_90 rfl ?_
            refine vx_getR (ci := 8) (T := TX8) (n := 8) (j := 7) (a := 0) (r := 53) dX8_passDay_91 rfl lay_X8 (by decide) wd_350 (by decide) ly_0 rfl ?_
            refine vx_dup dX8_passDay_94 ?_
            refine vx_getI (ci := 2) (T := TX2) (n := 6) (j := 0) (a := 53) (v := ((sp_dm μ n pl sp L nx) 53 0)) dX8_passDay_95 rfl lay_X2 (by decide) wd_319 (by decide) ly_53 rfl rfl ?_
            refine vx_iconst (v := 1) dX8_passDay_98 (by decide) ?_
            refine vx_iadd dX8_passDay_99 ?_
            refine vx_putI (ci := 2) (T := TX2) (n := 6) (j := 0) (a := 53) (ty := .int) (μ2 := (va_up (sp_dm μ n pl sp L nx) 53 (upd ((sp_dm μ n pl sp L nx) 53) 0 (((sp_dm μ n pl sp L nx) 53 0) + 1)))) dX8_passDay_100 rfl lay_X2 tyX2_ok nmX2 (by decide) wd_319 rfl rfl rfl rfl (by decide) ly_53 rfl rfl ?_
            exact vx_vret dX8_passDay_103 rfl (Nat.le_refl 0) (Nat.le_refl 0) (vx_pst hP rfl rfl)
          · refine vx_aload_n dX8_passDay_79 rfl ?_
            refine vx_aload_n dX8_passDay_80 rfl ?_
            refine vx_getR (ci := 8) (T := TX8) (n := 8) (j := 7) (a := 0) (r := 53) dX8_passDay_81 rfl lay_X8 (by decide) wd_350 (by decide) ly_0 rfl ?_
            refine vx_getI (ci := 2) (T := TX2) (n := 6) (j := 1) (a := 53) (v := (nI pl)) dX8_passDay_84 rfl lay_X2 (by decide) wd_321 (by decide) ly_53 rfl hp ?_
            refine vx_callV (b := 0) (vs := [.inl (nI pl)]) (st := []) (r0 := none) (μ0 := (sp_thr μ n pl sp L nx)) dX8_passDay_87 (c_X8_thresh (d - 1) (by omega) ad μ n hk pl sp L nx hp (hg c_33).1 (hg c_33).2.1 (hg c_33).2.2.1 (hg c_33).2.2.2.1 (hg c_33).2.2.2.2.1 (hg c_33).2.2.2.2.2.1 (hg c_33).2.2.2.2.2.2.1 (hg c_33).2.2.2.2.2.2.2) wd_669 wd_672 wd_45 hy_X8_thresh wd_671 wd_16 (by decide) ly_0 rfl rfl (by omega) (Nat.le_of_ble_eq_true rfl) (Nat.le_of_ble_eq_true rfl) (Nat.le_refl 0) (Nat.le_refl 0) ?_
            refine vx_eq (μ2 := (sp_thr μ n pl sp L nx)) (ls2 := [(0, vx_r 0)]) (st2 := []) rfl rfl rfl ?_
            refine vx_eq (μ2 := (sp_dm μ n pl sp L nx)) (by unfold sp_dm; rw [if_neg (fun h => h c_7), if_neg (fun h => h.2 c_43), if_pos ⟨c_33, sp_ahead0.mp c_76⟩]) rfl rfl ?_
            refine vx_aload_n dX8_passDay_90 rfl ?_
            refine vx_getR (ci := 8) (T := TX8) (n := 8) (j := 7) (a := 0) (r := 53) dX8_passDay_91 rfl lay_X8 (by decide) wd_350 (by decide) ly_0 rfl ?_
            refine vx_dup dX8_passDay_94 ?_
            refine vx_getI (ci := 2) (T := TX2) (n := 6) (j := 0) (a := 53) (v := ((sp_dm μ n pl sp L nx) 53 0)) dX8_passDay_95 rfl lay_X2 (by decide) wd_319 (by decide) ly_53 rfl rfl ?_
            refine vx_iconst (v := 1) dX8_passDay_98 (by decide) ?_
            refine vx_iadd dX8_passDay_99 ?_
            refine vx_putI (ci := 2) (T := TX2) (n := 6) (j := 0) (a := 53) (ty := .int) (μ2 := (va_up (sp_dm μ n pl sp L nx) 53 (upd ((sp_dm μ n pl sp L nx) 53) 0 (((sp_dm μ n pl sp L nx) 53 0) + 1)))) dX8_passDay_100 rfl lay_X2 tyX2_ok nmX2 (by decide) wd_319 rfl rfl rfl rfl (by decide) ly_53 rfl rfl ?_
            exact vx_vret dX8_passDay_103 rfl (Nat.le_refl 0) (Nat.le_refl 0) (vx_pst hP rfl rfl)
        · refine vx_aload_n dX8_passDay_46 rfl ?_
          refine vx_getR (ci := 8) (T := TX8) (n := 8) (j := 7) (a := 0) (r := 53) dX8_passDay_47 rfl lay_X8 (by decide) wd_350 (by decide) ly_0 rfl ?_
          refine vx_dup dX8_passDay_50 ?_
          refine vx_getI (ci := 2) (T := TX2) (n := 6) (j := 2) (a := 53) (v := (μ 53 2)) dX8_passDay_51 rfl lay_X2 (by decide) wd_323 (by decide) ly_53 rfl rfl ?_
          refine vx_iconst (v := 1) dX8_passDay_54 (by decide) ?_
          refine vx_isub dX8_passDay_55 ?_
          refine vx_putI (ci := 2) (T := TX2) (n := 6) (j := 2) (a := 53) (ty := .int) (μ2 := (va_up μ 53 (upd (μ 53) 2 ((μ 53 2) - 1)))) dX8_passDay_56 rfl lay_X2 tyX2_ok nmX2 (by decide) wd_323 rfl rfl rfl rfl (by decide) ly_53 rfl rfl ?_
          refine vx_goto (tgt := 90) dX8_passDay_59 (by decide) ?_
          refine vx_eq (μ2 := (sp_dm μ n pl sp L nx)) (by unfold sp_dm; rw [if_neg (fun h => h c_7), if_pos ⟨c_33, c_43⟩]) rfl rfl ?_
          refine vx_aload_n dX8_passDay_90 rfl ?_
          refine vx_getR (ci := 8) (T := TX8) (n := 8) (j := 7) (a := 0) (r := 53) dX8_passDay_91 rfl lay_X8 (by decide) wd_350 (by decide) ly_0 rfl ?_
          refine vx_dup dX8_passDay_94 ?_
          refine vx_getI (ci := 2) (T := TX2) (n := 6) (j := 0) (a := 53) (v := ((sp_dm μ n pl sp L nx) 53 0)) dX8_passDay_95 rfl lay_X2 (by decide) wd_319 (by decide) ly_53 rfl rfl ?_
          refine vx_iconst (v := 1) dX8_passDay_98 (by decide) ?_
          refine vx_iadd dX8_passDay_99 ?_
          refine vx_putI (ci := 2) (T := TX2) (n := 6) (j := 0) (a := 53) (ty := .int) (μ2 := (va_up (sp_dm μ n pl sp L nx) 53 (upd ((sp_dm μ n pl sp L nx) 53) 0 (((sp_dm μ n pl sp L nx) 53 0) + 1)))) dX8_passDay_100 rfl lay_X2 tyX2_ok nmX2 (by decide) wd_319 rfl rfl rfl rfl (by decide) ly_53 rfl rfl ?_
          exact vx_vret dX8_passDay_103 rfl (Nat.le_refl 0) (Nat.le_refl 0) (vx_pst hP rfl rfl)
    · refine vx_aload_n dX8_passDay_10 rfl ?_
      refine vx_getR (ci := 8) (T := TX8) (n := 8) (j := 7) (a := 0) (r := 53) dX8_passDay_11 rfl lay_X8 (by decide) wd_350 (by decide) ly_0 rfl ?_
      refine vx_dup dX8_passDay_14 ?_
      refine vx_getI (ci := 2) (T := TX2) (n := 6) (j := 3) (a := 53) (v := (μ 53 3)) dX8_passDay_15 rfl lay_X2 (by decide) wd_325 (by decide) ly_53 rfl rfl ?_
      refine vx_iconst (v := 1) dX8_passDay_18 (by decide) ?_
      refine vx_isub dX8_passDay_19 ?_
      refine vx_putI (ci := 2) (T := TX2) (n := 6) (j := 3) (a := 53) (ty := .int) (μ2 := (va_up μ 53 (upd (μ 53) 3 ((μ 53 3) - 1)))) dX8_passDay_20 rfl lay_X2 tyX2_ok nmX2 (by decide) wd_325 rfl rfl rfl rfl (by decide) ly_53 rfl rfl ?_
      refine vx_goto (tgt := 90) dX8_passDay_23 (by decide) ?_
      refine vx_eq (μ2 := (sp_dm μ n pl sp L nx)) (by unfold sp_dm; rw [if_pos c_7]) rfl rfl ?_
      refine vx_aload_n dX8_passDay_90 rfl ?_
      refine vx_getR (ci := 8) (T := TX8) (n := 8) (j := 7) (a := 0) (r := 53) dX8_passDay_91 rfl lay_X8 (by decide) wd_350 (by decide) ly_0 rfl ?_
      refine vx_dup dX8_passDay_94 ?_
      refine vx_getI (ci := 2) (T := TX2) (n := 6) (j := 0) (a := 53) (v := ((sp_dm μ n pl sp L nx) 53 0)) dX8_passDay_95 rfl lay_X2 (by decide) wd_319 (by decide) ly_53 rfl rfl ?_
      refine vx_iconst (v := 1) dX8_passDay_98 (by decide) ?_
      refine vx_iadd dX8_passDay_99 ?_
      refine vx_putI (ci := 2) (T := TX2) (n := 6) (j := 0) (a := 53) (ty := .int) (μ2 := (va_up (sp_dm μ n pl sp L nx) 53 (upd ((sp_dm μ n pl sp L nx) 53) 0 (((sp_dm μ n pl sp L nx) 53 0) + 1)))) dX8_passDay_100 rfl lay_X2 tyX2_ok nmX2 (by decide) wd_319 rfl rfl rfl rfl (by decide) ly_53 rfl rfl ?_
      exact vx_vret dX8_passDay_103 rfl (Nat.le_refl 0) (Nat.le_refl 0) (vx_pst hP rfl rfl)
  exact vx_J.M pn_X8_passDay (Nat.le_of_ble_eq_true rfl) (key _ _ ⟨rfl, rfl, rfl, rfl, rfl⟩)
set_option maxRecDepth 20000 in
set_option maxHeartbeats 2000000 in
theorem c_X8_breaks (d : Nat) (hd : 1 ≤ d) (ad : Nat → Nat) (μ : vx_mem) (x : Int32) : vx_Mf yX8_breaks cX8_breaks 2 (some (.boolean)) d ad 82 vx_lay μ [vx_r 0, .inl x] (some (.inl (sp_in x 1 9))) (if sp_in x 1 9 = 0 then μ else va_up μ 53 (upd (μ 53) 3 x)) := by
  have key : ∀ (Post : vx_P) (ini : Bool), Post (some (.inl (sp_in x 1 9))) ad 82 vx_lay (if sp_in x 1 9 = 0 then μ else va_up μ 53 (upd (μ 53) 3 x)) → vx_J RX8 cX8_breaks 2 (some (.boolean)) ini d 0 0 Post ad 0 0 82 vx_lay μ 0 [(0, vx_r 0), (1, .inl x)] [] := by
    intro Post ini hP
    refine vx_iload_n dX8_breaks_0 rfl ?_
    refine vx_iconst (v := 1) dX8_breaks_1 (by decide) ?_
    refine vx_bipush (v := 9) dX8_breaks_2 (by decide) ?_
    refine vx_callS (vs := [.inl x, .inl 1, .inl 9]) (st := []) (r0 := (some (.inl (sp_in x 1 9)))) (μ0 := μ) dX8_breaks_4 (c_X8_within (d - 1) ad 82 vx_lay μ x 1 9) wd_507 wd_416 wd_45 hy_X8_within wd_415 (by omega) (Nat.le_of_ble_eq_true rfl) (Nat.le_of_ble_eq_true rfl) (Nat.le_refl 0) (Nat.le_refl 0) ?_
    refine vx_eq (μ2 := μ) (ls2 := [(0, vx_r 0), (1, .inl x)]) (st2 := [.inl (sp_in x 1 9)]) rfl rfl rfl ?_
    refine vx_if_ne (tgt := 12) dX8_breaks_7 (by decide) (fun c_7 => ?_) (fun c_7 => ?_)
    · refine vx_aload_n dX8_breaks_12 rfl ?_
      refine vx_getR (ci := 8) (T := TX8) (n := 8) (j := 7) (a := 0) (r := 53) dX8_breaks_13 rfl lay_X8 (by decide) wd_350 (by decide) ly_0 rfl ?_
      refine vx_iload_n dX8_breaks_16 rfl ?_
      refine vx_putI (ci := 2) (T := TX2) (n := 6) (j := 3) (a := 53) (ty := .int) (μ2 := (va_up μ 53 (upd (μ 53) 3 x))) dX8_breaks_17 rfl lay_X2 tyX2_ok nmX2 (by decide) wd_325 rfl rfl rfl rfl (by decide) ly_53 rfl rfl ?_
      refine vx_iconst (v := 1) dX8_breaks_20 (by decide) ?_
      exact vx_ret (ty := .boolean) dX8_breaks_21 rfl rfl (Nat.le_refl 0) (Nat.le_refl 0) (vx_pst hP (by rw [sp_in1 c_7]) (by rw [if_neg c_7]))
    · refine vx_iconst (v := 0) dX8_breaks_10 (by decide) ?_
      exact vx_ret (ty := .boolean) dX8_breaks_11 rfl rfl (Nat.le_refl 0) (Nat.le_refl 0) (vx_pst hP (by rw [c_7]) (by rw [if_pos c_7]))
  exact vx_J.M pn_X8_breaks (Nat.le_of_ble_eq_true rfl) (key _ _ ⟨rfl, rfl, rfl, rfl, rfl⟩)
def sp_how (μ : vx_mem) (pl : Nat) : Int32 := if μ 53 4 = 0 then 0 else if ¬ μ 53 2 ≤ 0 then 1 else if μ 12 pl ≤ μ 53 0 then 3 else 2
set_option maxRecDepth 20000 in
set_option maxHeartbeats 2000000 in
theorem c_X8_howItIs (d : Nat) (hd : 2 ≤ d) (ad : Nat → Nat) (μ : vx_mem) (pl : Nat) (hp : μ 53 1 = nI pl) (hp8 : pl < 8) : vx_Mf yX8_howItIs cX8_howItIs 1 (some (.int)) d ad 82 vx_lay μ [vx_r 0] (some (.inl (sp_how μ pl))) μ := by
  have key : ∀ (Post : vx_P) (ini : Bool), Post (some (.inl (sp_how μ pl))) ad 82 vx_lay μ → vx_J RX8 cX8_howItIs 1 (some (.int)) ini d 0 0 Post ad 0 0 82 vx_lay μ 0 [(0, vx_r 0)] [] := by
    intro Post ini hP
    refine vx_aload_n dX8_howItIs_0 rfl ?_
    refine vx_getR (ci := 8) (T := TX8) (n := 8) (j := 7) (a := 0) (r := 53) dX8_howItIs_1 rfl lay_X8 (by decide) wd_350 (by decide) ly_0 rfl ?_
    refine vx_getI (ci := 2) (T := TX2) (n := 6) (j := 4) (a := 53) (v := (μ 53 4)) dX8_howItIs_4 rfl lay_X2 (by decide) wd_327 (by decide) ly_53 rfl rfl ?_
    refine vx_if_ne (tgt := 12) dX8_howItIs_7 (by decide) (fun c_7 => ?_) (fun c_7 => ?_)
    · refine vx_aload_n dX8_howItIs_12 rfl ?_
      refine vx_getR (ci := 8) (T := TX8) (n := 8) (j := 7) (a := 0) (r := 53) dX8_howItIs_13 rfl lay_X8 (by decide) wd_350 (by decide) ly_0 rfl ?_
      refine vx_getI (ci := 2) (T := TX2) (n := 6) (j := 2) (a := 53) (v := (μ 53 2)) dX8_howItIs_16 rfl lay_X2 (by decide) wd_323 (by decide) ly_53 rfl rfl ?_
      refine vx_if_le (tgt := 24) dX8_howItIs_19 (by decide) (fun c_19 => ?_) (fun c_19 => ?_)
      · refine vx_aload_n dX8_howItIs_24 rfl ?_
        refine vx_callV (b := 0) (vs := []) (st := []) (r0 := (some (.inl (sp_ahead μ pl)))) (μ0 := μ) dX8_howItIs_25 (c_X8_isAheadOfFrom (d - 1) (by omega) ad μ pl hp hp8) wd_665 wd_668 wd_45 hy_X8_isAheadOfFrom wd_667 wd_15 (by decide) ly_0 rfl rfl (by omega) (Nat.le_of_ble_eq_true rfl) (Nat.le_of_ble_eq_true rfl) (Nat.le_refl 0) (Nat.le_refl 0) ?_
        refine vx_eq (μ2 := μ) (ls2 := [(0, vx_r 0)]) (st2 := [.inl (sp_ahead μ pl)]) rfl rfl rfl ?_
        refine vx_if_eq (tgt := 35) dX8_howItIs_28 (by decide) (fun c_28 => ?_) (fun c_28 => ?_)
        · refine vx_iconst (v := 3) dX8_howItIs_35 (by decide) ?_
          exact vx_ret (ty := .int) dX8_howItIs_36 rfl rfl (Nat.le_refl 0) (Nat.le_refl 0) (vx_pst hP (by unfold sp_how; rw [if_neg c_7, if_neg (fun h => h c_19), if_pos (sp_ahead0.mp c_28)]) rfl)
        · refine vx_iconst (v := 2) dX8_howItIs_31 (by decide) ?_
          refine vx_goto (tgt := 36) dX8_howItIs_32 (by decide) ?_
          exact vx_ret (ty := .int) dX8_howItIs_36 rfl rfl (Nat.le_refl 0) (Nat.le_refl 0) (vx_pst hP (by unfold sp_how; rw [if_neg c_7, if_neg (fun h => h c_19), if_neg (fun h => c_28 (sp_ahead0.mpr h))]) rfl)
      · refine vx_iconst (v := 1) dX8_howItIs_22 (by decide) ?_
        exact vx_ret (ty := .int) dX8_howItIs_23 rfl rfl (Nat.le_refl 0) (Nat.le_refl 0) (vx_pst hP (by unfold sp_how; rw [if_neg c_7, if_pos c_19]) rfl)
    · refine vx_iconst (v := 0) dX8_howItIs_10 (by decide) ?_
      exact vx_ret (ty := .int) dX8_howItIs_11 rfl rfl (Nat.le_refl 0) (Nat.le_refl 0) (vx_pst hP (by unfold sp_how; rw [if_pos c_7]) rfl)
  exact vx_J.M pn_X8_howItIs (Nat.le_of_ble_eq_true rfl) (key _ _ ⟨rfl, rfl, rfl, rfl, rfl⟩)
end
