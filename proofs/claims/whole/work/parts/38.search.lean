section
theorem sp_nb0 : vp_nar .boolean 0 = 0 := by decide
theorem sp_nb1 : vp_nar .boolean 1 = 1 := by decide
set_option maxRecDepth 20000 in
set_option maxHeartbeats 2000000 in
theorem c_X6_setWaits (d : Nat) (ad : Nat → Nat) (N : Nat) (Λ : vx_L) (μ : vx_mem) (h39 : 39 < N) (k39 : Λ 39 = (.inl (6, [none, some (some 40), some (some 41), some (some 42), some (some 43), some (some 44), none, some (some 45), some (some 46), none, none, none]))) (h43 : 43 < N) (k43 : Λ 43 = (.inr (1, 8, none))) (k : Nat) (hk : k < 8) (x : Int32) (hx : vp_nar .boolean x = x) : vx_Mf yX6_setWaits cX6_setWaits 3 none d ad N Λ μ [vx_r 39, .inl (nI k), .inl x] none (va_up μ 43 (upd (μ 43) k x)) := by
  have key : ∀ (Post : vx_P) (ini : Bool), Post none ad N Λ (va_up μ 43 (upd (μ 43) k x)) → vx_J RX6 cX6_setWaits 3 none ini d 0 0 Post ad 0 0 N Λ μ 0 [(0, vx_r 39), (1, .inl (nI k)), (2, .inl x)] [] := by
    intro Post ini hP
    refine vx_iload_n dX6_setWaits_0 rfl ?_
    refine vx_if_lt (tgt := 20) dX6_setWaits_1 (by decide) (fun h => absurd h (nI_pos (by omega))) (fun _ => ?_)
    refine vx_iload_n dX6_setWaits_4 rfl ?_
    refine vx_aload_n dX6_setWaits_5 rfl ?_
    refine vx_getR (ci := 6) (T := TX6) (n := 12) (j := 4) (a := 39) (r := 43) dX6_setWaits_6 rfl lay_X6 (by decide) wd_236 h39 k39 rfl ?_
    refine vx_alen (a := 43) (t := 1) (n := 8) (v := 8) dX6_setWaits_9 h43 k43 (by decide) rfl ?_
    refine vx_icmp_ge (tgt := 20) dX6_setWaits_10 (by decide) (fun h => absurd h (by show ¬ (nI (8) ≤ nI (k)); rw [nI_leI (by omega) (by omega)]; omega)) (fun _ => ?_)
    refine vx_aload_n dX6_setWaits_13 rfl ?_
    refine vx_getR (ci := 6) (T := TX6) (n := 12) (j := 4) (a := 39) (r := 43) dX6_setWaits_14 rfl lay_X6 (by decide) wd_236 h39 k39 rfl ?_
    refine vx_iload_n dX6_setWaits_17 rfl ?_
    refine vx_iload_n dX6_setWaits_18 rfl ?_
    refine vx_zast (a := 43) (n := 8) (μ2 := (va_up μ 43 (upd (μ 43) k x))) dX6_setWaits_19 h43 k43 (vp_in_nI (by omega) (by omega)) (by rw [nI_clamp (by omega), hx]; try exact rfl) ?_
    exact vx_vret dX6_setWaits_20 rfl (Nat.le_refl 0) (Nat.le_refl 0) (vx_pst hP rfl rfl)
  exact vx_J.M pn_X6_setWaits (Nat.le_of_ble_eq_true rfl) (key _ _ ⟨rfl, rfl, rfl, rfl, rfl⟩)
def sp_w0 (f : Nat → Int32) : Nat → Int32 := upd (upd (upd (upd (upd (upd (upd (upd f 0 0) 1 0) 2 0) 3 0) 4 0) 5 0) 6 0) 7 0
def sp_s0 (f : Nat → Int32) (late : Int32) : Nat → Int32 := upd (upd (upd (upd (upd f 0 late) 9 0) 6 0) 10 2147483647) 11 2147483647
set_option maxRecDepth 20000 in
set_option maxHeartbeats 2000000 in
theorem c_X6_startAnew (d : Nat) (hd : 1 ≤ d) (ad : Nat → Nat) (N : Nat) (Λ : vx_L) (μ : vx_mem) (h39 : 39 < N) (k39 : Λ 39 = (.inl (6, [none, some (some 40), some (some 41), some (some 42), some (some 43), some (some 44), none, some (some 45), some (some 46), none, none, none]))) (h43 : 43 < N) (k43 : Λ 43 = (.inr (1, 8, none))) (late : Int32) : vx_Mf yX6_startAnew cX6_startAnew 3 none d ad N Λ μ [vx_r 39, .inl late] none (va_up (va_up μ 39 (sp_s0 (μ 39) late)) 43 (sp_w0 (μ 43))) := by
  have key : ∀ (Post : vx_P) (ini : Bool), Post none ad N Λ (va_up (va_up μ 39 (sp_s0 (μ 39) late)) 43 (sp_w0 (μ 43))) → vx_J RX6 cX6_startAnew 3 none ini d 0 0 Post ad 0 0 N Λ μ 0 [(0, vx_r 39), (1, .inl late)] [] := by
    intro Post ini hP
    refine vx_aload_n dX6_startAnew_0 rfl ?_
    refine vx_iload_n dX6_startAnew_1 rfl ?_
    refine vx_putI (ci := 6) (T := TX6) (n := 12) (j := 0) (a := 39) (ty := .int) (μ2 := (va_up μ 39 (upd (μ 39) 0 late))) dX6_startAnew_2 rfl lay_X6 tyX6_ok nmX6 (by decide) wd_232 rfl rfl rfl rfl h39 k39 rfl rfl ?_
    refine vx_aload_n dX6_startAnew_5 rfl ?_
    refine vx_iconst (v := 0) dX6_startAnew_6 (by decide) ?_
    refine vx_putI (ci := 6) (T := TX6) (n := 12) (j := 9) (a := 39) (ty := .int) (μ2 := (va_up μ 39 (upd (upd (μ 39) 0 late) 9 0))) dX6_startAnew_7 rfl lay_X6 tyX6_ok nmX6 (by decide) wd_243 rfl rfl rfl rfl h39 k39 rfl vx_m1 ?_
    refine vx_aload_n dX6_startAnew_10 rfl ?_
    refine vx_iconst (v := 0) dX6_startAnew_11 (by decide) ?_
    refine vx_putI (ci := 6) (T := TX6) (n := 12) (j := 6) (a := 39) (ty := .int) (μ2 := (va_up μ 39 (upd (upd (upd (μ 39) 0 late) 9 0) 6 0))) dX6_startAnew_12 rfl lay_X6 tyX6_ok nmX6 (by decide) wd_238 rfl rfl rfl rfl h39 k39 rfl vx_m1 ?_
    refine vx_aload_n dX6_startAnew_15 rfl ?_
    refine vx_ldc (v := 2147483647) dX6_startAnew_16 wd_227 ?_
    refine vx_putI (ci := 6) (T := TX6) (n := 12) (j := 10) (a := 39) (ty := .int) (μ2 := (va_up μ 39 (upd (upd (upd (upd (μ 39) 0 late) 9 0) 6 0) 10 2147483647))) dX6_startAnew_18 rfl lay_X6 tyX6_ok nmX6 (by decide) wd_244 rfl rfl rfl rfl h39 k39 rfl vx_m1 ?_
    refine vx_aload_n dX6_startAnew_21 rfl ?_
    refine vx_ldc (v := 2147483647) dX6_startAnew_22 wd_227 ?_
    refine vx_putI (ci := 6) (T := TX6) (n := 12) (j := 11) (a := 39) (ty := .int) (μ2 := (va_up μ 39 (upd (upd (upd (upd (upd (μ 39) 0 late) 9 0) 6 0) 10 2147483647) 11 2147483647))) dX6_startAnew_24 rfl lay_X6 tyX6_ok nmX6 (by decide) wd_246 rfl rfl rfl rfl h39 k39 rfl vx_m1 ?_
    refine vx_iconst (v := 0) dX6_startAnew_27 (by decide) ?_
    refine vx_istore_n (ls2 := [(2, .inl 0), (0, vx_r 39), (1, .inl late)]) dX6_startAnew_28 (by decide) rfl ?_
    refine vx_iload_n dX6_startAnew_29 rfl ?_
    refine vx_bipush (v := 8) dX6_startAnew_30 (by decide) ?_
    refine vx_icmp_ge (tgt := 47) dX6_startAnew_32 (by decide) (fun h => absurd h (by decide)) (fun _ => ?_)
    refine vx_aload_n dX6_startAnew_35 rfl ?_
    refine vx_iload_n dX6_startAnew_36 rfl ?_
    refine vx_iconst (v := 0) dX6_startAnew_37 (by decide) ?_
    refine vx_callV (b := 39) (vs := [.inl 0, .inl 0]) (st := []) (r0 := none) (μ0 := (va_up (va_up μ 39 (upd (upd (upd (upd (upd (μ 39) 0 late) 9 0) 6 0) 10 2147483647) 11 2147483647)) 43 (upd (μ 43) 0 0))) dX6_startAnew_38 (c_X6_setWaits (d - 1) ad N Λ (va_up μ 39 (upd (upd (upd (upd (upd (μ 39) 0 late) 9 0) 6 0) 10 2147483647) 11 2147483647)) h39 k39 h43 k43 0 (by omega) 0 (by decide)) wd_228 wd_231 wd_51 hy_X6_setWaits wd_230 wd_2 h39 k39 rfl rfl (by omega) (Nat.le_of_ble_eq_true rfl) (Nat.le_of_ble_eq_true rfl) (Nat.le_refl 0) (Nat.le_refl 0) ?_
    refine vx_eq (μ2 := (va_up (va_up μ 39 (upd (upd (upd (upd (upd (μ 39) 0 late) 9 0) 6 0) 10 2147483647) 11 2147483647)) 43 (upd (μ 43) 0 0))) (ls2 := [(2, .inl 0), (0, vx_r 39), (1, .inl late)]) (st2 := []) rfl rfl rfl ?_
    refine vx_iinc (v := 1) (ls2 := [(2, .inl 1), (0, vx_r 39), (1, .inl late)]) dX6_startAnew_41 rfl (by decide) (by decide) rfl ?_
    refine vx_goto (tgt := 29) dX6_startAnew_44 (by decide) ?_
    refine vx_iload_n dX6_startAnew_29 rfl ?_
    refine vx_bipush (v := 8) dX6_startAnew_30 (by decide) ?_
    refine vx_icmp_ge (tgt := 47) dX6_startAnew_32 (by decide) (fun h => absurd h (by decide)) (fun _ => ?_)
    refine vx_aload_n dX6_startAnew_35 rfl ?_
    refine vx_iload_n dX6_startAnew_36 rfl ?_
    refine vx_iconst (v := 0) dX6_startAnew_37 (by decide) ?_
    refine vx_callV (b := 39) (vs := [.inl 1, .inl 0]) (st := []) (r0 := none) (μ0 := (va_up (va_up μ 39 (upd (upd (upd (upd (upd (μ 39) 0 late) 9 0) 6 0) 10 2147483647) 11 2147483647)) 43 (upd (upd (μ 43) 0 0) 1 0))) dX6_startAnew_38 ((c_X6_setWaits (d - 1) ad N Λ (va_up (va_up μ 39 (upd (upd (upd (upd (upd (μ 39) 0 late) 9 0) 6 0) 10 2147483647) 11 2147483647)) 43 (upd (μ 43) 0 0)) h39 k39 h43 k43 1 (by omega) 0 (by decide)).to rfl vx_m1) wd_228 wd_231 wd_51 hy_X6_setWaits wd_230 wd_2 h39 k39 rfl rfl (by omega) (Nat.le_of_ble_eq_true rfl) (Nat.le_of_ble_eq_true rfl) (Nat.le_refl 0) (Nat.le_refl 0) ?_
    refine vx_eq (μ2 := (va_up (va_up μ 39 (upd (upd (upd (upd (upd (μ 39) 0 late) 9 0) 6 0) 10 2147483647) 11 2147483647)) 43 (upd (upd (μ 43) 0 0) 1 0))) (ls2 := [(2, .inl 1), (0, vx_r 39), (1, .inl late)]) (st2 := []) rfl rfl rfl ?_
    refine vx_iinc (v := 2) (ls2 := [(2, .inl 2), (0, vx_r 39), (1, .inl late)]) dX6_startAnew_41 rfl (by decide) (by decide) rfl ?_
    refine vx_goto (tgt := 29) dX6_startAnew_44 (by decide) ?_
    refine vx_iload_n dX6_startAnew_29 rfl ?_
    refine vx_bipush (v := 8) dX6_startAnew_30 (by decide) ?_
    refine vx_icmp_ge (tgt := 47) dX6_startAnew_32 (by decide) (fun h => absurd h (by decide)) (fun _ => ?_)
    refine vx_aload_n dX6_startAnew_35 rfl ?_
    refine vx_iload_n dX6_startAnew_36 rfl ?_
    refine vx_iconst (v := 0) dX6_startAnew_37 (by decide) ?_
    refine vx_callV (b := 39) (vs := [.inl 2, .inl 0]) (st := []) (r0 := none) (μ0 := (va_up (va_up μ 39 (upd (upd (upd (upd (upd (μ 39) 0 late) 9 0) 6 0) 10 2147483647) 11 2147483647)) 43 (upd (upd (upd (μ 43) 0 0) 1 0) 2 0))) dX6_startAnew_38 ((c_X6_setWaits (d - 1) ad N Λ (va_up (va_up μ 39 (upd (upd (upd (upd (upd (μ 39) 0 late) 9 0) 6 0) 10 2147483647) 11 2147483647)) 43 (upd (upd (μ 43) 0 0) 1 0)) h39 k39 h43 k43 2 (by omega) 0 (by decide)).to rfl vx_m1) wd_228 wd_231 wd_51 hy_X6_setWaits wd_230 wd_2 h39 k39 rfl rfl (by omega) (Nat.le_of_ble_eq_true rfl) (Nat.le_of_ble_eq_true rfl) (Nat.le_refl 0) (Nat.le_refl 0) ?_
    refine vx_eq (μ2 := (va_up (va_up μ 39 (upd (upd (upd (upd (upd (μ 39) 0 late) 9 0) 6 0) 10 2147483647) 11 2147483647)) 43 (upd (upd (upd (μ 43) 0 0) 1 0) 2 0))) (ls2 := [(2, .inl 2), (0, vx_r 39), (1, .inl late)]) (st2 := []) rfl rfl rfl ?_
    refine vx_iinc (v := 3) (ls2 := [(2, .inl 3), (0, vx_r 39), (1, .inl late)]) dX6_startAnew_41 rfl (by decide) (by decide) rfl ?_
    refine vx_goto (tgt := 29) dX6_startAnew_44 (by decide) ?_
    refine vx_iload_n dX6_startAnew_29 rfl ?_
    refine vx_bipush (v := 8) dX6_startAnew_30 (by decide) ?_
    refine vx_icmp_ge (tgt := 47) dX6_startAnew_32 (by decide) (fun h => absurd h (by decide)) (fun _ => ?_)
    refine vx_aload_n dX6_startAnew_35 rfl ?_
    refine vx_iload_n dX6_startAnew_36 rfl ?_
    refine vx_iconst (v := 0) dX6_startAnew_37 (by decide) ?_
    refine vx_callV (b := 39) (vs := [.inl 3, .inl 0]) (st := []) (r0 := none) (μ0 := (va_up (va_up μ 39 (upd (upd (upd (upd (upd (μ 39) 0 late) 9 0) 6 0) 10 2147483647) 11 2147483647)) 43 (upd (upd (upd (upd (μ 43) 0 0) 1 0) 2 0) 3 0))) dX6_startAnew_38 ((c_X6_setWaits (d - 1) ad N Λ (va_up (va_up μ 39 (upd (upd (upd (upd (upd (μ 39) 0 late) 9 0) 6 0) 10 2147483647) 11 2147483647)) 43 (upd (upd (upd (μ 43) 0 0) 1 0) 2 0)) h39 k39 h43 k43 3 (by omega) 0 (by decide)).to rfl vx_m1) wd_228 wd_231 wd_51 hy_X6_setWaits wd_230 wd_2 h39 k39 rfl rfl (by omega) (Nat.le_of_ble_eq_true rfl) (Nat.le_of_ble_eq_true rfl) (Nat.le_refl 0) (Nat.le_refl 0) ?_
    refine vx_eq (μ2 := (va_up (va_up μ 39 (upd (upd (upd (upd (upd (μ 39) 0 late) 9 0) 6 0) 10 2147483647) 11 2147483647)) 43 (upd (upd (upd (upd (μ 43) 0 0) 1 0) 2 0) 3 0))) (ls2 := [(2, .inl 3), (0, vx_r 39), (1, .inl late)]) (st2 := []) rfl rfl rfl ?_
    refine vx_iinc (v := 4) (ls2 := [(2, .inl 4), (0, vx_r 39), (1, .inl late)]) dX6_startAnew_41 rfl (by decide) (by decide) rfl ?_
    refine vx_goto (tgt := 29) dX6_startAnew_44 (by decide) ?_
    refine vx_iload_n dX6_startAnew_29 rfl ?_
    refine vx_bipush (v := 8) dX6_startAnew_30 (by decide) ?_
    refine vx_icmp_ge (tgt := 47) dX6_startAnew_32 (by decide) (fun h => absurd h (by decide)) (fun _ => ?_)
    refine vx_aload_n dX6_startAnew_35 rfl ?_
    refine vx_iload_n dX6_startAnew_36 rfl ?_
    refine vx_iconst (v := 0) dX6_startAnew_37 (by decide) ?_
    refine vx_callV (b := 39) (vs := [.inl 4, .inl 0]) (st := []) (r0 := none) (μ0 := (va_up (va_up μ 39 (upd (upd (upd (upd (upd (μ 39) 0 late) 9 0) 6 0) 10 2147483647) 11 2147483647)) 43 (upd (upd (upd (upd (upd (μ 43) 0 0) 1 0) 2 0) 3 0) 4 0))) dX6_startAnew_38 ((c_X6_setWaits (d - 1) ad N Λ (va_up (va_up μ 39 (upd (upd (upd (upd (upd (μ 39) 0 late) 9 0) 6 0) 10 2147483647) 11 2147483647)) 43 (upd (upd (upd (upd (μ 43) 0 0) 1 0) 2 0) 3 0)) h39 k39 h43 k43 4 (by omega) 0 (by decide)).to rfl vx_m1) wd_228 wd_231 wd_51 hy_X6_setWaits wd_230 wd_2 h39 k39 rfl rfl (by omega) (Nat.le_of_ble_eq_true rfl) (Nat.le_of_ble_eq_true rfl) (Nat.le_refl 0) (Nat.le_refl 0) ?_
    refine vx_eq (μ2 := (va_up (va_up μ 39 (upd (upd (upd (upd (upd (μ 39) 0 late) 9 0) 6 0) 10 2147483647) 11 2147483647)) 43 (upd (upd (upd (upd (upd (μ 43) 0 0) 1 0) 2 0) 3 0) 4 0))) (ls2 := [(2, .inl 4), (0, vx_r 39), (1, .inl late)]) (st2 := []) rfl rfl rfl ?_
    refine vx_iinc (v := 5) (ls2 := [(2, .inl 5), (0, vx_r 39), (1, .inl late)]) dX6_startAnew_41 rfl (by decide) (by decide) rfl ?_
    refine vx_goto (tgt := 29) dX6_startAnew_44 (by decide) ?_
    refine vx_iload_n dX6_startAnew_29 rfl ?_
    refine vx_bipush (v := 8) dX6_startAnew_30 (by decide) ?_
    refine vx_icmp_ge (tgt := 47) dX6_startAnew_32 (by decide) (fun h => absurd h (by decide)) (fun _ => ?_)
    refine vx_aload_n dX6_startAnew_35 rfl ?_
    refine vx_iload_n dX6_startAnew_36 rfl ?_
    refine vx_iconst (v := 0) dX6_startAnew_37 (by decide) ?_
    refine vx_callV (b := 39) (vs := [.inl 5, .inl 0]) (st := []) (r0 := none) (μ0 := (va_up (va_up μ 39 (upd (upd (upd (upd (upd (μ 39) 0 late) 9 0) 6 0) 10 2147483647) 11 2147483647)) 43 (upd (upd (upd (upd (upd (upd (μ 43) 0 0) 1 0) 2 0) 3 0) 4 0) 5 0))) dX6_startAnew_38 ((c_X6_setWaits (d - 1) ad N Λ (va_up (va_up μ 39 (upd (upd (upd (upd (upd (μ 39) 0 late) 9 0) 6 0) 10 2147483647) 11 2147483647)) 43 (upd (upd (upd (upd (upd (μ 43) 0 0) 1 0) 2 0) 3 0) 4 0)) h39 k39 h43 k43 5 (by omega) 0 (by decide)).to rfl vx_m1) wd_228 wd_231 wd_51 hy_X6_setWaits wd_230 wd_2 h39 k39 rfl rfl (by omega) (Nat.le_of_ble_eq_true rfl) (Nat.le_of_ble_eq_true rfl) (Nat.le_refl 0) (Nat.le_refl 0) ?_
    refine vx_eq (μ2 := (va_up (va_up μ 39 (upd (upd (upd (upd (upd (μ 39) 0 late) 9 0) 6 0) 10 2147483647) 11 2147483647)) 43 (upd (upd (upd (upd (upd (upd (μ 43) 0 0) 1 0) 2 0) 3 0) 4 0) 5 0))) (ls2 := [(2, .inl 5), (0, vx_r 39), (1, .inl late)]) (st2 := []) rfl rfl rfl ?_
    refine vx_iinc (v := 6) (ls2 := [(2, .inl 6), (0, vx_r 39), (1, .inl late)]) dX6_startAnew_41 rfl (by decide) (by decide) rfl ?_
    refine vx_goto (tgt := 29) dX6_startAnew_44 (by decide) ?_
    refine vx_iload_n dX6_startAnew_29 rfl ?_
    refine vx_bipush (v := 8) dX6_startAnew_30 (by decide) ?_
    refine vx_icmp_ge (tgt := 47) dX6_startAnew_32 (by decide) (fun h => absurd h (by decide)) (fun _ => ?_)
    refine vx_aload_n dX6_startAnew_35 rfl ?_
    refine vx_iload_n dX6_startAnew_36 rfl ?_
    refine vx_iconst (v := 0) dX6_startAnew_37 (by decide) ?_
    refine vx_callV (b := 39) (vs := [.inl 6, .inl 0]) (st := []) (r0 := none) (μ0 := (va_up (va_up μ 39 (upd (upd (upd (upd (upd (μ 39) 0 late) 9 0) 6 0) 10 2147483647) 11 2147483647)) 43 (upd (upd (upd (upd (upd (upd (upd (μ 43) 0 0) 1 0) 2 0) 3 0) 4 0) 5 0) 6 0))) dX6_startAnew_38 ((c_X6_setWaits (d - 1) ad N Λ (va_up (va_up μ 39 (upd (upd (upd (upd (upd (μ 39) 0 late) 9 0) 6 0) 10 2147483647) 11 2147483647)) 43 (upd (upd (upd (upd (upd (upd (μ 43) 0 0) 1 0) 2 0) 3 0) 4 0) 5 0)) h39 k39 h43 k43 6 (by omega) 0 (by decide)).to rfl vx_m1) wd_228 wd_231 wd_51 hy_X6_setWaits wd_230 wd_2 h39 k39 rfl rfl (by omega) (Nat.le_of_ble_eq_true rfl) (Nat.le_of_ble_eq_true rfl) (Nat.le_refl 0) (Nat.le_refl 0) ?_
    refine vx_eq (μ2 := (va_up (va_up μ 39 (upd (upd (upd (upd (upd (μ 39) 0 late) 9 0) 6 0) 10 2147483647) 11 2147483647)) 43 (upd (upd (upd (upd (upd (upd (upd (μ 43) 0 0) 1 0) 2 0) 3 0) 4 0) 5 0) 6 0))) (ls2 := [(2, .inl 6), (0, vx_r 39), (1, .inl late)]) (st2 := []) rfl rfl rfl ?_
    refine vx_iinc (v := 7) (ls2 := [(2, .inl 7), (0, vx_r 39), (1, .inl late)]) dX6_startAnew_41 rfl (by decide) (by decide) rfl ?_
    refine vx_goto (tgt := 29) dX6_startAnew_44 (by decide) ?_
    refine vx_iload_n dX6_startAnew_29 rfl ?_
    refine vx_bipush (v := 8) dX6_startAnew_30 (by decide) ?_
    refine vx_icmp_ge (tgt := 47) dX6_startAnew_32 (by decide) (fun h => absurd h (by decide)) (fun _ => ?_)
    refine vx_aload_n dX6_startAnew_35 rfl ?_
    refine vx_iload_n dX6_startAnew_36 rfl ?_
    refine vx_iconst (v := 0) dX6_startAnew_37 (by decide) ?_
    refine vx_callV (b := 39) (vs := [.inl 7, .inl 0]) (st := []) (r0 := none) (μ0 := (va_up (va_up μ 39 (upd (upd (upd (upd (upd (μ 39) 0 late) 9 0) 6 0) 10 2147483647) 11 2147483647)) 43 (upd (upd (upd (upd (upd (upd (upd (upd (μ 43) 0 0) 1 0) 2 0) 3 0) 4 0) 5 0) 6 0) 7 0))) dX6_startAnew_38 ((c_X6_setWaits (d - 1) ad N Λ (va_up (va_up μ 39 (upd (upd (upd (upd (upd (μ 39) 0 late) 9 0) 6 0) 10 2147483647) 11 2147483647)) 43 (upd (upd (upd (upd (upd (upd (upd (μ 43) 0 0) 1 0) 2 0) 3 0) 4 0) 5 0) 6 0)) h39 k39 h43 k43 7 (by omega) 0 (by decide)).to rfl vx_m1) wd_228 wd_231 wd_51 hy_X6_setWaits wd_230 wd_2 h39 k39 rfl rfl (by omega) (Nat.le_of_ble_eq_true rfl) (Nat.le_of_ble_eq_true rfl) (Nat.le_refl 0) (Nat.le_refl 0) ?_
    refine vx_eq (μ2 := (va_up (va_up μ 39 (upd (upd (upd (upd (upd (μ 39) 0 late) 9 0) 6 0) 10 2147483647) 11 2147483647)) 43 (upd (upd (upd (upd (upd (upd (upd (upd (μ 43) 0 0) 1 0) 2 0) 3 0) 4 0) 5 0) 6 0) 7 0))) (ls2 := [(2, .inl 7), (0, vx_r 39), (1, .inl late)]) (st2 := []) rfl rfl rfl ?_
    refine vx_iinc (v := 8) (ls2 := [(2, .inl 8), (0, vx_r 39), (1, .inl late)]) dX6_startAnew_41 rfl (by decide) (by decide) rfl ?_
    refine vx_goto (tgt := 29) dX6_startAnew_44 (by decide) ?_
    refine vx_iload_n dX6_startAnew_29 rfl ?_
    refine vx_bipush (v := 8) dX6_startAnew_30 (by decide) ?_
    refine vx_icmp_ge (tgt := 47) dX6_startAnew_32 (by decide) (fun _ => ?_) (fun h => absurd h (by decide))
    exact vx_vret dX6_startAnew_47 rfl (Nat.le_refl 0) (Nat.le_refl 0) (vx_pst hP rfl rfl)
  exact vx_J.M pn_X6_startAnew (Nat.le_of_ble_eq_true rfl) (key _ _ ⟨rfl, rfl, rfl, rfl, rfl⟩)
set_option maxRecDepth 20000 in
set_option maxHeartbeats 2000000 in
theorem c_X6_isWaiting (d : Nat) (ad : Nat → Nat) (μ : vx_mem) (k : Nat) (hk : k < 8) : vx_Mf yX6_isWaiting cX6_isWaiting 2 (some (.boolean)) d ad 82 vx_lay μ [vx_r 39, .inl (nI k)] (some (.inl (if μ 43 k = 0 then 0 else 1))) μ := by
  have key : ∀ (Post : vx_P) (ini : Bool), Post (some (.inl (if μ 43 k = 0 then 0 else 1))) ad 82 vx_lay μ → vx_J RX6 cX6_isWaiting 2 (some (.boolean)) ini d 0 0 Post ad 0 0 82 vx_lay μ 0 [(0, vx_r 39), (1, .inl (nI k))] [] := by
    intro Post ini hP
    refine vx_iload_n dX6_isWaiting_0 rfl ?_
    refine vx_if_lt (tgt := 26) dX6_isWaiting_1 (by decide) (fun h => absurd h (nI_pos (by omega))) (fun _ => ?_)
    refine vx_iload_n dX6_isWaiting_4 rfl ?_
    refine vx_aload_n dX6_isWaiting_5 rfl ?_
    refine vx_getR (ci := 6) (T := TX6) (n := 12) (j := 4) (a := 39) (r := 43) dX6_isWaiting_6 rfl lay_X6 (by decide) wd_236 (by decide) ly_39 rfl ?_
    refine vx_alen (a := 43) (t := 1) (n := 8) (v := 8) dX6_isWaiting_9 (by decide) ly_43 (by decide) rfl ?_
    refine vx_icmp_ge (tgt := 26) dX6_isWaiting_10 (by decide) (fun h => absurd h (by show ¬ (nI (8) ≤ nI (k)); rw [nI_leI (by omega) (by omega)]; omega)) (fun _ => ?_)
    refine vx_aload_n dX6_isWaiting_13 rfl ?_
    refine vx_getR (ci := 6) (T := TX6) (n := 12) (j := 4) (a := 39) (r := 43) dX6_isWaiting_14 rfl lay_X6 (by decide) wd_236 (by decide) ly_39 rfl ?_
    refine vx_iload_n dX6_isWaiting_17 rfl ?_
    refine vx_zald (a := 43) (n := 8) (v := (μ 43 k)) dX6_isWaiting_18 (by decide) ly_43 (vp_in_nI (by omega) (by omega)) (by rw [nI_clamp (by omega)]) ?_
    refine vx_if_eq (tgt := 26) dX6_isWaiting_19 (by decide) (fun c_19 => ?_) (fun c_19 => ?_)
    · refine vx_iconst (v := 0) dX6_isWaiting_26 (by decide) ?_
      exact vx_ret (ty := .boolean) dX6_isWaiting_27 rfl rfl (Nat.le_refl 0) (Nat.le_refl 0) (vx_pst hP (by simp [*]) rfl)
    · refine vx_iconst (v := 1) dX6_isWaiting_22 (by decide) ?_
      refine vx_goto (tgt := 27) dX6_isWaiting_23 (by decide) ?_
      exact vx_ret (ty := .boolean) dX6_isWaiting_27 rfl rfl (Nat.le_refl 0) (Nat.le_refl 0) (vx_pst hP (by simp [*]) rfl)
  exact vx_J.M pn_X6_isWaiting (Nat.le_of_ble_eq_true rfl) (key _ _ ⟨rfl, rfl, rfl, rfl, rfl⟩)
set_option maxRecDepth 20000 in
set_option maxHeartbeats 2000000 in
theorem c_X6_add (d : Nat) (hd : 1 ≤ d) (ad : Nat → Nat) (μ : vx_mem) (k : Nat) (hk : k < 8) (c : Nat) (hc : μ 39 9 = nI c) (a b x : Int32) : vx_Mf yX6_add cX6_add 5 none d ad 82 vx_lay μ [vx_r 39, .inl (nI k), .inl a, .inl b, .inl x] none (va_up (va_up (va_up (va_up (va_up μ 39 (upd (μ 39) 9 (nI (c + 1)))) 40 (upd (μ 40) k x)) 41 (upd (μ 41) k a)) 42 (upd (μ 42) k b)) 43 (upd (μ 43) k 1)) := by
  have key : ∀ (Post : vx_P) (ini : Bool), Post none ad 82 vx_lay (va_up (va_up (va_up (va_up (va_up μ 39 (upd (μ 39) 9 (nI (c + 1)))) 40 (upd (μ 40) k x)) 41 (upd (μ 41) k a)) 42 (upd (μ 42) k b)) 43 (upd (μ 43) k 1)) → vx_J RX6 cX6_add 5 none ini d 0 0 Post ad 0 0 82 vx_lay μ 0 [(0, vx_r 39), (1, .inl (nI k)), (2, .inl a), (3, .inl b), (4, .inl x)] [] := by
    intro Post ini hP
    refine vx_aload_n dX6_add_0 rfl ?_
    refine vx_getR (ci := 6) (T := TX6) (n := 12) (j := 2) (a := 39) (r := 41) dX6_add_1 rfl lay_X6 (by decide) wd_234 (by decide) ly_39 rfl ?_
    refine vx_iload_n dX6_add_4 rfl ?_
    refine vx_iload_n dX6_add_5 rfl ?_
    refine vx_callX (vs := [vx_r 41, .inl (nI k), .inl a]) (st := []) (r0 := none) (μ0 := (va_up μ 41 (upd (μ 41) k a))) dX6_add_6 ((c_X8_put (d - 1) ad 82 vx_lay μ 41 8 (by decide) ly_41 (by decide) (nI k) a).to rfl (congrArg (fun z => va_up μ 41 z) (sp_put_nI (k := k) _ _ (by omega) (by decide)))) nst_12 wd_102 wd_45 hy_X8_put wd_101 (by omega) (Nat.le_of_ble_eq_true rfl) (Nat.le_of_ble_eq_true rfl) (Nat.le_refl 0) (Nat.le_refl 0) ?_
    refine vx_eq (μ2 := (va_up μ 41 (upd (μ 41) k a))) (ls2 := [(0, vx_r 39), (1, .inl (nI k)), (2, .inl a), (3, .inl b), (4, .inl x)]) (st2 := []) rfl rfl rfl ?_
    refine vx_aload_n dX6_add_9 rfl ?_
    refine vx_getR (ci := 6) (T := TX6) (n := 12) (j := 3) (a := 39) (r := 42) dX6_add_10 rfl lay_X6 (by decide) wd_235 (by decide) ly_39 rfl ?_
    refine vx_iload_n dX6_add_13 rfl ?_
    refine vx_iload_n dX6_add_14 rfl ?_
    refine vx_callX (vs := [vx_r 42, .inl (nI k), .inl b]) (st := []) (r0 := none) (μ0 := (va_up (va_up μ 41 (upd (μ 41) k a)) 42 (upd (μ 42) k b))) dX6_add_15 ((c_X8_put (d - 1) ad 82 vx_lay (va_up μ 41 (upd (μ 41) k a)) 42 8 (by decide) ly_42 (by decide) (nI k) b).to rfl (congrArg (fun z => va_up (va_up μ 41 (upd (μ 41) k a)) 42 z) (sp_put_nI (k := k) _ _ (by omega) (by decide)))) nst_12 wd_102 wd_45 hy_X8_put wd_101 (by omega) (Nat.le_of_ble_eq_true rfl) (Nat.le_of_ble_eq_true rfl) (Nat.le_refl 0) (Nat.le_refl 0) ?_
    refine vx_eq (μ2 := (va_up (va_up μ 41 (upd (μ 41) k a)) 42 (upd (μ 42) k b))) (ls2 := [(0, vx_r 39), (1, .inl (nI k)), (2, .inl a), (3, .inl b), (4, .inl x)]) (st2 := []) rfl rfl rfl ?_
    refine vx_aload_n dX6_add_18 rfl ?_
    refine vx_getR (ci := 6) (T := TX6) (n := 12) (j := 1) (a := 39) (r := 40) dX6_add_19 rfl lay_X6 (by decide) wd_233 (by decide) ly_39 rfl ?_
    refine vx_iload_n dX6_add_22 rfl ?_
    refine vx_iload dX6_add_23 rfl ?_
    refine vx_callX (vs := [vx_r 40, .inl (nI k), .inl x]) (st := []) (r0 := none) (μ0 := (va_up (va_up (va_up μ 40 (upd (μ 40) k x)) 41 (upd (μ 41) k a)) 42 (upd (μ 42) k b))) dX6_add_25 (((c_X8_put (d - 1) ad 82 vx_lay (va_up (va_up μ 41 (upd (μ 41) k a)) 42 (upd (μ 42) k b)) 40 8 (by decide) ly_40 (by decide) (nI k) x).to rfl (congrArg (fun z => va_up (va_up (va_up μ 41 (upd (μ 41) k a)) 42 (upd (μ 42) k b)) 40 z) (sp_put_nI (k := k) _ _ (by omega) (by decide)))).to rfl ((vx_m2 (by decide)).trans (congrArg (fun m => va_up m 42 (upd (μ 42) k b)) (vx_m2 (by decide))))) nst_12 wd_102 wd_45 hy_X8_put wd_101 (by omega) (Nat.le_of_ble_eq_true rfl) (Nat.le_of_ble_eq_true rfl) (Nat.le_refl 0) (Nat.le_refl 0) ?_
    refine vx_eq (μ2 := (va_up (va_up (va_up μ 40 (upd (μ 40) k x)) 41 (upd (μ 41) k a)) 42 (upd (μ 42) k b))) (ls2 := [(0, vx_r 39), (1, .inl (nI k)), (2, .inl a), (3, .inl b), (4, .inl x)]) (st2 := []) rfl rfl rfl ?_
    refine vx_aload_n dX6_add_28 rfl ?_
    refine vx_iload_n dX6_add_29 rfl ?_
    refine vx_iconst (v := 1) dX6_add_30 (by decide) ?_
    refine vx_callV (b := 39) (vs := [.inl (nI k), .inl 1]) (st := []) (r0 := none) (μ0 := (va_up (va_up (va_up (va_up μ 40 (upd (μ 40) k x)) 41 (upd (μ 41) k a)) 42 (upd (μ 42) k b)) 43 (upd (μ 43) k 1))) dX6_add_31 (c_X6_setWaits (d - 1) ad 82 vx_lay (va_up (va_up (va_up μ 40 (upd (μ 40) k x)) 41 (upd (μ 41) k a)) 42 (upd (μ 42) k b)) (by decide) ly_39 (by decide) ly_43 k (by omega) 1 (by decide)) wd_228 wd_231 wd_51 hy_X6_setWaits wd_230 wd_2 (by decide) ly_39 rfl rfl (by omega) (Nat.le_of_ble_eq_true rfl) (Nat.le_of_ble_eq_true rfl) (Nat.le_refl 0) (Nat.le_refl 0) ?_
    refine vx_eq (μ2 := (va_up (va_up (va_up (va_up μ 40 (upd (μ 40) k x)) 41 (upd (μ 41) k a)) 42 (upd (μ 42) k b)) 43 (upd (μ 43) k 1))) (ls2 := [(0, vx_r 39), (1, .inl (nI k)), (2, .inl a), (3, .inl b), (4, .inl x)]) (st2 := []) rfl rfl rfl ?_
    refine vx_aload_n dX6_add_34 rfl ?_
    refine vx_dup dX6_add_35 ?_
    refine vx_getI (ci := 6) (T := TX6) (n := 12) (j := 9) (a := 39) (v := (nI c)) dX6_add_36 rfl lay_X6 (by decide) wd_243 (by decide) ly_39 rfl hc ?_
    refine vx_iconst (v := 1) dX6_add_39 (by decide) ?_
    refine vx_iadd dX6_add_40 ?_
    refine vx_eq (st2 := [.inl (nI (c + 1)), vx_r 39]) rfl rfl (by rw [nI_1]) ?_
    refine vx_putI (ci := 6) (T := TX6) (n := 12) (j := 9) (a := 39) (ty := .int) (μ2 := (va_up (va_up (va_up (va_up (va_up μ 39 (upd (μ 39) 9 (nI (c + 1)))) 40 (upd (μ 40) k x)) 41 (upd (μ 41) k a)) 42 (upd (μ 42) k b)) 43 (upd (μ 43) k 1))) dX6_add_41 rfl lay_X6 tyX6_ok nmX6 (by decide) wd_243 rfl rfl rfl rfl (by decide) ly_39 rfl ((vx_m2 (by decide)).trans (congrArg (fun m => va_up m 43 (upd (μ 43) k 1)) ((vx_m2 (by decide)).trans (congrArg (fun m => va_up m 42 (upd (μ 42) k b)) ((vx_m2 (by decide)).trans (congrArg (fun m => va_up m 41 (upd (μ 41) k a)) (vx_m2 (by decide)))))))) ?_
    exact vx_vret dX6_add_44 rfl (Nat.le_refl 0) (Nat.le_refl 0) (vx_pst hP rfl rfl)
  exact vx_J.M pn_X6_add (Nat.le_of_ble_eq_true rfl) (key _ _ ⟨rfl, rfl, rfl, rfl, rfl⟩)
/-- whether k is forced now -/
abbrev sp_fc (μ : vx_mem) (k c : Nat) : Prop := ¬ μ 43 k = 0 ∧ ¬ (0 < c ∧ μ 44 0 = nI k)
set_option maxRecDepth 20000 in
set_option maxHeartbeats 2000000 in
theorem c_X6_force (d : Nat) (hd : 1 ≤ d) (ad : Nat → Nat) (μ : vx_mem) (k : Nat) (hk : k < 8) (c : Nat) (hc : μ 39 6 = nI c) (hc7 : c < 7) : vx_Mf yX6_force cX6_force 3 none d ad 82 vx_lay μ [vx_r 39, .inl (nI k)] none (if sp_fc μ k c then va_up (va_up μ 39 (upd (μ 39) 6 (nI (c + 1)))) 44 (upd (μ 44) c (nI k)) else μ) := by
  have key : ∀ (Post : vx_P) (ini : Bool), Post none ad 82 vx_lay (if sp_fc μ k c then va_up (va_up μ 39 (upd (μ 39) 6 (nI (c + 1)))) 44 (upd (μ 44) c (nI k)) else μ) → vx_J RX6 cX6_force 3 none ini d 0 0 Post ad 0 0 82 vx_lay μ 0 [(0, vx_r 39), (1, .inl (nI k))] [] := by
    intro Post ini hP
    refine vx_aload_n dX6_force_0 rfl ?_
    refine vx_getI (ci := 6) (T := TX6) (n := 12) (j := 6) (a := 39) (v := (nI c)) dX6_force_1 rfl lay_X6 (by decide) wd_238 (by decide) ly_39 rfl hc ?_
    refine vx_if_le (tgt := 23) dX6_force_4 (by decide) (fun c_4 => ?_) (fun c_4 => ?_)
    · have q4 : ¬ 0 < c := by have h9 : nI c ≤ nI 0 := c_4; rw [nI_leI (by omega) (by omega)] at h9; omega
      refine vx_iconst (v := 0) dX6_force_23 (by decide) ?_
      refine vx_istore_n (ls2 := [(2, .inl 0), (0, vx_r 39), (1, .inl (nI k))]) dX6_force_24 (by decide) rfl ?_
      refine vx_aload_n dX6_force_25 rfl ?_
      refine vx_iload_n dX6_force_26 rfl ?_
      refine vx_callV (b := 39) (vs := [.inl (nI k)]) (st := []) (r0 := (some (.inl (if (μ 43 k) = 0 then 0 else 1)))) (μ0 := μ) dX6_force_27 (c_X6_isWaiting (d - 1) ad μ k (by omega)) wd_588 wd_591 wd_51 hy_X6_isWaiting wd_590 wd_9 (by decide) ly_39 rfl rfl (by omega) (Nat.le_of_ble_eq_true rfl) (Nat.le_of_ble_eq_true rfl) (Nat.le_refl 0) (Nat.le_refl 0) ?_
      refine vx_eq (μ2 := μ) (ls2 := [(2, .inl 0), (0, vx_r 39), (1, .inl (nI k))]) (st2 := [.inl (if (μ 43 k) = 0 then 0 else 1)]) rfl rfl rfl ?_
      refine vx_if_eq (tgt := 59) dX6_force_30 (by decide) (fun c_30 => ?_) (fun c_30 => ?_)
      · exact vx_vret dX6_force_59 rfl (Nat.le_refl 0) (Nat.le_refl 0) (vx_pst hP rfl (by rw [if_neg (show ¬ sp_fc μ k c from fun h => by rw [if_neg h.1] at c_30; exact absurd c_30 (by decide))]))
      · refine vx_iload_n dX6_force_33 rfl ?_
        refine vx_if_ne (tgt := 59) dX6_force_34 (by decide) (fun h => absurd h (by decide)) (fun _ => ?_)
        refine vx_aload_n dX6_force_37 rfl ?_
        refine vx_getR (ci := 6) (T := TX6) (n := 12) (j := 5) (a := 39) (r := 44) dX6_force_38 rfl lay_X6 (by decide) wd_237 (by decide) ly_39 rfl ?_
        refine vx_aload_n dX6_force_41 rfl ?_
        refine vx_getI (ci := 6) (T := TX6) (n := 12) (j := 6) (a := 39) (v := (nI c)) dX6_force_42 rfl lay_X6 (by decide) wd_238 (by decide) ly_39 rfl hc ?_
        refine vx_iload_n dX6_force_45 rfl ?_
        refine vx_callX (vs := [vx_r 44, .inl (nI c), .inl (nI k)]) (st := []) (r0 := none) (μ0 := (va_up μ 44 (upd (μ 44) c (nI k)))) dX6_force_46 ((c_X8_put (d - 1) ad 82 vx_lay μ 44 7 (by decide) ly_44 (by decide) (nI c) (nI k)).to rfl (congrArg (fun z => va_up μ 44 z) (sp_put_nI (k := c) _ _ (by omega) (by decide)))) nst_12 wd_102 wd_45 hy_X8_put wd_101 (by omega) (Nat.le_of_ble_eq_true rfl) (Nat.le_of_ble_eq_true rfl) (Nat.le_refl 0) (Nat.le_refl 0) ?_
        refine vx_eq (μ2 := (va_up μ 44 (upd (μ 44) c (nI k)))) (ls2 := [(2, .inl 0), (0, vx_r 39), (1, .inl (nI k))]) (st2 := []) rfl rfl rfl ?_
        refine vx_aload_n dX6_force_49 rfl ?_
        refine vx_dup dX6_force_50 ?_
        refine vx_getI (ci := 6) (T := TX6) (n := 12) (j := 6) (a := 39) (v := (nI c)) dX6_force_51 rfl lay_X6 (by decide) wd_238 (by decide) ly_39 rfl hc ?_
        refine vx_iconst (v := 1) dX6_force_54 (by decide) ?_
        refine vx_iadd dX6_force_55 ?_
        refine vx_eq (st2 := [.inl (nI (c + 1)), vx_r 39]) rfl rfl (by rw [nI_1]) ?_
        refine vx_putI (ci := 6) (T := TX6) (n := 12) (j := 6) (a := 39) (ty := .int) (μ2 := (va_up (va_up μ 39 (upd (μ 39) 6 (nI (c + 1)))) 44 (upd (μ 44) c (nI k)))) dX6_force_56 rfl lay_X6 tyX6_ok nmX6 (by decide) wd_238 rfl rfl rfl rfl (by decide) ly_39 rfl (vx_m2 (by decide)) ?_
        exact vx_vret dX6_force_59 rfl (Nat.le_refl 0) (Nat.le_refl 0) (vx_pst hP rfl (by rw [if_pos (show sp_fc μ k c from ⟨(fun h => c_30 (if_pos h)), fun h => q4 h.1⟩)]))
    · have q4 : 0 < c := by have h9 : ¬ nI c ≤ nI 0 := c_4; rw [nI_leI (by omega) (by omega)] at h9; omega
      refine vx_aload_n dX6_force_7 rfl ?_
      refine vx_getR (ci := 6) (T := TX6) (n := 12) (j := 5) (a := 39) (r := 44) dX6_force_8 rfl lay_X6 (by decide) wd_237 (by decide) ly_39 rfl ?_
      refine vx_iconst (v := 0) dX6_force_11 (by decide) ?_
      refine vx_callX (vs := [vx_r 44, .inl 0]) (st := []) (r0 := (some (.inl (μ 44 0)))) (μ0 := μ) dX6_force_12 ((c_X8_at (d - 1) ad 82 vx_lay μ 44 7 (by decide) ly_44 (by decide) 0).to (by first | rfl | (exact congrArg (fun z => some (Sum.inl z)) (sp_at_nI (k := 0) _ (by omega) (by decide)))) rfl) nst_13 wd_109 wd_45 hy_X8_at wd_108 (by omega) (Nat.le_of_ble_eq_true rfl) (Nat.le_of_ble_eq_true rfl) (Nat.le_refl 0) (Nat.le_refl 0) ?_
      refine vx_eq (μ2 := μ) (ls2 := [(0, vx_r 39), (1, .inl (nI k))]) (st2 := [.inl (μ 44 0)]) rfl rfl rfl ?_
      refine vx_iload_n dX6_force_15 rfl ?_
      refine vx_icmp_ne (tgt := 23) dX6_force_16 (by decide) (fun c_16 => ?_) (fun c_16 => ?_)
      · refine vx_iconst (v := 0) dX6_force_23 (by decide) ?_
        refine vx_istore_n (ls2 := [(2, .inl 0), (0, vx_r 39), (1, .inl (nI k))]) dX6_force_24 (by decide) rfl ?_
        refine vx_aload_n dX6_force_25 rfl ?_
        refine vx_iload_n dX6_force_26 rfl ?_
        refine vx_callV (b := 39) (vs := [.inl (nI k)]) (st := []) (r0 := (some (.inl (if (μ 43 k) = 0 then 0 else 1)))) (μ0 := μ) dX6_force_27 (c_X6_isWaiting (d - 1) ad μ k (by omega)) wd_588 wd_591 wd_51 hy_X6_isWaiting wd_590 wd_9 (by decide) ly_39 rfl rfl (by omega) (Nat.le_of_ble_eq_true rfl) (Nat.le_of_ble_eq_true rfl) (Nat.le_refl 0) (Nat.le_refl 0) ?_
        refine vx_eq (μ2 := μ) (ls2 := [(2, .inl 0), (0, vx_r 39), (1, .inl (nI k))]) (st2 := [.inl (if (μ 43 k) = 0 then 0 else 1)]) rfl rfl rfl ?_
        refine vx_if_eq (tgt := 59) dX6_force_30 (by decide) (fun c_30_1 => ?_) (fun c_30_1 => ?_)
        · exact vx_vret dX6_force_59 rfl (Nat.le_refl 0) (Nat.le_refl 0) (vx_pst hP rfl (by rw [if_neg (show ¬ sp_fc μ k c from fun h => by rw [if_neg h.1] at c_30_1; exact absurd c_30_1 (by decide))]))
        · refine vx_iload_n dX6_force_33 rfl ?_
          refine vx_if_ne (tgt := 59) dX6_force_34 (by decide) (fun h => absurd h (by decide)) (fun _ => ?_)
          refine vx_aload_n dX6_force_37 rfl ?_
          refine vx_getR (ci := 6) (T := TX6) (n := 12) (j := 5) (a := 39) (r := 44) dX6_force_38 rfl lay_X6 (by decide) wd_237 (by decide) ly_39 rfl ?_
          refine vx_aload_n dX6_force_41 rfl ?_
          refine vx_getI (ci := 6) (T := TX6) (n := 12) (j := 6) (a := 39) (v := (nI c)) dX6_force_42 rfl lay_X6 (by decide) wd_238 (by decide) ly_39 rfl hc ?_
          refine vx_iload_n dX6_force_45 rfl ?_
          refine vx_callX (vs := [vx_r 44, .inl (nI c), .inl (nI k)]) (st := []) (r0 := none) (μ0 := (va_up μ 44 (upd (μ 44) c (nI k)))) dX6_force_46 ((c_X8_put (d - 1) ad 82 vx_lay μ 44 7 (by decide) ly_44 (by decide) (nI c) (nI k)).to rfl (congrArg (fun z => va_up μ 44 z) (sp_put_nI (k := c) _ _ (by omega) (by decide)))) nst_12 wd_102 wd_45 hy_X8_put wd_101 (by omega) (Nat.le_of_ble_eq_true rfl) (Nat.le_of_ble_eq_true rfl) (Nat.le_refl 0) (Nat.le_refl 0) ?_
          refine vx_eq (μ2 := (va_up μ 44 (upd (μ 44) c (nI k)))) (ls2 := [(2, .inl 0), (0, vx_r 39), (1, .inl (nI k))]) (st2 := []) rfl rfl rfl ?_
          refine vx_aload_n dX6_force_49 rfl ?_
          refine vx_dup dX6_force_50 ?_
          refine vx_getI (ci := 6) (T := TX6) (n := 12) (j := 6) (a := 39) (v := (nI c)) dX6_force_51 rfl lay_X6 (by decide) wd_238 (by decide) ly_39 rfl hc ?_
          refine vx_iconst (v := 1) dX6_force_54 (by decide) ?_
          refine vx_iadd dX6_force_55 ?_
          refine vx_eq (st2 := [.inl (nI (c + 1)), vx_r 39]) rfl rfl (by rw [nI_1]) ?_
          refine vx_putI (ci := 6) (T := TX6) (n := 12) (j := 6) (a := 39) (ty := .int) (μ2 := (va_up (va_up μ 39 (upd (μ 39) 6 (nI (c + 1)))) 44 (upd (μ 44) c (nI k)))) dX6_force_56 rfl lay_X6 tyX6_ok nmX6 (by decide) wd_238 rfl rfl rfl rfl (by decide) ly_39 rfl (vx_m2 (by decide)) ?_
          exact vx_vret dX6_force_59 rfl (Nat.le_refl 0) (Nat.le_refl 0) (vx_pst hP rfl (by rw [if_pos (show sp_fc μ k c from ⟨(fun h => c_30_1 (if_pos h)), fun h => c_16 h.2⟩)]))
      · refine vx_iconst (v := 1) dX6_force_19 (by decide) ?_
        refine vx_goto (tgt := 24) dX6_force_20 (by decide) ?_
        refine vx_istore_n (ls2 := [(2, .inl 1), (0, vx_r 39), (1, .inl (nI k))]) dX6_force_24 (by decide) rfl ?_
        refine vx_aload_n dX6_force_25 rfl ?_
        refine vx_iload_n dX6_force_26 rfl ?_
        refine vx_callV (b := 39) (vs := [.inl (nI k)]) (st := []) (r0 := (some (.inl (if (μ 43 k) = 0 then 0 else 1)))) (μ0 := μ) dX6_force_27 (c_X6_isWaiting (d - 1) ad μ k (by omega)) wd_588 wd_591 wd_51 hy_X6_isWaiting wd_590 wd_9 (by decide) ly_39 rfl rfl (by omega) (Nat.le_of_ble_eq_true rfl) (Nat.le_of_ble_eq_true rfl) (Nat.le_refl 0) (Nat.le_refl 0) ?_
        refine vx_eq (μ2 := μ) (ls2 := [(2, .inl 1), (0, vx_r 39), (1, .inl (nI k))]) (st2 := [.inl (if (μ 43 k) = 0 then 0 else 1)]) rfl rfl rfl ?_
        refine vx_if_eq (tgt := 59) dX6_force_30 (by decide) (fun c_30_2 => ?_) (fun c_30_2 => ?_)
        · exact vx_vret dX6_force_59 rfl (Nat.le_refl 0) (Nat.le_refl 0) (vx_pst hP rfl (by rw [if_neg (show ¬ sp_fc μ k c from fun h => by rw [if_neg h.1] at c_30_2; exact absurd c_30_2 (by decide))]))
        · refine vx_iload_n dX6_force_33 rfl ?_
          refine vx_if_ne (tgt := 59) dX6_force_34 (by decide) (fun _ => ?_) (fun h => absurd h (by decide))
          exact vx_vret dX6_force_59 rfl (Nat.le_refl 0) (Nat.le_refl 0) (vx_pst hP rfl (by rw [if_neg (show ¬ sp_fc μ k c from fun h => h.2 ⟨q4, c_16⟩)]))
  exact vx_J.M pn_X6_force (Nat.le_of_ble_eq_true rfl) (key _ _ ⟨rfl, rfl, rfl, rfl, rfl⟩)
abbrev sp_mc (μ : vx_mem) (k len c : Nat) : Prop := ¬ μ 43 k = 0 ∧ (c ≤ len ∨ μ 44 len = nI k)
set_option maxRecDepth 20000 in
set_option maxHeartbeats 2000000 in
theorem c_X6_mayCome (d : Nat) (hd : 1 ≤ d) (ad : Nat → Nat) (μ : vx_mem) (k : Nat) (hk : k < 8) (len : Nat) (hl : len < 7) (c : Nat) (hc : μ 39 6 = nI c) (hc7 : c < 7) : vx_Mf yX6_mayCome cX6_mayCome 3 (some (.boolean)) d ad 82 vx_lay μ [vx_r 39, .inl (nI k), .inl (nI len)] (some (.inl (if sp_mc μ k len c then 1 else 0))) μ := by
  have key : ∀ (Post : vx_P) (ini : Bool), Post (some (.inl (if sp_mc μ k len c then 1 else 0))) ad 82 vx_lay μ → vx_J RX6 cX6_mayCome 3 (some (.boolean)) ini d 0 0 Post ad 0 0 82 vx_lay μ 0 [(0, vx_r 39), (1, .inl (nI k)), (2, .inl (nI len))] [] := by
    intro Post ini hP
    refine vx_aload_n dX6_mayCome_0 rfl ?_
    refine vx_iload_n dX6_mayCome_1 rfl ?_
    refine vx_callV (b := 39) (vs := [.inl (nI k)]) (st := []) (r0 := (some (.inl (if (μ 43 k) = 0 then 0 else 1)))) (μ0 := μ) dX6_mayCome_2 (c_X6_isWaiting (d - 1) ad μ k (by omega)) wd_588 wd_591 wd_51 hy_X6_isWaiting wd_590 wd_9 (by decide) ly_39 rfl rfl (by omega) (Nat.le_of_ble_eq_true rfl) (Nat.le_of_ble_eq_true rfl) (Nat.le_refl 0) (Nat.le_refl 0) ?_
    refine vx_eq (μ2 := μ) (ls2 := [(0, vx_r 39), (1, .inl (nI k)), (2, .inl (nI len))]) (st2 := [.inl (if (μ 43 k) = 0 then 0 else 1)]) rfl rfl rfl ?_
    refine vx_if_eq (tgt := 32) dX6_mayCome_5 (by decide) (fun c_5 => ?_) (fun c_5 => ?_)
    · refine vx_iconst (v := 0) dX6_mayCome_32 (by decide) ?_
      exact vx_ret (ty := .boolean) dX6_mayCome_33 rfl rfl (Nat.le_refl 0) (Nat.le_refl 0) (vx_pst hP (by rw [if_neg (show ¬ sp_mc μ k len c from fun h => by rw [if_neg h.1] at c_5; exact absurd c_5 (by decide))]) rfl)
    · refine vx_iload_n dX6_mayCome_8 rfl ?_
      refine vx_aload_n dX6_mayCome_9 rfl ?_
      refine vx_getI (ci := 6) (T := TX6) (n := 12) (j := 6) (a := 39) (v := (nI c)) dX6_mayCome_10 rfl lay_X6 (by decide) wd_238 (by decide) ly_39 rfl hc ?_
      refine vx_icmp_ge (tgt := 28) dX6_mayCome_13 (by decide) (fun c_13 => ?_) (fun c_13 => ?_)
      · have q13 : c ≤ len := by rw [nI_leI (by omega) (by omega)] at c_13; exact c_13
        refine vx_iconst (v := 1) dX6_mayCome_28 (by decide) ?_
        refine vx_goto (tgt := 33) dX6_mayCome_29 (by decide) ?_
        exact vx_ret (ty := .boolean) dX6_mayCome_33 rfl rfl (Nat.le_refl 0) (Nat.le_refl 0) (vx_pst hP (by rw [if_pos (show sp_mc μ k len c from ⟨(fun h => c_5 (if_pos h)), Or.inl q13⟩)]) rfl)
      · have q13 : ¬ c ≤ len := by rw [nI_leI (by omega) (by omega)] at c_13; exact c_13
        refine vx_aload_n dX6_mayCome_16 rfl ?_
        refine vx_getR (ci := 6) (T := TX6) (n := 12) (j := 5) (a := 39) (r := 44) dX6_mayCome_17 rfl lay_X6 (by decide) wd_237 (by decide) ly_39 rfl ?_
        refine vx_iload_n dX6_mayCome_20 rfl ?_
        refine vx_callX (vs := [vx_r 44, .inl (nI len)]) (st := []) (r0 := (some (.inl (μ 44 len)))) (μ0 := μ) dX6_mayCome_21 ((c_X8_at (d - 1) ad 82 vx_lay μ 44 7 (by decide) ly_44 (by decide) (nI len)).to (by first | rfl | (exact congrArg (fun z => some (Sum.inl z)) (sp_at_nI (k := len) _ (by omega) (by decide)))) rfl) nst_13 wd_109 wd_45 hy_X8_at wd_108 (by omega) (Nat.le_of_ble_eq_true rfl) (Nat.le_of_ble_eq_true rfl) (Nat.le_refl 0) (Nat.le_refl 0) ?_
        refine vx_eq (μ2 := μ) (ls2 := [(0, vx_r 39), (1, .inl (nI k)), (2, .inl (nI len))]) (st2 := [.inl (μ 44 len)]) rfl rfl rfl ?_
        refine vx_iload_n dX6_mayCome_24 rfl ?_
        refine vx_icmp_ne (tgt := 32) dX6_mayCome_25 (by decide) (fun c_25 => ?_) (fun c_25 => ?_)
        · refine vx_iconst (v := 0) dX6_mayCome_32 (by decide) ?_
          exact vx_ret (ty := .boolean) dX6_mayCome_33 rfl rfl (Nat.le_refl 0) (Nat.le_refl 0) (vx_pst hP (by rw [if_neg (show ¬ sp_mc μ k len c from fun h => h.2.elim (fun z => q13 z) (fun z => c_25 z))]) rfl)
        · refine vx_iconst (v := 1) dX6_mayCome_28 (by decide) ?_
          refine vx_goto (tgt := 33) dX6_mayCome_29 (by decide) ?_
          exact vx_ret (ty := .boolean) dX6_mayCome_33 rfl rfl (Nat.le_refl 0) (Nat.le_refl 0) (vx_pst hP (by rw [if_pos (show sp_mc μ k len c from ⟨(fun h => c_5 (if_pos h)), Or.inr c_25⟩)]) rfl)
  exact vx_J.M pn_X6_mayCome (Nat.le_of_ble_eq_true rfl) (key _ _ ⟨rfl, rfl, rfl, rfl, rfl⟩)
def sp_beg (μ : vx_mem) (k : Nat) (td : Int32) : Int32 := sp_max td (μ 41 k)
def sp_lea (μ : vx_mem) (k : Nat) (td : Int32) : Int32 := sp_beg μ k td + μ 40 k
def sp_los (μ : vx_mem) (k : Nat) (en : Int32) : Int32 := μ 39 0 * sp_max (en - μ 42 k - 1) 0
abbrev sp_bea (μ : vx_mem) (en ls : Int32) : Prop := ls < μ 39 10 ∨ ls = μ 39 10 ∧ en < μ 39 11
set_option maxRecDepth 20000 in
set_option maxHeartbeats 2000000 in
theorem c_X6_begins (d : Nat) (hd : 1 ≤ d) (ad : Nat → Nat) (μ : vx_mem) (k : Nat) (hk : k < 8) (td : Int32) : vx_Mf yX6_begins cX6_begins 3 (some (.int)) d ad 82 vx_lay μ [vx_r 39, .inl (nI k), .inl td] (some (.inl (sp_beg μ k td))) μ := by
  have key : ∀ (Post : vx_P) (ini : Bool), Post (some (.inl (sp_beg μ k td))) ad 82 vx_lay μ → vx_J RX6 cX6_begins 3 (some (.int)) ini d 0 0 Post ad 0 0 82 vx_lay μ 0 [(0, vx_r 39), (1, .inl (nI k)), (2, .inl td)] [] := by
    intro Post ini hP
    refine vx_iload_n dX6_begins_0 rfl ?_
    refine vx_aload_n dX6_begins_1 rfl ?_
    refine vx_getR (ci := 6) (T := TX6) (n := 12) (j := 2) (a := 39) (r := 41) dX6_begins_2 rfl lay_X6 (by decide) wd_234 (by decide) ly_39 rfl ?_
    refine vx_iload_n dX6_begins_5 rfl ?_
    refine vx_callX (vs := [vx_r 41, .inl (nI k)]) (st := [.inl td]) (r0 := (some (.inl (μ 41 k)))) (μ0 := μ) dX6_begins_6 ((c_X8_at (d - 1) ad 82 vx_lay μ 41 8 (by decide) ly_41 (by decide) (nI k)).to (by first | rfl | (exact congrArg (fun z => some (Sum.inl z)) (sp_at_nI (k := k) _ (by omega) (by decide)))) rfl) nst_13 wd_109 wd_45 hy_X8_at wd_108 (by omega) (Nat.le_of_ble_eq_true rfl) (Nat.le_of_ble_eq_true rfl) (Nat.le_refl 0) (Nat.le_refl 0) ?_
    refine vx_eq (μ2 := μ) (ls2 := [(0, vx_r 39), (1, .inl (nI k)), (2, .inl td)]) (st2 := [.inl (μ 41 k), .inl td]) rfl rfl rfl ?_
    refine vx_mmax dX6_begins_9 wd_620 (by omega) (Nat.le_of_ble_eq_true rfl) (Nat.le_refl 0) (Nat.le_refl 0) ?_
    exact vx_ret (ty := .int) dX6_begins_12 rfl rfl (Nat.le_refl 0) (Nat.le_refl 0) (vx_pst hP rfl rfl)
  exact vx_J.M pn_X6_begins (Nat.le_of_ble_eq_true rfl) (key _ _ ⟨rfl, rfl, rfl, rfl, rfl⟩)
set_option maxRecDepth 20000 in
set_option maxHeartbeats 2000000 in
theorem c_X6_leaves (d : Nat) (hd : 2 ≤ d) (ad : Nat → Nat) (μ : vx_mem) (k : Nat) (hk : k < 8) (td : Int32) : vx_Mf yX6_leaves cX6_leaves 3 (some (.int)) d ad 82 vx_lay μ [vx_r 39, .inl (nI k), .inl td] (some (.inl (sp_lea μ k td))) μ := by
  have key : ∀ (Post : vx_P) (ini : Bool), Post (some (.inl (sp_lea μ k td))) ad 82 vx_lay μ → vx_J RX6 cX6_leaves 3 (some (.int)) ini d 0 0 Post ad 0 0 82 vx_lay μ 0 [(0, vx_r 39), (1, .inl (nI k)), (2, .inl td)] [] := by
    intro Post ini hP
    refine vx_aload_n dX6_leaves_0 rfl ?_
    refine vx_iload_n dX6_leaves_1 rfl ?_
    refine vx_iload_n dX6_leaves_2 rfl ?_
    refine vx_callV (b := 39) (vs := [.inl (nI k), .inl td]) (st := []) (r0 := (some (.inl (sp_beg μ k td)))) (μ0 := μ) dX6_leaves_3 (c_X6_begins (d - 1) (by omega) ad μ k (by omega) td) wd_616 wd_619 wd_51 hy_X6_begins wd_617 wd_618 (by decide) ly_39 rfl rfl (by omega) (Nat.le_of_ble_eq_true rfl) (Nat.le_of_ble_eq_true rfl) (Nat.le_refl 0) (Nat.le_refl 0) ?_
    refine vx_eq (μ2 := μ) (ls2 := [(0, vx_r 39), (1, .inl (nI k)), (2, .inl td)]) (st2 := [.inl (sp_beg μ k td)]) rfl rfl rfl ?_
    refine vx_aload_n dX6_leaves_6 rfl ?_
    refine vx_getR (ci := 6) (T := TX6) (n := 12) (j := 1) (a := 39) (r := 40) dX6_leaves_7 rfl lay_X6 (by decide) wd_233 (by decide) ly_39 rfl ?_
    refine vx_iload_n dX6_leaves_10 rfl ?_
    refine vx_callX (vs := [vx_r 40, .inl (nI k)]) (st := [.inl (sp_beg μ k td)]) (r0 := (some (.inl (μ 40 k)))) (μ0 := μ) dX6_leaves_11 ((c_X8_at (d - 1) ad 82 vx_lay μ 40 8 (by decide) ly_40 (by decide) (nI k)).to (by first | rfl | (exact congrArg (fun z => some (Sum.inl z)) (sp_at_nI (k := k) _ (by omega) (by decide)))) rfl) nst_13 wd_109 wd_45 hy_X8_at wd_108 (by omega) (Nat.le_of_ble_eq_true rfl) (Nat.le_of_ble_eq_true rfl) (Nat.le_refl 0) (Nat.le_refl 0) ?_
    refine vx_eq (μ2 := μ) (ls2 := [(0, vx_r 39), (1, .inl (nI k)), (2, .inl td)]) (st2 := [.inl (μ 40 k), .inl (sp_beg μ k td)]) rfl rfl rfl ?_
    refine vx_iadd dX6_leaves_14 ?_
    exact vx_ret (ty := .int) dX6_leaves_15 rfl rfl (Nat.le_refl 0) (Nat.le_refl 0) (vx_pst hP rfl rfl)
  exact vx_J.M pn_X6_leaves (Nat.le_of_ble_eq_true rfl) (key _ _ ⟨rfl, rfl, rfl, rfl, rfl⟩)
set_option maxRecDepth 20000 in
set_option maxHeartbeats 2000000 in
theorem c_X6_lossOf (d : Nat) (hd : 1 ≤ d) (ad : Nat → Nat) (μ : vx_mem) (k : Nat) (hk : k < 8) (en : Int32) : vx_Mf yX6_lossOf cX6_lossOf 3 (some (.int)) d ad 82 vx_lay μ [vx_r 39, .inl (nI k), .inl en] (some (.inl (sp_los μ k en))) μ := by
  have key : ∀ (Post : vx_P) (ini : Bool), Post (some (.inl (sp_los μ k en))) ad 82 vx_lay μ → vx_J RX6 cX6_lossOf 3 (some (.int)) ini d 0 0 Post ad 0 0 82 vx_lay μ 0 [(0, vx_r 39), (1, .inl (nI k)), (2, .inl en)] [] := by
    intro Post ini hP
    refine vx_aload_n dX6_lossOf_0 rfl ?_
    refine vx_getI (ci := 6) (T := TX6) (n := 12) (j := 0) (a := 39) (v := (μ 39 0)) dX6_lossOf_1 rfl lay_X6 (by decide) wd_232 (by decide) ly_39 rfl rfl ?_
    refine vx_iload_n dX6_lossOf_4 rfl ?_
    refine vx_aload_n dX6_lossOf_5 rfl ?_
    refine vx_getR (ci := 6) (T := TX6) (n := 12) (j := 3) (a := 39) (r := 42) dX6_lossOf_6 rfl lay_X6 (by decide) wd_235 (by decide) ly_39 rfl ?_
    refine vx_iload_n dX6_lossOf_9 rfl ?_
    refine vx_callX (vs := [vx_r 42, .inl (nI k)]) (st := [.inl en, .inl (μ 39 0)]) (r0 := (some (.inl (μ 42 k)))) (μ0 := μ) dX6_lossOf_10 ((c_X8_at (d - 1) ad 82 vx_lay μ 42 8 (by decide) ly_42 (by decide) (nI k)).to (by first | rfl | (exact congrArg (fun z => some (Sum.inl z)) (sp_at_nI (k := k) _ (by omega) (by decide)))) rfl) nst_13 wd_109 wd_45 hy_X8_at wd_108 (by omega) (Nat.le_of_ble_eq_true rfl) (Nat.le_of_ble_eq_true rfl) (Nat.le_refl 0) (Nat.le_refl 0) ?_
    refine vx_eq (μ2 := μ) (ls2 := [(0, vx_r 39), (1, .inl (nI k)), (2, .inl en)]) (st2 := [.inl (μ 42 k), .inl en, .inl (μ 39 0)]) rfl rfl rfl ?_
    refine vx_isub dX6_lossOf_13 ?_
    refine vx_iconst (v := 1) dX6_lossOf_14 (by decide) ?_
    refine vx_isub dX6_lossOf_15 ?_
    refine vx_iconst (v := 0) dX6_lossOf_16 (by decide) ?_
    refine vx_mmax dX6_lossOf_17 wd_620 (by omega) (Nat.le_of_ble_eq_true rfl) (Nat.le_refl 0) (Nat.le_refl 0) ?_
    refine vx_imul dX6_lossOf_20 ?_
    exact vx_ret (ty := .int) dX6_lossOf_21 rfl rfl (Nat.le_refl 0) (Nat.le_refl 0) (vx_pst hP rfl rfl)
  exact vx_J.M pn_X6_lossOf (Nat.le_of_ble_eq_true rfl) (key _ _ ⟨rfl, rfl, rfl, rfl, rfl⟩)
set_option maxRecDepth 20000 in
set_option maxHeartbeats 2000000 in
theorem c_X6_beatsBest (d : Nat) (ad : Nat → Nat) (μ : vx_mem) (en ls : Int32) : vx_Mf yX6_beatsBest cX6_beatsBest 3 (some (.boolean)) d ad 82 vx_lay μ [vx_r 39, .inl en, .inl ls] (some (.inl (if sp_bea μ en ls then 1 else 0))) μ := by
  have key : ∀ (Post : vx_P) (ini : Bool), Post (some (.inl (if sp_bea μ en ls then 1 else 0))) ad 82 vx_lay μ → vx_J RX6 cX6_beatsBest 3 (some (.boolean)) ini d 0 0 Post ad 0 0 82 vx_lay μ 0 [(0, vx_r 39), (1, .inl en), (2, .inl ls)] [] := by
    intro Post ini hP
    refine vx_iload_n dX6_beatsBest_0 rfl ?_
    refine vx_aload_n dX6_beatsBest_1 rfl ?_
    refine vx_getI (ci := 6) (T := TX6) (n := 12) (j := 10) (a := 39) (v := (μ 39 10)) dX6_beatsBest_2 rfl lay_X6 (by decide) wd_244 (by decide) ly_39 rfl rfl ?_
    refine vx_icmp_lt (tgt := 24) dX6_beatsBest_5 (by decide) (fun c_5 => ?_) (fun c_5 => ?_)
    · refine vx_iconst (v := 1) dX6_beatsBest_24 (by decide) ?_
      refine vx_goto (tgt := 29) dX6_beatsBest_25 (by decide) ?_
      exact vx_ret (ty := .boolean) dX6_beatsBest_29 rfl rfl (Nat.le_refl 0) (Nat.le_refl 0) (vx_pst hP (by rw [if_pos (show sp_bea μ en ls from Or.inl c_5)]) rfl)
    · refine vx_iload_n dX6_beatsBest_8 rfl ?_
      refine vx_aload_n dX6_beatsBest_9 rfl ?_
      refine vx_getI (ci := 6) (T := TX6) (n := 12) (j := 10) (a := 39) (v := (μ 39 10)) dX6_beatsBest_10 rfl lay_X6 (by decide) wd_244 (by decide) ly_39 rfl rfl ?_
      refine vx_icmp_ne (tgt := 28) dX6_beatsBest_13 (by decide) (fun c_13 => ?_) (fun c_13 => ?_)
      · refine vx_iconst (v := 0) dX6_beatsBest_28 (by decide) ?_
        exact vx_ret (ty := .boolean) dX6_beatsBest_29 rfl rfl (Nat.le_refl 0) (Nat.le_refl 0) (vx_pst hP (by rw [if_neg (show ¬ sp_bea μ en ls from fun h => h.elim c_5 (fun z => c_13 z.1))]) rfl)
      · refine vx_iload_n dX6_beatsBest_16 rfl ?_
        refine vx_aload_n dX6_beatsBest_17 rfl ?_
        refine vx_getI (ci := 6) (T := TX6) (n := 12) (j := 11) (a := 39) (v := (μ 39 11)) dX6_beatsBest_18 rfl lay_X6 (by decide) wd_246 (by decide) ly_39 rfl rfl ?_
        refine vx_icmp_ge (tgt := 28) dX6_beatsBest_21 (by decide) (fun c_21 => ?_) (fun c_21 => ?_)
        · refine vx_iconst (v := 0) dX6_beatsBest_28 (by decide) ?_
          exact vx_ret (ty := .boolean) dX6_beatsBest_29 rfl rfl (Nat.le_refl 0) (Nat.le_refl 0) (vx_pst hP (by rw [if_neg (show ¬ sp_bea μ en ls from fun h => h.elim c_5 (fun z => Int32.not_lt.mpr c_21 z.2))]) rfl)
        · refine vx_iconst (v := 1) dX6_beatsBest_24 (by decide) ?_
          refine vx_goto (tgt := 29) dX6_beatsBest_25 (by decide) ?_
          exact vx_ret (ty := .boolean) dX6_beatsBest_29 rfl rfl (Nat.le_refl 0) (Nat.le_refl 0) (vx_pst hP (by rw [if_pos (show sp_bea μ en ls from Or.inr ⟨c_13, Int32.not_le.mp c_21⟩)]) rfl)
  exact vx_J.M pn_X6_beatsBest (Nat.le_of_ble_eq_true rfl) (key _ _ ⟨rfl, rfl, rfl, rfl, rfl⟩)
def sp_cp (f g : Nat → Int32) : Nat → Int32 := upd (upd (upd (upd (upd (upd (upd f 0 (g 0)) 1 (g 1)) 2 (g 2)) 3 (g 3)) 4 (g 4)) 5 (g 5)) 6 (g 6)
set_option maxRecDepth 20000 in
set_option maxHeartbeats 2000000 in
theorem c_X6_keepAsBest (d : Nat) (hd : 1 ≤ d) (ad : Nat → Nat) (μ : vx_mem) (td ls : Int32) : vx_Mf yX6_keepAsBest cX6_keepAsBest 4 none d ad 82 vx_lay μ [vx_r 39, .inl td, .inl ls] none (va_up (va_up μ 39 (upd (upd (μ 39) 11 td) 10 ls)) 46 (sp_cp (μ 46) (μ 45))) := by
  have key : ∀ (Post : vx_P) (ini : Bool), Post none ad 82 vx_lay (va_up (va_up μ 39 (upd (upd (μ 39) 11 td) 10 ls)) 46 (sp_cp (μ 46) (μ 45))) → vx_J RX6 cX6_keepAsBest 4 none ini d 0 0 Post ad 0 0 82 vx_lay μ 0 [(0, vx_r 39), (1, .inl td), (2, .inl ls)] [] := by
    intro Post ini hP
    refine vx_aload_n dX6_keepAsBest_0 rfl ?_
    refine vx_iload_n dX6_keepAsBest_1 rfl ?_
    refine vx_putI (ci := 6) (T := TX6) (n := 12) (j := 11) (a := 39) (ty := .int) (μ2 := (va_up μ 39 (upd (μ 39) 11 td))) dX6_keepAsBest_2 rfl lay_X6 tyX6_ok nmX6 (by decide) wd_246 rfl rfl rfl rfl (by decide) ly_39 rfl rfl ?_
    refine vx_aload_n dX6_keepAsBest_5 rfl ?_
    refine vx_iload_n dX6_keepAsBest_6 rfl ?_
    refine vx_putI (ci := 6) (T := TX6) (n := 12) (j := 10) (a := 39) (ty := .int) (μ2 := (va_up μ 39 (upd (upd (μ 39) 11 td) 10 ls))) dX6_keepAsBest_7 rfl lay_X6 tyX6_ok nmX6 (by decide) wd_244 rfl rfl rfl rfl (by decide) ly_39 rfl vx_m1 ?_
    refine vx_iconst (v := 0) dX6_keepAsBest_10 (by decide) ?_
    refine vx_istore_n (ls2 := [(3, .inl 0), (0, vx_r 39), (1, .inl td), (2, .inl ls)]) dX6_keepAsBest_11 (by decide) rfl ?_
    refine vx_iload_n dX6_keepAsBest_12 rfl ?_
    refine vx_bipush (v := 7) dX6_keepAsBest_13 (by decide) ?_
    refine vx_icmp_ge (tgt := 40) dX6_keepAsBest_15 (by decide) (fun h => absurd h (by decide)) (fun _ => ?_)
    refine vx_aload_n dX6_keepAsBest_18 rfl ?_
    refine vx_getR (ci := 6) (T := TX6) (n := 12) (j := 8) (a := 39) (r := 46) dX6_keepAsBest_19 rfl lay_X6 (by decide) wd_240 (by decide) ly_39 rfl ?_
    refine vx_iload_n dX6_keepAsBest_22 rfl ?_
    refine vx_aload_n dX6_keepAsBest_23 rfl ?_
    refine vx_getR (ci := 6) (T := TX6) (n := 12) (j := 7) (a := 39) (r := 45) dX6_keepAsBest_24 rfl lay_X6 (by decide) wd_239 (by decide) ly_39 rfl ?_
    refine vx_iload_n dX6_keepAsBest_27 rfl ?_
    refine vx_callX (vs := [vx_r 45, .inl 0]) (st := [.inl 0, vx_r 46]) (r0 := (some (.inl (μ 45 0)))) (μ0 := (va_up μ 39 (upd (upd (μ 39) 11 td) 10 ls))) dX6_keepAsBest_28 ((c_X8_at (d - 1) ad 82 vx_lay (va_up μ 39 (upd (upd (μ 39) 11 td) 10 ls)) 45 7 (by decide) ly_45 (by decide) 0).to (by first | rfl | (exact congrArg (fun z => some (Sum.inl z)) (sp_at_nI (k := 0) _ (by omega) (by decide)))) rfl) nst_13 wd_109 wd_45 hy_X8_at wd_108 (by omega) (Nat.le_of_ble_eq_true rfl) (Nat.le_of_ble_eq_true rfl) (Nat.le_refl 0) (Nat.le_refl 0) ?_
    refine vx_eq (μ2 := (va_up μ 39 (upd (upd (μ 39) 11 td) 10 ls))) (ls2 := [(3, .inl 0), (0, vx_r 39), (1, .inl td), (2, .inl ls)]) (st2 := [.inl (μ 45 0), .inl 0, vx_r 46]) rfl rfl rfl ?_
    refine vx_callX (vs := [vx_r 46, .inl 0, .inl (μ 45 0)]) (st := []) (r0 := none) (μ0 := (va_up (va_up μ 39 (upd (upd (μ 39) 11 td) 10 ls)) 46 (upd (μ 46) 0 (μ 45 0)))) dX6_keepAsBest_31 ((c_X8_put (d - 1) ad 82 vx_lay (va_up μ 39 (upd (upd (μ 39) 11 td) 10 ls)) 46 7 (by decide) ly_46 (by decide) 0 (μ 45 0)).to rfl (congrArg (fun z => va_up (va_up μ 39 (upd (upd (μ 39) 11 td) 10 ls)) 46 z) (sp_put_nI (k := 0) _ _ (by omega) (by decide)))) nst_12 wd_102 wd_45 hy_X8_put wd_101 (by omega) (Nat.le_of_ble_eq_true rfl) (Nat.le_of_ble_eq_true rfl) (Nat.le_refl 0) (Nat.le_refl 0) ?_
    refine vx_eq (μ2 := (va_up (va_up μ 39 (upd (upd (μ 39) 11 td) 10 ls)) 46 (upd (μ 46) 0 (μ 45 0)))) (ls2 := [(3, .inl 0), (0, vx_r 39), (1, .inl td), (2, .inl ls)]) (st2 := []) rfl rfl rfl ?_
    refine vx_iinc (v := 1) (ls2 := [(3, .inl 1), (0, vx_r 39), (1, .inl td), (2, .inl ls)]) dX6_keepAsBest_34 rfl (by decide) (by decide) rfl ?_
    refine vx_goto (tgt := 12) dX6_keepAsBest_37 (by decide) ?_
    refine vx_iload_n dX6_keepAsBest_12 rfl ?_
    refine vx_bipush (v := 7) dX6_keepAsBest_13 (by decide) ?_
    refine vx_icmp_ge (tgt := 40) dX6_keepAsBest_15 (by decide) (fun h => absurd h (by decide)) (fun _ => ?_)
    refine vx_aload_n dX6_keepAsBest_18 rfl ?_
    refine vx_getR (ci := 6) (T := TX6) (n := 12) (j := 8) (a := 39) (r := 46) dX6_keepAsBest_19 rfl lay_X6 (by decide) wd_240 (by decide) ly_39 rfl ?_
    refine vx_iload_n dX6_keepAsBest_22 rfl ?_
    refine vx_aload_n dX6_keepAsBest_23 rfl ?_
    refine vx_getR (ci := 6) (T := TX6) (n := 12) (j := 7) (a := 39) (r := 45) dX6_keepAsBest_24 rfl lay_X6 (by decide) wd_239 (by decide) ly_39 rfl ?_
    refine vx_iload_n dX6_keepAsBest_27 rfl ?_
    refine vx_callX (vs := [vx_r 45, .inl 1]) (st := [.inl 1, vx_r 46]) (r0 := (some (.inl (μ 45 1)))) (μ0 := (va_up (va_up μ 39 (upd (upd (μ 39) 11 td) 10 ls)) 46 (upd (μ 46) 0 (μ 45 0)))) dX6_keepAsBest_28 ((c_X8_at (d - 1) ad 82 vx_lay (va_up (va_up μ 39 (upd (upd (μ 39) 11 td) 10 ls)) 46 (upd (μ 46) 0 (μ 45 0))) 45 7 (by decide) ly_45 (by decide) 1).to (by first | rfl | (exact congrArg (fun z => some (Sum.inl z)) (sp_at_nI (k := 1) _ (by omega) (by decide)))) rfl) nst_13 wd_109 wd_45 hy_X8_at wd_108 (by omega) (Nat.le_of_ble_eq_true rfl) (Nat.le_of_ble_eq_true rfl) (Nat.le_refl 0) (Nat.le_refl 0) ?_
    refine vx_eq (μ2 := (va_up (va_up μ 39 (upd (upd (μ 39) 11 td) 10 ls)) 46 (upd (μ 46) 0 (μ 45 0)))) (ls2 := [(3, .inl 1), (0, vx_r 39), (1, .inl td), (2, .inl ls)]) (st2 := [.inl (μ 45 1), .inl 1, vx_r 46]) rfl rfl rfl ?_
    refine vx_callX (vs := [vx_r 46, .inl 1, .inl (μ 45 1)]) (st := []) (r0 := none) (μ0 := (va_up (va_up μ 39 (upd (upd (μ 39) 11 td) 10 ls)) 46 (upd (upd (μ 46) 0 (μ 45 0)) 1 (μ 45 1)))) dX6_keepAsBest_31 (((c_X8_put (d - 1) ad 82 vx_lay (va_up (va_up μ 39 (upd (upd (μ 39) 11 td) 10 ls)) 46 (upd (μ 46) 0 (μ 45 0))) 46 7 (by decide) ly_46 (by decide) 1 (μ 45 1)).to rfl (congrArg (fun z => va_up (va_up (va_up μ 39 (upd (upd (μ 39) 11 td) 10 ls)) 46 (upd (μ 46) 0 (μ 45 0))) 46 z) (sp_put_nI (k := 1) _ _ (by omega) (by decide)))).to rfl vx_m1) nst_12 wd_102 wd_45 hy_X8_put wd_101 (by omega) (Nat.le_of_ble_eq_true rfl) (Nat.le_of_ble_eq_true rfl) (Nat.le_refl 0) (Nat.le_refl 0) ?_
    refine vx_eq (μ2 := (va_up (va_up μ 39 (upd (upd (μ 39) 11 td) 10 ls)) 46 (upd (upd (μ 46) 0 (μ 45 0)) 1 (μ 45 1)))) (ls2 := [(3, .inl 1), (0, vx_r 39), (1, .inl td), (2, .inl ls)]) (st2 := []) rfl rfl rfl ?_
    refine vx_iinc (v := 2) (ls2 := [(3, .inl 2), (0, vx_r 39), (1, .inl td), (2, .inl ls)]) dX6_keepAsBest_34 rfl (by decide) (by decide) rfl ?_
    refine vx_goto (tgt := 12) dX6_keepAsBest_37 (by decide) ?_
    refine vx_iload_n dX6_keepAsBest_12 rfl ?_
    refine vx_bipush (v := 7) dX6_keepAsBest_13 (by decide) ?_
    refine vx_icmp_ge (tgt := 40) dX6_keepAsBest_15 (by decide) (fun h => absurd h (by decide)) (fun _ => ?_)
    refine vx_aload_n dX6_keepAsBest_18 rfl ?_
    refine vx_getR (ci := 6) (T := TX6) (n := 12) (j := 8) (a := 39) (r := 46) dX6_keepAsBest_19 rfl lay_X6 (by decide) wd_240 (by decide) ly_39 rfl ?_
    refine vx_iload_n dX6_keepAsBest_22 rfl ?_
    refine vx_aload_n dX6_keepAsBest_23 rfl ?_
    refine vx_getR (ci := 6) (T := TX6) (n := 12) (j := 7) (a := 39) (r := 45) dX6_keepAsBest_24 rfl lay_X6 (by decide) wd_239 (by decide) ly_39 rfl ?_
    refine vx_iload_n dX6_keepAsBest_27 rfl ?_
    refine vx_callX (vs := [vx_r 45, .inl 2]) (st := [.inl 2, vx_r 46]) (r0 := (some (.inl (μ 45 2)))) (μ0 := (va_up (va_up μ 39 (upd (upd (μ 39) 11 td) 10 ls)) 46 (upd (upd (μ 46) 0 (μ 45 0)) 1 (μ 45 1)))) dX6_keepAsBest_28 ((c_X8_at (d - 1) ad 82 vx_lay (va_up (va_up μ 39 (upd (upd (μ 39) 11 td) 10 ls)) 46 (upd (upd (μ 46) 0 (μ 45 0)) 1 (μ 45 1))) 45 7 (by decide) ly_45 (by decide) 2).to (by first | rfl | (exact congrArg (fun z => some (Sum.inl z)) (sp_at_nI (k := 2) _ (by omega) (by decide)))) rfl) nst_13 wd_109 wd_45 hy_X8_at wd_108 (by omega) (Nat.le_of_ble_eq_true rfl) (Nat.le_of_ble_eq_true rfl) (Nat.le_refl 0) (Nat.le_refl 0) ?_
    refine vx_eq (μ2 := (va_up (va_up μ 39 (upd (upd (μ 39) 11 td) 10 ls)) 46 (upd (upd (μ 46) 0 (μ 45 0)) 1 (μ 45 1)))) (ls2 := [(3, .inl 2), (0, vx_r 39), (1, .inl td), (2, .inl ls)]) (st2 := [.inl (μ 45 2), .inl 2, vx_r 46]) rfl rfl rfl ?_
    refine vx_callX (vs := [vx_r 46, .inl 2, .inl (μ 45 2)]) (st := []) (r0 := none) (μ0 := (va_up (va_up μ 39 (upd (upd (μ 39) 11 td) 10 ls)) 46 (upd (upd (upd (μ 46) 0 (μ 45 0)) 1 (μ 45 1)) 2 (μ 45 2)))) dX6_keepAsBest_31 (((c_X8_put (d - 1) ad 82 vx_lay (va_up (va_up μ 39 (upd (upd (μ 39) 11 td) 10 ls)) 46 (upd (upd (μ 46) 0 (μ 45 0)) 1 (μ 45 1))) 46 7 (by decide) ly_46 (by decide) 2 (μ 45 2)).to rfl (congrArg (fun z => va_up (va_up (va_up μ 39 (upd (upd (μ 39) 11 td) 10 ls)) 46 (upd (upd (μ 46) 0 (μ 45 0)) 1 (μ 45 1))) 46 z) (sp_put_nI (k := 2) _ _ (by omega) (by decide)))).to rfl vx_m1) nst_12 wd_102 wd_45 hy_X8_put wd_101 (by omega) (Nat.le_of_ble_eq_true rfl) (Nat.le_of_ble_eq_true rfl) (Nat.le_refl 0) (Nat.le_refl 0) ?_
    refine vx_eq (μ2 := (va_up (va_up μ 39 (upd (upd (μ 39) 11 td) 10 ls)) 46 (upd (upd (upd (μ 46) 0 (μ 45 0)) 1 (μ 45 1)) 2 (μ 45 2)))) (ls2 := [(3, .inl 2), (0, vx_r 39), (1, .inl td), (2, .inl ls)]) (st2 := []) rfl rfl rfl ?_
    refine vx_iinc (v := 3) (ls2 := [(3, .inl 3), (0, vx_r 39), (1, .inl td), (2, .inl ls)]) dX6_keepAsBest_34 rfl (by decide) (by decide) rfl ?_
    refine vx_goto (tgt := 12) dX6_keepAsBest_37 (by decide) ?_
    refine vx_iload_n dX6_keepAsBest_12 rfl ?_
    refine vx_bipush (v := 7) dX6_keepAsBest_13 (by decide) ?_
    refine vx_icmp_ge (tgt := 40) dX6_keepAsBest_15 (by decide) (fun h => absurd h (by decide)) (fun _ => ?_)
    refine vx_aload_n dX6_keepAsBest_18 rfl ?_
    refine vx_getR (ci := 6) (T := TX6) (n := 12) (j := 8) (a := 39) (r := 46) dX6_keepAsBest_19 rfl lay_X6 (by decide) wd_240 (by decide) ly_39 rfl ?_
    refine vx_iload_n dX6_keepAsBest_22 rfl ?_
    refine vx_aload_n dX6_keepAsBest_23 rfl ?_
    refine vx_getR (ci := 6) (T := TX6) (n := 12) (j := 7) (a := 39) (r := 45) dX6_keepAsBest_24 rfl lay_X6 (by decide) wd_239 (by decide) ly_39 rfl ?_
    refine vx_iload_n dX6_keepAsBest_27 rfl ?_
    refine vx_callX (vs := [vx_r 45, .inl 3]) (st := [.inl 3, vx_r 46]) (r0 := (some (.inl (μ 45 3)))) (μ0 := (va_up (va_up μ 39 (upd (upd (μ 39) 11 td) 10 ls)) 46 (upd (upd (upd (μ 46) 0 (μ 45 0)) 1 (μ 45 1)) 2 (μ 45 2)))) dX6_keepAsBest_28 ((c_X8_at (d - 1) ad 82 vx_lay (va_up (va_up μ 39 (upd (upd (μ 39) 11 td) 10 ls)) 46 (upd (upd (upd (μ 46) 0 (μ 45 0)) 1 (μ 45 1)) 2 (μ 45 2))) 45 7 (by decide) ly_45 (by decide) 3).to (by first | rfl | (exact congrArg (fun z => some (Sum.inl z)) (sp_at_nI (k := 3) _ (by omega) (by decide)))) rfl) nst_13 wd_109 wd_45 hy_X8_at wd_108 (by omega) (Nat.le_of_ble_eq_true rfl) (Nat.le_of_ble_eq_true rfl) (Nat.le_refl 0) (Nat.le_refl 0) ?_
    refine vx_eq (μ2 := (va_up (va_up μ 39 (upd (upd (μ 39) 11 td) 10 ls)) 46 (upd (upd (upd (μ 46) 0 (μ 45 0)) 1 (μ 45 1)) 2 (μ 45 2)))) (ls2 := [(3, .inl 3), (0, vx_r 39), (1, .inl td), (2, .inl ls)]) (st2 := [.inl (μ 45 3), .inl 3, vx_r 46]) rfl rfl rfl ?_
    refine vx_callX (vs := [vx_r 46, .inl 3, .inl (μ 45 3)]) (st := []) (r0 := none) (μ0 := (va_up (va_up μ 39 (upd (upd (μ 39) 11 td) 10 ls)) 46 (upd (upd (upd (upd (μ 46) 0 (μ 45 0)) 1 (μ 45 1)) 2 (μ 45 2)) 3 (μ 45 3)))) dX6_keepAsBest_31 (((c_X8_put (d - 1) ad 82 vx_lay (va_up (va_up μ 39 (upd (upd (μ 39) 11 td) 10 ls)) 46 (upd (upd (upd (μ 46) 0 (μ 45 0)) 1 (μ 45 1)) 2 (μ 45 2))) 46 7 (by decide) ly_46 (by decide) 3 (μ 45 3)).to rfl (congrArg (fun z => va_up (va_up (va_up μ 39 (upd (upd (μ 39) 11 td) 10 ls)) 46 (upd (upd (upd (μ 46) 0 (μ 45 0)) 1 (μ 45 1)) 2 (μ 45 2))) 46 z) (sp_put_nI (k := 3) _ _ (by omega) (by decide)))).to rfl vx_m1) nst_12 wd_102 wd_45 hy_X8_put wd_101 (by omega) (Nat.le_of_ble_eq_true rfl) (Nat.le_of_ble_eq_true rfl) (Nat.le_refl 0) (Nat.le_refl 0) ?_
    refine vx_eq (μ2 := (va_up (va_up μ 39 (upd (upd (μ 39) 11 td) 10 ls)) 46 (upd (upd (upd (upd (μ 46) 0 (μ 45 0)) 1 (μ 45 1)) 2 (μ 45 2)) 3 (μ 45 3)))) (ls2 := [(3, .inl 3), (0, vx_r 39), (1, .inl td), (2, .inl ls)]) (st2 := []) rfl rfl rfl ?_
    refine vx_iinc (v := 4) (ls2 := [(3, .inl 4), (0, vx_r 39), (1, .inl td), (2, .inl ls)]) dX6_keepAsBest_34 rfl (by decide) (by decide) rfl ?_
    refine vx_goto (tgt := 12) dX6_keepAsBest_37 (by decide) ?_
    refine vx_iload_n dX6_keepAsBest_12 rfl ?_
    refine vx_bipush (v := 7) dX6_keepAsBest_13 (by decide) ?_
    refine vx_icmp_ge (tgt := 40) dX6_keepAsBest_15 (by decide) (fun h => absurd h (by decide)) (fun _ => ?_)
    refine vx_aload_n dX6_keepAsBest_18 rfl ?_
    refine vx_getR (ci := 6) (T := TX6) (n := 12) (j := 8) (a := 39) (r := 46) dX6_keepAsBest_19 rfl lay_X6 (by decide) wd_240 (by decide) ly_39 rfl ?_
    refine vx_iload_n dX6_keepAsBest_22 rfl ?_
    refine vx_aload_n dX6_keepAsBest_23 rfl ?_
    refine vx_getR (ci := 6) (T := TX6) (n := 12) (j := 7) (a := 39) (r := 45) dX6_keepAsBest_24 rfl lay_X6 (by decide) wd_239 (by decide) ly_39 rfl ?_
    refine vx_iload_n dX6_keepAsBest_27 rfl ?_
    refine vx_callX (vs := [vx_r 45, .inl 4]) (st := [.inl 4, vx_r 46]) (r0 := (some (.inl (μ 45 4)))) (μ0 := (va_up (va_up μ 39 (upd (upd (μ 39) 11 td) 10 ls)) 46 (upd (upd (upd (upd (μ 46) 0 (μ 45 0)) 1 (μ 45 1)) 2 (μ 45 2)) 3 (μ 45 3)))) dX6_keepAsBest_28 ((c_X8_at (d - 1) ad 82 vx_lay (va_up (va_up μ 39 (upd (upd (μ 39) 11 td) 10 ls)) 46 (upd (upd (upd (upd (μ 46) 0 (μ 45 0)) 1 (μ 45 1)) 2 (μ 45 2)) 3 (μ 45 3))) 45 7 (by decide) ly_45 (by decide) 4).to (by first | rfl | (exact congrArg (fun z => some (Sum.inl z)) (sp_at_nI (k := 4) _ (by omega) (by decide)))) rfl) nst_13 wd_109 wd_45 hy_X8_at wd_108 (by omega) (Nat.le_of_ble_eq_true rfl) (Nat.le_of_ble_eq_true rfl) (Nat.le_refl 0) (Nat.le_refl 0) ?_
    refine vx_eq (μ2 := (va_up (va_up μ 39 (upd (upd (μ 39) 11 td) 10 ls)) 46 (upd (upd (upd (upd (μ 46) 0 (μ 45 0)) 1 (μ 45 1)) 2 (μ 45 2)) 3 (μ 45 3)))) (ls2 := [(3, .inl 4), (0, vx_r 39), (1, .inl td), (2, .inl ls)]) (st2 := [.inl (μ 45 4), .inl 4, vx_r 46]) rfl rfl rfl ?_
    refine vx_callX (vs := [vx_r 46, .inl 4, .inl (μ 45 4)]) (st := []) (r0 := none) (μ0 := (va_up (va_up μ 39 (upd (upd (μ 39) 11 td) 10 ls)) 46 (upd (upd (upd (upd (upd (μ 46) 0 (μ 45 0)) 1 (μ 45 1)) 2 (μ 45 2)) 3 (μ 45 3)) 4 (μ 45 4)))) dX6_keepAsBest_31 (((c_X8_put (d - 1) ad 82 vx_lay (va_up (va_up μ 39 (upd (upd (μ 39) 11 td) 10 ls)) 46 (upd (upd (upd (upd (μ 46) 0 (μ 45 0)) 1 (μ 45 1)) 2 (μ 45 2)) 3 (μ 45 3))) 46 7 (by decide) ly_46 (by decide) 4 (μ 45 4)).to rfl (congrArg (fun z => va_up (va_up (va_up μ 39 (upd (upd (μ 39) 11 td) 10 ls)) 46 (upd (upd (upd (upd (μ 46) 0 (μ 45 0)) 1 (μ 45 1)) 2 (μ 45 2)) 3 (μ 45 3))) 46 z) (sp_put_nI (k := 4) _ _ (by omega) (by decide)))).to rfl vx_m1) nst_12 wd_102 wd_45 hy_X8_put wd_101 (by omega) (Nat.le_of_ble_eq_true rfl) (Nat.le_of_ble_eq_true rfl) (Nat.le_refl 0) (Nat.le_refl 0) ?_
    refine vx_eq (μ2 := (va_up (va_up μ 39 (upd (upd (μ 39) 11 td) 10 ls)) 46 (upd (upd (upd (upd (upd (μ 46) 0 (μ 45 0)) 1 (μ 45 1)) 2 (μ 45 2)) 3 (μ 45 3)) 4 (μ 45 4)))) (ls2 := [(3, .inl 4), (0, vx_r 39), (1, .inl td), (2, .inl ls)]) (st2 := []) rfl rfl rfl ?_
    refine vx_iinc (v := 5) (ls2 := [(3, .inl 5), (0, vx_r 39), (1, .inl td), (2, .inl ls)]) dX6_keepAsBest_34 rfl (by decide) (by decide) rfl ?_
    refine vx_goto (tgt := 12) dX6_keepAsBest_37 (by decide) ?_
    refine vx_iload_n dX6_keepAsBest_12 rfl ?_
    refine vx_bipush (v := 7) dX6_keepAsBest_13 (by decide) ?_
    refine vx_icmp_ge (tgt := 40) dX6_keepAsBest_15 (by decide) (fun h => absurd h (by decide)) (fun _ => ?_)
    refine vx_aload_n dX6_keepAsBest_18 rfl ?_
    refine vx_getR (ci := 6) (T := TX6) (n := 12) (j := 8) (a := 39) (r := 46) dX6_keepAsBest_19 rfl lay_X6 (by decide) wd_240 (by decide) ly_39 rfl ?_
    refine vx_iload_n dX6_keepAsBest_22 rfl ?_
    refine vx_aload_n dX6_keepAsBest_23 rfl ?_
    refine vx_getR (ci := 6) (T := TX6) (n := 12) (j := 7) (a := 39) (r := 45) dX6_keepAsBest_24 rfl lay_X6 (by decide) wd_239 (by decide) ly_39 rfl ?_
    refine vx_iload_n dX6_keepAsBest_27 rfl ?_
    refine vx_callX (vs := [vx_r 45, .inl 5]) (st := [.inl 5, vx_r 46]) (r0 := (some (.inl (μ 45 5)))) (μ0 := (va_up (va_up μ 39 (upd (upd (μ 39) 11 td) 10 ls)) 46 (upd (upd (upd (upd (upd (μ 46) 0 (μ 45 0)) 1 (μ 45 1)) 2 (μ 45 2)) 3 (μ 45 3)) 4 (μ 45 4)))) dX6_keepAsBest_28 ((c_X8_at (d - 1) ad 82 vx_lay (va_up (va_up μ 39 (upd (upd (μ 39) 11 td) 10 ls)) 46 (upd (upd (upd (upd (upd (μ 46) 0 (μ 45 0)) 1 (μ 45 1)) 2 (μ 45 2)) 3 (μ 45 3)) 4 (μ 45 4))) 45 7 (by decide) ly_45 (by decide) 5).to (by first | rfl | (exact congrArg (fun z => some (Sum.inl z)) (sp_at_nI (k := 5) _ (by omega) (by decide)))) rfl) nst_13 wd_109 wd_45 hy_X8_at wd_108 (by omega) (Nat.le_of_ble_eq_true rfl) (Nat.le_of_ble_eq_true rfl) (Nat.le_refl 0) (Nat.le_refl 0) ?_
    refine vx_eq (μ2 := (va_up (va_up μ 39 (upd (upd (μ 39) 11 td) 10 ls)) 46 (upd (upd (upd (upd (upd (μ 46) 0 (μ 45 0)) 1 (μ 45 1)) 2 (μ 45 2)) 3 (μ 45 3)) 4 (μ 45 4)))) (ls2 := [(3, .inl 5), (0, vx_r 39), (1, .inl td), (2, .inl ls)]) (st2 := [.inl (μ 45 5), .inl 5, vx_r 46]) rfl rfl rfl ?_
    refine vx_callX (vs := [vx_r 46, .inl 5, .inl (μ 45 5)]) (st := []) (r0 := none) (μ0 := (va_up (va_up μ 39 (upd (upd (μ 39) 11 td) 10 ls)) 46 (upd (upd (upd (upd (upd (upd (μ 46) 0 (μ 45 0)) 1 (μ 45 1)) 2 (μ 45 2)) 3 (μ 45 3)) 4 (μ 45 4)) 5 (μ 45 5)))) dX6_keepAsBest_31 (((c_X8_put (d - 1) ad 82 vx_lay (va_up (va_up μ 39 (upd (upd (μ 39) 11 td) 10 ls)) 46 (upd (upd (upd (upd (upd (μ 46) 0 (μ 45 0)) 1 (μ 45 1)) 2 (μ 45 2)) 3 (μ 45 3)) 4 (μ 45 4))) 46 7 (by decide) ly_46 (by decide) 5 (μ 45 5)).to rfl (congrArg (fun z => va_up (va_up (va_up μ 39 (upd (upd (μ 39) 11 td) 10 ls)) 46 (upd (upd (upd (upd (upd (μ 46) 0 (μ 45 0)) 1 (μ 45 1)) 2 (μ 45 2)) 3 (μ 45 3)) 4 (μ 45 4))) 46 z) (sp_put_nI (k := 5) _ _ (by omega) (by decide)))).to rfl vx_m1) nst_12 wd_102 wd_45 hy_X8_put wd_101 (by omega) (Nat.le_of_ble_eq_true rfl) (Nat.le_of_ble_eq_true rfl) (Nat.le_refl 0) (Nat.le_refl 0) ?_
    refine vx_eq (μ2 := (va_up (va_up μ 39 (upd (upd (μ 39) 11 td) 10 ls)) 46 (upd (upd (upd (upd (upd (upd (μ 46) 0 (μ 45 0)) 1 (μ 45 1)) 2 (μ 45 2)) 3 (μ 45 3)) 4 (μ 45 4)) 5 (μ 45 5)))) (ls2 := [(3, .inl 5), (0, vx_r 39), (1, .inl td), (2, .inl ls)]) (st2 := []) rfl rfl rfl ?_
    refine vx_iinc (v := 6) (ls2 := [(3, .inl 6), (0, vx_r 39), (1, .inl td), (2, .inl ls)]) dX6_keepAsBest_34 rfl (by decide) (by decide) rfl ?_
    refine vx_goto (tgt := 12) dX6_keepAsBest_37 (by decide) ?_
    refine vx_iload_n dX6_keepAsBest_12 rfl ?_
    refine vx_bipush (v := 7) dX6_keepAsBest_13 (by decide) ?_
    refine vx_icmp_ge (tgt := 40) dX6_keepAsBest_15 (by decide) (fun h => absurd h (by decide)) (fun _ => ?_)
    refine vx_aload_n dX6_keepAsBest_18 rfl ?_
    refine vx_getR (ci := 6) (T := TX6) (n := 12) (j := 8) (a := 39) (r := 46) dX6_keepAsBest_19 rfl lay_X6 (by decide) wd_240 (by decide) ly_39 rfl ?_
    refine vx_iload_n dX6_keepAsBest_22 rfl ?_
    refine vx_aload_n dX6_keepAsBest_23 rfl ?_
    refine vx_getR (ci := 6) (T := TX6) (n := 12) (j := 7) (a := 39) (r := 45) dX6_keepAsBest_24 rfl lay_X6 (by decide) wd_239 (by decide) ly_39 rfl ?_
    refine vx_iload_n dX6_keepAsBest_27 rfl ?_
    refine vx_callX (vs := [vx_r 45, .inl 6]) (st := [.inl 6, vx_r 46]) (r0 := (some (.inl (μ 45 6)))) (μ0 := (va_up (va_up μ 39 (upd (upd (μ 39) 11 td) 10 ls)) 46 (upd (upd (upd (upd (upd (upd (μ 46) 0 (μ 45 0)) 1 (μ 45 1)) 2 (μ 45 2)) 3 (μ 45 3)) 4 (μ 45 4)) 5 (μ 45 5)))) dX6_keepAsBest_28 ((c_X8_at (d - 1) ad 82 vx_lay (va_up (va_up μ 39 (upd (upd (μ 39) 11 td) 10 ls)) 46 (upd (upd (upd (upd (upd (upd (μ 46) 0 (μ 45 0)) 1 (μ 45 1)) 2 (μ 45 2)) 3 (μ 45 3)) 4 (μ 45 4)) 5 (μ 45 5))) 45 7 (by decide) ly_45 (by decide) 6).to (by first | rfl | (exact congrArg (fun z => some (Sum.inl z)) (sp_at_nI (k := 6) _ (by omega) (by decide)))) rfl) nst_13 wd_109 wd_45 hy_X8_at wd_108 (by omega) (Nat.le_of_ble_eq_true rfl) (Nat.le_of_ble_eq_true rfl) (Nat.le_refl 0) (Nat.le_refl 0) ?_
    refine vx_eq (μ2 := (va_up (va_up μ 39 (upd (upd (μ 39) 11 td) 10 ls)) 46 (upd (upd (upd (upd (upd (upd (μ 46) 0 (μ 45 0)) 1 (μ 45 1)) 2 (μ 45 2)) 3 (μ 45 3)) 4 (μ 45 4)) 5 (μ 45 5)))) (ls2 := [(3, .inl 6), (0, vx_r 39), (1, .inl td), (2, .inl ls)]) (st2 := [.inl (μ 45 6), .inl 6, vx_r 46]) rfl rfl rfl ?_
    refine vx_callX (vs := [vx_r 46, .inl 6, .inl (μ 45 6)]) (st := []) (r0 := none) (μ0 := (va_up (va_up μ 39 (upd (upd (μ 39) 11 td) 10 ls)) 46 (upd (upd (upd (upd (upd (upd (upd (μ 46) 0 (μ 45 0)) 1 (μ 45 1)) 2 (μ 45 2)) 3 (μ 45 3)) 4 (μ 45 4)) 5 (μ 45 5)) 6 (μ 45 6)))) dX6_keepAsBest_31 (((c_X8_put (d - 1) ad 82 vx_lay (va_up (va_up μ 39 (upd (upd (μ 39) 11 td) 10 ls)) 46 (upd (upd (upd (upd (upd (upd (μ 46) 0 (μ 45 0)) 1 (μ 45 1)) 2 (μ 45 2)) 3 (μ 45 3)) 4 (μ 45 4)) 5 (μ 45 5))) 46 7 (by decide) ly_46 (by decide) 6 (μ 45 6)).to rfl (congrArg (fun z => va_up (va_up (va_up μ 39 (upd (upd (μ 39) 11 td) 10 ls)) 46 (upd (upd (upd (upd (upd (upd (μ 46) 0 (μ 45 0)) 1 (μ 45 1)) 2 (μ 45 2)) 3 (μ 45 3)) 4 (μ 45 4)) 5 (μ 45 5))) 46 z) (sp_put_nI (k := 6) _ _ (by omega) (by decide)))).to rfl vx_m1) nst_12 wd_102 wd_45 hy_X8_put wd_101 (by omega) (Nat.le_of_ble_eq_true rfl) (Nat.le_of_ble_eq_true rfl) (Nat.le_refl 0) (Nat.le_refl 0) ?_
    refine vx_eq (μ2 := (va_up (va_up μ 39 (upd (upd (μ 39) 11 td) 10 ls)) 46 (upd (upd (upd (upd (upd (upd (upd (μ 46) 0 (μ 45 0)) 1 (μ 45 1)) 2 (μ 45 2)) 3 (μ 45 3)) 4 (μ 45 4)) 5 (μ 45 5)) 6 (μ 45 6)))) (ls2 := [(3, .inl 6), (0, vx_r 39), (1, .inl td), (2, .inl ls)]) (st2 := []) rfl rfl rfl ?_
    refine vx_iinc (v := 7) (ls2 := [(3, .inl 7), (0, vx_r 39), (1, .inl td), (2, .inl ls)]) dX6_keepAsBest_34 rfl (by decide) (by decide) rfl ?_
    refine vx_goto (tgt := 12) dX6_keepAsBest_37 (by decide) ?_
    refine vx_iload_n dX6_keepAsBest_12 rfl ?_
    refine vx_bipush (v := 7) dX6_keepAsBest_13 (by decide) ?_
    refine vx_icmp_ge (tgt := 40) dX6_keepAsBest_15 (by decide) (fun _ => ?_) (fun h => absurd h (by decide))
    exact vx_vret dX6_keepAsBest_40 rfl (Nat.le_refl 0) (Nat.le_refl 0) (vx_pst hP rfl rfl)
  exact vx_J.M pn_X6_keepAsBest (Nat.le_of_ble_eq_true rfl) (key _ _ ⟨rfl, rfl, rfl, rfl, rfl⟩)
end
