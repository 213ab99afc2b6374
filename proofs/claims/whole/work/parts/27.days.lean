section
theorem sp_btw_up {μ : vx_mem} {p : Nat} {g : Nat → Int32} {a b : Nat} (ha : a < 8) (hp : p < 20 ∨ 28 ≤ p) : sp_btw (va_up μ p g) a b = sp_btw μ a b := by
  unfold sp_btw va_up
  rw [if_neg (show ¬ 20 + a = p by omega)]
theorem sp_btw_owe {μ : vx_mem} {gv : Nat → Int32} {f t a b : Nat} (ha : a < 8) : sp_btw (sp_owe μ gv f t) a b = sp_btw μ a b := by
  unfold sp_btw sp_owe
  rw [if_neg (show ¬ (30 ≤ 20 + a ∧ 20 + a < 38) by omega)]
set_option maxRecDepth 20000 in
set_option maxHeartbeats 2000000 in
theorem c_X8_setOutFor (d : Nat) (hd : 2 ≤ d) (ad : Nat → Nat) (μ : vx_mem) (pl b : Nat) (hp : μ 53 1 = nI pl) (hp8 : pl < 8) (hb : b < 8) : vx_Mf yX8_setOutFor cX8_setOutFor 2 none d ad 82 vx_lay μ [vx_r 0, .inl (nI b)] none (va_up μ 53 (upd (upd (μ 53) 2 (sp_btw μ pl b)) 1 (nI b))) := by
  have key : ∀ (Post : vx_P) (ini : Bool), Post none ad 82 vx_lay (va_up μ 53 (upd (upd (μ 53) 2 (sp_btw μ pl b)) 1 (nI b))) → vx_J RX8 cX8_setOutFor 2 none ini d 0 0 Post ad 0 0 82 vx_lay μ 0 [(0, vx_r 0), (1, .inl (nI b))] [] := by
    intro Post ini hP
    refine vx_aload_n dX8_setOutFor_0 rfl ?_
    refine vx_getR (ci := 8) (T := TX8) (n := 8) (j := 7) (a := 0) (r := 53) dX8_setOutFor_1 rfl lay_X8 (by decide) wd_350 (by decide) ly_0 rfl ?_
    refine vx_aload_n dX8_setOutFor_4 rfl ?_
    refine vx_getR (ci := 8) (T := TX8) (n := 8) (j := 3) (a := 0) (r := 18) dX8_setOutFor_5 rfl lay_X8 (by decide) wd_346 (by decide) ly_0 rfl ?_
    refine vx_aload_n dX8_setOutFor_8 rfl ?_
    refine vx_getR (ci := 8) (T := TX8) (n := 8) (j := 7) (a := 0) (r := 53) dX8_setOutFor_9 rfl lay_X8 (by decide) wd_350 (by decide) ly_0 rfl ?_
    refine vx_getI (ci := 2) (T := TX2) (n := 6) (j := 1) (a := 53) (v := (nI pl)) dX8_setOutFor_12 rfl lay_X2 (by decide) wd_321 (by decide) ly_53 rfl hp ?_
    refine vx_iload_n dX8_setOutFor_15 rfl ?_
    refine vx_callV (b := 18) (vs := [.inl (nI pl), .inl (nI b)]) (st := [vx_r 53]) (r0 := (some (.inl (sp_btw μ pl b)))) (μ0 := μ) dX8_setOutFor_16 (c_X5_between (d - 1) (by omega) ad μ pl b (by omega) (by omega)) wd_648 wd_606 wd_49 hy_X5_between wd_604 wd_605 (by decide) ly_18 rfl rfl (by omega) (Nat.le_of_ble_eq_true rfl) (Nat.le_of_ble_eq_true rfl) (Nat.le_refl 0) (Nat.le_refl 0) ?_
    refine vx_eq (μ2 := μ) (ls2 := [(0, vx_r 0), (1, .inl (nI b))]) (st2 := [.inl (sp_btw μ pl b), vx_r 53]) rfl rfl rfl ?_
    refine vx_putI (ci := 2) (T := TX2) (n := 6) (j := 2) (a := 53) (ty := .int) (μ2 := (va_up μ 53 (upd (μ 53) 2 (sp_btw μ pl b)))) dX8_setOutFor_19 rfl lay_X2 tyX2_ok nmX2 (by decide) wd_323 rfl rfl rfl rfl (by decide) ly_53 rfl rfl ?_
    refine vx_aload_n dX8_setOutFor_22 rfl ?_
    refine vx_getR (ci := 8) (T := TX8) (n := 8) (j := 7) (a := 0) (r := 53) dX8_setOutFor_23 rfl lay_X8 (by decide) wd_350 (by decide) ly_0 rfl ?_
    refine vx_iload_n dX8_setOutFor_26 rfl ?_
    refine vx_putI (ci := 2) (T := TX2) (n := 6) (j := 1) (a := 53) (ty := .int) (μ2 := (va_up μ 53 (upd (upd (μ 53) 2 (sp_btw μ pl b)) 1 (nI b)))) dX8_setOutFor_27 rfl lay_X2 tyX2_ok nmX2 (by decide) wd_321 rfl rfl rfl rfl (by decide) ly_53 rfl vx_m1 ?_
    exact vx_vret dX8_setOutFor_30 rfl (Nat.le_refl 0) (Nat.le_refl 0) (vx_pst hP rfl rfl)
  exact vx_J.M pn_X8_setOutFor (Nat.le_of_ble_eq_true rfl) (key _ _ ⟨rfl, rfl, rfl, rfl, rfl⟩)
/-- the set's cell when it goes on behind a farm: sp the step, L the plan's length, nx the next farm, if there is one -/
def sp_goOn (μ : vx_mem) (sp L pl nx : Nat) : Nat → Int32 := if sp + 1 < L ∧ ¬ sp_btw μ pl nx = -1 then upd (upd (upd (μ 53) 5 (nI (sp + 1))) 2 (sp_btw μ pl nx)) 1 (nI nx) else upd (upd (μ 53) 5 (nI (sp + 1))) 4 0
set_option maxRecDepth 20000 in
set_option maxHeartbeats 2000000 in
theorem c_X8_goOn (d : Nat) (hd : 3 ≤ d) (ad : Nat → Nat) (μ : vx_mem) (pl sp L nx : Nat) (hp : μ 53 1 = nI pl) (hp8 : pl < 8) (hs : μ 53 5 = nI sp) (hL : μ 47 0 = nI L) (hs7 : sp < L) (hL7 : L ≤ 7) (hx : sp + 1 < L → μ 48 (sp + 1) = nI nx) (hx8 : nx < 8)  : vx_Mf yX8_goOn cX8_goOn 3 none d ad 82 vx_lay μ [vx_r 0] none (va_up μ 53 (sp_goOn μ sp L pl nx)) := by
  have key : ∀ (Post : vx_P) (ini : Bool), Post none ad 82 vx_lay (va_up μ 53 (sp_goOn μ sp L pl nx)) → vx_J RX8 cX8_goOn 3 none ini d 0 0 Post ad 0 0 82 vx_lay μ 0 [(0, vx_r 0)] [] := by
    intro Post ini hP
    refine vx_aload_n dX8_goOn_0 rfl ?_
    refine vx_getR (ci := 8) (T := TX8) (n := 8) (j := 7) (a := 0) (r := 53) dX8_goOn_1 rfl lay_X8 (by decide) wd_350 (by decide) ly_0 rfl ?_
    refine vx_dup dX8_goOn_4 ?_
    refine vx_getI (ci := 2) (T := TX2) (n := 6) (j := 5) (a := 53) (v := (nI sp)) dX8_goOn_5 rfl lay_X2 (by decide) wd_329 (by decide) ly_53 rfl hs ?_
    refine vx_iconst (v := 1) dX8_goOn_8 (by decide) ?_
    refine vx_iadd dX8_goOn_9 ?_
    refine vx_eq (st2 := [.inl (nI (sp + 1)), vx_r 53]) rfl rfl (by rw [nI_1]) ?_
    refine vx_putI (ci := 2) (T := TX2) (n := 6) (j := 5) (a := 53) (ty := .int) (μ2 := (va_up μ 53 (upd (μ 53) 5 (nI (sp + 1))))) dX8_goOn_10 rfl lay_X2 tyX2_ok nmX2 (by decide) wd_329 rfl rfl rfl rfl (by decide) ly_53 rfl rfl ?_
    refine vx_aload_n dX8_goOn_13 rfl ?_
    refine vx_getR (ci := 8) (T := TX8) (n := 8) (j := 7) (a := 0) (r := 53) dX8_goOn_14 rfl lay_X8 (by decide) wd_350 (by decide) ly_0 rfl ?_
    refine vx_getI (ci := 2) (T := TX2) (n := 6) (j := 5) (a := 53) (v := (nI (sp + 1))) dX8_goOn_17 rfl lay_X2 (by decide) wd_329 (by decide) ly_53 rfl rfl ?_
    refine vx_aload_n dX8_goOn_20 rfl ?_
    refine vx_getR (ci := 8) (T := TX8) (n := 8) (j := 6) (a := 0) (r := 47) dX8_goOn_21 rfl lay_X8 (by decide) wd_349 (by decide) ly_0 rfl ?_
    refine vx_getI (ci := 4) (T := TX4) (n := 8) (j := 0) (a := 47) (v := (nI L)) dX8_goOn_24 rfl lay_X4 (by decide) wd_280 (by decide) ly_47 rfl hL ?_
    refine vx_icmp_ge (tgt := 34) dX8_goOn_27 (by decide) (fun c_27 => ?_) (fun c_27 => ?_)
    · have q27 : ¬ sp + 1 < L := by rw [nI_leI (by omega) (by omega)] at c_27; omega
      refine vx_iconst (v := 0) dX8_goOn_34 (by decide) ?_
      refine vx_istore_n (ls2 := [(1, .inl 0), (0, vx_r 0)]) dX8_goOn_35 (by decide) rfl ?_
      refine vx_iload_n dX8_goOn_36 rfl ?_
      refine vx_if_eq (tgt := 60) dX8_goOn_37 (by decide) (fun _ => ?_) (fun h => absurd h (by decide))
      refine vx_aload_n dX8_goOn_60 rfl ?_
      refine vx_getR (ci := 8) (T := TX8) (n := 8) (j := 7) (a := 0) (r := 53) dX8_goOn_61 rfl lay_X8 (by decide) wd_350 (by decide) ly_0 rfl ?_
      refine vx_getI (ci := 2) (T := TX2) (n := 6) (j := 1) (a := 53) (v := (nI pl)) dX8_goOn_64 rfl lay_X2 (by decide) wd_321 (by decide) ly_53 rfl hp ?_
      refine vx_istore_n (ls2 := [(2, .inl (nI pl)), (1, .inl 0), (0, vx_r 0)]) dX8_goOn_67 (by decide) rfl ?_
      refine vx_iload_n dX8_goOn_68 rfl ?_
      refine vx_if_eq (tgt := 99) dX8_goOn_69 (by decide) (fun _ => ?_) (fun h => absurd h (by decide))
      refine vx_aload_n dX8_goOn_99 rfl ?_
      refine vx_getR (ci := 8) (T := TX8) (n := 8) (j := 7) (a := 0) (r := 53) dX8_goOn_100 rfl lay_X8 (by decide) wd_350 (by decide) ly_0 rfl ?_
      refine vx_iconst (v := 0) dX8_goOn_103 (by decide) ?_
      refine vx_putI (ci := 2) (T := TX2) (n := 6) (j := 4) (a := 53) (ty := .boolean) (μ2 := (va_up μ 53 (upd (upd (μ 53) 5 (nI (sp + 1))) 4 0))) dX8_goOn_104 rfl lay_X2 tyX2_ok nmX2 (by decide) wd_327 rfl rfl rfl rfl (by decide) ly_53 rfl vx_m1 ?_
      exact vx_vret dX8_goOn_107 rfl (Nat.le_refl 0) (Nat.le_refl 0) (vx_pst hP rfl (by unfold sp_goOn; rw [if_neg (fun h => absurd h.1 q27)]))
    · have q27 : sp + 1 < L := by rw [nI_leI (by omega) (by omega)] at c_27; omega
      refine vx_iconst (v := 1) dX8_goOn_30 (by decide) ?_
      refine vx_goto (tgt := 35) dX8_goOn_31 (by decide) ?_
      refine vx_istore_n (ls2 := [(1, .inl 1), (0, vx_r 0)]) dX8_goOn_35 (by decide) rfl ?_
      refine vx_iload_n dX8_goOn_36 rfl ?_
      refine vx_if_eq (tgt := 60) dX8_goOn_37 (by decide) (fun h => absurd h (by decide)) (fun _ => ?_)
      refine vx_aload_n dX8_goOn_40 rfl ?_
      refine vx_getR (ci := 8) (T := TX8) (n := 8) (j := 6) (a := 0) (r := 47) dX8_goOn_41 rfl lay_X8 (by decide) wd_349 (by decide) ly_0 rfl ?_
      refine vx_getR (ci := 4) (T := TX4) (n := 8) (j := 3) (a := 47) (r := 48) dX8_goOn_44 rfl lay_X4 (by decide) wd_286 (by decide) ly_47 rfl ?_
      refine vx_aload_n dX8_goOn_47 rfl ?_
      refine vx_getR (ci := 8) (T := TX8) (n := 8) (j := 7) (a := 0) (r := 53) dX8_goOn_48 rfl lay_X8 (by decide) wd_350 (by decide) ly_0 rfl ?_
      refine vx_getI (ci := 2) (T := TX2) (n := 6) (j := 5) (a := 53) (v := (nI (sp + 1))) dX8_goOn_51 rfl lay_X2 (by decide) wd_329 (by decide) ly_53 rfl rfl ?_
      refine vx_callS (vs := [vx_r 48, .inl (nI (sp + 1))]) (st := []) (r0 := (some (.inl (nI nx)))) (μ0 := (va_up μ 53 (upd (μ 53) 5 (nI (sp + 1))))) dX8_goOn_54 ((c_X8_at (d - 1) ad 82 vx_lay (va_up μ 53 (upd (μ 53) 5 (nI (sp + 1)))) 48 7 (by decide) ly_48 (by decide) (nI (sp + 1))).to (congrArg (fun z => some (Sum.inl z)) ((sp_at_nI (k := (sp + 1)) _ (by omega) (by decide)).trans (hx q27))) rfl) wd_550 wd_109 wd_45 hy_X8_at wd_108 (by omega) (Nat.le_of_ble_eq_true rfl) (Nat.le_of_ble_eq_true rfl) (Nat.le_refl 0) (Nat.le_refl 0) ?_
      refine vx_eq (μ2 := (va_up μ 53 (upd (μ 53) 5 (nI (sp + 1))))) (ls2 := [(1, .inl 1), (0, vx_r 0)]) (st2 := [.inl (nI nx)]) rfl rfl rfl ?_
      refine vx_goto (tgt := 67) dX8_goOn_57 (by decide) ?_
      refine vx_istore_n (ls2 := [(2, .inl (nI nx)), (1, .inl 1), (0, vx_r 0)]) dX8_goOn_67 (by decide) rfl ?_
      refine vx_iload_n dX8_goOn_68 rfl ?_
      refine vx_if_eq (tgt := 99) dX8_goOn_69 (by decide) (fun h => absurd h (by decide)) (fun _ => ?_)
      refine vx_aload_n dX8_goOn_72 rfl ?_
      refine vx_getR (ci := 8) (T := TX8) (n := 8) (j := 3) (a := 0) (r := 18) dX8_goOn_73 rfl lay_X8 (by decide) wd_346 (by decide) ly_0 rfl ?_
      refine vx_aload_n dX8_goOn_76 rfl ?_
      refine vx_getR (ci := 8) (T := TX8) (n := 8) (j := 7) (a := 0) (r := 53) dX8_goOn_77 rfl lay_X8 (by decide) wd_350 (by decide) ly_0 rfl ?_
      refine vx_getI (ci := 2) (T := TX2) (n := 6) (j := 1) (a := 53) (v := (nI pl)) dX8_goOn_80 rfl lay_X2 (by decide) wd_321 (by decide) ly_53 rfl hp ?_
      refine vx_iload_n dX8_goOn_83 rfl ?_
      refine vx_callV (b := 18) (vs := [.inl (nI pl), .inl (nI nx)]) (st := []) (r0 := (some (.inl (sp_btw μ pl nx)))) (μ0 := (va_up μ 53 (upd (μ 53) 5 (nI (sp + 1))))) dX8_goOn_84 ((c_X5_between (d - 1) (by omega) ad (va_up μ 53 (upd (μ 53) 5 (nI (sp + 1)))) pl nx (by omega) (by omega)).to (congrArg (fun z => some (Sum.inl z)) (sp_btw_up (by omega) (by decide))) rfl) wd_648 wd_606 wd_49 hy_X5_between wd_604 wd_605 (by decide) ly_18 rfl rfl (by omega) (Nat.le_of_ble_eq_true rfl) (Nat.le_of_ble_eq_true rfl) (Nat.le_refl 0) (Nat.le_refl 0) ?_
      refine vx_eq (μ2 := (va_up μ 53 (upd (μ 53) 5 (nI (sp + 1))))) (ls2 := [(2, .inl (nI nx)), (1, .inl 1), (0, vx_r 0)]) (st2 := [.inl (sp_btw μ pl nx)]) rfl rfl rfl ?_
      refine vx_iconst (v := (-1)) dX8_goOn_87 (by decide) ?_
      refine vx_icmp_eq (tgt := 99) dX8_goOn_88 (by decide) (fun c_88 => ?_) (fun c_88 => ?_)
      · refine vx_aload_n dX8_goOn_99 rfl ?_
        refine vx_getR (ci := 8) (T := TX8) (n := 8) (j := 7) (a := 0) (r := 53) dX8_goOn_100 rfl lay_X8 (by decide) wd_350 (by decide) ly_0 rfl ?_
        refine vx_iconst (v := 0) dX8_goOn_103 (by decide) ?_
        refine vx_putI (ci := 2) (T := TX2) (n := 6) (j := 4) (a := 53) (ty := .boolean) (μ2 := (va_up μ 53 (upd (upd (μ 53) 5 (nI (sp + 1))) 4 0))) dX8_goOn_104 rfl lay_X2 tyX2_ok nmX2 (by decide) wd_327 rfl rfl rfl rfl (by decide) ly_53 rfl vx_m1 ?_
        exact vx_vret dX8_goOn_107 rfl (Nat.le_refl 0) (Nat.le_refl 0) (vx_pst hP rfl (by unfold sp_goOn; rw [if_neg (fun h => h.2 c_88)]))
      · refine vx_aload_n dX8_goOn_91 rfl ?_
        refine vx_iload_n dX8_goOn_92 rfl ?_
        refine vx_callV (b := 0) (vs := [.inl (nI nx)]) (st := []) (r0 := none) (μ0 := (va_up μ 53 (upd (upd (upd (μ 53) 5 (nI (sp + 1))) 2 (sp_btw μ pl nx)) 1 (nI nx)))) dX8_goOn_93 (((c_X8_setOutFor (d - 1) (by omega) ad (va_up μ 53 (upd (μ 53) 5 (nI (sp + 1)))) pl nx hp hp8 (by omega)).to rfl (congrArg (fun z => va_up (va_up μ 53 (upd (μ 53) 5 (nI (sp + 1)))) 53 (upd (upd ((va_up μ 53 (upd (μ 53) 5 (nI (sp + 1)))) 53) 2 z) 1 (nI nx))) (sp_btw_up (by omega) (by decide)))).to rfl vx_m1) wd_649 wd_652 wd_45 hy_X8_setOutFor wd_651 wd_13 (by decide) ly_0 rfl rfl (by omega) (Nat.le_of_ble_eq_true rfl) (Nat.le_of_ble_eq_true rfl) (Nat.le_refl 0) (Nat.le_refl 0) ?_
        refine vx_eq (μ2 := (va_up μ 53 (upd (upd (upd (μ 53) 5 (nI (sp + 1))) 2 (sp_btw μ pl nx)) 1 (nI nx)))) (ls2 := [(2, .inl (nI nx)), (1, .inl 1), (0, vx_r 0)]) (st2 := []) rfl rfl rfl ?_
        refine vx_goto (tgt := 107) dX8_goOn_96 (by decide) ?_
        exact vx_vret dX8_goOn_107 rfl (Nat.le_refl 0) (Nat.le_refl 0) (vx_pst hP rfl (by unfold sp_goOn; rw [if_pos ⟨q27, c_88⟩]))
  exact vx_J.M pn_X8_goOn (Nat.le_of_ble_eq_true rfl) (key _ _ ⟨rfl, rfl, rfl, rfl, rfl⟩)
def sp_sh (μ : vx_mem) (n f : Nat) : Int32 := sp_min (sp_speed μ n f) (μ 8 f)
/-- a day's threshing at f -/
def sp_th1 (μ : vx_mem) (n f : Nat) : vx_mem := va_up (va_up (va_up μ 8 (upd (μ 8) f (μ 8 f - sp_sh μ n f))) 14 (upd (μ 14) f (μ 14 f + 1))) 38 (sp_mix (sp_G μ n f).1 (μ 38))
def sp_th2 (μ : vx_mem) (n f : Nat) : vx_mem := sp_owe (sp_th1 μ n f) (sp_mix (sp_G μ n f).1 (μ 38)) f n
def sp_th3 (μ : vx_mem) (n f : Nat) : vx_mem := va_up (sp_th2 μ n f) 15 (upd (μ 15) f (μ 53 0))
def sp_thr (μ : vx_mem) (n f sp L nx : Nat) : vx_mem := if μ 8 f - sp_sh μ n f ≤ 0 then va_up (sp_th3 μ n f) 53 (sp_goOn (sp_th3 μ n f) sp L f nx) else sp_th2 μ n f
theorem sp_owe_out {μ : vx_mem} {gv : Nat → Int32} {f t p : Nat} (h : p < 30 ∨ 38 ≤ p) : sp_owe μ gv f t p = μ p := by
  funext j
  unfold sp_owe
  rw [if_neg (show ¬ (30 ≤ p ∧ p < 38) by omega)]
theorem sp_th2_8 (μ : vx_mem) (n f : Nat) : sp_th2 μ n f 8 f = μ 8 f - sp_sh μ n f := by
  unfold sp_th2
  rw [sp_owe_out (by decide)]
  show upd (μ 8) f (μ 8 f - sp_sh μ n f) f = _
  simp [upd]
set_option maxRecDepth 20000 in
set_option maxHeartbeats 2000000 in
theorem c_X8_thresh (d : Nat) (hd : 4 ≤ d) (ad : Nat → Nat) (μ : vx_mem) (n : Nat) (hk : sp_ck μ n) (pl sp L nx : Nat) (hp : μ 53 1 = nI pl) (h1 : 1 ≤ pl) (h2 : pl ≤ n) (hs : μ 53 5 = nI sp) (hL : μ 47 0 = nI L) (hs7 : sp < L) (hL7 : L ≤ 7) (hx : sp + 1 < L → μ 48 (sp + 1) = nI nx) (hx8 : nx < 8)  : vx_Mf yX8_thresh cX8_thresh 3 none d ad 82 vx_lay μ [vx_r 0, .inl (nI pl)] none (sp_thr μ n pl sp L nx) := by
  have key : ∀ (Post : vx_P) (ini : Bool), Post none ad 82 vx_lay (sp_thr μ n pl sp L nx) → vx_J RX8 cX8_thresh 3 none ini d 0 0 Post ad 0 0 82 vx_lay μ 0 [(0, vx_r 0), (1, .inl (nI pl))] [] := by
    intro Post ini hP
    have hc := hk.1
    have hn := hk.2.1
    have hp8 : pl < 8 := by omega
    refine vx_aload_n dX8_thresh_0 rfl ?_
    refine vx_iload_n dX8_thresh_1 rfl ?_
    refine vx_callV (b := 0) (vs := [.inl (nI pl)]) (st := []) (r0 := (some (.inl (sp_speed μ n pl)))) (μ0 := (va_up μ 38 (sp_mix (sp_G μ n pl).1 (μ 38)))) dX8_thresh_2 (c_X8_speedOf (d - 1) (by omega) ad μ n hk pl (by omega) (by omega)) wd_551 wd_554 wd_45 hy_X8_speedOf wd_553 wd_7 (by decide) ly_0 rfl rfl (by omega) (Nat.le_of_ble_eq_true rfl) (Nat.le_of_ble_eq_true rfl) (Nat.le_refl 0) (Nat.le_refl 0) ?_
    refine vx_eq (μ2 := (va_up μ 38 (sp_mix (sp_G μ n pl).1 (μ 38)))) (ls2 := [(0, vx_r 0), (1, .inl (nI pl))]) (st2 := [.inl (sp_speed μ n pl)]) rfl rfl rfl ?_
    refine vx_aload_n dX8_thresh_5 rfl ?_
    refine vx_getR (ci := 8) (T := TX8) (n := 8) (j := 2) (a := 0) (r := 6) dX8_thresh_6 rfl lay_X8 (by decide) wd_345 (by decide) ly_0 rfl ?_
    refine vx_getR (ci := 3) (T := TX3) (n := 12) (j := 2) (a := 6) (r := 8) dX8_thresh_9 rfl lay_X3 (by decide) wd_139 (by decide) ly_6 rfl ?_
    refine vx_iload_n dX8_thresh_12 rfl ?_
    refine vx_callS (vs := [vx_r 8, .inl (nI pl)]) (st := [.inl (sp_speed μ n pl)]) (r0 := (some (.inl (μ 8 pl)))) (μ0 := (va_up μ 38 (sp_mix (sp_G μ n pl).1 (μ 38)))) dX8_thresh_13 ((c_X8_at (d - 1) ad 82 vx_lay (va_up μ 38 (sp_mix (sp_G μ n pl).1 (μ 38))) 8 8 (by decide) ly_8 (by decide) (nI pl)).to (by first | rfl | (exact congrArg (fun z => some (Sum.inl z)) (sp_at_nI (k := pl) _ (by omega) (by decide)))) rfl) wd_550 wd_109 wd_45 hy_X8_at wd_108 (by omega) (Nat.le_of_ble_eq_true rfl) (Nat.le_of_ble_eq_true rfl) (Nat.le_refl 0) (Nat.le_refl 0) ?_
    refine vx_eq (μ2 := (va_up μ 38 (sp_mix (sp_G μ n pl).1 (μ 38)))) (ls2 := [(0, vx_r 0), (1, .inl (nI pl))]) (st2 := [.inl (μ 8 pl), .inl (sp_speed μ n pl)]) rfl rfl rfl ?_
    refine vx_mmin dX8_thresh_16 wd_673 (by omega) (Nat.le_of_ble_eq_true rfl) (Nat.le_refl 0) (Nat.le_refl 0) ?_
    refine vx_istore_n (ls2 := [(2, .inl (if (μ 8 pl) < (sp_speed μ n pl) then (μ 8 pl) else (sp_speed μ n pl))), (0, vx_r 0), (1, .inl (nI pl))]) dX8_thresh_19 (by decide) rfl ?_
    refine vx_aload_n dX8_thresh_20 rfl ?_
    refine vx_getR (ci := 8) (T := TX8) (n := 8) (j := 2) (a := 0) (r := 6) dX8_thresh_21 rfl lay_X8 (by decide) wd_345 (by decide) ly_0 rfl ?_
    refine vx_getR (ci := 3) (T := TX3) (n := 12) (j := 2) (a := 6) (r := 8) dX8_thresh_24 rfl lay_X3 (by decide) wd_139 (by decide) ly_6 rfl ?_
    refine vx_iload_n dX8_thresh_27 rfl ?_
    refine vx_aload_n dX8_thresh_28 rfl ?_
    refine vx_getR (ci := 8) (T := TX8) (n := 8) (j := 2) (a := 0) (r := 6) dX8_thresh_29 rfl lay_X8 (by decide) wd_345 (by decide) ly_0 rfl ?_
    refine vx_getR (ci := 3) (T := TX3) (n := 12) (j := 2) (a := 6) (r := 8) dX8_thresh_32 rfl lay_X3 (by decide) wd_139 (by decide) ly_6 rfl ?_
    refine vx_iload_n dX8_thresh_35 rfl ?_
    refine vx_callS (vs := [vx_r 8, .inl (nI pl)]) (st := [.inl (nI pl), vx_r 8]) (r0 := (some (.inl (μ 8 pl)))) (μ0 := (va_up μ 38 (sp_mix (sp_G μ n pl).1 (μ 38)))) dX8_thresh_36 ((c_X8_at (d - 1) ad 82 vx_lay (va_up μ 38 (sp_mix (sp_G μ n pl).1 (μ 38))) 8 8 (by decide) ly_8 (by decide) (nI pl)).to (by first | rfl | (exact congrArg (fun z => some (Sum.inl z)) (sp_at_nI (k := pl) _ (by omega) (by decide)))) rfl) wd_550 wd_109 wd_45 hy_X8_at wd_108 (by omega) (Nat.le_of_ble_eq_true rfl) (Nat.le_of_ble_eq_true rfl) (Nat.le_refl 0) (Nat.le_refl 0) ?_
    refine vx_eq (μ2 := (va_up μ 38 (sp_mix (sp_G μ n pl).1 (μ 38)))) (ls2 := [(2, .inl (if (μ 8 pl) < (sp_speed μ n pl) then (μ 8 pl) else (sp_speed μ n pl))), (0, vx_r 0), (1, .inl (nI pl))]) (st2 := [.inl (μ 8 pl), .inl (nI pl), vx_r 8]) rfl rfl rfl ?_
    refine vx_iload_n dX8_thresh_39 rfl ?_
    refine vx_isub dX8_thresh_40 ?_
    refine vx_callS (vs := [vx_r 8, .inl (nI pl), .inl ((μ 8 pl) - (if (μ 8 pl) < (sp_speed μ n pl) then (μ 8 pl) else (sp_speed μ n pl)))]) (st := []) (r0 := none) (μ0 := (va_up (va_up μ 8 (upd (μ 8) pl ((μ 8 pl) - (if (μ 8 pl) < (sp_speed μ n pl) then (μ 8 pl) else (sp_speed μ n pl))))) 38 (sp_mix (sp_G μ n pl).1 (μ 38)))) dX8_thresh_41 (((c_X8_put (d - 1) ad 82 vx_lay (va_up μ 38 (sp_mix (sp_G μ n pl).1 (μ 38))) 8 8 (by decide) ly_8 (by decide) (nI pl) ((μ 8 pl) - (if (μ 8 pl) < (sp_speed μ n pl) then (μ 8 pl) else (sp_speed μ n pl)))).to rfl (congrArg (fun z => va_up (va_up μ 38 (sp_mix (sp_G μ n pl).1 (μ 38))) 8 z) (sp_put_nI (k := pl) _ _ (by omega) (by decide)))).to rfl (vx_m2 (by decide))) wd_513 wd_102 wd_45 hy_X8_put wd_101 (by omega) (Nat.le_of_ble_eq_true rfl) (Nat.le_of_ble_eq_true rfl) (Nat.le_refl 0) (Nat.le_refl 0) ?_
    refine vx_eq (μ2 := (va_up (va_up μ 8 (upd (μ 8) pl ((μ 8 pl) - (if (μ 8 pl) < (sp_speed μ n pl) then (μ 8 pl) else (sp_speed μ n pl))))) 38 (sp_mix (sp_G μ n pl).1 (μ 38)))) (ls2 := [(2, .inl (if (μ 8 pl) < (sp_speed μ n pl) then (μ 8 pl) else (sp_speed μ n pl))), (0, vx_r 0), (1, .inl (nI pl))]) (st2 := []) rfl rfl rfl ?_
    refine vx_aload_n dX8_thresh_44 rfl ?_
    refine vx_getR (ci := 8) (T := TX8) (n := 8) (j := 2) (a := 0) (r := 6) dX8_thresh_45 rfl lay_X8 (by decide) wd_345 (by decide) ly_0 rfl ?_
    refine vx_getR (ci := 3) (T := TX3) (n := 12) (j := 8) (a := 6) (r := 14) dX8_thresh_48 rfl lay_X3 (by decide) wd_153 (by decide) ly_6 rfl ?_
    refine vx_iload_n dX8_thresh_51 rfl ?_
    refine vx_aload_n dX8_thresh_52 rfl ?_
    refine vx_getR (ci := 8) (T := TX8) (n := 8) (j := 2) (a := 0) (r := 6) dX8_thresh_53 rfl lay_X8 (by decide) wd_345 (by decide) ly_0 rfl ?_
    refine vx_getR (ci := 3) (T := TX3) (n := 12) (j := 8) (a := 6) (r := 14) dX8_thresh_56 rfl lay_X3 (by decide) wd_153 (by decide) ly_6 rfl ?_
    refine vx_iload_n dX8_thresh_59 rfl ?_
    refine vx_callS (vs := [vx_r 14, .inl (nI pl)]) (st := [.inl (nI pl), vx_r 14]) (r0 := (some (.inl (μ 14 pl)))) (μ0 := (va_up (va_up μ 8 (upd (μ 8) pl ((μ 8 pl) - (if (μ 8 pl) < (sp_speed μ n pl) then (μ 8 pl) else (sp_speed μ n pl))))) 38 (sp_mix (sp_G μ n pl).1 (μ 38)))) dX8_thresh_60 ((c_X8_at (d - 1) ad 82 vx_lay (va_up (va_up μ 8 (upd (μ 8) pl ((μ 8 pl) - (if (μ 8 pl) < (sp_speed μ n pl) then (μ 8 pl) else (sp_speed μ n pl))))) 38 (sp_mix (sp_G μ n pl).1 (μ 38))) 14 8 (by decide) ly_14 (by decide) (nI pl)).to (by first | rfl | (exact congrArg (fun z => some (Sum.inl z)) (sp_at_nI (k := pl) _ (by omega) (by decide)))) rfl) wd_550 wd_109 wd_45 hy_X8_at wd_108 (by omega) (Nat.le_of_ble_eq_true rfl) (Nat.le_of_ble_eq_true rfl) (Nat.le_refl 0) (Nat.le_refl 0) ?_
    refine vx_eq (μ2 := (va_up (va_up μ 8 (upd (μ 8) pl ((μ 8 pl) - (if (μ 8 pl) < (sp_speed μ n pl) then (μ 8 pl) else (sp_speed μ n pl))))) 38 (sp_mix (sp_G μ n pl).1 (μ 38)))) (ls2 := [(2, .inl (if (μ 8 pl) < (sp_speed μ n pl) then (μ 8 pl) else (sp_speed μ n pl))), (0, vx_r 0), (1, .inl (nI pl))]) (st2 := [.inl (μ 14 pl), .inl (nI pl), vx_r 14]) rfl rfl rfl ?_
    refine vx_iconst (v := 1) dX8_thresh_63 (by decide) ?_
    refine vx_iadd dX8_thresh_64 ?_
    refine vx_callS (vs := [vx_r 14, .inl (nI pl), .inl ((μ 14 pl) + 1)]) (st := []) (r0 := none) (μ0 := (va_up (va_up (va_up μ 8 (upd (μ 8) pl ((μ 8 pl) - (if (μ 8 pl) < (sp_speed μ n pl) then (μ 8 pl) else (sp_speed μ n pl))))) 14 (upd (μ 14) pl ((μ 14 pl) + 1))) 38 (sp_mix (sp_G μ n pl).1 (μ 38)))) dX8_thresh_65 (((c_X8_put (d - 1) ad 82 vx_lay (va_up (va_up μ 8 (upd (μ 8) pl ((μ 8 pl) - (if (μ 8 pl) < (sp_speed μ n pl) then (μ 8 pl) else (sp_speed μ n pl))))) 38 (sp_mix (sp_G μ n pl).1 (μ 38))) 14 8 (by decide) ly_14 (by decide) (nI pl) ((μ 14 pl) + 1)).to rfl (congrArg (fun z => va_up (va_up (va_up μ 8 (upd (μ 8) pl ((μ 8 pl) - (if (μ 8 pl) < (sp_speed μ n pl) then (μ 8 pl) else (sp_speed μ n pl))))) 38 (sp_mix (sp_G μ n pl).1 (μ 38))) 14 z) (sp_put_nI (k := pl) _ _ (by omega) (by decide)))).to rfl (vx_m2 (by decide))) wd_513 wd_102 wd_45 hy_X8_put wd_101 (by omega) (Nat.le_of_ble_eq_true rfl) (Nat.le_of_ble_eq_true rfl) (Nat.le_refl 0) (Nat.le_refl 0) ?_
    refine vx_eq (μ2 := (va_up (va_up (va_up μ 8 (upd (μ 8) pl ((μ 8 pl) - (if (μ 8 pl) < (sp_speed μ n pl) then (μ 8 pl) else (sp_speed μ n pl))))) 14 (upd (μ 14) pl ((μ 14 pl) + 1))) 38 (sp_mix (sp_G μ n pl).1 (μ 38)))) (ls2 := [(2, .inl (if (μ 8 pl) < (sp_speed μ n pl) then (μ 8 pl) else (sp_speed μ n pl))), (0, vx_r 0), (1, .inl (nI pl))]) (st2 := []) rfl rfl rfl ?_
    refine vx_aload_n dX8_thresh_68 rfl ?_
    refine vx_getR (ci := 8) (T := TX8) (n := 8) (j := 4) (a := 0) (r := 28) dX8_thresh_69 rfl lay_X8 (by decide) wd_347 (by decide) ly_0 rfl ?_
    refine vx_aload_n dX8_thresh_72 rfl ?_
    refine vx_getR (ci := 8) (T := TX8) (n := 8) (j := 2) (a := 0) (r := 6) dX8_thresh_73 rfl lay_X8 (by decide) wd_345 (by decide) ly_0 rfl ?_
    refine vx_getI (ci := 3) (T := TX3) (n := 12) (j := 0) (a := 6) (v := (nI n)) dX8_thresh_76 rfl lay_X3 (by decide) wd_135 (by decide) ly_6 rfl hc ?_
    refine vx_iload_n dX8_thresh_79 rfl ?_
    refine vx_callV (b := 28) (vs := [.inl (nI n), .inl (nI pl)]) (st := []) (r0 := none) (μ0 := (sp_owe (va_up (va_up (va_up μ 8 (upd (μ 8) pl ((μ 8 pl) - (if (μ 8 pl) < (sp_speed μ n pl) then (μ 8 pl) else (sp_speed μ n pl))))) 14 (upd (μ 14) pl ((μ 14 pl) + 1))) 38 (sp_mix (sp_G μ n pl).1 (μ 38))) (sp_mix (sp_G μ n pl).1 (μ 38)) pl n)) dX8_thresh_80 (c_X1_oweTheGivers (d - 1) (by omega) ad (va_up (va_up (va_up μ 8 (upd (μ 8) pl ((μ 8 pl) - (if (μ 8 pl) < (sp_speed μ n pl) then (μ 8 pl) else (sp_speed μ n pl))))) 14 (upd (μ 14) pl ((μ 14 pl) + 1))) 38 (sp_mix (sp_G μ n pl).1 (μ 38))) n pl (by omega) (by omega) (by omega)) wd_674 wd_677 wd_50 hy_X1_oweTheGivers wd_675 wd_676 (by decide) ly_28 rfl rfl (by omega) (Nat.le_of_ble_eq_true rfl) (Nat.le_of_ble_eq_true rfl) (Nat.le_refl 0) (Nat.le_refl 0) ?_
    refine vx_eq (μ2 := (sp_owe (va_up (va_up (va_up μ 8 (upd (μ 8) pl ((μ 8 pl) - (if (μ 8 pl) < (sp_speed μ n pl) then (μ 8 pl) else (sp_speed μ n pl))))) 14 (upd (μ 14) pl ((μ 14 pl) + 1))) 38 (sp_mix (sp_G μ n pl).1 (μ 38))) (sp_mix (sp_G μ n pl).1 (μ 38)) pl n)) (ls2 := [(2, .inl (if (μ 8 pl) < (sp_speed μ n pl) then (μ 8 pl) else (sp_speed μ n pl))), (0, vx_r 0), (1, .inl (nI pl))]) (st2 := []) rfl rfl rfl ?_
    refine vx_eq (μ2 := (sp_th2 μ n pl)) rfl rfl rfl ?_
    refine vx_aload_n dX8_thresh_83 rfl ?_
    refine vx_getR (ci := 8) (T := TX8) (n := 8) (j := 2) (a := 0) (r := 6) dX8_thresh_84 rfl lay_X8 (by decide) wd_345 (by decide) ly_0 rfl ?_
    refine vx_iload_n dX8_thresh_87 rfl ?_
    refine vx_callV (b := 6) (vs := [.inl (nI pl)]) (st := []) (r0 := (some (.inl (sp_pos (sp_th2 μ n pl 8 pl))))) (μ0 := (sp_th2 μ n pl)) dX8_thresh_88 (c_X3_isOpen (d - 1) (by omega) ad (sp_th2 μ n pl) n hc hn pl h1 h2) wd_544 wd_547 wd_48 hy_X3_isOpen wd_545 wd_546 (by decide) ly_6 rfl rfl (by omega) (Nat.le_of_ble_eq_true rfl) (Nat.le_of_ble_eq_true rfl) (Nat.le_refl 0) (Nat.le_refl 0) ?_
    refine vx_eq (μ2 := (sp_th2 μ n pl)) (ls2 := [(2, .inl (if (μ 8 pl) < (sp_speed μ n pl) then (μ 8 pl) else (sp_speed μ n pl))), (0, vx_r 0), (1, .inl (nI pl))]) (st2 := [.inl (sp_pos (sp_th2 μ n pl 8 pl))]) rfl rfl rfl ?_
    refine vx_if_ne (tgt := 116) dX8_thresh_91 (by decide) (fun c_91 => ?_) (fun c_91 => ?_)
    · rw [sp_th2_8] at c_91
      exact vx_vret dX8_thresh_116 rfl (Nat.le_refl 0) (Nat.le_refl 0) (vx_pst hP rfl (by unfold sp_thr; rw [if_neg (show ¬ μ 8 pl - sp_sh μ n pl ≤ 0 from fun h => c_91 (sp_pos0.mpr h))]; try rfl))
    · rw [sp_th2_8] at c_91
      refine vx_aload_n dX8_thresh_94 rfl ?_
      refine vx_getR (ci := 8) (T := TX8) (n := 8) (j := 2) (a := 0) (r := 6) dX8_thresh_95 rfl lay_X8 (by decide) wd_345 (by decide) ly_0 rfl ?_
      refine vx_getR (ci := 3) (T := TX3) (n := 12) (j := 9) (a := 6) (r := 15) dX8_thresh_98 rfl lay_X3 (by decide) wd_155 (by decide) ly_6 rfl ?_
      refine vx_iload_n dX8_thresh_101 rfl ?_
      refine vx_aload_n dX8_thresh_102 rfl ?_
      refine vx_getR (ci := 8) (T := TX8) (n := 8) (j := 7) (a := 0) (r := 53) dX8_thresh_103 rfl lay_X8 (by decide) wd_350 (by decide) ly_0 rfl ?_
      refine vx_getI (ci := 2) (T := TX2) (n := 6) (j := 0) (a := 53) (v := (μ 53 0)) dX8_thresh_106 rfl lay_X2 (by decide) wd_319 (by decide) ly_53 rfl rfl ?_
      refine vx_callS (vs := [vx_r 15, .inl (nI pl), .inl (μ 53 0)]) (st := []) (r0 := none) (μ0 := (va_up (sp_th2 μ n pl) 15 (upd (μ 15) pl (μ 53 0)))) dX8_thresh_109 ((c_X8_put (d - 1) ad 82 vx_lay (sp_th2 μ n pl) 15 8 (by decide) ly_15 (by decide) (nI pl) (μ 53 0)).to rfl (congrArg (fun z => va_up (sp_th2 μ n pl) 15 z) (sp_put_nI (k := pl) _ _ (by omega) (by decide)))) wd_513 wd_102 wd_45 hy_X8_put wd_101 (by omega) (Nat.le_of_ble_eq_true rfl) (Nat.le_of_ble_eq_true rfl) (Nat.le_refl 0) (Nat.le_refl 0) ?_
      refine vx_eq (μ2 := (va_up (sp_th2 μ n pl) 15 (upd (μ 15) pl (μ 53 0)))) (ls2 := [(2, .inl (if (μ 8 pl) < (sp_speed μ n pl) then (μ 8 pl) else (sp_speed μ n pl))), (0, vx_r 0), (1, .inl (nI pl))]) (st2 := []) rfl rfl rfl ?_
      refine vx_aload_n dX8_thresh_112 rfl ?_
      refine vx_callV (b := 0) (vs := []) (st := []) (r0 := none) (μ0 := (va_up (va_up (sp_th2 μ n pl) 15 (upd (μ 15) pl (μ 53 0))) 53 (sp_goOn (va_up (sp_th2 μ n pl) 15 (upd (μ 15) pl (μ 53 0))) sp L pl nx))) dX8_thresh_113 (c_X8_goOn (d - 1) (by omega) ad (va_up (sp_th2 μ n pl) 15 (upd (μ 15) pl (μ 53 0))) pl sp L nx hp (by omega) hs hL hs7 hL7 hx hx8) wd_679 wd_682 wd_45 hy_X8_goOn wd_681 wd_17 (by decide) ly_0 rfl rfl (by omega) (Nat.le_of_ble_eq_true rfl) (Nat.le_of_ble_eq_true rfl) (Nat.le_refl 0) (Nat.le_refl 0) ?_
      refine vx_eq (μ2 := (va_up (va_up (sp_th2 μ n pl) 15 (upd (μ 15) pl (μ 53 0))) 53 (sp_goOn (va_up (sp_th2 μ n pl) 15 (upd (μ 15) pl (μ 53 0))) sp L pl nx))) (ls2 := [(2, .inl (if (μ 8 pl) < (sp_speed μ n pl) then (μ 8 pl) else (sp_speed μ n pl))), (0, vx_r 0), (1, .inl (nI pl))]) (st2 := []) rfl rfl rfl ?_
      exact vx_vret dX8_thresh_116 rfl (Nat.le_refl 0) (Nat.le_refl 0) (vx_pst hP rfl (by unfold sp_thr; rw [if_pos (show μ 8 pl - sp_sh μ n pl ≤ 0 from sp_pos0.mp c_91)]; try rfl))
  exact vx_J.M pn_X8_thresh (Nat.le_of_ble_eq_true rfl) (key _ _ ⟨rfl, rfl, rfl, rfl, rfl⟩)
end
