section
abbrev sp_outOk (μ : vx_mem) (pl fi : Nat) : Prop := ¬ μ 47 0 = 0 ∧ μ 47 2 = 0 ∧ μ 47 1 = μ 53 0 ∧ ¬ sp_btw μ pl fi = -1
def sp_outM (μ : vx_mem) (pl fi : Nat) : vx_mem := va_up (va_up μ 47 (upd (μ 47) 2 1)) 53 (upd (upd (upd (upd (μ 53) 4 1) 5 0) 2 (sp_btw μ pl fi)) 1 (nI fi))
set_option maxRecDepth 20000 in
set_option maxHeartbeats 2000000 in
theorem c_X8_out (d : Nat) (hd : 3 ≤ d) (ad : Nat → Nat) (μ : vx_mem) (pl fi : Nat) (hp : μ 53 1 = nI pl) (hp8 : pl < 8) (hf : ¬ μ 47 0 = 0 → μ 48 0 = nI fi) (hf8 : fi < 8) : vx_Mf yX8_out cX8_out 2 (some (.boolean)) d ad 82 vx_lay μ [vx_r 0] (some (.inl (if sp_outOk μ pl fi then 1 else 0))) (if sp_outOk μ pl fi then sp_outM μ pl fi else μ) := by
  have key : ∀ (Post : vx_P) (ini : Bool), Post (some (.inl (if sp_outOk μ pl fi then 1 else 0))) ad 82 vx_lay (if sp_outOk μ pl fi then sp_outM μ pl fi else μ) → vx_J RX8 cX8_out 2 (some (.boolean)) ini d 0 0 Post ad 0 0 82 vx_lay μ 0 [(0, vx_r 0)] [] := by
    intro Post ini hP
    refine vx_aload_n dX8_out_0 rfl ?_
    refine vx_getR (ci := 8) (T := TX8) (n := 8) (j := 6) (a := 0) (r := 47) dX8_out_1 rfl lay_X8 (by decide) wd_349 (by decide) ly_0 rfl ?_
    refine vx_getI (ci := 4) (T := TX4) (n := 8) (j := 0) (a := 47) (v := (μ 47 0)) dX8_out_4 rfl lay_X4 (by decide) wd_280 (by decide) ly_47 rfl rfl ?_
    refine vx_if_eq (tgt := 37) dX8_out_7 (by decide) (fun c_7 => ?_) (fun c_7 => ?_)
    · refine vx_iconst (v := 0) dX8_out_37 (by decide) ?_
      exact vx_ret (ty := .boolean) dX8_out_38 rfl rfl (Nat.le_refl 0) (Nat.le_refl 0) (vx_pst hP (by rw [if_neg (show ¬ sp_outOk μ pl fi from fun h => h.1 c_7)]) (by rw [if_neg (show ¬ sp_outOk μ pl fi from fun h => h.1 c_7)]))
    · refine vx_aload_n dX8_out_10 rfl ?_
      refine vx_getR (ci := 8) (T := TX8) (n := 8) (j := 6) (a := 0) (r := 47) dX8_out_11 rfl lay_X8 (by decide) wd_349 (by decide) ly_0 rfl ?_
      refine vx_getI (ci := 4) (T := TX4) (n := 8) (j := 2) (a := 47) (v := (μ 47 2)) dX8_out_14 rfl lay_X4 (by decide) wd_284 (by decide) ly_47 rfl rfl ?_
      refine vx_if_ne (tgt := 37) dX8_out_17 (by decide) (fun c_17 => ?_) (fun c_17 => ?_)
      · refine vx_iconst (v := 0) dX8_out_37 (by decide) ?_
        exact vx_ret (ty := .boolean) dX8_out_38 rfl rfl (Nat.le_refl 0) (Nat.le_refl 0) (vx_pst hP (by rw [if_neg (show ¬ sp_outOk μ pl fi from fun h => c_17 h.2.1)]) (by rw [if_neg (show ¬ sp_outOk μ pl fi from fun h => c_17 h.2.1)]))
      · refine vx_aload_n dX8_out_20 rfl ?_
        refine vx_getR (ci := 8) (T := TX8) (n := 8) (j := 6) (a := 0) (r := 47) dX8_out_21 rfl lay_X8 (by decide) wd_349 (by decide) ly_0 rfl ?_
        refine vx_getI (ci := 4) (T := TX4) (n := 8) (j := 1) (a := 47) (v := (μ 47 1)) dX8_out_24 rfl lay_X4 (by decide) wd_282 (by decide) ly_47 rfl rfl ?_
        refine vx_aload_n dX8_out_27 rfl ?_
        refine vx_getR (ci := 8) (T := TX8) (n := 8) (j := 7) (a := 0) (r := 53) dX8_out_28 rfl lay_X8 (by decide) wd_350 (by decide) ly_0 rfl ?_
        refine vx_getI (ci := 2) (T := TX2) (n := 6) (j := 0) (a := 53) (v := (μ 53 0)) dX8_out_31 rfl lay_X2 (by decide) wd_319 (by decide) ly_53 rfl rfl ?_
        refine vx_icmp_eq (tgt := 39) dX8_out_34 (by decide) (fun c_34 => ?_) (fun c_34 => ?_)
        · refine vx_aload_n dX8_out_39 rfl ?_
          refine vx_getR (ci := 8) (T := TX8) (n := 8) (j := 6) (a := 0) (r := 47) dX8_out_40 rfl lay_X8 (by decide) wd_349 (by decide) ly_0 rfl ?_
          refine vx_getR (ci := 4) (T := TX4) (n := 8) (j := 3) (a := 47) (r := 48) dX8_out_43 rfl lay_X4 (by decide) wd_286 (by decide) ly_47 rfl ?_
          refine vx_iconst (v := 0) dX8_out_46 (by decide) ?_
          refine vx_callS (vs := [vx_r 48, .inl 0]) (st := []) (r0 := (some (.inl (nI fi)))) (μ0 := μ) dX8_out_47 ((c_X8_at (d - 1) ad 82 vx_lay μ 48 7 (by decide) ly_48 (by decide) 0).to (congrArg (fun z => some (Sum.inl z)) ((sp_at_nI (k := 0) _ (by omega) (by decide)).trans (hf c_7))) rfl) wd_550 wd_109 wd_45 hy_X8_at wd_108 (by omega) (Nat.le_of_ble_eq_true rfl) (Nat.le_of_ble_eq_true rfl) (Nat.le_refl 0) (Nat.le_refl 0) ?_
          refine vx_eq (μ2 := μ) (ls2 := [(0, vx_r 0)]) (st2 := [.inl (nI fi)]) rfl rfl rfl ?_
          refine vx_istore_n (ls2 := [(1, .inl (nI fi)), (0, vx_r 0)]) dX8_out_50 (by decide) rfl ?_
          refine vx_aload_n dX8_out_51 rfl ?_
          refine vx_getR (ci := 8) (T := TX8) (n := 8) (j := 3) (a := 0) (r := 18) dX8_out_52 rfl lay_X8 (by decide) wd_346 (by decide) ly_0 rfl ?_
          refine vx_aload_n dX8_out_55 rfl ?_
          refine vx_getR (ci := 8) (T := TX8) (n := 8) (j := 7) (a := 0) (r := 53) dX8_out_56 rfl lay_X8 (by decide) wd_350 (by decide) ly_0 rfl ?_
          refine vx_getI (ci := 2) (T := TX2) (n := 6) (j := 1) (a := 53) (v := (nI pl)) dX8_out_59 rfl lay_X2 (by decide) wd_321 (by decide) ly_53 rfl hp ?_
          refine vx_iload_n dX8_out_62 rfl ?_
          refine vx_callV (b := 18) (vs := [.inl (nI pl), .inl (nI fi)]) (st := []) (r0 := (some (.inl (sp_btw μ pl fi)))) (μ0 := μ) dX8_out_63 (c_X5_between (d - 1) (by omega) ad μ pl fi (by omega) (by omega)) wd_648 wd_606 wd_49 hy_X5_between wd_604 wd_605 (by decide) ly_18 rfl rfl (by omega) (Nat.le_of_ble_eq_true rfl) (Nat.le_of_ble_eq_true rfl) (Nat.le_refl 0) (Nat.le_refl 0) ?_
          refine vx_eq (μ2 := μ) (ls2 := [(1, .inl (nI fi)), (0, vx_r 0)]) (st2 := [.inl (sp_btw μ pl fi)]) rfl rfl rfl ?_
          refine vx_iconst (v := (-1)) dX8_out_66 (by decide) ?_
          refine vx_icmp_ne (tgt := 72) dX8_out_67 (by decide) (fun c_67 => ?_) (fun c_67 => ?_)
          · refine vx_aload_n dX8_out_72 rfl ?_
            refine vx_getR (ci := 8) (T := TX8) (n := 8) (j := 6) (a := 0) (r := 47) dX8_out_73 rfl lay_X8 (by decide) wd_349 (by decide) ly_0 rfl ?_
            refine vx_iconst (v := 1) dX8_out_76 (by decide) ?_
            refine vx_putI (ci := 4) (T := TX4) (n := 8) (j := 2) (a := 47) (ty := .boolean) (μ2 := (va_up μ 47 (upd (μ 47) 2 1))) dX8_out_77 rfl lay_X4 tyX4_ok nmX4 (by decide) wd_284 rfl rfl rfl rfl (by decide) ly_47 rfl rfl ?_
            refine vx_aload_n dX8_out_80 rfl ?_
            refine vx_getR (ci := 8) (T := TX8) (n := 8) (j := 7) (a := 0) (r := 53) dX8_out_81 rfl lay_X8 (by decide) wd_350 (by decide) ly_0 rfl ?_
            refine vx_iconst (v := 1) dX8_out_84 (by decide) ?_
            refine vx_putI (ci := 2) (T := TX2) (n := 6) (j := 4) (a := 53) (ty := .boolean) (μ2 := (va_up (va_up μ 47 (upd (μ 47) 2 1)) 53 (upd (μ 53) 4 1))) dX8_out_85 rfl lay_X2 tyX2_ok nmX2 (by decide) wd_327 rfl rfl rfl rfl (by decide) ly_53 rfl rfl ?_
            refine vx_aload_n dX8_out_88 rfl ?_
            refine vx_getR (ci := 8) (T := TX8) (n := 8) (j := 7) (a := 0) (r := 53) dX8_out_89 rfl lay_X8 (by decide) wd_350 (by decide) ly_0 rfl ?_
            refine vx_iconst (v := 0) dX8_out_92 (by decide) ?_
            refine vx_putI (ci := 2) (T := TX2) (n := 6) (j := 5) (a := 53) (ty := .int) (μ2 := (va_up (va_up μ 47 (upd (μ 47) 2 1)) 53 (upd (upd (μ 53) 4 1) 5 0))) dX8_out_93 rfl lay_X2 tyX2_ok nmX2 (by decide) wd_329 rfl rfl rfl rfl (by decide) ly_53 rfl vx_m1 ?_
            refine vx_aload_n dX8_out_96 rfl ?_
            refine vx_iload_n dX8_out_97 rfl ?_
            refine vx_callV (b := 0) (vs := [.inl (nI fi)]) (st := []) (r0 := none) (μ0 := (va_up (va_up μ 47 (upd (μ 47) 2 1)) 53 (upd (upd (upd (upd (μ 53) 4 1) 5 0) 2 (sp_btw μ pl fi)) 1 (nI fi)))) dX8_out_98 (((c_X8_setOutFor (d - 1) (by omega) ad (va_up (va_up μ 47 (upd (μ 47) 2 1)) 53 (upd (upd (μ 53) 4 1) 5 0)) pl fi hp hp8 (by omega)).to rfl (congrArg (fun z => va_up (va_up (va_up μ 47 (upd (μ 47) 2 1)) 53 (upd (upd (μ 53) 4 1) 5 0)) 53 (upd (upd ((va_up (va_up μ 47 (upd (μ 47) 2 1)) 53 (upd (upd (μ 53) 4 1) 5 0)) 53) 2 z) 1 (nI fi))) ((sp_btw_up (by omega) (by decide)).trans (sp_btw_up (by omega) (by decide))))).to rfl vx_m1) wd_649 wd_652 wd_45 hy_X8_setOutFor wd_651 wd_13 (by decide) ly_0 rfl rfl (by omega) (Nat.le_of_ble_eq_true rfl) (Nat.le_of_ble_eq_true rfl) (Nat.le_refl 0) (Nat.le_refl 0) ?_
            refine vx_eq (μ2 := (va_up (va_up μ 47 (upd (μ 47) 2 1)) 53 (upd (upd (upd (upd (μ 53) 4 1) 5 0) 2 (sp_btw μ pl fi)) 1 (nI fi)))) (ls2 := [(1, .inl (nI fi)), (0, vx_r 0)]) (st2 := []) rfl rfl rfl ?_
            refine vx_iconst (v := 1) dX8_out_101 (by decide) ?_
            exact vx_ret (ty := .boolean) dX8_out_102 rfl rfl (Nat.le_refl 0) (Nat.le_refl 0) (vx_pst hP (by rw [if_pos (show sp_outOk μ pl fi from ⟨c_7, c_17, c_34, c_67⟩)]) (by rw [if_pos (show sp_outOk μ pl fi from ⟨c_7, c_17, c_34, c_67⟩)]; rfl))
          · refine vx_iconst (v := 0) dX8_out_70 (by decide) ?_
            exact vx_ret (ty := .boolean) dX8_out_71 rfl rfl (Nat.le_refl 0) (Nat.le_refl 0) (vx_pst hP (by rw [if_neg (show ¬ sp_outOk μ pl fi from fun h => h.2.2.2 c_67)]) (by rw [if_neg (show ¬ sp_outOk μ pl fi from fun h => h.2.2.2 c_67)]))
        · refine vx_iconst (v := 0) dX8_out_37 (by decide) ?_
          exact vx_ret (ty := .boolean) dX8_out_38 rfl rfl (Nat.le_refl 0) (Nat.le_refl 0) (vx_pst hP (by rw [if_neg (show ¬ sp_outOk μ pl fi from fun h => c_34 h.2.2.1)]) (by rw [if_neg (show ¬ sp_outOk μ pl fi from fun h => c_34 h.2.2.1)]))
  exact vx_J.M pn_X8_out (Nat.le_of_ble_eq_true rfl) (key _ _ ⟨rfl, rfl, rfl, rfl, rfl⟩)
def sp_fault (μ : vx_mem) (x : Int32) : Int32 := if x = 0 then μ 3 2 else if x = 1 then μ 3 3 else -1
theorem sp_in_far {f : Int32} {n : Nat} {c : Int32} (hc : c = nI n) (hn : n ≤ 7) (h : ¬ sp_in f 1 c = 0) : ∃ k, f = nI k ∧ 1 ≤ k ∧ k ≤ n := by
  rw [sp_in0, hc] at h
  obtain ⟨h1, h2⟩ := Decidable.not_not.mp h
  rw [zz_le] at h1 h2
  have e1 : (1 : Int32).toInt = 1 := by decide
  have e2 : (nI n).toInt = n := nI_toInt (by omega)
  refine ⟨f.toInt.toNat, ?_, by omega, by omega⟩
  apply Int32.toInt_inj.mp
  rw [nI_toInt (by omega)]
  omega
theorem sp_in_no {f c : Int32} {a : Nat} (h : sp_in f 1 c = 0) : sp_in f 1 c = 0 := h
set_option maxRecDepth 20000 in
set_option maxHeartbeats 2000000 in
theorem c_X8_fault (d : Nat) (ad : Nat → Nat) (μ : vx_mem) (x : Int32) : vx_Mf yX8_fault cX8_fault 2 (some (.int)) d ad 82 vx_lay μ [vx_r 0, .inl x] (some (.inl (sp_fault μ x))) μ := by
  have key : ∀ (Post : vx_P) (ini : Bool), Post (some (.inl (sp_fault μ x))) ad 82 vx_lay μ → vx_J RX8 cX8_fault 2 (some (.int)) ini d 0 0 Post ad 0 0 82 vx_lay μ 0 [(0, vx_r 0), (1, .inl x)] [] := by
    intro Post ini hP
    refine vx_iload_n dX8_fault_0 rfl ?_
    by_cases e1_0 : x = 0
    · refine vx_eq (st2 := [.inl 0]) rfl rfl (by rw [e1_0]) ?_
      refine vx_lksw (off := 27) (tgt := 28) dX8_fault_1 (by decide) rfl (by decide) ?_
      refine vx_aload_n dX8_fault_28 rfl ?_
      refine vx_getR (ci := 8) (T := TX8) (n := 8) (j := 1) (a := 0) (r := 3) dX8_fault_29 rfl lay_X8 (by decide) wd_344 (by decide) ly_0 rfl ?_
      refine vx_getI (ci := 0) (T := TX0) (n := 4) (j := 2) (a := 3) (v := (μ 3 2)) dX8_fault_32 rfl lay_X0 (by decide) wd_115 (by decide) ly_3 rfl rfl ?_
      exact vx_ret (ty := .int) dX8_fault_35 rfl rfl (Nat.le_refl 0) (Nat.le_refl 0) (vx_pst hP (by unfold sp_fault; rw [e1_0]; rfl) rfl)
    by_cases e1_1 : x = 1
    · refine vx_eq (st2 := [.inl 1]) rfl rfl (by rw [e1_1]) ?_
      refine vx_lksw (off := 35) (tgt := 36) dX8_fault_1 (by decide) rfl (by decide) ?_
      refine vx_aload_n dX8_fault_36 rfl ?_
      refine vx_getR (ci := 8) (T := TX8) (n := 8) (j := 1) (a := 0) (r := 3) dX8_fault_37 rfl lay_X8 (by decide) wd_344 (by decide) ly_0 rfl ?_
      refine vx_getI (ci := 0) (T := TX0) (n := 4) (j := 3) (a := 3) (v := (μ 3 3)) dX8_fault_40 rfl lay_X0 (by decide) wd_117 (by decide) ly_3 rfl rfl ?_
      exact vx_ret (ty := .int) dX8_fault_43 rfl rfl (Nat.le_refl 0) (Nat.le_refl 0) (vx_pst hP (by unfold sp_fault; rw [e1_1]; rfl) rfl)
    refine vx_lksw (off := 43) (tgt := 44) dX8_fault_1 (by decide) ((lv_osw e1_0 (by decide)).trans ((lv_osw e1_1 (by decide)).trans rfl)) (by decide) ?_
    refine vx_iconst (v := (-1)) dX8_fault_44 (by decide) ?_
    exact vx_ret (ty := .int) dX8_fault_45 rfl rfl (Nat.le_refl 0) (Nat.le_refl 0) (vx_pst hP (by unfold sp_fault; rw [if_neg e1_0, if_neg e1_1]) rfl)
  exact vx_J.M pn_X8_fault (Nat.le_of_ble_eq_true rfl) (key _ _ ⟨rfl, rfl, rfl, rfl, rfl⟩)
def sp_two (μ : vx_mem) (a b : Int32) : Int32 := if sp_in a 1 (μ 6 0) = 0 then 0 else if sp_in b 1 (μ 6 0) = 0 then 0 else if a = b then 0 else 1
set_option maxRecDepth 20000 in
set_option maxHeartbeats 2000000 in
theorem c_X8_areTwoFarms (d : Nat) (hd : 1 ≤ d) (ad : Nat → Nat) (μ : vx_mem) (a b : Int32) : vx_Mf yX8_areTwoFarms cX8_areTwoFarms 3 (some (.boolean)) d ad 82 vx_lay μ [vx_r 0, .inl a, .inl b] (some (.inl (sp_two μ a b))) μ := by
  have key : ∀ (Post : vx_P) (ini : Bool), Post (some (.inl (sp_two μ a b))) ad 82 vx_lay μ → vx_J RX8 cX8_areTwoFarms 3 (some (.boolean)) ini d 0 0 Post ad 0 0 82 vx_lay μ 0 [(0, vx_r 0), (1, .inl a), (2, .inl b)] [] := by
    intro Post ini hP
    refine vx_aload_n dX8_areTwoFarms_0 rfl ?_
    refine vx_getR (ci := 8) (T := TX8) (n := 8) (j := 2) (a := 0) (r := 6) dX8_areTwoFarms_1 rfl lay_X8 (by decide) wd_345 (by decide) ly_0 rfl ?_
    refine vx_iload_n dX8_areTwoFarms_4 rfl ?_
    refine vx_callV (b := 6) (vs := [.inl a]) (st := []) (r0 := (some (.inl (sp_in a 1 (μ 6 0))))) (μ0 := μ) dX8_areTwoFarms_5 (c_X3_has (d - 1) ad μ a) wd_522 wd_525 wd_48 hy_X3_has wd_523 wd_524 (by decide) ly_6 rfl rfl (by omega) (Nat.le_of_ble_eq_true rfl) (Nat.le_of_ble_eq_true rfl) (Nat.le_refl 0) (Nat.le_refl 0) ?_
    refine vx_eq (μ2 := μ) (ls2 := [(0, vx_r 0), (1, .inl a), (2, .inl b)]) (st2 := [.inl (sp_in a 1 (μ 6 0))]) rfl rfl rfl ?_
    refine vx_if_eq (tgt := 31) dX8_areTwoFarms_8 (by decide) (fun c_8 => ?_) (fun c_8 => ?_)
    · refine vx_iconst (v := 0) dX8_areTwoFarms_31 (by decide) ?_
      exact vx_ret (ty := .boolean) dX8_areTwoFarms_32 rfl rfl (Nat.le_refl 0) (Nat.le_refl 0) (vx_pst hP (by simp [sp_two, *]) rfl)
    · refine vx_aload_n dX8_areTwoFarms_11 rfl ?_
      refine vx_getR (ci := 8) (T := TX8) (n := 8) (j := 2) (a := 0) (r := 6) dX8_areTwoFarms_12 rfl lay_X8 (by decide) wd_345 (by decide) ly_0 rfl ?_
      refine vx_iload_n dX8_areTwoFarms_15 rfl ?_
      refine vx_callV (b := 6) (vs := [.inl b]) (st := []) (r0 := (some (.inl (sp_in b 1 (μ 6 0))))) (μ0 := μ) dX8_areTwoFarms_16 (c_X3_has (d - 1) ad μ b) wd_522 wd_525 wd_48 hy_X3_has wd_523 wd_524 (by decide) ly_6 rfl rfl (by omega) (Nat.le_of_ble_eq_true rfl) (Nat.le_of_ble_eq_true rfl) (Nat.le_refl 0) (Nat.le_refl 0) ?_
      refine vx_eq (μ2 := μ) (ls2 := [(0, vx_r 0), (1, .inl a), (2, .inl b)]) (st2 := [.inl (sp_in b 1 (μ 6 0))]) rfl rfl rfl ?_
      refine vx_if_eq (tgt := 31) dX8_areTwoFarms_19 (by decide) (fun c_19 => ?_) (fun c_19 => ?_)
      · refine vx_iconst (v := 0) dX8_areTwoFarms_31 (by decide) ?_
        exact vx_ret (ty := .boolean) dX8_areTwoFarms_32 rfl rfl (Nat.le_refl 0) (Nat.le_refl 0) (vx_pst hP (by simp [sp_two, *]) rfl)
      · refine vx_iload_n dX8_areTwoFarms_22 rfl ?_
        refine vx_iload_n dX8_areTwoFarms_23 rfl ?_
        refine vx_icmp_eq (tgt := 31) dX8_areTwoFarms_24 (by decide) (fun c_24 => ?_) (fun c_24 => ?_)
        · refine vx_iconst (v := 0) dX8_areTwoFarms_31 (by decide) ?_
          exact vx_ret (ty := .boolean) dX8_areTwoFarms_32 rfl rfl (Nat.le_refl 0) (Nat.le_refl 0) (vx_pst hP (by simp [sp_two, *]) rfl)
        · refine vx_iconst (v := 1) dX8_areTwoFarms_27 (by decide) ?_
          refine vx_goto (tgt := 32) dX8_areTwoFarms_28 (by decide) ?_
          exact vx_ret (ty := .boolean) dX8_areTwoFarms_32 rfl rfl (Nat.le_refl 0) (Nat.le_refl 0) (vx_pst hP (by simp [sp_two, *]) rfl)
  exact vx_J.M pn_X8_areTwoFarms (Nat.le_of_ble_eq_true rfl) (key _ _ ⟨rfl, rfl, rfl, rfl, rfl⟩)
def sp_plc (μ : vx_mem) (a : Int32) : Int32 := if a = 0 then 1 else if sp_in a 1 (μ 6 0) = 0 then 0 else 1
set_option maxRecDepth 20000 in
set_option maxHeartbeats 2000000 in
theorem c_X8_isPlace (d : Nat) (hd : 1 ≤ d) (ad : Nat → Nat) (μ : vx_mem) (a : Int32) : vx_Mf yX8_isPlace cX8_isPlace 2 (some (.boolean)) d ad 82 vx_lay μ [vx_r 0, .inl a] (some (.inl (sp_plc μ a))) μ := by
  have key : ∀ (Post : vx_P) (ini : Bool), Post (some (.inl (sp_plc μ a))) ad 82 vx_lay μ → vx_J RX8 cX8_isPlace 2 (some (.boolean)) ini d 0 0 Post ad 0 0 82 vx_lay μ 0 [(0, vx_r 0), (1, .inl a)] [] := by
    intro Post ini hP
    refine vx_iload_n dX8_isPlace_0 rfl ?_
    refine vx_if_eq (tgt := 15) dX8_isPlace_1 (by decide) (fun c_1 => ?_) (fun c_1 => ?_)
    · refine vx_iconst (v := 1) dX8_isPlace_15 (by decide) ?_
      refine vx_goto (tgt := 20) dX8_isPlace_16 (by decide) ?_
      exact vx_ret (ty := .boolean) dX8_isPlace_20 rfl rfl (Nat.le_refl 0) (Nat.le_refl 0) (vx_pst hP (by simp [sp_plc, *]) rfl)
    · refine vx_aload_n dX8_isPlace_4 rfl ?_
      refine vx_getR (ci := 8) (T := TX8) (n := 8) (j := 2) (a := 0) (r := 6) dX8_isPlace_5 rfl lay_X8 (by decide) wd_345 (by decide) ly_0 rfl ?_
      refine vx_iload_n dX8_isPlace_8 rfl ?_
      refine vx_callV (b := 6) (vs := [.inl a]) (st := []) (r0 := (some (.inl (sp_in a 1 (μ 6 0))))) (μ0 := μ) dX8_isPlace_9 (c_X3_has (d - 1) ad μ a) wd_522 wd_525 wd_48 hy_X3_has wd_523 wd_524 (by decide) ly_6 rfl rfl (by omega) (Nat.le_of_ble_eq_true rfl) (Nat.le_of_ble_eq_true rfl) (Nat.le_refl 0) (Nat.le_refl 0) ?_
      refine vx_eq (μ2 := μ) (ls2 := [(0, vx_r 0), (1, .inl a)]) (st2 := [.inl (sp_in a 1 (μ 6 0))]) rfl rfl rfl ?_
      refine vx_if_eq (tgt := 19) dX8_isPlace_12 (by decide) (fun c_12 => ?_) (fun c_12 => ?_)
      · refine vx_iconst (v := 0) dX8_isPlace_19 (by decide) ?_
        exact vx_ret (ty := .boolean) dX8_isPlace_20 rfl rfl (Nat.le_refl 0) (Nat.le_refl 0) (vx_pst hP (by simp [sp_plc, *]) rfl)
      · refine vx_iconst (v := 1) dX8_isPlace_15 (by decide) ?_
        refine vx_goto (tgt := 20) dX8_isPlace_16 (by decide) ?_
        exact vx_ret (ty := .boolean) dX8_isPlace_20 rfl rfl (Nat.le_refl 0) (Nat.le_refl 0) (vx_pst hP (by simp [sp_plc, *]) rfl)
  exact vx_J.M pn_X8_isPlace (Nat.le_of_ble_eq_true rfl) (key _ _ ⟨rfl, rfl, rfl, rfl, rfl⟩)
theorem sp_two_far {μ : vx_mem} {a b : Int32} {n : Nat} (hc : μ 6 0 = nI n) (hn : n ≤ 7) (h : ¬ sp_two μ a b = 0) : ∃ i j, a = nI i ∧ b = nI j ∧ 1 ≤ i ∧ i ≤ n ∧ 1 ≤ j ∧ j ≤ n ∧ i ≠ j := by
  unfold sp_two at h
  split at h
  · exact absurd rfl h
  · rename_i q1
    split at h
    · exact absurd rfl h
    · rename_i q2
      split at h
      · exact absurd rfl h
      · rename_i q3
        obtain ⟨i, rfl, h1, h2⟩ := sp_in_far hc hn q1
        obtain ⟨j, rfl, h3, h4⟩ := sp_in_far hc hn q2
        exact ⟨i, j, rfl, rfl, h1, h2, h3, h4, fun e => q3 (by rw [e])⟩
theorem sp_plc_far {μ : vx_mem} {a : Int32} {n : Nat} (hc : μ 6 0 = nI n) (hn : n ≤ 7) (h : ¬ sp_plc μ a = 0) : ∃ i, a = nI i ∧ i ≤ n := by
  unfold sp_plc at h
  split at h
  · rename_i q
    exact ⟨0, q, by omega⟩
  · split at h
    · exact absurd rfl h
    · rename_i q1
      obtain ⟨i, rfl, h1, h2⟩ := sp_in_far hc hn q1
      exact ⟨i, rfl, h2⟩
def sp_owed (μ : vx_mem) (a b : Int32) : Int32 := if sp_two μ a b = 0 then -2147483648 else μ (30 + a.toNatClampNeg) b.toNatClampNeg
set_option maxRecDepth 20000 in
set_option maxHeartbeats 2000000 in
theorem c_X8_owed (d : Nat) (hd : 2 ≤ d) (ad : Nat → Nat) (μ : vx_mem) (n : Nat) (hc : μ 6 0 = nI n) (hn : n ≤ 7) (a b : Int32) : vx_Mf yX8_owed cX8_owed 3 (some (.int)) d ad 82 vx_lay μ [vx_r 0, .inl a, .inl b] (some (.inl (if sp_two μ a b = 0 then -2147483648 else μ (30 + a.toNatClampNeg) b.toNatClampNeg))) μ := by
  have key : ∀ (Post : vx_P) (ini : Bool), Post (some (.inl (if sp_two μ a b = 0 then -2147483648 else μ (30 + a.toNatClampNeg) b.toNatClampNeg))) ad 82 vx_lay μ → vx_J RX8 cX8_owed 3 (some (.int)) ini d 0 0 Post ad 0 0 82 vx_lay μ 0 [(0, vx_r 0), (1, .inl a), (2, .inl b)] [] := by
    intro Post ini hP
    refine vx_aload_n dX8_owed_0 rfl ?_
    refine vx_iload_n dX8_owed_1 rfl ?_
    refine vx_iload_n dX8_owed_2 rfl ?_
    refine vx_callV (b := 0) (vs := [.inl a, .inl b]) (st := []) (r0 := (some (.inl (sp_two μ a b)))) (μ0 := μ) dX8_owed_3 (c_X8_areTwoFarms (d - 1) (by omega) ad μ a b) wd_707 wd_710 wd_45 hy_X8_areTwoFarms wd_709 wd_22 (by decide) ly_0 rfl rfl (by omega) (Nat.le_of_ble_eq_true rfl) (Nat.le_of_ble_eq_true rfl) (Nat.le_refl 0) (Nat.le_refl 0) ?_
    refine vx_eq (μ2 := μ) (ls2 := [(0, vx_r 0), (1, .inl a), (2, .inl b)]) (st2 := [.inl (sp_two μ a b)]) rfl rfl rfl ?_
    refine vx_if_eq (tgt := 24) dX8_owed_6 (by decide) (fun c_6 => ?_) (fun c_6 => ?_)
    · refine vx_ldc (v := (-2147483648)) dX8_owed_24 wd_712 ?_
      exact vx_ret (ty := .int) dX8_owed_26 rfl rfl (Nat.le_refl 0) (Nat.le_refl 0) (vx_pst hP (by rw [if_pos c_6]) rfl)
    · obtain ⟨i, j, rfl, rfl, hi1, hi2, hj1, hj2, hij⟩ := sp_two_far hc hn c_6
      rw [if_neg c_6, nI_clamp (by omega), nI_clamp (by omega)] at hP
      refine vx_aload_n dX8_owed_9 rfl ?_
      refine vx_getR (ci := 8) (T := TX8) (n := 8) (j := 4) (a := 0) (r := 28) dX8_owed_10 rfl lay_X8 (by decide) wd_347 (by decide) ly_0 rfl ?_
      refine vx_getR (ci := 1) (T := TX1) (n := 2) (j := 0) (a := 28) (r := 29) dX8_owed_13 rfl lay_X1 (by decide) wd_209 (by decide) ly_28 rfl ?_
      refine vx_iload_n dX8_owed_16 rfl ?_
      refine vx_iload_n dX8_owed_17 rfl ?_
      refine vx_callS (vs := [vx_r 29, .inl (nI i), .inl (nI j)]) (st := []) (r0 := (some (.inl (μ (30 + i) j)))) (μ0 := μ) dX8_owed_18 ((c_X8_at_ (d - 1) ad 82 vx_lay μ 29 8 8 [30, 31, 32, 33, 34, 35, 36, 37] (by decide) ly_29 (by decide) (by decide) rfl rows_29 (nI i) (nI j)).to (congrArg (fun z => some (Sum.inl z)) (sp_at2_30 _ (a := i) (b := j) (by omega) (by omega))) rfl) wd_711 wd_568 wd_45 hy_X8_at_ wd_567 (by omega) (Nat.le_of_ble_eq_true rfl) (Nat.le_of_ble_eq_true rfl) (Nat.le_refl 0) (Nat.le_refl 0) ?_
      refine vx_eq (μ2 := μ) (ls2 := [(0, vx_r 0), (1, .inl (nI i)), (2, .inl (nI j))]) (st2 := [.inl (μ (30 + i) j)]) rfl rfl rfl ?_
      refine vx_goto (tgt := 26) dX8_owed_21 (by decide) ?_
      exact vx_ret (ty := .int) dX8_owed_26 rfl rfl (Nat.le_refl 0) (Nat.le_refl 0) (vx_pst hP rfl rfl)
  exact vx_J.M pn_X8_owed (Nat.le_of_ble_eq_true rfl) (key _ _ ⟨rfl, rfl, rfl, rfl, rfl⟩)
set_option maxRecDepth 20000 in
set_option maxHeartbeats 2000000 in
theorem c_X8_lent (d : Nat) (hd : 4 ≤ d) (ad : Nat → Nat) (μ : vx_mem) (n : Nat) (hk : sp_ck μ n) (a b : Int32) : vx_Mf yX8_lent cX8_lent 3 (some (.int)) d ad 82 vx_lay μ [vx_r 0, .inl a, .inl b] (some (.inl (if sp_two μ a b = 0 then -1 else (sp_mix (sp_G μ n a.toNatClampNeg).1 (μ 38)) b.toNatClampNeg))) (if sp_two μ a b = 0 then μ else va_up μ 38 (sp_mix (sp_G μ n a.toNatClampNeg).1 (μ 38))) := by
  have key : ∀ (Post : vx_P) (ini : Bool), Post (some (.inl (if sp_two μ a b = 0 then -1 else (sp_mix (sp_G μ n a.toNatClampNeg).1 (μ 38)) b.toNatClampNeg))) ad 82 vx_lay (if sp_two μ a b = 0 then μ else va_up μ 38 (sp_mix (sp_G μ n a.toNatClampNeg).1 (μ 38))) → vx_J RX8 cX8_lent 3 (some (.int)) ini d 0 0 Post ad 0 0 82 vx_lay μ 0 [(0, vx_r 0), (1, .inl a), (2, .inl b)] [] := by
    intro Post ini hP
    refine vx_aload_n dX8_lent_0 rfl ?_
    refine vx_iload_n dX8_lent_1 rfl ?_
    refine vx_iload_n dX8_lent_2 rfl ?_
    refine vx_callV (b := 0) (vs := [.inl a, .inl b]) (st := []) (r0 := (some (.inl (sp_two μ a b)))) (μ0 := μ) dX8_lent_3 (c_X8_areTwoFarms (d - 1) (by omega) ad μ a b) wd_707 wd_710 wd_45 hy_X8_areTwoFarms wd_709 wd_22 (by decide) ly_0 rfl rfl (by omega) (Nat.le_of_ble_eq_true rfl) (Nat.le_of_ble_eq_true rfl) (Nat.le_refl 0) (Nat.le_refl 0) ?_
    refine vx_eq (μ2 := μ) (ls2 := [(0, vx_r 0), (1, .inl a), (2, .inl b)]) (st2 := [.inl (sp_two μ a b)]) rfl rfl rfl ?_
    refine vx_if_ne (tgt := 11) dX8_lent_6 (by decide) (fun c_6 => ?_) (fun c_6 => ?_)
    · obtain ⟨i, j, rfl, rfl, hi1, hi2, hj1, hj2, hij⟩ := sp_two_far hk.1 hk.2.1 c_6
      have hn := hk.2.1
      rw [if_neg c_6, if_neg c_6, nI_clamp (by omega), nI_clamp (by omega)] at hP
      refine vx_aload_n dX8_lent_11 rfl ?_
      refine vx_iload_n dX8_lent_12 rfl ?_
      refine vx_callV (b := 0) (vs := [.inl (nI i)]) (st := []) (r0 := (some (.inl (sp_G μ n i).2))) (μ0 := (va_up μ 38 (sp_mix (sp_G μ n i).1 (μ 38)))) dX8_lent_13 (c_X8_gangOf (d - 1) (by omega) ad μ n hk i (by omega) (by omega)) wd_695 wd_698 wd_45 hy_X8_gangOf wd_697 wd_20 (by decide) ly_0 rfl rfl (by omega) (Nat.le_of_ble_eq_true rfl) (Nat.le_of_ble_eq_true rfl) (Nat.le_refl 0) (Nat.le_refl 0) ?_
      refine vx_eq (μ2 := (va_up μ 38 (sp_mix (sp_G μ n i).1 (μ 38)))) (ls2 := [(0, vx_r 0), (1, .inl (nI i)), (2, .inl (nI j))]) (st2 := [.inl (sp_G μ n i).2]) rfl rfl rfl ?_
      refine vx_pop dX8_lent_16 ?_
      refine vx_aload_n dX8_lent_17 rfl ?_
      refine vx_getR (ci := 8) (T := TX8) (n := 8) (j := 4) (a := 0) (r := 28) dX8_lent_18 rfl lay_X8 (by decide) wd_347 (by decide) ly_0 rfl ?_
      refine vx_getR (ci := 1) (T := TX1) (n := 2) (j := 1) (a := 28) (r := 38) dX8_lent_21 rfl lay_X1 (by decide) wd_211 (by decide) ly_28 rfl ?_
      refine vx_iload_n dX8_lent_24 rfl ?_
      refine vx_callS (vs := [vx_r 38, .inl (nI j)]) (st := []) (r0 := (some (.inl ((sp_mix (sp_G μ n i).1 (μ 38)) j)))) (μ0 := (va_up μ 38 (sp_mix (sp_G μ n i).1 (μ 38)))) dX8_lent_25 ((c_X8_at (d - 1) ad 82 vx_lay (va_up μ 38 (sp_mix (sp_G μ n i).1 (μ 38))) 38 8 (by decide) ly_38 (by decide) (nI j)).to (by first | rfl | (exact congrArg (fun z => some (Sum.inl z)) (sp_at_nI (k := j) _ (by omega) (by decide)))) rfl) wd_550 wd_109 wd_45 hy_X8_at wd_108 (by omega) (Nat.le_of_ble_eq_true rfl) (Nat.le_of_ble_eq_true rfl) (Nat.le_refl 0) (Nat.le_refl 0) ?_
      refine vx_eq (μ2 := (va_up μ 38 (sp_mix (sp_G μ n i).1 (μ 38)))) (ls2 := [(0, vx_r 0), (1, .inl (nI i)), (2, .inl (nI j))]) (st2 := [.inl ((sp_mix (sp_G μ n i).1 (μ 38)) j)]) rfl rfl rfl ?_
      exact vx_ret (ty := .int) dX8_lent_28 rfl rfl (Nat.le_refl 0) (Nat.le_refl 0) (vx_pst hP rfl rfl)
    · refine vx_iconst (v := (-1)) dX8_lent_9 (by decide) ?_
      exact vx_ret (ty := .int) dX8_lent_10 rfl rfl (Nat.le_refl 0) (Nat.le_refl 0) (vx_pst hP (by rw [if_pos c_6]) (by rw [if_pos c_6]))
  exact vx_J.M pn_X8_lent (Nat.le_of_ble_eq_true rfl) (key _ _ ⟨rfl, rfl, rfl, rfl, rfl⟩)
abbrev sp_bok (μ : vx_mem) (f how coins : Int32) : Prop := ¬ sp_in f 1 (μ 6 0) = 0 ∧ ¬ sp_in how 0 1 = 0 ∧ ¬ sp_in coins 0 999 = 0
set_option maxRecDepth 20000 in
set_option maxHeartbeats 2000000 in
theorem c_X8_bargain (d : Nat) (hd : 1 ≤ d) (ad : Nat → Nat) (μ : vx_mem) (n : Nat) (hc : μ 6 0 = nI n) (hn : n ≤ 7) (f how coins : Int32) : vx_Mf yX8_bargain cX8_bargain 4 (some (.boolean)) d ad 82 vx_lay μ [vx_r 0, .inl f, .inl how, .inl coins] (some (.inl (if sp_bok μ f how coins then 1 else 0))) (if sp_bok μ f how coins then va_up (va_up μ 16 (upd (μ 16) f.toNatClampNeg how)) 17 (upd (μ 17) f.toNatClampNeg coins) else μ) := by
  have key : ∀ (Post : vx_P) (ini : Bool), Post (some (.inl (if sp_bok μ f how coins then 1 else 0))) ad 82 vx_lay (if sp_bok μ f how coins then va_up (va_up μ 16 (upd (μ 16) f.toNatClampNeg how)) 17 (upd (μ 17) f.toNatClampNeg coins) else μ) → vx_J RX8 cX8_bargain 4 (some (.boolean)) ini d 0 0 Post ad 0 0 82 vx_lay μ 0 [(0, vx_r 0), (1, .inl f), (2, .inl how), (3, .inl coins)] [] := by
    intro Post ini hP
    refine vx_aload_n dX8_bargain_0 rfl ?_
    refine vx_getR (ci := 8) (T := TX8) (n := 8) (j := 2) (a := 0) (r := 6) dX8_bargain_1 rfl lay_X8 (by decide) wd_345 (by decide) ly_0 rfl ?_
    refine vx_iload_n dX8_bargain_4 rfl ?_
    refine vx_callV (b := 6) (vs := [.inl f]) (st := []) (r0 := (some (.inl (sp_in f 1 (μ 6 0))))) (μ0 := μ) dX8_bargain_5 (c_X3_has (d - 1) ad μ f) wd_522 wd_525 wd_48 hy_X3_has wd_523 wd_524 (by decide) ly_6 rfl rfl (by omega) (Nat.le_of_ble_eq_true rfl) (Nat.le_of_ble_eq_true rfl) (Nat.le_refl 0) (Nat.le_refl 0) ?_
    refine vx_eq (μ2 := μ) (ls2 := [(0, vx_r 0), (1, .inl f), (2, .inl how), (3, .inl coins)]) (st2 := [.inl (sp_in f 1 (μ 6 0))]) rfl rfl rfl ?_
    refine vx_if_eq (tgt := 31) dX8_bargain_8 (by decide) (fun c_8 => ?_) (fun c_8 => ?_)
    · refine vx_iconst (v := 0) dX8_bargain_31 (by decide) ?_
      exact vx_ret (ty := .boolean) dX8_bargain_32 rfl rfl (Nat.le_refl 0) (Nat.le_refl 0) (vx_pst hP (by rw [if_neg (show ¬ sp_bok μ f how coins from fun h => h.1 c_8)]) (by rw [if_neg (show ¬ sp_bok μ f how coins from fun h => h.1 c_8)]))
    · refine vx_iload_n dX8_bargain_11 rfl ?_
      refine vx_iconst (v := 0) dX8_bargain_12 (by decide) ?_
      refine vx_iconst (v := 1) dX8_bargain_13 (by decide) ?_
      refine vx_callS (vs := [.inl how, .inl 0, .inl 1]) (st := []) (r0 := (some (.inl (sp_in how 0 1)))) (μ0 := μ) dX8_bargain_14 (c_X8_within (d - 1) ad 82 vx_lay μ how 0 1) wd_507 wd_416 wd_45 hy_X8_within wd_415 (by omega) (Nat.le_of_ble_eq_true rfl) (Nat.le_of_ble_eq_true rfl) (Nat.le_refl 0) (Nat.le_refl 0) ?_
      refine vx_eq (μ2 := μ) (ls2 := [(0, vx_r 0), (1, .inl f), (2, .inl how), (3, .inl coins)]) (st2 := [.inl (sp_in how 0 1)]) rfl rfl rfl ?_
      refine vx_if_eq (tgt := 31) dX8_bargain_17 (by decide) (fun c_17 => ?_) (fun c_17 => ?_)
      · refine vx_iconst (v := 0) dX8_bargain_31 (by decide) ?_
        exact vx_ret (ty := .boolean) dX8_bargain_32 rfl rfl (Nat.le_refl 0) (Nat.le_refl 0) (vx_pst hP (by rw [if_neg (show ¬ sp_bok μ f how coins from fun h => h.2.1 c_17)]) (by rw [if_neg (show ¬ sp_bok μ f how coins from fun h => h.2.1 c_17)]))
      · refine vx_iload_n dX8_bargain_20 rfl ?_
        refine vx_iconst (v := 0) dX8_bargain_21 (by decide) ?_
        refine vx_sipush (v := 999) dX8_bargain_22 (by decide) ?_
        refine vx_callS (vs := [.inl coins, .inl 0, .inl 999]) (st := []) (r0 := (some (.inl (sp_in coins 0 999)))) (μ0 := μ) dX8_bargain_25 (c_X8_within (d - 1) ad 82 vx_lay μ coins 0 999) wd_507 wd_416 wd_45 hy_X8_within wd_415 (by omega) (Nat.le_of_ble_eq_true rfl) (Nat.le_of_ble_eq_true rfl) (Nat.le_refl 0) (Nat.le_refl 0) ?_
        refine vx_eq (μ2 := μ) (ls2 := [(0, vx_r 0), (1, .inl f), (2, .inl how), (3, .inl coins)]) (st2 := [.inl (sp_in coins 0 999)]) rfl rfl rfl ?_
        refine vx_if_ne (tgt := 33) dX8_bargain_28 (by decide) (fun c_28 => ?_) (fun c_28 => ?_)
        · have hokk : sp_bok μ f how coins := ⟨c_8, c_17, c_28⟩
          rw [if_pos hokk, if_pos hokk] at hP
          obtain ⟨k, rfl, k1, k2⟩ := sp_in_far hc hn c_8
          rw [nI_clamp (by omega)] at hP
          refine vx_aload_n dX8_bargain_33 rfl ?_
          refine vx_getR (ci := 8) (T := TX8) (n := 8) (j := 2) (a := 0) (r := 6) dX8_bargain_34 rfl lay_X8 (by decide) wd_345 (by decide) ly_0 rfl ?_
          refine vx_getR (ci := 3) (T := TX3) (n := 12) (j := 10) (a := 6) (r := 16) dX8_bargain_37 rfl lay_X3 (by decide) wd_157 (by decide) ly_6 rfl ?_
          refine vx_iload_n dX8_bargain_40 rfl ?_
          refine vx_iload_n dX8_bargain_41 rfl ?_
          refine vx_callS (vs := [vx_r 16, .inl (nI k), .inl how]) (st := []) (r0 := none) (μ0 := (va_up μ 16 (upd (μ 16) k how))) dX8_bargain_42 ((c_X8_put (d - 1) ad 82 vx_lay μ 16 8 (by decide) ly_16 (by decide) (nI k) how).to rfl (congrArg (fun z => va_up μ 16 z) (sp_put_nI (k := k) _ _ (by omega) (by decide)))) wd_513 wd_102 wd_45 hy_X8_put wd_101 (by omega) (Nat.le_of_ble_eq_true rfl) (Nat.le_of_ble_eq_true rfl) (Nat.le_refl 0) (Nat.le_refl 0) ?_
          refine vx_eq (μ2 := (va_up μ 16 (upd (μ 16) k how))) (ls2 := [(0, vx_r 0), (1, .inl (nI k)), (2, .inl how), (3, .inl coins)]) (st2 := []) rfl rfl rfl ?_
          refine vx_aload_n dX8_bargain_45 rfl ?_
          refine vx_getR (ci := 8) (T := TX8) (n := 8) (j := 2) (a := 0) (r := 6) dX8_bargain_46 rfl lay_X8 (by decide) wd_345 (by decide) ly_0 rfl ?_
          refine vx_getR (ci := 3) (T := TX3) (n := 12) (j := 11) (a := 6) (r := 17) dX8_bargain_49 rfl lay_X3 (by decide) wd_159 (by decide) ly_6 rfl ?_
          refine vx_iload_n dX8_bargain_52 rfl ?_
          refine vx_iload_n dX8_bargain_53 rfl ?_
          refine vx_callS (vs := [vx_r 17, .inl (nI k), .inl coins]) (st := []) (r0 := none) (μ0 := (va_up (va_up μ 16 (upd (μ 16) k how)) 17 (upd (μ 17) k coins))) dX8_bargain_54 ((c_X8_put (d - 1) ad 82 vx_lay (va_up μ 16 (upd (μ 16) k how)) 17 8 (by decide) ly_17 (by decide) (nI k) coins).to rfl (congrArg (fun z => va_up (va_up μ 16 (upd (μ 16) k how)) 17 z) (sp_put_nI (k := k) _ _ (by omega) (by decide)))) wd_513 wd_102 wd_45 hy_X8_put wd_101 (by omega) (Nat.le_of_ble_eq_true rfl) (Nat.le_of_ble_eq_true rfl) (Nat.le_refl 0) (Nat.le_refl 0) ?_
          refine vx_eq (μ2 := (va_up (va_up μ 16 (upd (μ 16) k how)) 17 (upd (μ 17) k coins))) (ls2 := [(0, vx_r 0), (1, .inl (nI k)), (2, .inl how), (3, .inl coins)]) (st2 := []) rfl rfl rfl ?_
          refine vx_iconst (v := 1) dX8_bargain_57 (by decide) ?_
          exact vx_ret (ty := .boolean) dX8_bargain_58 rfl rfl (Nat.le_refl 0) (Nat.le_refl 0) (vx_pst hP rfl rfl)
        · refine vx_iconst (v := 0) dX8_bargain_31 (by decide) ?_
          exact vx_ret (ty := .boolean) dX8_bargain_32 rfl rfl (Nat.le_refl 0) (Nat.le_refl 0) (vx_pst hP (by rw [if_neg (show ¬ sp_bok μ f how coins from fun h => h.2.2 c_28)]) (by rw [if_neg (show ¬ sp_bok μ f how coins from fun h => h.2.2 c_28)]))
  exact vx_J.M pn_X8_bargain (Nat.le_of_ble_eq_true rfl) (key _ _ ⟨rfl, rfl, rfl, rfl, rfl⟩)
end
