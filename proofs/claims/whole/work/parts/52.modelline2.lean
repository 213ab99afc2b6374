section
set_option maxRecDepth 20000 in
set_option maxHeartbeats 2000000 in
theorem mo_lineA (d : Nat) (hd : 7 ≤ d) (ad : Nat → Nat) (μ : vx_mem) (hf : μ 54 14 = 0) (hS : ¬ μ 54 12 = 0) : vx_Mf yX9_line cX9_line 2 none d ad 82 vx_lay μ [vx_r 54] none (va_up μ 54 (upd (upd (μ 54) 14 1) 15 (μ 54 11))) := by
  have key : ∀ (Post : vx_P) (ini : Bool), Post none ad 82 vx_lay (va_up μ 54 (upd (upd (μ 54) 14 1) 15 (μ 54 11))) → vx_J RX9 cX9_line 2 none ini d 0 0 Post ad 0 0 82 vx_lay μ 0 [(0, vx_r 54)] [] := by
    intro Post ini hP
    refine vx_aload_n dX9_line_0 rfl ?_
    refine vx_getI (ci := 9) (T := TX9) (n := 56) (j := 12) (a := 54) (v := (μ 54 12)) dX9_line_1 rfl lay_X9 (by decide) wd_748 (by decide) ly_54 rfl rfl ?_
    refine vx_if_eq (tgt := 15) dX9_line_4 (by decide) (fun h => absurd h hS) (fun _ => ?_)
    refine vx_aload_n dX9_line_7 rfl ?_
    refine vx_iconst (v := 1) dX9_line_8 (by decide) ?_
    refine vx_callV (b := 54) (vs := [.inl 1]) (st := []) (r0 := none) (μ0 := (va_up μ 54 (upd (upd (μ 54) 14 1) 15 (μ 54 11)))) dX9_line_9 (c_X9_wrong (d - 1) ad μ hf 1) wd_938 wd_941 wd_54 hy_X9_wrong wd_940 wd_28 (by decide) ly_54 rfl rfl (by omega) (Nat.le_of_ble_eq_true rfl) (Nat.le_of_ble_eq_true rfl) (Nat.le_refl 0) (Nat.le_refl 0) ?_
    refine vx_eq (μ2 := (va_up μ 54 (upd (upd (μ 54) 14 1) 15 (μ 54 11)))) (ls2 := [(0, vx_r 54)]) (st2 := []) rfl rfl rfl ?_
    refine vx_goto (tgt := 35) dX9_line_12 (by decide) ?_
    refine vx_aload_n dX9_line_35 rfl ?_
    refine vx_getI (ci := 9) (T := TX9) (n := 56) (j := 14) (a := 54) (v := 1) dX9_line_36 rfl lay_X9 (by decide) wd_750 (by decide) ly_54 rfl rfl ?_
    refine vx_if_eq (tgt := 43) dX9_line_39 (by decide) (fun h => absurd h (by decide)) (fun _ => ?_)
    exact vx_vret dX9_line_42 rfl (Nat.le_refl 0) (Nat.le_refl 0) (vx_pst hP rfl rfl)
  exact vx_J.M pn_X9_line (Nat.le_of_ble_eq_true rfl) (key _ _ ⟨rfl, rfl, rfl, rfl, rfl⟩)
set_option maxRecDepth 20000 in
set_option maxHeartbeats 2000000 in
theorem mo_lineB (d : Nat) (hd : 7 ≤ d) (ad : Nat → Nat) (μ : vx_mem) (hf : μ 54 14 = 0) (k : Nat) (hk : k < 6) (hS : μ 54 12 = 0) (hK : μ 54 13 = nI k) (hb : bt (μ 54 7) k = true) : vx_Mf yX9_line cX9_line 2 none d ad 82 vx_lay μ [vx_r 54] none (va_up μ 54 (upd (upd (μ 54) 14 3) 15 (μ 54 11))) := by
  have key : ∀ (Post : vx_P) (ini : Bool), Post none ad 82 vx_lay (va_up μ 54 (upd (upd (μ 54) 14 3) 15 (μ 54 11))) → vx_J RX9 cX9_line 2 none ini d 0 0 Post ad 0 0 82 vx_lay μ 0 [(0, vx_r 54)] [] := by
    intro Post ini hP
    refine vx_aload_n dX9_line_0 rfl ?_
    refine vx_getI (ci := 9) (T := TX9) (n := 56) (j := 12) (a := 54) (v := 0) dX9_line_1 rfl lay_X9 (by decide) wd_748 (by decide) ly_54 rfl hS ?_
    refine vx_if_eq (tgt := 15) dX9_line_4 (by decide) (fun _ => ?_) (fun h => absurd h (by decide))
    refine vx_aload_n dX9_line_15 rfl ?_
    refine vx_getI (ci := 9) (T := TX9) (n := 56) (j := 7) (a := 54) (v := (μ 54 7)) dX9_line_16 rfl lay_X9 (by decide) wd_743 (by decide) ly_54 rfl rfl ?_
    refine vx_aload_n dX9_line_19 rfl ?_
    refine vx_getI (ci := 9) (T := TX9) (n := 56) (j := 13) (a := 54) (v := (nI k)) dX9_line_20 rfl lay_X9 (by decide) wd_749 (by decide) ly_54 rfl hK ?_
    refine vx_ishr dX9_line_23 ?_
    refine vx_iconst (v := 1) dX9_line_24 (by decide) ?_
    refine vx_iand dX9_line_25 ?_
    refine vx_iconst (v := 1) dX9_line_26 (by decide) ?_
    refine vx_icmp_ne (tgt := 35) dX9_line_27 (by decide) (fun h => absurd (by rw [mb_bit _ (by omega), hb]; rfl) h) (fun _ => ?_)
    refine vx_aload_n dX9_line_30 rfl ?_
    refine vx_iconst (v := 3) dX9_line_31 (by decide) ?_
    refine vx_callV (b := 54) (vs := [.inl 3]) (st := []) (r0 := none) (μ0 := (va_up μ 54 (upd (upd (μ 54) 14 3) 15 (μ 54 11)))) dX9_line_32 (c_X9_wrong (d - 1) ad μ hf 3) wd_938 wd_941 wd_54 hy_X9_wrong wd_940 wd_28 (by decide) ly_54 rfl rfl (by omega) (Nat.le_of_ble_eq_true rfl) (Nat.le_of_ble_eq_true rfl) (Nat.le_refl 0) (Nat.le_refl 0) ?_
    refine vx_eq (μ2 := (va_up μ 54 (upd (upd (μ 54) 14 3) 15 (μ 54 11)))) (ls2 := [(0, vx_r 54)]) (st2 := []) rfl rfl rfl ?_
    refine vx_aload_n dX9_line_35 rfl ?_
    refine vx_getI (ci := 9) (T := TX9) (n := 56) (j := 14) (a := 54) (v := 3) dX9_line_36 rfl lay_X9 (by decide) wd_750 (by decide) ly_54 rfl rfl ?_
    refine vx_if_eq (tgt := 43) dX9_line_39 (by decide) (fun h => absurd h (by decide)) (fun _ => ?_)
    exact vx_vret dX9_line_42 rfl (Nat.le_refl 0) (Nat.le_refl 0) (vx_pst hP rfl rfl)
  exact vx_J.M pn_X9_line (Nat.le_of_ble_eq_true rfl) (key _ _ ⟨rfl, rfl, rfl, rfl, rfl⟩)
set_option maxRecDepth 20000 in
set_option maxHeartbeats 2000000 in
theorem mo_lineC (d : Nat) (hd : 7 ≤ d) (ad : Nat → Nat) (μ : vx_mem) (hf : μ 54 14 = 0) (k : Nat) (hk : k < 6) (hS : μ 54 12 = 0) (hK : μ 54 13 = nI k) (hb : bt (μ 54 7) k = false) (e : Nat) (he : μ 54 9 = nI e) (he3 : e ≤ 300) (hby : ∀ j, j < e → ¬ μ 55 j = -1) (a q2 a2 : Nat) (hat : μ 54 10 = nI a) (hae : a ≤ e) (hq2 : sp_run sp_bl (μ 55) e a = q2) (S2 K2 : Int32) (hn2 : mo_nx (μ 55) e q2 (μ 54 13) = (a2, S2, K2)) (hS2 : ¬ S2 = 1) : vx_Mf yX9_line cX9_line 2 none d ad 82 vx_lay μ [vx_r 54] none (va_up μ 54 (upd (upd (upd (upd (upd (upd (upd (μ 54) 7 ((μ 54 7) ||| (1 <<< ((nI k) &&& 31)))) 10 (nI a2)) 11 (nI q2)) 12 S2) 13 K2) 14 1) 15 (nI q2))) := by
  have key : ∀ (Post : vx_P) (ini : Bool), Post none ad 82 vx_lay (va_up μ 54 (upd (upd (upd (upd (upd (upd (upd (μ 54) 7 ((μ 54 7) ||| (1 <<< ((nI k) &&& 31)))) 10 (nI a2)) 11 (nI q2)) 12 S2) 13 K2) 14 1) 15 (nI q2))) → vx_J RX9 cX9_line 2 none ini d 0 0 Post ad 0 0 82 vx_lay μ 0 [(0, vx_r 54)] [] := by
    intro Post ini hP
    refine vx_aload_n dX9_line_0 rfl ?_
    refine vx_getI (ci := 9) (T := TX9) (n := 56) (j := 12) (a := 54) (v := 0) dX9_line_1 rfl lay_X9 (by decide) wd_748 (by decide) ly_54 rfl hS ?_
    refine vx_if_eq (tgt := 15) dX9_line_4 (by decide) (fun _ => ?_) (fun h => absurd h (by decide))
    refine vx_aload_n dX9_line_15 rfl ?_
    refine vx_getI (ci := 9) (T := TX9) (n := 56) (j := 7) (a := 54) (v := (μ 54 7)) dX9_line_16 rfl lay_X9 (by decide) wd_743 (by decide) ly_54 rfl rfl ?_
    refine vx_aload_n dX9_line_19 rfl ?_
    refine vx_getI (ci := 9) (T := TX9) (n := 56) (j := 13) (a := 54) (v := (nI k)) dX9_line_20 rfl lay_X9 (by decide) wd_749 (by decide) ly_54 rfl hK ?_
    refine vx_ishr dX9_line_23 ?_
    refine vx_iconst (v := 1) dX9_line_24 (by decide) ?_
    refine vx_iand dX9_line_25 ?_
    refine vx_iconst (v := 1) dX9_line_26 (by decide) ?_
    refine vx_icmp_ne (tgt := 35) dX9_line_27 (by decide) (fun _ => ?_) (fun h => absurd h (by rw [mb_bit _ (by omega), hb]; decide))
    refine vx_aload_n dX9_line_35 rfl ?_
    refine vx_getI (ci := 9) (T := TX9) (n := 56) (j := 14) (a := 54) (v := 0) dX9_line_36 rfl lay_X9 (by decide) wd_750 (by decide) ly_54 rfl hf ?_
    refine vx_if_eq (tgt := 43) dX9_line_39 (by decide) (fun _ => ?_) (fun h => absurd h (by decide))
    refine vx_aload_n dX9_line_43 rfl ?_
    refine vx_getI (ci := 9) (T := TX9) (n := 56) (j := 13) (a := 54) (v := (nI k)) dX9_line_44 rfl lay_X9 (by decide) wd_749 (by decide) ly_54 rfl hK ?_
    refine vx_istore_n (ls2 := [(1, .inl (nI k)), (0, vx_r 54)]) dX9_line_47 (by decide) rfl ?_
    refine vx_aload_n dX9_line_48 rfl ?_
    refine vx_dup dX9_line_49 ?_
    refine vx_getI (ci := 9) (T := TX9) (n := 56) (j := 7) (a := 54) (v := (μ 54 7)) dX9_line_50 rfl lay_X9 (by decide) wd_743 (by decide) ly_54 rfl rfl ?_
    refine vx_iconst (v := 1) dX9_line_53 (by decide) ?_
    refine vx_iload_n dX9_line_54 rfl ?_
    refine vx_ishl dX9_line_55 ?_
    refine vx_ior dX9_line_56 ?_
    refine vx_putI (ci := 9) (T := TX9) (n := 56) (j := 7) (a := 54) (ty := .int) (μ2 := (va_up μ 54 (upd (μ 54) 7 ((μ 54 7) ||| (1 <<< ((nI k) &&& 31)))))) dX9_line_57 rfl lay_X9 tyX9_ok nmX9 (by decide) wd_743 rfl rfl rfl rfl (by decide) ly_54 rfl rfl ?_
    refine vx_aload_n dX9_line_60 rfl ?_
    refine vx_callV (b := 54) (vs := []) (st := []) (r0 := none) (μ0 := (va_up μ 54 (upd (upd (upd (upd (upd (μ 54) 7 ((μ 54 7) ||| (1 <<< ((nI k) &&& 31)))) 10 (nI a2)) 11 (nI q2)) 12 S2) 13 K2))) dX9_line_61 ((mo_next (d - 1) (by omega) ad (va_up μ 54 (upd (μ 54) 7 ((μ 54 7) ||| (1 <<< ((nI k) &&& 31))))) a e hat he (by omega) he3 hby hq2 hn2).to rfl vx_m1) wd_913 wd_916 wd_54 hy_X9_next wd_915 wd_24 (by decide) ly_54 rfl rfl (by omega) (Nat.le_of_ble_eq_true rfl) (Nat.le_of_ble_eq_true rfl) (Nat.le_refl 0) (Nat.le_refl 0) ?_
    refine vx_eq (μ2 := (va_up μ 54 (upd (upd (upd (upd (upd (μ 54) 7 ((μ 54 7) ||| (1 <<< ((nI k) &&& 31)))) 10 (nI a2)) 11 (nI q2)) 12 S2) 13 K2))) (ls2 := [(1, .inl (nI k)), (0, vx_r 54)]) (st2 := []) rfl rfl rfl ?_
    refine vx_aload_n dX9_line_64 rfl ?_
    refine vx_getI (ci := 9) (T := TX9) (n := 56) (j := 12) (a := 54) (v := S2) dX9_line_65 rfl lay_X9 (by decide) wd_748 (by decide) ly_54 rfl rfl ?_
    refine vx_iconst (v := 1) dX9_line_68 (by decide) ?_
    refine vx_icmp_eq (tgt := 80) dX9_line_69 (by decide) (fun h => absurd h hS2) (fun _ => ?_)
    refine vx_aload_n dX9_line_72 rfl ?_
    refine vx_iconst (v := 1) dX9_line_73 (by decide) ?_
    refine vx_callV (b := 54) (vs := [.inl 1]) (st := []) (r0 := none) (μ0 := (va_up μ 54 (upd (upd (upd (upd (upd (upd (upd (μ 54) 7 ((μ 54 7) ||| (1 <<< ((nI k) &&& 31)))) 10 (nI a2)) 11 (nI q2)) 12 S2) 13 K2) 14 1) 15 (nI q2)))) dX9_line_74 ((c_X9_wrong (d - 1) ad (va_up μ 54 (upd (upd (upd (upd (upd (μ 54) 7 ((μ 54 7) ||| (1 <<< ((nI k) &&& 31)))) 10 (nI a2)) 11 (nI q2)) 12 S2) 13 K2)) hf 1).to rfl vx_m1) wd_938 wd_941 wd_54 hy_X9_wrong wd_940 wd_28 (by decide) ly_54 rfl rfl (by omega) (Nat.le_of_ble_eq_true rfl) (Nat.le_of_ble_eq_true rfl) (Nat.le_refl 0) (Nat.le_refl 0) ?_
    refine vx_eq (μ2 := (va_up μ 54 (upd (upd (upd (upd (upd (upd (upd (μ 54) 7 ((μ 54 7) ||| (1 <<< ((nI k) &&& 31)))) 10 (nI a2)) 11 (nI q2)) 12 S2) 13 K2) 14 1) 15 (nI q2)))) (ls2 := [(1, .inl (nI k)), (0, vx_r 54)]) (st2 := []) rfl rfl rfl ?_
    refine vx_goto (tgt := 111) dX9_line_77 (by decide) ?_
    refine vx_aload_n dX9_line_111 rfl ?_
    refine vx_getI (ci := 9) (T := TX9) (n := 56) (j := 14) (a := 54) (v := 1) dX9_line_112 rfl lay_X9 (by decide) wd_750 (by decide) ly_54 rfl rfl ?_
    refine vx_if_eq (tgt := 119) dX9_line_115 (by decide) (fun h => absurd h (by decide)) (fun _ => ?_)
    exact vx_vret dX9_line_118 rfl (Nat.le_refl 0) (Nat.le_refl 0) (vx_pst hP rfl rfl)
  exact vx_J.M pn_X9_line (Nat.le_of_ble_eq_true rfl) (key _ _ ⟨rfl, rfl, rfl, rfl, rfl⟩)
set_option maxRecDepth 20000 in
set_option maxHeartbeats 2000000 in
theorem mo_lineD (d : Nat) (hd : 7 ≤ d) (ad : Nat → Nat) (μ : vx_mem) (hf : μ 54 14 = 0) (k : Nat) (hk : k < 6) (hS : μ 54 12 = 0) (hK : μ 54 13 = nI k) (hb : bt (μ 54 7) k = false) (e : Nat) (he : μ 54 9 = nI e) (he3 : e ≤ 300) (hby : ∀ j, j < e → ¬ μ 55 j = -1) (a q2 a2 : Nat) (hat : μ 54 10 = nI a) (hae : a ≤ e) (hq2 : sp_run sp_bl (μ 55) e a = q2) (K2 : Int32) (hn2 : mo_nx (μ 55) e q2 (μ 54 13) = (a2, 1, K2)) (ha2 : a2 ≤ e) (hle : ∀ k, k < 6 → μ 58 k = (vx_sv 1).getD k 0) (hmo : ∀ k, k < 6 → μ 59 k = (vx_sv 2).getD k 0) (hD : K2 < (vx_sv 1).getD k 0 ∨ (vx_sv 2).getD k 0 < K2) : vx_Mf yX9_line cX9_line 2 none d ad 82 vx_lay μ [vx_r 54] none (va_up μ 54 (upd (upd (upd (upd (upd (upd (upd (μ 54) 7 ((μ 54 7) ||| (1 <<< ((nI k) &&& 31)))) 10 (nI a2)) 11 (nI q2)) 12 1) 13 K2) 14 2) 15 (nI q2))) := by
  have key : ∀ (Post : vx_P) (ini : Bool), Post none ad 82 vx_lay (va_up μ 54 (upd (upd (upd (upd (upd (upd (upd (μ 54) 7 ((μ 54 7) ||| (1 <<< ((nI k) &&& 31)))) 10 (nI a2)) 11 (nI q2)) 12 1) 13 K2) 14 2) 15 (nI q2))) → vx_J RX9 cX9_line 2 none ini d 0 0 Post ad 0 0 82 vx_lay μ 0 [(0, vx_r 54)] [] := by
    intro Post ini hP
    refine vx_aload_n dX9_line_0 rfl ?_
    refine vx_getI (ci := 9) (T := TX9) (n := 56) (j := 12) (a := 54) (v := 0) dX9_line_1 rfl lay_X9 (by decide) wd_748 (by decide) ly_54 rfl hS ?_
    refine vx_if_eq (tgt := 15) dX9_line_4 (by decide) (fun _ => ?_) (fun h => absurd h (by decide))
    refine vx_aload_n dX9_line_15 rfl ?_
    refine vx_getI (ci := 9) (T := TX9) (n := 56) (j := 7) (a := 54) (v := (μ 54 7)) dX9_line_16 rfl lay_X9 (by decide) wd_743 (by decide) ly_54 rfl rfl ?_
    refine vx_aload_n dX9_line_19 rfl ?_
    refine vx_getI (ci := 9) (T := TX9) (n := 56) (j := 13) (a := 54) (v := (nI k)) dX9_line_20 rfl lay_X9 (by decide) wd_749 (by decide) ly_54 rfl hK ?_
    refine vx_ishr dX9_line_23 ?_
    refine vx_iconst (v := 1) dX9_line_24 (by decide) ?_
    refine vx_iand dX9_line_25 ?_
    refine vx_iconst (v := 1) dX9_line_26 (by decide) ?_
    refine vx_icmp_ne (tgt := 35) dX9_line_27 (by decide) (fun _ => ?_) (fun h => absurd h (by rw [mb_bit _ (by omega), hb]; decide))
    refine vx_aload_n dX9_line_35 rfl ?_
    refine vx_getI (ci := 9) (T := TX9) (n := 56) (j := 14) (a := 54) (v := 0) dX9_line_36 rfl lay_X9 (by decide) wd_750 (by decide) ly_54 rfl hf ?_
    refine vx_if_eq (tgt := 43) dX9_line_39 (by decide) (fun _ => ?_) (fun h => absurd h (by decide))
    refine vx_aload_n dX9_line_43 rfl ?_
    refine vx_getI (ci := 9) (T := TX9) (n := 56) (j := 13) (a := 54) (v := (nI k)) dX9_line_44 rfl lay_X9 (by decide) wd_749 (by decide) ly_54 rfl hK ?_
    refine vx_istore_n (ls2 := [(1, .inl (nI k)), (0, vx_r 54)]) dX9_line_47 (by decide) rfl ?_
    refine vx_aload_n dX9_line_48 rfl ?_
    refine vx_dup dX9_line_49 ?_
    refine vx_getI (ci := 9) (T := TX9) (n := 56) (j := 7) (a := 54) (v := (μ 54 7)) dX9_line_50 rfl lay_X9 (by decide) wd_743 (by decide) ly_54 rfl rfl ?_
    refine vx_iconst (v := 1) dX9_line_53 (by decide) ?_
    refine vx_iload_n dX9_line_54 rfl ?_
    refine vx_ishl dX9_line_55 ?_
    refine vx_ior dX9_line_56 ?_
    refine vx_putI (ci := 9) (T := TX9) (n := 56) (j := 7) (a := 54) (ty := .int) (μ2 := (va_up μ 54 (upd (μ 54) 7 ((μ 54 7) ||| (1 <<< ((nI k) &&& 31)))))) dX9_line_57 rfl lay_X9 tyX9_ok nmX9 (by decide) wd_743 rfl rfl rfl rfl (by decide) ly_54 rfl rfl ?_
    refine vx_aload_n dX9_line_60 rfl ?_
    refine vx_callV (b := 54) (vs := []) (st := []) (r0 := none) (μ0 := (va_up μ 54 (upd (upd (upd (upd (upd (μ 54) 7 ((μ 54 7) ||| (1 <<< ((nI k) &&& 31)))) 10 (nI a2)) 11 (nI q2)) 12 1) 13 K2))) dX9_line_61 ((mo_next (d - 1) (by omega) ad (va_up μ 54 (upd (μ 54) 7 ((μ 54 7) ||| (1 <<< ((nI k) &&& 31))))) a e hat he (by omega) he3 hby hq2 hn2).to rfl vx_m1) wd_913 wd_916 wd_54 hy_X9_next wd_915 wd_24 (by decide) ly_54 rfl rfl (by omega) (Nat.le_of_ble_eq_true rfl) (Nat.le_of_ble_eq_true rfl) (Nat.le_refl 0) (Nat.le_refl 0) ?_
    refine vx_eq (μ2 := (va_up μ 54 (upd (upd (upd (upd (upd (μ 54) 7 ((μ 54 7) ||| (1 <<< ((nI k) &&& 31)))) 10 (nI a2)) 11 (nI q2)) 12 1) 13 K2))) (ls2 := [(1, .inl (nI k)), (0, vx_r 54)]) (st2 := []) rfl rfl rfl ?_
    refine vx_aload_n dX9_line_64 rfl ?_
    refine vx_getI (ci := 9) (T := TX9) (n := 56) (j := 12) (a := 54) (v := 1) dX9_line_65 rfl lay_X9 (by decide) wd_748 (by decide) ly_54 rfl rfl ?_
    refine vx_iconst (v := 1) dX9_line_68 (by decide) ?_
    refine vx_icmp_eq (tgt := 80) dX9_line_69 (by decide) (fun _ => ?_) (fun h => absurd h (by decide))
    refine vx_aload_n dX9_line_80 rfl ?_
    refine vx_getI (ci := 9) (T := TX9) (n := 56) (j := 13) (a := 54) (v := K2) dX9_line_81 rfl lay_X9 (by decide) wd_749 (by decide) ly_54 rfl rfl ?_
    refine vx_aload_n dX9_line_84 rfl ?_
    refine vx_getR (ci := 9) (T := TX9) (n := 56) (j := 5) (a := 54) (r := 58) dX9_line_85 rfl lay_X9 (by decide) wd_741 (by decide) ly_54 rfl ?_
    refine vx_iload_n dX9_line_88 rfl ?_
    refine vx_iald (a := 58) (n := 6) (v := ((vx_sv 1).getD k 0)) dX9_line_89 (by decide) ly_58 (vp_in_nI (by omega) (by omega)) (by rw [nI_clamp (by omega)]; exact (hle k hk)) ?_
    refine vx_icmp_lt (tgt := 106) dX9_line_90 (by decide) (fun c_90 => ?_) (fun c_90 => ?_)
    · refine vx_aload_n dX9_line_106 rfl ?_
      refine vx_iconst (v := 2) dX9_line_107 (by decide) ?_
      refine vx_callV (b := 54) (vs := [.inl 2]) (st := []) (r0 := none) (μ0 := (va_up μ 54 (upd (upd (upd (upd (upd (upd (upd (μ 54) 7 ((μ 54 7) ||| (1 <<< ((nI k) &&& 31)))) 10 (nI a2)) 11 (nI q2)) 12 1) 13 K2) 14 2) 15 (nI q2)))) dX9_line_108 ((c_X9_wrong (d - 1) ad (va_up μ 54 (upd (upd (upd (upd (upd (μ 54) 7 ((μ 54 7) ||| (1 <<< ((nI k) &&& 31)))) 10 (nI a2)) 11 (nI q2)) 12 1) 13 K2)) hf 2).to rfl vx_m1) wd_938 wd_941 wd_54 hy_X9_wrong wd_940 wd_28 (by decide) ly_54 rfl rfl (by omega) (Nat.le_of_ble_eq_true rfl) (Nat.le_of_ble_eq_true rfl) (Nat.le_refl 0) (Nat.le_refl 0) ?_
      refine vx_eq (μ2 := (va_up μ 54 (upd (upd (upd (upd (upd (upd (upd (μ 54) 7 ((μ 54 7) ||| (1 <<< ((nI k) &&& 31)))) 10 (nI a2)) 11 (nI q2)) 12 1) 13 K2) 14 2) 15 (nI q2)))) (ls2 := [(1, .inl (nI k)), (0, vx_r 54)]) (st2 := []) rfl rfl rfl ?_
      refine vx_aload_n dX9_line_111 rfl ?_
      refine vx_getI (ci := 9) (T := TX9) (n := 56) (j := 14) (a := 54) (v := 2) dX9_line_112 rfl lay_X9 (by decide) wd_750 (by decide) ly_54 rfl rfl ?_
      refine vx_if_eq (tgt := 119) dX9_line_115 (by decide) (fun h => absurd h (by decide)) (fun _ => ?_)
      exact vx_vret dX9_line_118 rfl (Nat.le_refl 0) (Nat.le_refl 0) (vx_pst hP rfl rfl)
    · refine vx_aload_n dX9_line_93 rfl ?_
      refine vx_getI (ci := 9) (T := TX9) (n := 56) (j := 13) (a := 54) (v := K2) dX9_line_94 rfl lay_X9 (by decide) wd_749 (by decide) ly_54 rfl rfl ?_
      refine vx_aload_n dX9_line_97 rfl ?_
      refine vx_getR (ci := 9) (T := TX9) (n := 56) (j := 6) (a := 54) (r := 59) dX9_line_98 rfl lay_X9 (by decide) wd_742 (by decide) ly_54 rfl ?_
      refine vx_iload_n dX9_line_101 rfl ?_
      refine vx_iald (a := 59) (n := 6) (v := ((vx_sv 2).getD k 0)) dX9_line_102 (by decide) ly_59 (vp_in_nI (by omega) (by omega)) (by rw [nI_clamp (by omega)]; exact (hmo k hk)) ?_
      refine vx_icmp_le (tgt := 111) dX9_line_103 (by decide) (fun c_103 => ?_) (fun c_103 => ?_)
      · exact (hD.elim c_90 (fun z => Int32.not_le.mpr z c_103)).elim
      · refine vx_aload_n dX9_line_106 rfl ?_
        refine vx_iconst (v := 2) dX9_line_107 (by decide) ?_
        refine vx_callV (b := 54) (vs := [.inl 2]) (st := []) (r0 := none) (μ0 := (va_up μ 54 (upd (upd (upd (upd (upd (upd (upd (μ 54) 7 ((μ 54 7) ||| (1 <<< ((nI k) &&& 31)))) 10 (nI a2)) 11 (nI q2)) 12 1) 13 K2) 14 2) 15 (nI q2)))) dX9_line_108 ((c_X9_wrong (d - 1) ad (va_up μ 54 (upd (upd (upd (upd (upd (μ 54) 7 ((μ 54 7) ||| (1 <<< ((nI k) &&& 31)))) 10 (nI a2)) 11 (nI q2)) 12 1) 13 K2)) hf 2).to rfl vx_m1) wd_938 wd_941 wd_54 hy_X9_wrong wd_940 wd_28 (by decide) ly_54 rfl rfl (by omega) (Nat.le_of_ble_eq_true rfl) (Nat.le_of_ble_eq_true rfl) (Nat.le_refl 0) (Nat.le_refl 0) ?_
        refine vx_eq (μ2 := (va_up μ 54 (upd (upd (upd (upd (upd (upd (upd (μ 54) 7 ((μ 54 7) ||| (1 <<< ((nI k) &&& 31)))) 10 (nI a2)) 11 (nI q2)) 12 1) 13 K2) 14 2) 15 (nI q2)))) (ls2 := [(1, .inl (nI k)), (0, vx_r 54)]) (st2 := []) rfl rfl rfl ?_
        refine vx_aload_n dX9_line_111 rfl ?_
        refine vx_getI (ci := 9) (T := TX9) (n := 56) (j := 14) (a := 54) (v := 2) dX9_line_112 rfl lay_X9 (by decide) wd_750 (by decide) ly_54 rfl rfl ?_
        refine vx_if_eq (tgt := 119) dX9_line_115 (by decide) (fun h => absurd h (by decide)) (fun _ => ?_)
        exact vx_vret dX9_line_118 rfl (Nat.le_refl 0) (Nat.le_refl 0) (vx_pst hP rfl rfl)
  exact vx_J.M pn_X9_line (Nat.le_of_ble_eq_true rfl) (key _ _ ⟨rfl, rfl, rfl, rfl, rfl⟩)
set_option maxRecDepth 20000 in
set_option maxHeartbeats 2000000 in
theorem mo_lineE (d : Nat) (hd : 7 ≤ d) (ad : Nat → Nat) (μ : vx_mem) (hf : μ 54 14 = 0) (k : Nat) (hk : k < 6) (hS : μ 54 12 = 0) (hK : μ 54 13 = nI k) (hb : bt (μ 54 7) k = false) (e : Nat) (he : μ 54 9 = nI e) (he3 : e ≤ 300) (hby : ∀ j, j < e → ¬ μ 55 j = -1) (a q2 a2 : Nat) (hat : μ 54 10 = nI a) (hae : a ≤ e) (hq2 : sp_run sp_bl (μ 55) e a = q2) (K2 : Int32) (hn2 : mo_nx (μ 55) e q2 (μ 54 13) = (a2, 1, K2)) (ha2 : a2 ≤ e) (hle : ∀ k, k < 6 → μ 58 k = (vx_sv 1).getD k 0) (hmo : ∀ k, k < 6 → μ 59 k = (vx_sv 2).getD k 0) (hD : ¬ (K2 < (vx_sv 1).getD k 0 ∨ (vx_sv 2).getD k 0 < K2)) (q3 a3 : Nat) (K3 : Int32) (hq3 : sp_run sp_bl (μ 55) e a2 = q3) (S3 : Int32) (hn3 : mo_nx (μ 55) e q3 K2 = (a3, S3, K3)) (hS3 : ¬ S3 = 2) : vx_Mf yX9_line cX9_line 2 none d ad 82 vx_lay μ [vx_r 54] none (va_up (va_up μ 54 (upd (upd (upd (upd (upd (upd (upd (upd (upd (upd (upd (μ 54) 7 ((μ 54 7) ||| (1 <<< ((nI k) &&& 31)))) 10 (nI a2)) 11 (nI q2)) 12 1) 13 K2) 10 (nI a3)) 11 (nI q3)) 12 S3) 13 K3) 14 1) 15 (nI q3))) 56 (upd (μ 56) (6 + k) K2)) := by
  have key : ∀ (Post : vx_P) (ini : Bool), Post none ad 82 vx_lay (va_up (va_up μ 54 (upd (upd (upd (upd (upd (upd (upd (upd (upd (upd (upd (μ 54) 7 ((μ 54 7) ||| (1 <<< ((nI k) &&& 31)))) 10 (nI a2)) 11 (nI q2)) 12 1) 13 K2) 10 (nI a3)) 11 (nI q3)) 12 S3) 13 K3) 14 1) 15 (nI q3))) 56 (upd (μ 56) (6 + k) K2)) → vx_J RX9 cX9_line 2 none ini d 0 0 Post ad 0 0 82 vx_lay μ 0 [(0, vx_r 54)] [] := by
    intro Post ini hP
    refine vx_aload_n dX9_line_0 rfl ?_
    refine vx_getI (ci := 9) (T := TX9) (n := 56) (j := 12) (a := 54) (v := 0) dX9_line_1 rfl lay_X9 (by decide) wd_748 (by decide) ly_54 rfl hS ?_
    refine vx_if_eq (tgt := 15) dX9_line_4 (by decide) (fun _ => ?_) (fun h => absurd h (by decide))
    refine vx_aload_n dX9_line_15 rfl ?_
    refine vx_getI (ci := 9) (T := TX9) (n := 56) (j := 7) (a := 54) (v := (μ 54 7)) dX9_line_16 rfl lay_X9 (by decide) wd_743 (by decide) ly_54 rfl rfl ?_
    refine vx_aload_n dX9_line_19 rfl ?_
    refine vx_getI (ci := 9) (T := TX9) (n := 56) (j := 13) (a := 54) (v := (nI k)) dX9_line_20 rfl lay_X9 (by decide) wd_749 (by decide) ly_54 rfl hK ?_
    refine vx_ishr dX9_line_23 ?_
    refine vx_iconst (v := 1) dX9_line_24 (by decide) ?_
    refine vx_iand dX9_line_25 ?_
    refine vx_iconst (v := 1) dX9_line_26 (by decide) ?_
    refine vx_icmp_ne (tgt := 35) dX9_line_27 (by decide) (fun _ => ?_) (fun h => absurd h (by rw [mb_bit _ (by omega), hb]; decide))
    refine vx_aload_n dX9_line_35 rfl ?_
    refine vx_getI (ci := 9) (T := TX9) (n := 56) (j := 14) (a := 54) (v := 0) dX9_line_36 rfl lay_X9 (by decide) wd_750 (by decide) ly_54 rfl hf ?_
    refine vx_if_eq (tgt := 43) dX9_line_39 (by decide) (fun _ => ?_) (fun h => absurd h (by decide))
    refine vx_aload_n dX9_line_43 rfl ?_
    refine vx_getI (ci := 9) (T := TX9) (n := 56) (j := 13) (a := 54) (v := (nI k)) dX9_line_44 rfl lay_X9 (by decide) wd_749 (by decide) ly_54 rfl hK ?_
    refine vx_istore_n (ls2 := [(1, .inl (nI k)), (0, vx_r 54)]) dX9_line_47 (by decide) rfl ?_
    refine vx_aload_n dX9_line_48 rfl ?_
    refine vx_dup dX9_line_49 ?_
    refine vx_getI (ci := 9) (T := TX9) (n := 56) (j := 7) (a := 54) (v := (μ 54 7)) dX9_line_50 rfl lay_X9 (by decide) wd_743 (by decide) ly_54 rfl rfl ?_
    refine vx_iconst (v := 1) dX9_line_53 (by decide) ?_
    refine vx_iload_n dX9_line_54 rfl ?_
    refine vx_ishl dX9_line_55 ?_
    refine vx_ior dX9_line_56 ?_
    refine vx_putI (ci := 9) (T := TX9) (n := 56) (j := 7) (a := 54) (ty := .int) (μ2 := (va_up μ 54 (upd (μ 54) 7 ((μ 54 7) ||| (1 <<< ((nI k) &&& 31)))))) dX9_line_57 rfl lay_X9 tyX9_ok nmX9 (by decide) wd_743 rfl rfl rfl rfl (by decide) ly_54 rfl rfl ?_
    refine vx_aload_n dX9_line_60 rfl ?_
    refine vx_callV (b := 54) (vs := []) (st := []) (r0 := none) (μ0 := (va_up μ 54 (upd (upd (upd (upd (upd (μ 54) 7 ((μ 54 7) ||| (1 <<< ((nI k) &&& 31)))) 10 (nI a2)) 11 (nI q2)) 12 1) 13 K2))) dX9_line_61 ((mo_next (d - 1) (by omega) ad (va_up μ 54 (upd (μ 54) 7 ((μ 54 7) ||| (1 <<< ((nI k) &&& 31))))) a e hat he (by omega) he3 hby hq2 hn2).to rfl vx_m1) wd_913 wd_916 wd_54 hy_X9_next wd_915 wd_24 (by decide) ly_54 rfl rfl (by omega) (Nat.le_of_ble_eq_true rfl) (Nat.le_of_ble_eq_true rfl) (Nat.le_refl 0) (Nat.le_refl 0) ?_
    refine vx_eq (μ2 := (va_up μ 54 (upd (upd (upd (upd (upd (μ 54) 7 ((μ 54 7) ||| (1 <<< ((nI k) &&& 31)))) 10 (nI a2)) 11 (nI q2)) 12 1) 13 K2))) (ls2 := [(1, .inl (nI k)), (0, vx_r 54)]) (st2 := []) rfl rfl rfl ?_
    refine vx_aload_n dX9_line_64 rfl ?_
    refine vx_getI (ci := 9) (T := TX9) (n := 56) (j := 12) (a := 54) (v := 1) dX9_line_65 rfl lay_X9 (by decide) wd_748 (by decide) ly_54 rfl rfl ?_
    refine vx_iconst (v := 1) dX9_line_68 (by decide) ?_
    refine vx_icmp_eq (tgt := 80) dX9_line_69 (by decide) (fun _ => ?_) (fun h => absurd h (by decide))
    refine vx_aload_n dX9_line_80 rfl ?_
    refine vx_getI (ci := 9) (T := TX9) (n := 56) (j := 13) (a := 54) (v := K2) dX9_line_81 rfl lay_X9 (by decide) wd_749 (by decide) ly_54 rfl rfl ?_
    refine vx_aload_n dX9_line_84 rfl ?_
    refine vx_getR (ci := 9) (T := TX9) (n := 56) (j := 5) (a := 54) (r := 58) dX9_line_85 rfl lay_X9 (by decide) wd_741 (by decide) ly_54 rfl ?_
    refine vx_iload_n dX9_line_88 rfl ?_
    refine vx_iald (a := 58) (n := 6) (v := ((vx_sv 1).getD k 0)) dX9_line_89 (by decide) ly_58 (vp_in_nI (by omega) (by omega)) (by rw [nI_clamp (by omega)]; exact (hle k hk)) ?_
    refine vx_icmp_lt (tgt := 106) dX9_line_90 (by decide) (fun h => absurd h (fun h => hD (Or.inl h))) (fun _ => ?_)
    refine vx_aload_n dX9_line_93 rfl ?_
    refine vx_getI (ci := 9) (T := TX9) (n := 56) (j := 13) (a := 54) (v := K2) dX9_line_94 rfl lay_X9 (by decide) wd_749 (by decide) ly_54 rfl rfl ?_
    refine vx_aload_n dX9_line_97 rfl ?_
    refine vx_getR (ci := 9) (T := TX9) (n := 56) (j := 6) (a := 54) (r := 59) dX9_line_98 rfl lay_X9 (by decide) wd_742 (by decide) ly_54 rfl ?_
    refine vx_iload_n dX9_line_101 rfl ?_
    refine vx_iald (a := 59) (n := 6) (v := ((vx_sv 2).getD k 0)) dX9_line_102 (by decide) ly_59 (vp_in_nI (by omega) (by omega)) (by rw [nI_clamp (by omega)]; exact (hmo k hk)) ?_
    refine vx_icmp_le (tgt := 111) dX9_line_103 (by decide) (fun _ => ?_) (fun h => absurd (Int32.not_lt.mp (fun h => hD (Or.inr h))) h)
    refine vx_aload_n dX9_line_111 rfl ?_
    refine vx_getI (ci := 9) (T := TX9) (n := 56) (j := 14) (a := 54) (v := 0) dX9_line_112 rfl lay_X9 (by decide) wd_750 (by decide) ly_54 rfl hf ?_
    refine vx_if_eq (tgt := 119) dX9_line_115 (by decide) (fun _ => ?_) (fun h => absurd h (by decide))
    refine vx_aload_n dX9_line_119 rfl ?_
    refine vx_getR (ci := 9) (T := TX9) (n := 56) (j := 3) (a := 54) (r := 56) dX9_line_120 rfl lay_X9 (by decide) wd_739 (by decide) ly_54 rfl ?_
    refine vx_bipush (v := 6) dX9_line_123 (by decide) ?_
    refine vx_iload_n dX9_line_125 rfl ?_
    refine vx_iadd dX9_line_126 ?_
    refine vx_eq (st2 := [.inl (nI (6 + k)), vx_r 56]) rfl rfl (by rw [show (6 : Int32) = nI 6 from rfl, nI_add]) ?_
    refine vx_aload_n dX9_line_127 rfl ?_
    refine vx_getI (ci := 9) (T := TX9) (n := 56) (j := 13) (a := 54) (v := K2) dX9_line_128 rfl lay_X9 (by decide) wd_749 (by decide) ly_54 rfl rfl ?_
    refine vx_iast (a := 56) (n := 12) (μ2 := (va_up (va_up μ 54 (upd (upd (upd (upd (upd (μ 54) 7 ((μ 54 7) ||| (1 <<< ((nI k) &&& 31)))) 10 (nI a2)) 11 (nI q2)) 12 1) 13 K2)) 56 (upd (μ 56) (6 + k) K2))) dX9_line_131 (by decide) ly_56 (vp_in_nI (by omega) (by omega)) (by rw [nI_clamp (by omega)]; try exact rfl) ?_
    refine vx_aload_n dX9_line_132 rfl ?_
    refine vx_callV (b := 54) (vs := []) (st := []) (r0 := none) (μ0 := (va_up (va_up μ 54 (upd (upd (upd (upd (upd (upd (upd (upd (upd (μ 54) 7 ((μ 54 7) ||| (1 <<< ((nI k) &&& 31)))) 10 (nI a2)) 11 (nI q2)) 12 1) 13 K2) 10 (nI a3)) 11 (nI q3)) 12 S3) 13 K3)) 56 (upd (μ 56) (6 + k) K2))) dX9_line_133 ((mo_next (d - 1) (by omega) ad (va_up (va_up μ 54 (upd (upd (upd (upd (upd (μ 54) 7 ((μ 54 7) ||| (1 <<< ((nI k) &&& 31)))) 10 (nI a2)) 11 (nI q2)) 12 1) 13 K2)) 56 (upd (μ 56) (6 + k) K2)) a2 e rfl he (by omega) he3 hby hq3 hn3).to rfl ((vx_m2 (by decide)).trans (congrArg (fun m => va_up m 56 (upd (μ 56) (6 + k) K2)) vx_m1))) wd_913 wd_916 wd_54 hy_X9_next wd_915 wd_24 (by decide) ly_54 rfl rfl (by omega) (Nat.le_of_ble_eq_true rfl) (Nat.le_of_ble_eq_true rfl) (Nat.le_refl 0) (Nat.le_refl 0) ?_
    refine vx_eq (μ2 := (va_up (va_up μ 54 (upd (upd (upd (upd (upd (upd (upd (upd (upd (μ 54) 7 ((μ 54 7) ||| (1 <<< ((nI k) &&& 31)))) 10 (nI a2)) 11 (nI q2)) 12 1) 13 K2) 10 (nI a3)) 11 (nI q3)) 12 S3) 13 K3)) 56 (upd (μ 56) (6 + k) K2))) (ls2 := [(1, .inl (nI k)), (0, vx_r 54)]) (st2 := []) rfl rfl rfl ?_
    refine vx_aload_n dX9_line_136 rfl ?_
    refine vx_getI (ci := 9) (T := TX9) (n := 56) (j := 12) (a := 54) (v := S3) dX9_line_137 rfl lay_X9 (by decide) wd_748 (by decide) ly_54 rfl rfl ?_
    refine vx_iconst (v := 2) dX9_line_140 (by decide) ?_
    refine vx_icmp_eq (tgt := 149) dX9_line_141 (by decide) (fun h => absurd h hS3) (fun _ => ?_)
    refine vx_aload_n dX9_line_144 rfl ?_
    refine vx_iconst (v := 1) dX9_line_145 (by decide) ?_
    refine vx_callV (b := 54) (vs := [.inl 1]) (st := []) (r0 := none) (μ0 := (va_up (va_up μ 54 (upd (upd (upd (upd (upd (upd (upd (upd (upd (upd (upd (μ 54) 7 ((μ 54 7) ||| (1 <<< ((nI k) &&& 31)))) 10 (nI a2)) 11 (nI q2)) 12 1) 13 K2) 10 (nI a3)) 11 (nI q3)) 12 S3) 13 K3) 14 1) 15 (nI q3))) 56 (upd (μ 56) (6 + k) K2))) dX9_line_146 ((c_X9_wrong (d - 1) ad (va_up (va_up μ 54 (upd (upd (upd (upd (upd (upd (upd (upd (upd (μ 54) 7 ((μ 54 7) ||| (1 <<< ((nI k) &&& 31)))) 10 (nI a2)) 11 (nI q2)) 12 1) 13 K2) 10 (nI a3)) 11 (nI q3)) 12 S3) 13 K3)) 56 (upd (μ 56) (6 + k) K2)) hf 1).to rfl ((vx_m2 (by decide)).trans (congrArg (fun m => va_up m 56 (upd (μ 56) (6 + k) K2)) vx_m1))) wd_938 wd_941 wd_54 hy_X9_wrong wd_940 wd_28 (by decide) ly_54 rfl rfl (by omega) (Nat.le_of_ble_eq_true rfl) (Nat.le_of_ble_eq_true rfl) (Nat.le_refl 0) (Nat.le_refl 0) ?_
    refine vx_eq (μ2 := (va_up (va_up μ 54 (upd (upd (upd (upd (upd (upd (upd (upd (upd (upd (upd (μ 54) 7 ((μ 54 7) ||| (1 <<< ((nI k) &&& 31)))) 10 (nI a2)) 11 (nI q2)) 12 1) 13 K2) 10 (nI a3)) 11 (nI q3)) 12 S3) 13 K3) 14 1) 15 (nI q3))) 56 (upd (μ 56) (6 + k) K2))) (ls2 := [(1, .inl (nI k)), (0, vx_r 54)]) (st2 := []) rfl rfl rfl ?_
    refine vx_aload_n dX9_line_149 rfl ?_
    refine vx_getI (ci := 9) (T := TX9) (n := 56) (j := 14) (a := 54) (v := 1) dX9_line_150 rfl lay_X9 (by decide) wd_750 (by decide) ly_54 rfl rfl ?_
    refine vx_if_eq (tgt := 157) dX9_line_153 (by decide) (fun h => absurd h (by decide)) (fun _ => ?_)
    exact vx_vret dX9_line_156 rfl (Nat.le_refl 0) (Nat.le_refl 0) (vx_pst hP rfl rfl)
  exact vx_J.M pn_X9_line (Nat.le_of_ble_eq_true rfl) (key _ _ ⟨rfl, rfl, rfl, rfl, rfl⟩)
set_option maxRecDepth 20000 in
set_option maxHeartbeats 2000000 in
theorem mo_lineF (d : Nat) (hd : 7 ≤ d) (ad : Nat → Nat) (μ : vx_mem) (hf : μ 54 14 = 0) (k : Nat) (hk : k < 6) (hS : μ 54 12 = 0) (hK : μ 54 13 = nI k) (hb : bt (μ 54 7) k = false) (e : Nat) (he : μ 54 9 = nI e) (he3 : e ≤ 300) (hby : ∀ j, j < e → ¬ μ 55 j = -1) (a q2 a2 : Nat) (hat : μ 54 10 = nI a) (hae : a ≤ e) (hq2 : sp_run sp_bl (μ 55) e a = q2) (K2 : Int32) (hn2 : mo_nx (μ 55) e q2 (μ 54 13) = (a2, 1, K2)) (ha2 : a2 ≤ e) (hle : ∀ k, k < 6 → μ 58 k = (vx_sv 1).getD k 0) (hmo : ∀ k, k < 6 → μ 59 k = (vx_sv 2).getD k 0) (hD : ¬ (K2 < (vx_sv 1).getD k 0 ∨ (vx_sv 2).getD k 0 < K2)) (q3 a3 : Nat) (K3 : Int32) (hq3 : sp_run sp_bl (μ 55) e a2 = q3) (hn3 : mo_nx (μ 55) e q3 K2 = (a3, 2, K3)) (ha3 : a3 ≤ e) (q4 a4 : Nat) (S4 K4 : Int32) (hq4 : sp_run sp_bl (μ 55) e a3 = q4) (hn4 : mo_nx (μ 55) e q4 K3 = (a4, S4, K4)) : vx_Mf yX9_line cX9_line 2 none d ad 82 vx_lay μ [vx_r 54] none (va_up (va_up μ 54 (upd (upd (upd (upd (upd (upd (upd (upd (upd (upd (upd (upd (upd (upd (μ 54) 7 ((μ 54 7) ||| (1 <<< ((nI k) &&& 31)))) 10 (nI a2)) 11 (nI q2)) 12 1) 13 K2) 10 (nI a3)) 11 (nI q3)) 12 2) 13 K3) 8 (μ 54 8 + 1)) 10 (nI a4)) 11 (nI q4)) 12 S4) 13 K4)) 56 (upd (μ 56) (6 + k) K2)) := by
  have key : ∀ (Post : vx_P) (ini : Bool), Post none ad 82 vx_lay (va_up (va_up μ 54 (upd (upd (upd (upd (upd (upd (upd (upd (upd (upd (upd (upd (upd (upd (μ 54) 7 ((μ 54 7) ||| (1 <<< ((nI k) &&& 31)))) 10 (nI a2)) 11 (nI q2)) 12 1) 13 K2) 10 (nI a3)) 11 (nI q3)) 12 2) 13 K3) 8 (μ 54 8 + 1)) 10 (nI a4)) 11 (nI q4)) 12 S4) 13 K4)) 56 (upd (μ 56) (6 + k) K2)) → vx_J RX9 cX9_line 2 none ini d 0 0 Post ad 0 0 82 vx_lay μ 0 [(0, vx_r 54)] [] := by
    intro Post ini hP
    refine vx_aload_n dX9_line_0 rfl ?_
    refine vx_getI (ci := 9) (T := TX9) (n := 56) (j := 12) (a := 54) (v := 0) dX9_line_1 rfl lay_X9 (by decide) wd_748 (by decide) ly_54 rfl hS ?_
    refine vx_if_eq (tgt := 15) dX9_line_4 (by decide) (fun _ => ?_) (fun h => absurd h (by decide))
    refine vx_aload_n dX9_line_15 rfl ?_
    refine vx_getI (ci := 9) (T := TX9) (n := 56) (j := 7) (a := 54) (v := (μ 54 7)) dX9_line_16 rfl lay_X9 (by decide) wd_743 (by decide) ly_54 rfl rfl ?_
    refine vx_aload_n dX9_line_19 rfl ?_
    refine vx_getI (ci := 9) (T := TX9) (n := 56) (j := 13) (a := 54) (v := (nI k)) dX9_line_20 rfl lay_X9 (by decide) wd_749 (by decide) ly_54 rfl hK ?_
    refine vx_ishr dX9_line_23 ?_
    refine vx_iconst (v := 1) dX9_line_24 (by decide) ?_
    refine vx_iand dX9_line_25 ?_
    refine vx_iconst (v := 1) dX9_line_26 (by decide) ?_
    refine vx_icmp_ne (tgt := 35) dX9_line_27 (by decide) (fun _ => ?_) (fun h => absurd h (by rw [mb_bit _ (by omega), hb]; decide))
    refine vx_aload_n dX9_line_35 rfl ?_
    refine vx_getI (ci := 9) (T := TX9) (n := 56) (j := 14) (a := 54) (v := 0) dX9_line_36 rfl lay_X9 (by decide) wd_750 (by decide) ly_54 rfl hf ?_
    refine vx_if_eq (tgt := 43) dX9_line_39 (by decide) (fun _ => ?_) (fun h => absurd h (by decide))
    refine vx_aload_n dX9_line_43 rfl ?_
    refine vx_getI (ci := 9) (T := TX9) (n := 56) (j := 13) (a := 54) (v := (nI k)) dX9_line_44 rfl lay_X9 (by decide) wd_749 (by decide) ly_54 rfl hK ?_
    refine vx_istore_n (ls2 := [(1, .inl (nI k)), (0, vx_r 54)]) dX9_line_47 (by decide) rfl ?_
    refine vx_aload_n dX9_line_48 rfl ?_
    refine vx_dup dX9_line_49 ?_
    refine vx_getI (ci := 9) (T := TX9) (n := 56) (j := 7) (a := 54) (v := (μ 54 7)) dX9_line_50 rfl lay_X9 (by decide) wd_743 (by decide) ly_54 rfl rfl ?_
    refine vx_iconst (v := 1) dX9_line_53 (by decide) ?_
    refine vx_iload_n dX9_line_54 rfl ?_
    refine vx_ishl dX9_line_55 ?_
    refine vx_ior dX9_line_56 ?_
    refine vx_putI (ci := 9) (T := TX9) (n := 56) (j := 7) (a := 54) (ty := .int) (μ2 := (va_up μ 54 (upd (μ 54) 7 ((μ 54 7) ||| (1 <<< ((nI k) &&& 31)))))) dX9_line_57 rfl lay_X9 tyX9_ok nmX9 (by decide) wd_743 rfl rfl rfl rfl (by decide) ly_54 rfl rfl ?_
    refine vx_aload_n dX9_line_60 rfl ?_
    refine vx_callV (b := 54) (vs := []) (st := []) (r0 := none) (μ0 := (va_up μ 54 (upd (upd (upd (upd (upd (μ 54) 7 ((μ 54 7) ||| (1 <<< ((nI k) &&& 31)))) 10 (nI a2)) 11 (nI q2)) 12 1) 13 K2))) dX9_line_61 ((mo_next (d - 1) (by omega) ad (va_up μ 54 (upd (μ 54) 7 ((μ 54 7) ||| (1 <<< ((nI k) &&& 31))))) a e hat he (by omega) he3 hby hq2 hn2).to rfl vx_m1) wd_913 wd_916 wd_54 hy_X9_next wd_915 wd_24 (by decide) ly_54 rfl rfl (by omega) (Nat.le_of_ble_eq_true rfl) (Nat.le_of_ble_eq_true rfl) (Nat.le_refl 0) (Nat.le_refl 0) ?_
    refine vx_eq (μ2 := (va_up μ 54 (upd (upd (upd (upd (upd (μ 54) 7 ((μ 54 7) ||| (1 <<< ((nI k) &&& 31)))) 10 (nI a2)) 11 (nI q2)) 12 1) 13 K2))) (ls2 := [(1, .inl (nI k)), (0, vx_r 54)]) (st2 := []) rfl rfl rfl ?_
    refine vx_aload_n dX9_line_64 rfl ?_
    refine vx_getI (ci := 9) (T := TX9) (n := 56) (j := 12) (a := 54) (v := 1) dX9_line_65 rfl lay_X9 (by decide) wd_748 (by decide) ly_54 rfl rfl ?_
    refine vx_iconst (v := 1) dX9_line_68 (by decide) ?_
    refine vx_icmp_eq (tgt := 80) dX9_line_69 (by decide) (fun _ => ?_) (fun h => absurd h (by decide))
    refine vx_aload_n dX9_line_80 rfl ?_
    refine vx_getI (ci := 9) (T := TX9) (n := 56) (j := 13) (a := 54) (v := K2) dX9_line_81 rfl lay_X9 (by decide) wd_749 (by decide) ly_54 rfl rfl ?_
    refine vx_aload_n dX9_line_84 rfl ?_
    refine vx_getR (ci := 9) (T := TX9) (n := 56) (j := 5) (a := 54) (r := 58) dX9_line_85 rfl lay_X9 (by decide) wd_741 (by decide) ly_54 rfl ?_
    refine vx_iload_n dX9_line_88 rfl ?_
    refine vx_iald (a := 58) (n := 6) (v := ((vx_sv 1).getD k 0)) dX9_line_89 (by decide) ly_58 (vp_in_nI (by omega) (by omega)) (by rw [nI_clamp (by omega)]; exact (hle k hk)) ?_
    refine vx_icmp_lt (tgt := 106) dX9_line_90 (by decide) (fun h => absurd h (fun h => hD (Or.inl h))) (fun _ => ?_)
    refine vx_aload_n dX9_line_93 rfl ?_
    refine vx_getI (ci := 9) (T := TX9) (n := 56) (j := 13) (a := 54) (v := K2) dX9_line_94 rfl lay_X9 (by decide) wd_749 (by decide) ly_54 rfl rfl ?_
    refine vx_aload_n dX9_line_97 rfl ?_
    refine vx_getR (ci := 9) (T := TX9) (n := 56) (j := 6) (a := 54) (r := 59) dX9_line_98 rfl lay_X9 (by decide) wd_742 (by decide) ly_54 rfl ?_
    refine vx_iload_n dX9_line_101 rfl ?_
    refine vx_iald (a := 59) (n := 6) (v := ((vx_sv 2).getD k 0)) dX9_line_102 (by decide) ly_59 (vp_in_nI (by omega) (by omega)) (by rw [nI_clamp (by omega)]; exact (hmo k hk)) ?_
    refine vx_icmp_le (tgt := 111) dX9_line_103 (by decide) (fun _ => ?_) (fun h => absurd (Int32.not_lt.mp (fun h => hD (Or.inr h))) h)
    refine vx_aload_n dX9_line_111 rfl ?_
    refine vx_getI (ci := 9) (T := TX9) (n := 56) (j := 14) (a := 54) (v := 0) dX9_line_112 rfl lay_X9 (by decide) wd_750 (by decide) ly_54 rfl hf ?_
    refine vx_if_eq (tgt := 119) dX9_line_115 (by decide) (fun _ => ?_) (fun h => absurd h (by decide))
    refine vx_aload_n dX9_line_119 rfl ?_
    refine vx_getR (ci := 9) (T := TX9) (n := 56) (j := 3) (a := 54) (r := 56) dX9_line_120 rfl lay_X9 (by decide) wd_739 (by decide) ly_54 rfl ?_
    refine vx_bipush (v := 6) dX9_line_123 (by decide) ?_
    refine vx_iload_n dX9_line_125 rfl ?_
    refine vx_iadd dX9_line_126 ?_
    refine vx_eq (st2 := [.inl (nI (6 + k)), vx_r 56]) rfl rfl (by rw [show (6 : Int32) = nI 6 from rfl, nI_add]) ?_
    refine vx_aload_n dX9_line_127 rfl ?_
    refine vx_getI (ci := 9) (T := TX9) (n := 56) (j := 13) (a := 54) (v := K2) dX9_line_128 rfl lay_X9 (by decide) wd_749 (by decide) ly_54 rfl rfl ?_
    refine vx_iast (a := 56) (n := 12) (μ2 := (va_up (va_up μ 54 (upd (upd (upd (upd (upd (μ 54) 7 ((μ 54 7) ||| (1 <<< ((nI k) &&& 31)))) 10 (nI a2)) 11 (nI q2)) 12 1) 13 K2)) 56 (upd (μ 56) (6 + k) K2))) dX9_line_131 (by decide) ly_56 (vp_in_nI (by omega) (by omega)) (by rw [nI_clamp (by omega)]; try exact rfl) ?_
    refine vx_aload_n dX9_line_132 rfl ?_
    refine vx_callV (b := 54) (vs := []) (st := []) (r0 := none) (μ0 := (va_up (va_up μ 54 (upd (upd (upd (upd (upd (upd (upd (upd (upd (μ 54) 7 ((μ 54 7) ||| (1 <<< ((nI k) &&& 31)))) 10 (nI a2)) 11 (nI q2)) 12 1) 13 K2) 10 (nI a3)) 11 (nI q3)) 12 2) 13 K3)) 56 (upd (μ 56) (6 + k) K2))) dX9_line_133 ((mo_next (d - 1) (by omega) ad (va_up (va_up μ 54 (upd (upd (upd (upd (upd (μ 54) 7 ((μ 54 7) ||| (1 <<< ((nI k) &&& 31)))) 10 (nI a2)) 11 (nI q2)) 12 1) 13 K2)) 56 (upd (μ 56) (6 + k) K2)) a2 e rfl he (by omega) he3 hby hq3 hn3).to rfl ((vx_m2 (by decide)).trans (congrArg (fun m => va_up m 56 (upd (μ 56) (6 + k) K2)) vx_m1))) wd_913 wd_916 wd_54 hy_X9_next wd_915 wd_24 (by decide) ly_54 rfl rfl (by omega) (Nat.le_of_ble_eq_true rfl) (Nat.le_of_ble_eq_true rfl) (Nat.le_refl 0) (Nat.le_refl 0) ?_
    refine vx_eq (μ2 := (va_up (va_up μ 54 (upd (upd (upd (upd (upd (upd (upd (upd (upd (μ 54) 7 ((μ 54 7) ||| (1 <<< ((nI k) &&& 31)))) 10 (nI a2)) 11 (nI q2)) 12 1) 13 K2) 10 (nI a3)) 11 (nI q3)) 12 2) 13 K3)) 56 (upd (μ 56) (6 + k) K2))) (ls2 := [(1, .inl (nI k)), (0, vx_r 54)]) (st2 := []) rfl rfl rfl ?_
    refine vx_aload_n dX9_line_136 rfl ?_
    refine vx_getI (ci := 9) (T := TX9) (n := 56) (j := 12) (a := 54) (v := 2) dX9_line_137 rfl lay_X9 (by decide) wd_748 (by decide) ly_54 rfl rfl ?_
    refine vx_iconst (v := 2) dX9_line_140 (by decide) ?_
    refine vx_icmp_eq (tgt := 149) dX9_line_141 (by decide) (fun _ => ?_) (fun h => absurd h (by decide))
    refine vx_aload_n dX9_line_149 rfl ?_
    refine vx_getI (ci := 9) (T := TX9) (n := 56) (j := 14) (a := 54) (v := 0) dX9_line_150 rfl lay_X9 (by decide) wd_750 (by decide) ly_54 rfl hf ?_
    refine vx_if_eq (tgt := 157) dX9_line_153 (by decide) (fun _ => ?_) (fun h => absurd h (by decide))
    refine vx_aload_n dX9_line_157 rfl ?_
    refine vx_dup dX9_line_158 ?_
    refine vx_getI (ci := 9) (T := TX9) (n := 56) (j := 8) (a := 54) (v := (μ 54 8)) dX9_line_159 rfl lay_X9 (by decide) wd_744 (by decide) ly_54 rfl rfl ?_
    refine vx_iconst (v := 1) dX9_line_162 (by decide) ?_
    refine vx_iadd dX9_line_163 ?_
    refine vx_putI (ci := 9) (T := TX9) (n := 56) (j := 8) (a := 54) (ty := .int) (μ2 := (va_up (va_up μ 54 (upd (upd (upd (upd (upd (upd (upd (upd (upd (upd (μ 54) 7 ((μ 54 7) ||| (1 <<< ((nI k) &&& 31)))) 10 (nI a2)) 11 (nI q2)) 12 1) 13 K2) 10 (nI a3)) 11 (nI q3)) 12 2) 13 K3) 8 ((μ 54 8) + 1))) 56 (upd (μ 56) (6 + k) K2))) dX9_line_164 rfl lay_X9 tyX9_ok nmX9 (by decide) wd_744 rfl rfl rfl rfl (by decide) ly_54 rfl ((vx_m2 (by decide)).trans (congrArg (fun m => va_up m 56 (upd (μ 56) (6 + k) K2)) vx_m1)) ?_
    refine vx_aload_n dX9_line_167 rfl ?_
    refine vx_callV (b := 54) (vs := []) (st := []) (r0 := none) (μ0 := (va_up (va_up μ 54 (upd (upd (upd (upd (upd (upd (upd (upd (upd (upd (upd (upd (upd (upd (μ 54) 7 ((μ 54 7) ||| (1 <<< ((nI k) &&& 31)))) 10 (nI a2)) 11 (nI q2)) 12 1) 13 K2) 10 (nI a3)) 11 (nI q3)) 12 2) 13 K3) 8 ((μ 54 8) + 1)) 10 (nI a4)) 11 (nI q4)) 12 S4) 13 K4)) 56 (upd (μ 56) (6 + k) K2))) dX9_line_168 ((mo_next (d - 1) (by omega) ad (va_up (va_up μ 54 (upd (upd (upd (upd (upd (upd (upd (upd (upd (upd (μ 54) 7 ((μ 54 7) ||| (1 <<< ((nI k) &&& 31)))) 10 (nI a2)) 11 (nI q2)) 12 1) 13 K2) 10 (nI a3)) 11 (nI q3)) 12 2) 13 K3) 8 ((μ 54 8) + 1))) 56 (upd (μ 56) (6 + k) K2)) a3 e rfl he (by omega) he3 hby hq4 hn4).to rfl ((vx_m2 (by decide)).trans (congrArg (fun m => va_up m 56 (upd (μ 56) (6 + k) K2)) vx_m1))) wd_913 wd_916 wd_54 hy_X9_next wd_915 wd_24 (by decide) ly_54 rfl rfl (by omega) (Nat.le_of_ble_eq_true rfl) (Nat.le_of_ble_eq_true rfl) (Nat.le_refl 0) (Nat.le_refl 0) ?_
    refine vx_eq (μ2 := (va_up (va_up μ 54 (upd (upd (upd (upd (upd (upd (upd (upd (upd (upd (upd (upd (upd (upd (μ 54) 7 ((μ 54 7) ||| (1 <<< ((nI k) &&& 31)))) 10 (nI a2)) 11 (nI q2)) 12 1) 13 K2) 10 (nI a3)) 11 (nI q3)) 12 2) 13 K3) 8 ((μ 54 8) + 1)) 10 (nI a4)) 11 (nI q4)) 12 S4) 13 K4)) 56 (upd (μ 56) (6 + k) K2))) (ls2 := [(1, .inl (nI k)), (0, vx_r 54)]) (st2 := []) rfl rfl rfl ?_
    exact vx_vret dX9_line_171 rfl (Nat.le_refl 0) (Nat.le_refl 0) (vx_pst hP rfl rfl)
  exact vx_J.M pn_X9_line (Nat.le_of_ble_eq_true rfl) (key _ _ ⟨rfl, rfl, rfl, rfl, rfl⟩)
end
