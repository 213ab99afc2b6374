section
variable {len n dy pl sa wy L sp : Nat} {μc μm μc' μm' : vx_mem}
set_option maxRecDepth 20000 in
set_option maxHeartbeats 2000000 in
theorem rl_dl {ad : Nat → Nat} {N : Nat} (hN : N ≤ 99) : ∀ (r i : Nat) (μ : vx_mem) (dy pl wy sp : Nat), i + r = N → dy + r ≤ 999 → (∃ μX sa, rlp len n dy pl sa wy L sp μ μX) → ∃ μ', (∀ p, 54 ≤ p → μ' p = μ p) ∧ (∀ (Post : vx_P) (ini : Bool), Post (some (.inl (nI (dy + r)))) ad 82 vx_lay μ' → vx_J RX8 cX8_day 3 (some (.int)) ini 20 0 0 Post ad 0 0 82 vx_lay μ 29 [(2, .inl (nI i)), (0, vx_r 0), (1, .inl (nI N))] []) ∧ ∀ μm sa, rlp len n dy pl sa wy L sp μ μm → ∃ μm', (∀ p, p < 54 → μm' p = μm p) ∧ rl μ' μm' ∧ ∀ (Post : vx_P) (ini : Bool), Post (some (.inl (nI (dy + r)))) ad 82 vx_lay μm' → vx_J RX9 cX9_day 3 (some (.int)) ini 20 0 0 Post ad 0 0 82 vx_lay μm 32 [(2, .inl (nI i)), (0, vx_r 54), (1, .inl (nI N))] [] := by
  intro r
  induction r with
  | zero =>
    intro i μ dy pl wy sp hi hdy ⟨μX, sa, hX⟩
    have hdyc := hX.2.2.2.2.1.1
    refine ⟨μ, fun _ _ => rfl, fun Post ini hP => ?_, fun μm sa h => ⟨μm, fun _ _ => rfl, h.rl, fun Post ini hP => ?_⟩⟩
    · refine vx_iload_n dX8_day_29 rfl ?_
      refine vx_iload_n dX8_day_30 rfl ?_
      refine vx_icmp_ge (tgt := 44) dX8_day_31 (by decide) (fun _ => ?_) (fun h => absurd (by show (nI (N) ≤ nI (i)); rw [nI_leI (by omega) (by omega)]; omega) h)
      refine vx_aload_n dX8_day_44 rfl ?_
      refine vx_getR (ci := 8) (T := TX8) (n := 8) (j := 7) (a := 0) (r := 53) dX8_day_45 rfl lay_X8 (by decide) wd_350 (by decide) ly_0 rfl ?_
      refine vx_getI (ci := 2) (T := TX2) (n := 6) (j := 0) (a := 53) (v := (nI dy)) dX8_day_48 rfl lay_X2 (by decide) wd_319 (by decide) ly_53 rfl hdyc ?_
      exact vx_ret (ty := .int) dX8_day_51 rfl rfl (Nat.le_refl 0) (Nat.le_refl 0) (vx_pst hP rfl rfl)
    · have hdym := h.2.2.2.2.1.2.1
      refine vx_iload_n dX9_day_32 rfl ?_
      refine vx_iload_n dX9_day_33 rfl ?_
      refine vx_icmp_ge (tgt := 47) dX9_day_34 (by decide) (fun _ => ?_) (fun h => absurd (by show (nI (N) ≤ nI (i)); rw [nI_leI (by omega) (by omega)]; omega) h)
      refine vx_aload_n dX9_day_47 rfl ?_
      refine vx_getI (ci := 9) (T := TX9) (n := 56) (j := 34) (a := 54) (v := (nI dy)) dX9_day_48 rfl lay_X9 (by decide) wd_770 (by decide) ly_54 rfl hdym ?_
      exact vx_ret (ty := .int) dX9_day_51 rfl rfl (Nat.le_refl 0) (Nat.le_refl 0) (vx_pst hP rfl rfl)
  | succ r ih =>
    intro i μ dy pl wy sp hi hdy ⟨μX, sa, hX⟩
    have hn := hX.2.2.1.2.2.1
    have hpn := hX.2.2.2.2.1.2.2.2.2.1
    have hpc := hX.2.2.2.2.1.2.2.2.1
    obtain ⟨pl1, sa1, wy1, sp1, h1⟩ := rl_day hX (by omega)
    obtain ⟨μ', hfr, hJ, hm⟩ := ih (i + 1) (sp_day μ n pl sp L (rl_fo μ L sp)) (dy + 1) pl1 wy1 sp1 (by omega) (by omega) ⟨_, sa1, h1⟩
    rw [show dy + (r + 1) = dy + 1 + r by omega]
    refine ⟨μ', fun p hp => (hfr p hp).trans (sp_day_fr hp), fun Post ini hP => ?_, fun μm sa h => ?_⟩
    · refine vx_iload_n dX8_day_29 rfl ?_
      refine vx_iload_n dX8_day_30 rfl ?_
      refine vx_icmp_ge (tgt := 44) dX8_day_31 (by decide) (fun h => absurd h (by show ¬ (nI (N) ≤ nI (i)); rw [nI_leI (by omega) (by omega)]; omega)) (fun _ => ?_)
      refine vx_aload_n dX8_day_34 rfl ?_
      refine vx_callV (b := 0) (vs := []) (st := []) (r0 := none) (μ0 := (sp_day μ n pl sp L (rl_fo μ L sp))) dX8_day_35 (c_X8_passDay 19 (by omega) ad μ n (rl_ckc hX) pl sp L _ hpc (by omega) (rl_spgo hX)) wd_661 wd_664 wd_45 hy_X8_passDay wd_663 wd_14 (by decide) ly_0 rfl rfl (by omega) (Nat.le_of_ble_eq_true rfl) (Nat.le_of_ble_eq_true rfl) (Nat.le_refl 0) (Nat.le_refl 0) ?_
      refine vx_eq (μ2 := (sp_day μ n pl sp L (rl_fo μ L sp))) (ls2 := [(2, .inl (nI i)), (0, vx_r 0), (1, .inl (nI N))]) (st2 := []) rfl rfl rfl ?_
      refine vx_iinc (v := (nI (i + 1))) (ls2 := [(2, .inl (nI (i + 1))), (0, vx_r 0), (1, .inl (nI N))]) dX8_day_38 rfl (nI_1 _) (by decide) rfl ?_
      refine vx_goto (tgt := 29) dX8_day_41 (by decide) ?_
      refine vx_keep (ls2 := [(2, .inl (nI (i + 1))), (0, vx_r 0), (1, .inl (nI N))]) ⟨rfl, rfl, rfl, trivial⟩ ?_
      exact hJ Post ini hP
    · obtain ⟨pl2, sa2, wy2, sp2, h2⟩ := rl_day h (by omega)
      obtain ⟨μm', hfm, hrl, hJm⟩ := hm _ sa2 (rl_uni h1 h2)
      refine ⟨μm', fun p hp => (hfm p hp).trans (mo_day_fr hp), hrl, fun Post ini hP => ?_⟩
      refine vx_iload_n dX9_day_32 rfl ?_
      refine vx_iload_n dX9_day_33 rfl ?_
      refine vx_icmp_ge (tgt := 47) dX9_day_34 (by decide) (fun h => absurd h (by show ¬ (nI (N) ≤ nI (i)); rw [nI_leI (by omega) (by omega)]; omega)) (fun _ => ?_)
      refine vx_aload_n dX9_day_37 rfl ?_
      refine vx_callV (b := 54) (vs := []) (st := []) (r0 := none) (μ0 := (mo_day μm n pl sp L (rl_fo μ L sp))) dX9_day_38 (c_X9_oneDay 19 (by omega) ad μm n (rl_ckm h) pl sp L _ (rl_mogo h)) wd_1027 wd_1030 wd_54 hy_X9_oneDay wd_1029 wd_40 (by decide) ly_54 rfl rfl (by omega) (Nat.le_of_ble_eq_true rfl) (Nat.le_of_ble_eq_true rfl) (Nat.le_refl 0) (Nat.le_refl 0) ?_
      refine vx_eq (μ2 := (mo_day μm n pl sp L (rl_fo μ L sp))) (ls2 := [(2, .inl (nI i)), (0, vx_r 54), (1, .inl (nI N))]) (st2 := []) rfl rfl rfl ?_
      refine vx_iinc (v := (nI (i + 1))) (ls2 := [(2, .inl (nI (i + 1))), (0, vx_r 54), (1, .inl (nI N))]) dX9_day_41 rfl (nI_1 _) (by decide) rfl ?_
      refine vx_goto (tgt := 32) dX9_day_44 (by decide) ?_
      refine vx_keep (ls2 := [(2, .inl (nI (i + 1))), (0, vx_r 54), (1, .inl (nI N))]) ⟨rfl, rfl, rfl, trivial⟩ ?_
      exact hJm Post ini hP
set_option maxRecDepth 20000 in
set_option maxHeartbeats 2000000 in
theorem st_day (x : Int32) : rl_st yX8_day cX8_day 3 (some (.int)) yX9_day cX9_day 3 (some (.int)) [.inl x] := by
  intro ad μc μ0 len n dy pl sa wy L sp h0
  have hdyc := h0.2.2.2.2.1.1
  have hdy9 := h0.2.2.2.2.1.2.2.1
  by_cases hk : sp_in x 1 99 = 0
  · have hC : vx_Mf yX8_day cX8_day 3 (some (.int)) 20 ad 82 vx_lay μc [vx_r 0, .inl x] (some (.inl (-1))) μc := by
      have key : ∀ (Post : vx_P) (ini : Bool), Post (some (.inl (-1))) ad 82 vx_lay μc → vx_J RX8 cX8_day 3 (some (.int)) ini 20 0 0 Post ad 0 0 82 vx_lay μc 0 [(0, vx_r 0), (1, .inl x)] [] := by
        intro Post ini hP
        refine vx_iload_n dX8_day_0 rfl ?_
        refine vx_iconst (v := 1) dX8_day_1 (by decide) ?_
        refine vx_bipush (v := 99) dX8_day_2 (by decide) ?_
        refine vx_callS (vs := [.inl x, .inl 1, .inl 99]) (st := []) (r0 := (some (.inl (sp_in x 1 99)))) (μ0 := μc) dX8_day_4 (c_X8_within 19 ad 82 vx_lay μc x 1 99) wd_507 wd_416 wd_45 hy_X8_within wd_415 (by omega) (Nat.le_of_ble_eq_true rfl) (Nat.le_of_ble_eq_true rfl) (Nat.le_refl 0) (Nat.le_refl 0) ?_
        refine vx_eq (μ2 := μc) (ls2 := [(0, vx_r 0), (1, .inl x)]) (st2 := [.inl (sp_in x 1 99)]) rfl rfl rfl ?_
        refine vx_if_eq (tgt := 25) dX8_day_7 (by decide) (fun _ => ?_) (fun h => absurd hk h)
        refine vx_iconst (v := (-1)) dX8_day_25 (by decide) ?_
        exact vx_ret (ty := .int) dX8_day_26 rfl rfl (Nat.le_refl 0) (Nat.le_refl 0) (vx_pst hP rfl rfl)
      exact vx_J.M pn_X8_day (Nat.le_of_ble_eq_true rfl) (key _ _ ⟨rfl, rfl, rfl, rfl, rfl⟩)
    refine ⟨-1, μc, hC, fun _ _ => rfl, fun μm h => ?_⟩
    have ht := h.2.1.2.2.2.2.2.2.2
    refine ⟨μm, ?_, fun _ _ => rfl, h.rl⟩
    by_cases hx : x < 1
    · have hM : vx_Mf yX9_day cX9_day 3 (some (.int)) 20 ad 82 vx_lay μm [vx_r 54, .inl x] (some (.inl (-1))) μm := by
        have key : ∀ (Post : vx_P) (ini : Bool), Post (some (.inl (-1))) ad 82 vx_lay μm → vx_J RX9 cX9_day 3 (some (.int)) ini 20 0 0 Post ad 0 0 82 vx_lay μm 0 [(0, vx_r 54), (1, .inl x)] [] := by
          intro Post ini hP
          refine vx_aload_n dX9_day_0 rfl ?_
          refine vx_iconst (v := 0) dX9_day_1 (by decide) ?_
          refine vx_putI (ci := 9) (T := TX9) (n := 56) (j := 0) (a := 54) (ty := .int) (μ2 := (va_up μm 54 (upd (μm 54) 0 0))) dX9_day_2 rfl lay_X9 tyX9_ok nmX9 (by decide) wd_736 rfl rfl rfl rfl (by decide) ly_54 rfl rfl ?_
          refine vx_eq (μ2 := μm) (by rw [sp_ups ht, vx_up_id]) rfl rfl ?_
          refine vx_iload_n dX9_day_5 rfl ?_
          refine vx_iconst (v := 1) dX9_day_6 (by decide) ?_
          refine vx_icmp_lt (tgt := 28) dX9_day_7 (by decide) (fun _ => ?_) (fun h => absurd hx h)
          refine vx_iconst (v := (-1)) dX9_day_28 (by decide) ?_
          exact vx_ret (ty := .int) dX9_day_29 rfl rfl (Nat.le_refl 0) (Nat.le_refl 0) (vx_pst hP rfl rfl)
        exact vx_J.M pn_X9_day (Nat.le_of_ble_eq_true rfl) (key _ _ ⟨rfl, rfl, rfl, rfl, rfl⟩)
      exact hM
    · have hx2 : 99 < x := by
        rw [sp_inI, tI_1, tI_99] at hk
        rw [zz_lt, tI_1] at hx
        rw [zz_lt, tI_99]
        omega
      have hM : vx_Mf yX9_day cX9_day 3 (some (.int)) 20 ad 82 vx_lay μm [vx_r 54, .inl x] (some (.inl (-1))) μm := by
        have key : ∀ (Post : vx_P) (ini : Bool), Post (some (.inl (-1))) ad 82 vx_lay μm → vx_J RX9 cX9_day 3 (some (.int)) ini 20 0 0 Post ad 0 0 82 vx_lay μm 0 [(0, vx_r 54), (1, .inl x)] [] := by
          intro Post ini hP
          refine vx_aload_n dX9_day_0 rfl ?_
          refine vx_iconst (v := 0) dX9_day_1 (by decide) ?_
          refine vx_putI (ci := 9) (T := TX9) (n := 56) (j := 0) (a := 54) (ty := .int) (μ2 := (va_up μm 54 (upd (μm 54) 0 0))) dX9_day_2 rfl lay_X9 tyX9_ok nmX9 (by decide) wd_736 rfl rfl rfl rfl (by decide) ly_54 rfl rfl ?_
          refine vx_eq (μ2 := μm) (by rw [sp_ups ht, vx_up_id]) rfl rfl ?_
          refine vx_iload_n dX9_day_5 rfl ?_
          refine vx_iconst (v := 1) dX9_day_6 (by decide) ?_
          refine vx_icmp_lt (tgt := 28) dX9_day_7 (by decide) (fun h => absurd h hx) (fun _ => ?_)
          refine vx_iload_n dX9_day_10 rfl ?_
          refine vx_bipush (v := 99) dX9_day_11 (by decide) ?_
          refine vx_icmp_gt (tgt := 28) dX9_day_13 (by decide) (fun _ => ?_) (fun h => absurd hx2 h)
          refine vx_iconst (v := (-1)) dX9_day_28 (by decide) ?_
          exact vx_ret (ty := .int) dX9_day_29 rfl rfl (Nat.le_refl 0) (Nat.le_refl 0) (vx_pst hP rfl rfl)
        exact vx_J.M pn_X9_day (Nat.le_of_ble_eq_true rfl) (key _ _ ⟨rfl, rfl, rfl, rfl, rfl⟩)
      exact hM
  · obtain ⟨N, rfl, hN1, hN⟩ : ∃ N, x = nI N ∧ 1 ≤ N ∧ N ≤ 99 := by
      rw [sp_inI, tI_1, tI_99] at hk
      refine ⟨x.toInt.toNat, ?_, by omega, by omega⟩
      rw [zz_eq, nI_toInt (by omega)]
      omega
    have hx : ¬ nI N < 1 := by rw [show (1 : Int32) = nI 1 from rfl, nI_ltI (by omega) (by omega)]; omega
    have hx2 : ¬ 99 < nI N := by rw [show (99 : Int32) = nI 99 from rfl, nI_ltI (by omega) (by omega)]; omega
    by_cases h9 : dy + N ≤ 999
    · obtain ⟨μ', hfr, hJ, hm⟩ := rl_dl (ad := ad) hN N 0 μc dy pl wy sp (by omega) h9 ⟨μ0, sa, h0⟩
      have hC : vx_Mf yX8_day cX8_day 3 (some (.int)) 20 ad 82 vx_lay μc [vx_r 0, .inl (nI N)] (some (.inl (nI (dy + N)))) μ' := by
        have key : ∀ (Post : vx_P) (ini : Bool), Post (some (.inl (nI (dy + N)))) ad 82 vx_lay μ' → vx_J RX8 cX8_day 3 (some (.int)) ini 20 0 0 Post ad 0 0 82 vx_lay μc 0 [(0, vx_r 0), (1, .inl (nI N))] [] := by
          intro Post ini hP
          refine vx_iload_n dX8_day_0 rfl ?_
          refine vx_iconst (v := 1) dX8_day_1 (by decide) ?_
          refine vx_bipush (v := 99) dX8_day_2 (by decide) ?_
          refine vx_callS (vs := [.inl (nI N), .inl 1, .inl 99]) (st := []) (r0 := (some (.inl (sp_in (nI N) 1 99)))) (μ0 := μc) dX8_day_4 (c_X8_within 19 ad 82 vx_lay μc (nI N) 1 99) wd_507 wd_416 wd_45 hy_X8_within wd_415 (by omega) (Nat.le_of_ble_eq_true rfl) (Nat.le_of_ble_eq_true rfl) (Nat.le_refl 0) (Nat.le_refl 0) ?_
          refine vx_eq (μ2 := μc) (ls2 := [(0, vx_r 0), (1, .inl (nI N))]) (st2 := [.inl (sp_in (nI N) 1 99)]) rfl rfl rfl ?_
          refine vx_if_eq (tgt := 25) dX8_day_7 (by decide) (fun h => absurd h hk) (fun _ => ?_)
          refine vx_aload_n dX8_day_10 rfl ?_
          refine vx_getR (ci := 8) (T := TX8) (n := 8) (j := 7) (a := 0) (r := 53) dX8_day_11 rfl lay_X8 (by decide) wd_350 (by decide) ly_0 rfl ?_
          refine vx_getI (ci := 2) (T := TX2) (n := 6) (j := 0) (a := 53) (v := (nI dy)) dX8_day_14 rfl lay_X2 (by decide) wd_319 (by decide) ly_53 rfl hdyc ?_
          refine vx_iload_n dX8_day_17 rfl ?_
          refine vx_iadd dX8_day_18 ?_
          refine vx_eq (st2 := [.inl (nI (dy + N))]) rfl rfl (by rw [nI_add]) ?_
          refine vx_sipush (v := 999) dX8_day_19 (by decide) ?_
          refine vx_icmp_le (tgt := 27) dX8_day_22 (by decide) (fun _ => ?_) (fun h => absurd (by show (nI ((dy + N)) ≤ nI (999)); rw [nI_leI (by omega) (by omega)]; omega) h)
          refine vx_iconst (v := 0) dX8_day_27 (by decide) ?_
          refine vx_istore_n (ls2 := [(2, .inl 0), (0, vx_r 0), (1, .inl (nI N))]) dX8_day_28 (by decide) rfl ?_
          refine vx_keep (ls2 := [(2, .inl (nI 0)), (0, vx_r 0), (1, .inl (nI N))]) ⟨rfl, rfl, rfl, trivial⟩ ?_
          exact hJ Post ini hP
        exact vx_J.M pn_X8_day (Nat.le_of_ble_eq_true rfl) (key _ _ ⟨rfl, rfl, rfl, rfl, rfl⟩)
      refine ⟨nI (dy + N), μ', hC, hfr, fun μm h => ?_⟩
      have ht := h.2.1.2.2.2.2.2.2.2
      have hdym := h.2.2.2.2.1.2.1
      obtain ⟨μm', hfm, hrl, hJm⟩ := hm μm sa h
      have hM : vx_Mf yX9_day cX9_day 3 (some (.int)) 20 ad 82 vx_lay μm [vx_r 54, .inl (nI N)] (some (.inl (nI (dy + N)))) μm' := by
        have key : ∀ (Post : vx_P) (ini : Bool), Post (some (.inl (nI (dy + N)))) ad 82 vx_lay μm' → vx_J RX9 cX9_day 3 (some (.int)) ini 20 0 0 Post ad 0 0 82 vx_lay μm 0 [(0, vx_r 54), (1, .inl (nI N))] [] := by
          intro Post ini hP
          refine vx_aload_n dX9_day_0 rfl ?_
          refine vx_iconst (v := 0) dX9_day_1 (by decide) ?_
          refine vx_putI (ci := 9) (T := TX9) (n := 56) (j := 0) (a := 54) (ty := .int) (μ2 := (va_up μm 54 (upd (μm 54) 0 0))) dX9_day_2 rfl lay_X9 tyX9_ok nmX9 (by decide) wd_736 rfl rfl rfl rfl (by decide) ly_54 rfl rfl ?_
          refine vx_eq (μ2 := μm) (by rw [sp_ups ht, vx_up_id]) rfl rfl ?_
          refine vx_iload_n dX9_day_5 rfl ?_
          refine vx_iconst (v := 1) dX9_day_6 (by decide) ?_
          refine vx_icmp_lt (tgt := 28) dX9_day_7 (by decide) (fun h => absurd h hx) (fun _ => ?_)
          refine vx_iload_n dX9_day_10 rfl ?_
          refine vx_bipush (v := 99) dX9_day_11 (by decide) ?_
          refine vx_icmp_gt (tgt := 28) dX9_day_13 (by decide) (fun h => absurd h hx2) (fun _ => ?_)
          refine vx_aload_n dX9_day_16 rfl ?_
          refine vx_getI (ci := 9) (T := TX9) (n := 56) (j := 34) (a := 54) (v := (nI dy)) dX9_day_17 rfl lay_X9 (by decide) wd_770 (by decide) ly_54 rfl hdym ?_
          refine vx_iload_n dX9_day_20 rfl ?_
          refine vx_iadd dX9_day_21 ?_
          refine vx_eq (st2 := [.inl (nI (dy + N))]) rfl rfl (by rw [nI_add]) ?_
          refine vx_sipush (v := 999) dX9_day_22 (by decide) ?_
          refine vx_icmp_le (tgt := 30) dX9_day_25 (by decide) (fun _ => ?_) (fun h => absurd (by show (nI ((dy + N)) ≤ nI (999)); rw [nI_leI (by omega) (by omega)]; omega) h)
          refine vx_iconst (v := 0) dX9_day_30 (by decide) ?_
          refine vx_istore_n (ls2 := [(2, .inl 0), (0, vx_r 54), (1, .inl (nI N))]) dX9_day_31 (by decide) rfl ?_
          refine vx_keep (ls2 := [(2, .inl (nI 0)), (0, vx_r 54), (1, .inl (nI N))]) ⟨rfl, rfl, rfl, trivial⟩ ?_
          exact hJm Post ini hP
        exact vx_J.M pn_X9_day (Nat.le_of_ble_eq_true rfl) (key _ _ ⟨rfl, rfl, rfl, rfl, rfl⟩)
      exact ⟨μm', hM, hfm, hrl⟩
    · have hC : vx_Mf yX8_day cX8_day 3 (some (.int)) 20 ad 82 vx_lay μc [vx_r 0, .inl (nI N)] (some (.inl (-1))) μc := by
        have key : ∀ (Post : vx_P) (ini : Bool), Post (some (.inl (-1))) ad 82 vx_lay μc → vx_J RX8 cX8_day 3 (some (.int)) ini 20 0 0 Post ad 0 0 82 vx_lay μc 0 [(0, vx_r 0), (1, .inl (nI N))] [] := by
          intro Post ini hP
          refine vx_iload_n dX8_day_0 rfl ?_
          refine vx_iconst (v := 1) dX8_day_1 (by decide) ?_
          refine vx_bipush (v := 99) dX8_day_2 (by decide) ?_
          refine vx_callS (vs := [.inl (nI N), .inl 1, .inl 99]) (st := []) (r0 := (some (.inl (sp_in (nI N) 1 99)))) (μ0 := μc) dX8_day_4 (c_X8_within 19 ad 82 vx_lay μc (nI N) 1 99) wd_507 wd_416 wd_45 hy_X8_within wd_415 (by omega) (Nat.le_of_ble_eq_true rfl) (Nat.le_of_ble_eq_true rfl) (Nat.le_refl 0) (Nat.le_refl 0) ?_
          refine vx_eq (μ2 := μc) (ls2 := [(0, vx_r 0), (1, .inl (nI N))]) (st2 := [.inl (sp_in (nI N) 1 99)]) rfl rfl rfl ?_
          refine vx_if_eq (tgt := 25) dX8_day_7 (by decide) (fun h => absurd h hk) (fun _ => ?_)
          refine vx_aload_n dX8_day_10 rfl ?_
          refine vx_getR (ci := 8) (T := TX8) (n := 8) (j := 7) (a := 0) (r := 53) dX8_day_11 rfl lay_X8 (by decide) wd_350 (by decide) ly_0 rfl ?_
          refine vx_getI (ci := 2) (T := TX2) (n := 6) (j := 0) (a := 53) (v := (nI dy)) dX8_day_14 rfl lay_X2 (by decide) wd_319 (by decide) ly_53 rfl hdyc ?_
          refine vx_iload_n dX8_day_17 rfl ?_
          refine vx_iadd dX8_day_18 ?_
          refine vx_eq (st2 := [.inl (nI (dy + N))]) rfl rfl (by rw [nI_add]) ?_
          refine vx_sipush (v := 999) dX8_day_19 (by decide) ?_
          refine vx_icmp_le (tgt := 27) dX8_day_22 (by decide) (fun h => absurd h (by show ¬ (nI ((dy + N)) ≤ nI (999)); rw [nI_leI (by omega) (by omega)]; omega)) (fun _ => ?_)
          refine vx_iconst (v := (-1)) dX8_day_25 (by decide) ?_
          exact vx_ret (ty := .int) dX8_day_26 rfl rfl (Nat.le_refl 0) (Nat.le_refl 0) (vx_pst hP rfl rfl)
        exact vx_J.M pn_X8_day (Nat.le_of_ble_eq_true rfl) (key _ _ ⟨rfl, rfl, rfl, rfl, rfl⟩)
      refine ⟨-1, μc, hC, fun _ _ => rfl, fun μm h => ?_⟩
      have ht := h.2.1.2.2.2.2.2.2.2
      have hdym := h.2.2.2.2.1.2.1
      have hM : vx_Mf yX9_day cX9_day 3 (some (.int)) 20 ad 82 vx_lay μm [vx_r 54, .inl (nI N)] (some (.inl (-1))) μm := by
        have key : ∀ (Post : vx_P) (ini : Bool), Post (some (.inl (-1))) ad 82 vx_lay μm → vx_J RX9 cX9_day 3 (some (.int)) ini 20 0 0 Post ad 0 0 82 vx_lay μm 0 [(0, vx_r 54), (1, .inl (nI N))] [] := by
          intro Post ini hP
          refine vx_aload_n dX9_day_0 rfl ?_
          refine vx_iconst (v := 0) dX9_day_1 (by decide) ?_
          refine vx_putI (ci := 9) (T := TX9) (n := 56) (j := 0) (a := 54) (ty := .int) (μ2 := (va_up μm 54 (upd (μm 54) 0 0))) dX9_day_2 rfl lay_X9 tyX9_ok nmX9 (by decide) wd_736 rfl rfl rfl rfl (by decide) ly_54 rfl rfl ?_
          refine vx_eq (μ2 := μm) (by rw [sp_ups ht, vx_up_id]) rfl rfl ?_
          refine vx_iload_n dX9_day_5 rfl ?_
          refine vx_iconst (v := 1) dX9_day_6 (by decide) ?_
          refine vx_icmp_lt (tgt := 28) dX9_day_7 (by decide) (fun h => absurd h hx) (fun _ => ?_)
          refine vx_iload_n dX9_day_10 rfl ?_
          refine vx_bipush (v := 99) dX9_day_11 (by decide) ?_
          refine vx_icmp_gt (tgt := 28) dX9_day_13 (by decide) (fun h => absurd h hx2) (fun _ => ?_)
          refine vx_aload_n dX9_day_16 rfl ?_
          refine vx_getI (ci := 9) (T := TX9) (n := 56) (j := 34) (a := 54) (v := (nI dy)) dX9_day_17 rfl lay_X9 (by decide) wd_770 (by decide) ly_54 rfl hdym ?_
          refine vx_iload_n dX9_day_20 rfl ?_
          refine vx_iadd dX9_day_21 ?_
          refine vx_eq (st2 := [.inl (nI (dy + N))]) rfl rfl (by rw [nI_add]) ?_
          refine vx_sipush (v := 999) dX9_day_22 (by decide) ?_
          refine vx_icmp_le (tgt := 30) dX9_day_25 (by decide) (fun h => absurd h (by show ¬ (nI ((dy + N)) ≤ nI (999)); rw [nI_leI (by omega) (by omega)]; omega)) (fun _ => ?_)
          refine vx_iconst (v := (-1)) dX9_day_28 (by decide) ?_
          exact vx_ret (ty := .int) dX9_day_29 rfl rfl (Nat.le_refl 0) (Nat.le_refl 0) (vx_pst hP rfl rfl)
        exact vx_J.M pn_X9_day (Nat.le_of_ble_eq_true rfl) (key _ _ ⟨rfl, rfl, rfl, rfl, rfl⟩)
      exact ⟨μm, hM, fun _ _ => rfl, h.rl⟩
end
