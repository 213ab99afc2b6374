section
/-- a line of customs, from p on: its fault (0: none), the place behind it or of the fault, what is told then -/
def sp_ln (t : Nat → Int32) (e : Nat) (told : Nat → Int32) (p : Nat) : Int32 × Nat × (Nat → Int32) :=
  if sp_kind t p (sp_run (sp_inB 97 122) t e p) = -1 then (1, p, told) else
  if ¬ told (sp_kind t p (sp_run (sp_inB 97 122) t e p)).toNatClampNeg = -1 then (3, p, told) else
  if sp_run (sp_inB 48 57) t e (sp_run sp_bl t e (sp_run (sp_inB 97 122) t e p)) = sp_run sp_bl t e (sp_run (sp_inB 97 122) t e p) then (1, sp_run sp_bl t e (sp_run (sp_inB 97 122) t e p), told) else
  if sp_in (sp_numC t (sp_run sp_bl t e (sp_run (sp_inB 97 122) t e p)) (sp_run (sp_inB 48 57) t e (sp_run sp_bl t e (sp_run (sp_inB 97 122) t e p)) - sp_run sp_bl t e (sp_run (sp_inB 97 122) t e p))) ((vx_sv 1).getD (sp_kind t p (sp_run (sp_inB 97 122) t e p)).toNatClampNeg 0) ((vx_sv 2).getD (sp_kind t p (sp_run (sp_inB 97 122) t e p)).toNatClampNeg 0) = 0 then (2, sp_run sp_bl t e (sp_run (sp_inB 97 122) t e p), told) else
  if ¬ sp_ba t e (sp_run sp_bl t e (sp_run (sp_inB 48 57) t e (sp_run sp_bl t e (sp_run (sp_inB 97 122) t e p)))) = 59 then (1, sp_run sp_bl t e (sp_run (sp_inB 48 57) t e (sp_run sp_bl t e (sp_run (sp_inB 97 122) t e p))), told) else
  (0, sp_run sp_bl t e (sp_run (sp_inB 48 57) t e (sp_run sp_bl t e (sp_run (sp_inB 97 122) t e p))) + 1, upd told (sp_kind t p (sp_run (sp_inB 97 122) t e p)).toNatClampNeg (sp_numC t (sp_run sp_bl t e (sp_run (sp_inB 97 122) t e p)) (sp_run (sp_inB 48 57) t e (sp_run sp_bl t e (sp_run (sp_inB 97 122) t e p)) - sp_run sp_bl t e (sp_run (sp_inB 97 122) t e p))))
theorem sp_kind_in (t : Nat → Int32) (p q : Nat) : sp_kind t p q = -1 ∨ ∃ k, k < 6 ∧ sp_kind t p q = nI k := by
  unfold sp_kind
  split
  · exact Or.inr ⟨0, by omega, rfl⟩
  · split
    · exact Or.inr ⟨1, by omega, rfl⟩
    · split
      · exact Or.inr ⟨2, by omega, rfl⟩
      · split
        · exact Or.inr ⟨3, by omega, rfl⟩
        · split
          · exact Or.inr ⟨4, by omega, rfl⟩
          · split
            · exact Or.inr ⟨5, by omega, rfl⟩
            · exact Or.inl rfl
theorem sp_m13 {μ : vx_mem} {c1 c3 : Nat → Int32} : va_up (va_up μ 1 c1) 3 c3 = va_up (va_up (va_up μ 1 c1) 3 c3) 5 (μ 5) := by
  funext a
  unfold va_up
  by_cases h : a = 5
  · simp [h]
  · simp [h]
theorem sp_m3 {μ : vx_mem} {c3 : Nat → Int32} {x : Int32} (h : μ 1 2 = x) : va_up μ 3 c3 = va_up (va_up (va_up μ 1 (upd (μ 1) 2 x)) 3 c3) 5 (μ 5) := by
  rw [sp_ups h, vx_up_id]
  funext a
  unfold va_up
  by_cases h : a = 5
  · simp [h]
  · simp [h]
theorem sp_m15 {μ : vx_mem} {c1 c5 : Nat → Int32} : va_up (va_up μ 1 c1) 5 c5 = va_up (va_up (va_up μ 1 c1) 3 (μ 3)) 5 c5 := by
  funext a
  unfold va_up
  by_cases h : a = 5
  · simp [h]
  · by_cases h3 : a = 3
    · simp [h3]
    · simp [h, h3]

set_option maxRecDepth 20000 in
set_option maxHeartbeats 2000000 in
theorem c_X0_readLine (d : Nat) (hd : 6 ≤ d) (ad : Nat → Nat) (μ : vx_mem) (p e : Nat) (hp : μ 1 2 = nI p) (he : μ 1 3 = nI e) (hpe : p < e) (he3 : e ≤ 300) (q p1 q1 p2 : Nat) (hq : sp_run (sp_inB 97 122) (μ 2) e p = q) (hp1 : sp_run sp_bl (μ 2) e q = p1) (hq1 : sp_run (sp_inB 48 57) (μ 2) e p1 = q1) (hp2 : sp_run sp_bl (μ 2) e q1 = p2) : vx_Mf yX0_readLine cX0_readLine 6 (some (.boolean)) d ad 82 vx_lay μ [vx_r 3, vx_r 1] (some (.inl (if (sp_ln (μ 2) e (μ 5) p).1 = 0 then 1 else 0))) (va_up (va_up (va_up μ 1 (upd (μ 1) 2 (nI (sp_ln (μ 2) e (μ 5) p).2.1))) 3 (if (sp_ln (μ 2) e (μ 5) p).1 = 0 then μ 3 else upd (upd (μ 3) 2 (sp_ln (μ 2) e (μ 5) p).1) 3 (nI (sp_ln (μ 2) e (μ 5) p).2.1))) 5 (sp_ln (μ 2) e (μ 5) p).2.2) := by
  have key : ∀ (Post : vx_P) (ini : Bool), Post (some (.inl (if (sp_ln (μ 2) e (μ 5) p).1 = 0 then 1 else 0))) ad 82 vx_lay (va_up (va_up (va_up μ 1 (upd (μ 1) 2 (nI (sp_ln (μ 2) e (μ 5) p).2.1))) 3 (if (sp_ln (μ 2) e (μ 5) p).1 = 0 then μ 3 else upd (upd (μ 3) 2 (sp_ln (μ 2) e (μ 5) p).1) 3 (nI (sp_ln (μ 2) e (μ 5) p).2.1))) 5 (sp_ln (μ 2) e (μ 5) p).2.2) → vx_J RX0 cX0_readLine 6 (some (.boolean)) ini d 0 0 Post ad 0 0 82 vx_lay μ 0 [(0, vx_r 3), (1, vx_r 1)] [] := by
    intro Post ini hP
    have b1 := sp_run_b (P := sp_inB 97 122) (t := μ 2) (e := e) (p := p) (by omega)
    rw [hq] at b1
    have b2 := sp_run_b (P := sp_bl) (t := μ 2) (e := e) (p := q) (by omega)
    rw [hp1] at b2
    have b3 := sp_run_b (P := sp_inB 48 57) (t := μ 2) (e := e) (p := p1) (by omega)
    rw [hq1] at b3
    have b4 := sp_run_b (P := sp_bl) (t := μ 2) (e := e) (p := q1) (by omega)
    rw [hp2] at b4
    refine vx_aload_n dX0_readLine_0 rfl ?_
    refine vx_bipush (v := 97) dX0_readLine_1 (by decide) ?_
    refine vx_bipush (v := 122) dX0_readLine_3 (by decide) ?_
    refine vx_callV (b := 1) (vs := [.inl 97, .inl 122]) (st := []) (r0 := (some (.inl (nI q)))) (μ0 := μ) dX0_readLine_5 ((c_X7_endOfRow (d - 1) (by omega) ad μ p e hp he (by omega) he3 97 122).to (congrArg (fun z => some (Sum.inl (nI z))) hq) rfl) wd_410 wd_413 wd_46 hy_X7_endOfRow wd_411 wd_412 (by decide) ly_1 rfl rfl (by omega) (Nat.le_of_ble_eq_true rfl) (Nat.le_of_ble_eq_true rfl) (Nat.le_refl 0) (Nat.le_refl 0) ?_
    refine vx_eq (μ2 := μ) (ls2 := [(0, vx_r 3), (1, vx_r 1)]) (st2 := [.inl (nI q)]) rfl rfl rfl ?_
    refine vx_istore_n (ls2 := [(2, .inl (nI q)), (0, vx_r 3), (1, vx_r 1)]) dX0_readLine_8 (by decide) rfl ?_
    refine vx_aload_n dX0_readLine_9 rfl ?_
    refine vx_iload_n dX0_readLine_10 rfl ?_
    refine vx_callS (vs := [vx_r 1, .inl (nI q)]) (st := []) (r0 := (some (.inl (sp_kind (μ 2) p q)))) (μ0 := μ) dX0_readLine_11 (c_X0_kindOfWord (d - 1) (by omega) ad μ p e hp he (by omega) he3 q (by omega) (by omega)) wd_417 wd_419 wd_47 hy_X0_kindOfWord wd_418 (by omega) (Nat.le_of_ble_eq_true rfl) (Nat.le_of_ble_eq_true rfl) (Nat.le_refl 0) (Nat.le_refl 0) ?_
    refine vx_eq (μ2 := μ) (ls2 := [(2, .inl (nI q)), (0, vx_r 3), (1, vx_r 1)]) (st2 := [.inl (sp_kind (μ 2) p q)]) rfl rfl rfl ?_
    refine vx_istore_n (ls2 := [(3, .inl (sp_kind (μ 2) p q)), (2, .inl (nI q)), (0, vx_r 3), (1, vx_r 1)]) dX0_readLine_14 (by decide) rfl ?_
    rcases sp_kind_in (μ 2) p q with hkk | ⟨kk, hk6, hkk⟩
    · refine vx_eq (ls2 := [(3, .inl (-1)), (2, .inl (nI q)), (0, vx_r 3), (1, vx_r 1)]) rfl (by rw [hkk]) rfl ?_
      refine vx_iload_n dX0_readLine_15 rfl ?_
      refine vx_iconst (v := (-1)) dX0_readLine_16 (by decide) ?_
      refine vx_icmp_ne (tgt := 30) dX0_readLine_17 (by decide) (fun h => absurd h (by decide)) (fun _ => ?_)
      refine vx_aload_n dX0_readLine_20 rfl ?_
      refine vx_iconst (v := 1) dX0_readLine_21 (by decide) ?_
      refine vx_aload_n dX0_readLine_22 rfl ?_
      refine vx_getI (ci := 7) (T := TX7) (n := 4) (j := 2) (a := 1) (v := (nI p)) dX0_readLine_23 rfl lay_X7 (by decide) wd_78 (by decide) ly_1 rfl hp ?_
      refine vx_callV (b := 3) (vs := [.inl 1, .inl (nI p)]) (st := []) (r0 := (some (.inl 0))) (μ0 := (va_up μ 3 (upd (upd (μ 3) 2 1) 3 (nI p)))) dX0_readLine_26 (c_X0_fails (d - 1) ad μ 1 (nI p)) wd_481 wd_484 wd_47 hy_X0_fails wd_483 wd_4 (by decide) ly_3 rfl rfl (by omega) (Nat.le_of_ble_eq_true rfl) (Nat.le_of_ble_eq_true rfl) (Nat.le_refl 0) (Nat.le_refl 0) ?_
      refine vx_eq (μ2 := (va_up μ 3 (upd (upd (μ 3) 2 1) 3 (nI p)))) (ls2 := [(3, .inl (-1)), (2, .inl (nI q)), (0, vx_r 3), (1, vx_r 1)]) (st2 := [.inl 0]) rfl rfl rfl ?_
      have eln : sp_ln (μ 2) e (μ 5) p = (1, p, μ 5) := by
        unfold sp_ln
        simp only [hq, hp1, hq1, hp2, hkk]
        rw [if_pos trivial]
      rw [eln] at hP
      exact vx_ret (ty := .boolean) dX0_readLine_29 rfl rfl (Nat.le_refl 0) (Nat.le_refl 0) (vx_pst hP rfl (sp_m3 hp))
    · refine vx_eq (ls2 := [(3, .inl (nI kk)), (2, .inl (nI q)), (0, vx_r 3), (1, vx_r 1)]) rfl (by rw [hkk]) rfl ?_
      refine vx_iload_n dX0_readLine_15 rfl ?_
      refine vx_iconst (v := (-1)) dX0_readLine_16 (by decide) ?_
      refine vx_icmp_ne (tgt := 30) dX0_readLine_17 (by decide) (fun _ => ?_) (fun h => absurd h (sp_nm1 (show kk ≤ 7 by omega)))
      refine vx_aload_n dX0_readLine_30 rfl ?_
      refine vx_getR (ci := 0) (T := TX0) (n := 4) (j := 1) (a := 3) (r := 5) dX0_readLine_31 rfl lay_X0 (by decide) wd_113 (by decide) ly_3 rfl ?_
      refine vx_iload_n dX0_readLine_34 rfl ?_
      refine vx_callX (vs := [vx_r 5, .inl (nI kk)]) (st := []) (r0 := (some (.inl (μ 5 kk)))) (μ0 := μ) dX0_readLine_35 ((c_X8_at (d - 1) ad 82 vx_lay μ 5 6 (by decide) ly_5 (by decide) (nI kk)).to (by first | rfl | (exact congrArg (fun z => some (Sum.inl z)) (sp_at_nI (k := kk) _ (by omega) (by decide)))) rfl) nst_1 wd_109 wd_45 hy_X8_at wd_108 (by omega) (Nat.le_of_ble_eq_true rfl) (Nat.le_of_ble_eq_true rfl) (Nat.le_refl 0) (Nat.le_refl 0) ?_
      refine vx_eq (μ2 := μ) (ls2 := [(3, .inl (nI kk)), (2, .inl (nI q)), (0, vx_r 3), (1, vx_r 1)]) (st2 := [.inl (μ 5 kk)]) rfl rfl rfl ?_
      refine vx_iconst (v := (-1)) dX0_readLine_38 (by decide) ?_
      refine vx_icmp_eq (tgt := 52) dX0_readLine_39 (by decide) (fun c_39 => ?_) (fun c_39 => ?_)
      · refine vx_aload_n dX0_readLine_52 rfl ?_
        refine vx_iload_n dX0_readLine_53 rfl ?_
        refine vx_putI (ci := 7) (T := TX7) (n := 4) (j := 2) (a := 1) (ty := .int) (μ2 := (va_up μ 1 (upd (μ 1) 2 (nI q)))) dX0_readLine_54 rfl lay_X7 tyX7_ok nmX7 (by decide) wd_78 rfl rfl rfl rfl (by decide) ly_1 rfl rfl ?_
        refine vx_aload_n dX0_readLine_57 rfl ?_
        refine vx_callV (b := 1) (vs := []) (st := []) (r0 := none) (μ0 := (va_up μ 1 (upd (μ 1) 2 (nI p1)))) dX0_readLine_58 (((c_X7_skipBlanks (d - 1) (by omega) ad (va_up μ 1 (upd (μ 1) 2 (nI q))) q e rfl he (by omega) he3).to rfl (congrArg (fun z => va_up (va_up μ 1 (upd (μ 1) 2 (nI q))) 1 z) (sp_uu.trans (congrArg (fun z => upd (μ 1) 2 (nI z)) hp1)))).to rfl vx_m1) wd_393 wd_396 wd_46 hy_X7_skipBlanks wd_394 wd_395 (by decide) ly_1 rfl rfl (by omega) (Nat.le_of_ble_eq_true rfl) (Nat.le_of_ble_eq_true rfl) (Nat.le_refl 0) (Nat.le_refl 0) ?_
        refine vx_eq (μ2 := (va_up μ 1 (upd (μ 1) 2 (nI p1)))) (ls2 := [(3, .inl (nI kk)), (2, .inl (nI q)), (0, vx_r 3), (1, vx_r 1)]) (st2 := []) rfl rfl rfl ?_
        refine vx_aload_n dX0_readLine_61 rfl ?_
        refine vx_bipush (v := 48) dX0_readLine_62 (by decide) ?_
        refine vx_bipush (v := 57) dX0_readLine_64 (by decide) ?_
        refine vx_callV (b := 1) (vs := [.inl 48, .inl 57]) (st := []) (r0 := (some (.inl (nI q1)))) (μ0 := (va_up μ 1 (upd (μ 1) 2 (nI p1)))) dX0_readLine_66 ((c_X7_endOfRow (d - 1) (by omega) ad (va_up μ 1 (upd (μ 1) 2 (nI p1))) p1 e rfl he (by omega) he3 48 57).to (congrArg (fun z => some (Sum.inl (nI z))) hq1) rfl) wd_410 wd_413 wd_46 hy_X7_endOfRow wd_411 wd_412 (by decide) ly_1 rfl rfl (by omega) (Nat.le_of_ble_eq_true rfl) (Nat.le_of_ble_eq_true rfl) (Nat.le_refl 0) (Nat.le_refl 0) ?_
        refine vx_eq (μ2 := (va_up μ 1 (upd (μ 1) 2 (nI p1)))) (ls2 := [(3, .inl (nI kk)), (2, .inl (nI q)), (0, vx_r 3), (1, vx_r 1)]) (st2 := [.inl (nI q1)]) rfl rfl rfl ?_
        refine vx_istore (ls2 := [(4, .inl (nI q1)), (3, .inl (nI kk)), (2, .inl (nI q)), (0, vx_r 3), (1, vx_r 1)]) dX0_readLine_69 (by decide) rfl ?_
        refine vx_iload dX0_readLine_71 rfl ?_
        refine vx_aload_n dX0_readLine_73 rfl ?_
        refine vx_getI (ci := 7) (T := TX7) (n := 4) (j := 2) (a := 1) (v := (nI p1)) dX0_readLine_74 rfl lay_X7 (by decide) wd_78 (by decide) ly_1 rfl rfl ?_
        refine vx_icmp_ne (tgt := 90) dX0_readLine_77 (by decide) (fun c_77 => ?_) (fun c_77 => ?_)
        · have e77 : ¬ q1 = p1 := by rw [nI_eq (by omega) (by omega)] at c_77; exact c_77
          refine vx_aload_n dX0_readLine_90 rfl ?_
          refine vx_iload dX0_readLine_91 rfl ?_
          refine vx_callV (b := 1) (vs := [.inl (nI q1)]) (st := []) (r0 := (some (.inl (sp_numC (μ 2) p1 (q1 - p1))))) (μ0 := (va_up μ 1 (upd (μ 1) 2 (nI p1)))) dX0_readLine_93 (c_X7_numberUpTo (d - 1) (by omega) ad (va_up μ 1 (upd (μ 1) 2 (nI p1))) p1 e rfl he (by omega) he3 q1 (by omega) (by omega)) wd_485 wd_488 wd_46 hy_X7_numberUpTo wd_486 wd_487 (by decide) ly_1 rfl rfl (by omega) (Nat.le_of_ble_eq_true rfl) (Nat.le_of_ble_eq_true rfl) (Nat.le_refl 0) (Nat.le_refl 0) ?_
          refine vx_eq (μ2 := (va_up μ 1 (upd (μ 1) 2 (nI p1)))) (ls2 := [(4, .inl (nI q1)), (3, .inl (nI kk)), (2, .inl (nI q)), (0, vx_r 3), (1, vx_r 1)]) (st2 := [.inl (sp_numC (μ 2) p1 (q1 - p1))]) rfl rfl rfl ?_
          refine vx_istore (ls2 := [(5, .inl (sp_numC (μ 2) p1 (q1 - p1))), (4, .inl (nI q1)), (3, .inl (nI kk)), (2, .inl (nI q)), (0, vx_r 3), (1, vx_r 1)]) dX0_readLine_96 (by decide) rfl ?_
          refine vx_iload dX0_readLine_98 rfl ?_
          refine vx_getsX (j := 1) dX0_readLine_100 (by decide) wd_492 ?_
          refine vx_iload_n dX0_readLine_103 rfl ?_
          refine vx_callX (vs := [vx_r 1201, .inl (nI kk)]) (st := [.inl (sp_numC (μ 2) p1 (q1 - p1))]) (r0 := (some (.inl ((vx_sv 1).getD kk 0)))) (μ0 := (va_up μ 1 (upd (μ 1) 2 (nI p1)))) dX0_readLine_104 ((c_X8_atX (d - 1) ad 82 vx_lay (va_up μ 1 (upd (μ 1) 2 (nI p1))) 1 (by decide) (nI kk)).to (congrArg (fun z => some (Sum.inl z)) (sp_at_nI (k := kk) _ (by omega) (by decide))) rfl) nst_1 wd_109 wd_45 hy_X8_at wd_108 (by omega) (Nat.le_of_ble_eq_true rfl) (Nat.le_of_ble_eq_true rfl) (Nat.le_refl 0) (Nat.le_refl 0) ?_
          refine vx_eq (μ2 := (va_up μ 1 (upd (μ 1) 2 (nI p1)))) (ls2 := [(5, .inl (sp_numC (μ 2) p1 (q1 - p1))), (4, .inl (nI q1)), (3, .inl (nI kk)), (2, .inl (nI q)), (0, vx_r 3), (1, vx_r 1)]) (st2 := [.inl ((vx_sv 1).getD kk 0), .inl (sp_numC (μ 2) p1 (q1 - p1))]) rfl rfl rfl ?_
          refine vx_getsX (j := 2) dX0_readLine_107 (by decide) wd_494 ?_
          refine vx_iload_n dX0_readLine_110 rfl ?_
          refine vx_callX (vs := [vx_r 1202, .inl (nI kk)]) (st := [.inl ((vx_sv 1).getD kk 0), .inl (sp_numC (μ 2) p1 (q1 - p1))]) (r0 := (some (.inl ((vx_sv 2).getD kk 0)))) (μ0 := (va_up μ 1 (upd (μ 1) 2 (nI p1)))) dX0_readLine_111 ((c_X8_atX (d - 1) ad 82 vx_lay (va_up μ 1 (upd (μ 1) 2 (nI p1))) 2 (by decide) (nI kk)).to (congrArg (fun z => some (Sum.inl z)) (sp_at_nI (k := kk) _ (by omega) (by decide))) rfl) nst_1 wd_109 wd_45 hy_X8_at wd_108 (by omega) (Nat.le_of_ble_eq_true rfl) (Nat.le_of_ble_eq_true rfl) (Nat.le_refl 0) (Nat.le_refl 0) ?_
          refine vx_eq (μ2 := (va_up μ 1 (upd (μ 1) 2 (nI p1)))) (ls2 := [(5, .inl (sp_numC (μ 2) p1 (q1 - p1))), (4, .inl (nI q1)), (3, .inl (nI kk)), (2, .inl (nI q)), (0, vx_r 3), (1, vx_r 1)]) (st2 := [.inl ((vx_sv 2).getD kk 0), .inl ((vx_sv 1).getD kk 0), .inl (sp_numC (μ 2) p1 (q1 - p1))]) rfl rfl rfl ?_
          refine vx_callX (vs := [.inl (sp_numC (μ 2) p1 (q1 - p1)), .inl ((vx_sv 1).getD kk 0), .inl ((vx_sv 2).getD kk 0)]) (st := []) (r0 := (some (.inl (sp_in (sp_numC (μ 2) p1 (q1 - p1)) ((vx_sv 1).getD kk 0) ((vx_sv 2).getD kk 0))))) (μ0 := (va_up μ 1 (upd (μ 1) 2 (nI p1)))) dX0_readLine_114 (c_X8_within (d - 1) ad 82 vx_lay (va_up μ 1 (upd (μ 1) 2 (nI p1))) (sp_numC (μ 2) p1 (q1 - p1)) ((vx_sv 1).getD kk 0) ((vx_sv 2).getD kk 0)) nst_6 wd_416 wd_45 hy_X8_within wd_415 (by omega) (Nat.le_of_ble_eq_true rfl) (Nat.le_of_ble_eq_true rfl) (Nat.le_refl 0) (Nat.le_refl 0) ?_
          refine vx_eq (μ2 := (va_up μ 1 (upd (μ 1) 2 (nI p1)))) (ls2 := [(5, .inl (sp_numC (μ 2) p1 (q1 - p1))), (4, .inl (nI q1)), (3, .inl (nI kk)), (2, .inl (nI q)), (0, vx_r 3), (1, vx_r 1)]) (st2 := [.inl (sp_in (sp_numC (μ 2) p1 (q1 - p1)) ((vx_sv 1).getD kk 0) ((vx_sv 2).getD kk 0))]) rfl rfl rfl ?_
          refine vx_if_ne (tgt := 130) dX0_readLine_117 (by decide) (fun c_117 => ?_) (fun c_117 => ?_)
          · refine vx_aload_n dX0_readLine_130 rfl ?_
            refine vx_iload dX0_readLine_131 rfl ?_
            refine vx_putI (ci := 7) (T := TX7) (n := 4) (j := 2) (a := 1) (ty := .int) (μ2 := (va_up μ 1 (upd (μ 1) 2 (nI q1)))) dX0_readLine_133 rfl lay_X7 tyX7_ok nmX7 (by decide) wd_78 rfl rfl rfl rfl (by decide) ly_1 rfl ((congrArg (fun z => va_up (va_up μ 1 (upd (μ 1) 2 (nI p1))) 1 z) (sp_uu (f := (μ 1)) (k := 2))).trans vx_m1) ?_
            refine vx_aload_n dX0_readLine_136 rfl ?_
            refine vx_callV (b := 1) (vs := []) (st := []) (r0 := none) (μ0 := (va_up μ 1 (upd (μ 1) 2 (nI p2)))) dX0_readLine_137 (((c_X7_skipBlanks (d - 1) (by omega) ad (va_up μ 1 (upd (μ 1) 2 (nI q1))) q1 e rfl he (by omega) he3).to rfl (congrArg (fun z => va_up (va_up μ 1 (upd (μ 1) 2 (nI q1))) 1 z) (sp_uu.trans (congrArg (fun z => upd (μ 1) 2 (nI z)) hp2)))).to rfl vx_m1) wd_393 wd_396 wd_46 hy_X7_skipBlanks wd_394 wd_395 (by decide) ly_1 rfl rfl (by omega) (Nat.le_of_ble_eq_true rfl) (Nat.le_of_ble_eq_true rfl) (Nat.le_refl 0) (Nat.le_refl 0) ?_
            refine vx_eq (μ2 := (va_up μ 1 (upd (μ 1) 2 (nI p2)))) (ls2 := [(5, .inl (sp_numC (μ 2) p1 (q1 - p1))), (4, .inl (nI q1)), (3, .inl (nI kk)), (2, .inl (nI q)), (0, vx_r 3), (1, vx_r 1)]) (st2 := []) rfl rfl rfl ?_
            refine vx_aload_n dX0_readLine_140 rfl ?_
            refine vx_aload_n dX0_readLine_141 rfl ?_
            refine vx_getI (ci := 7) (T := TX7) (n := 4) (j := 2) (a := 1) (v := (nI p2)) dX0_readLine_142 rfl lay_X7 (by decide) wd_78 (by decide) ly_1 rfl rfl ?_
            refine vx_callV (b := 1) (vs := [.inl (nI p2)]) (st := []) (r0 := (some (.inl (sp_ba (μ 2) e p2)))) (μ0 := (va_up μ 1 (upd (μ 1) 2 (nI p2)))) dX0_readLine_145 (c_X7_byteAt (d - 1) (by omega) ad (va_up μ 1 (upd (μ 1) 2 (nI p2))) p2 e he he3 (by omega)) wd_497 wd_400 wd_46 hy_X7_byteAt wd_398 wd_399 (by decide) ly_1 rfl rfl (by omega) (Nat.le_of_ble_eq_true rfl) (Nat.le_of_ble_eq_true rfl) (Nat.le_refl 0) (Nat.le_refl 0) ?_
            refine vx_eq (μ2 := (va_up μ 1 (upd (μ 1) 2 (nI p2)))) (ls2 := [(5, .inl (sp_numC (μ 2) p1 (q1 - p1))), (4, .inl (nI q1)), (3, .inl (nI kk)), (2, .inl (nI q)), (0, vx_r 3), (1, vx_r 1)]) (st2 := [.inl (sp_ba (μ 2) e p2)]) rfl rfl rfl ?_
            refine vx_bipush (v := 59) dX0_readLine_148 (by decide) ?_
            refine vx_icmp_eq (tgt := 163) dX0_readLine_150 (by decide) (fun c_150 => ?_) (fun c_150 => ?_)
            · refine vx_aload_n dX0_readLine_163 rfl ?_
              refine vx_dup dX0_readLine_164 ?_
              refine vx_getI (ci := 7) (T := TX7) (n := 4) (j := 2) (a := 1) (v := (nI p2)) dX0_readLine_165 rfl lay_X7 (by decide) wd_78 (by decide) ly_1 rfl rfl ?_
              refine vx_iconst (v := 1) dX0_readLine_168 (by decide) ?_
              refine vx_iadd dX0_readLine_169 ?_
              refine vx_eq (st2 := [.inl (nI (p2 + 1)), vx_r 1]) rfl rfl (by rw [nI_1]) ?_
              refine vx_putI (ci := 7) (T := TX7) (n := 4) (j := 2) (a := 1) (ty := .int) (μ2 := (va_up μ 1 (upd (μ 1) 2 (nI (p2 + 1))))) dX0_readLine_170 rfl lay_X7 tyX7_ok nmX7 (by decide) wd_78 rfl rfl rfl rfl (by decide) ly_1 rfl ((congrArg (fun z => va_up (va_up μ 1 (upd (μ 1) 2 (nI p2))) 1 z) (sp_uu (f := (μ 1)) (k := 2))).trans vx_m1) ?_
              refine vx_aload_n dX0_readLine_173 rfl ?_
              refine vx_getR (ci := 0) (T := TX0) (n := 4) (j := 1) (a := 3) (r := 5) dX0_readLine_174 rfl lay_X0 (by decide) wd_113 (by decide) ly_3 rfl ?_
              refine vx_iload_n dX0_readLine_177 rfl ?_
              refine vx_iload dX0_readLine_178 rfl ?_
              refine vx_callX (vs := [vx_r 5, .inl (nI kk), .inl (sp_numC (μ 2) p1 (q1 - p1))]) (st := []) (r0 := none) (μ0 := (va_up (va_up μ 1 (upd (μ 1) 2 (nI (p2 + 1)))) 5 (upd (μ 5) kk (sp_numC (μ 2) p1 (q1 - p1))))) dX0_readLine_180 ((c_X8_put (d - 1) ad 82 vx_lay (va_up μ 1 (upd (μ 1) 2 (nI (p2 + 1)))) 5 6 (by decide) ly_5 (by decide) (nI kk) (sp_numC (μ 2) p1 (q1 - p1))).to rfl (congrArg (fun z => va_up (va_up μ 1 (upd (μ 1) 2 (nI (p2 + 1)))) 5 z) (sp_put_nI (k := kk) _ _ (by omega) (by decide)))) nst_0 wd_102 wd_45 hy_X8_put wd_101 (by omega) (Nat.le_of_ble_eq_true rfl) (Nat.le_of_ble_eq_true rfl) (Nat.le_refl 0) (Nat.le_refl 0) ?_
              refine vx_eq (μ2 := (va_up (va_up μ 1 (upd (μ 1) 2 (nI (p2 + 1)))) 5 (upd (μ 5) kk (sp_numC (μ 2) p1 (q1 - p1))))) (ls2 := [(5, .inl (sp_numC (μ 2) p1 (q1 - p1))), (4, .inl (nI q1)), (3, .inl (nI kk)), (2, .inl (nI q)), (0, vx_r 3), (1, vx_r 1)]) (st2 := []) rfl rfl rfl ?_
              refine vx_iconst (v := 1) dX0_readLine_183 (by decide) ?_
              have eln : sp_ln (μ 2) e (μ 5) p = (0, p2 + 1, upd (μ 5) kk (sp_numC (μ 2) p1 (q1 - p1))) := by
                unfold sp_ln
                simp only [hq, hp1, hq1, hp2, hkk]
                rw [if_neg (sp_nm1 (show kk ≤ 7 by omega)), nI_clamp (show kk < 2 ^ 31 by omega), if_neg (fun h => h c_39), if_neg e77, if_neg c_117, if_neg (fun h => h c_150)]
              rw [eln] at hP
              exact vx_ret (ty := .boolean) dX0_readLine_184 rfl rfl (Nat.le_refl 0) (Nat.le_refl 0) (vx_pst hP rfl sp_m15)
            · refine vx_aload_n dX0_readLine_153 rfl ?_
              refine vx_iconst (v := 1) dX0_readLine_154 (by decide) ?_
              refine vx_aload_n dX0_readLine_155 rfl ?_
              refine vx_getI (ci := 7) (T := TX7) (n := 4) (j := 2) (a := 1) (v := (nI p2)) dX0_readLine_156 rfl lay_X7 (by decide) wd_78 (by decide) ly_1 rfl rfl ?_
              refine vx_callV (b := 3) (vs := [.inl 1, .inl (nI p2)]) (st := []) (r0 := (some (.inl 0))) (μ0 := (va_up (va_up μ 1 (upd (μ 1) 2 (nI p2))) 3 (upd (upd (μ 3) 2 1) 3 (nI p2)))) dX0_readLine_159 (c_X0_fails (d - 1) ad (va_up μ 1 (upd (μ 1) 2 (nI p2))) 1 (nI p2)) wd_481 wd_484 wd_47 hy_X0_fails wd_483 wd_4 (by decide) ly_3 rfl rfl (by omega) (Nat.le_of_ble_eq_true rfl) (Nat.le_of_ble_eq_true rfl) (Nat.le_refl 0) (Nat.le_refl 0) ?_
              refine vx_eq (μ2 := (va_up (va_up μ 1 (upd (μ 1) 2 (nI p2))) 3 (upd (upd (μ 3) 2 1) 3 (nI p2)))) (ls2 := [(5, .inl (sp_numC (μ 2) p1 (q1 - p1))), (4, .inl (nI q1)), (3, .inl (nI kk)), (2, .inl (nI q)), (0, vx_r 3), (1, vx_r 1)]) (st2 := [.inl 0]) rfl rfl rfl ?_
              have eln : sp_ln (μ 2) e (μ 5) p = (1, p2, μ 5) := by
                unfold sp_ln
                simp only [hq, hp1, hq1, hp2, hkk]
                rw [if_neg (sp_nm1 (show kk ≤ 7 by omega)), nI_clamp (show kk < 2 ^ 31 by omega), if_neg (fun h => h c_39), if_neg e77, if_neg c_117, if_pos c_150]
              rw [eln] at hP
              exact vx_ret (ty := .boolean) dX0_readLine_162 rfl rfl (Nat.le_refl 0) (Nat.le_refl 0) (vx_pst hP rfl sp_m13)
          · refine vx_aload_n dX0_readLine_120 rfl ?_
            refine vx_iconst (v := 2) dX0_readLine_121 (by decide) ?_
            refine vx_aload_n dX0_readLine_122 rfl ?_
            refine vx_getI (ci := 7) (T := TX7) (n := 4) (j := 2) (a := 1) (v := (nI p1)) dX0_readLine_123 rfl lay_X7 (by decide) wd_78 (by decide) ly_1 rfl rfl ?_
            refine vx_callV (b := 3) (vs := [.inl 2, .inl (nI p1)]) (st := []) (r0 := (some (.inl 0))) (μ0 := (va_up (va_up μ 1 (upd (μ 1) 2 (nI p1))) 3 (upd (upd (μ 3) 2 2) 3 (nI p1)))) dX0_readLine_126 (c_X0_fails (d - 1) ad (va_up μ 1 (upd (μ 1) 2 (nI p1))) 2 (nI p1)) wd_481 wd_484 wd_47 hy_X0_fails wd_483 wd_4 (by decide) ly_3 rfl rfl (by omega) (Nat.le_of_ble_eq_true rfl) (Nat.le_of_ble_eq_true rfl) (Nat.le_refl 0) (Nat.le_refl 0) ?_
            refine vx_eq (μ2 := (va_up (va_up μ 1 (upd (μ 1) 2 (nI p1))) 3 (upd (upd (μ 3) 2 2) 3 (nI p1)))) (ls2 := [(5, .inl (sp_numC (μ 2) p1 (q1 - p1))), (4, .inl (nI q1)), (3, .inl (nI kk)), (2, .inl (nI q)), (0, vx_r 3), (1, vx_r 1)]) (st2 := [.inl 0]) rfl rfl rfl ?_
            have eln : sp_ln (μ 2) e (μ 5) p = (2, p1, μ 5) := by
              unfold sp_ln
              simp only [hq, hp1, hq1, hp2, hkk]
              rw [if_neg (sp_nm1 (show kk ≤ 7 by omega)), nI_clamp (show kk < 2 ^ 31 by omega), if_neg (fun h => h c_39), if_neg e77, if_pos c_117]
            rw [eln] at hP
            exact vx_ret (ty := .boolean) dX0_readLine_129 rfl rfl (Nat.le_refl 0) (Nat.le_refl 0) (vx_pst hP rfl sp_m13)
        · have e77 : q1 = p1 := by rw [nI_eq (by omega) (by omega)] at c_77; exact c_77
          refine vx_aload_n dX0_readLine_80 rfl ?_
          refine vx_iconst (v := 1) dX0_readLine_81 (by decide) ?_
          refine vx_aload_n dX0_readLine_82 rfl ?_
          refine vx_getI (ci := 7) (T := TX7) (n := 4) (j := 2) (a := 1) (v := (nI p1)) dX0_readLine_83 rfl lay_X7 (by decide) wd_78 (by decide) ly_1 rfl rfl ?_
          refine vx_callV (b := 3) (vs := [.inl 1, .inl (nI p1)]) (st := []) (r0 := (some (.inl 0))) (μ0 := (va_up (va_up μ 1 (upd (μ 1) 2 (nI p1))) 3 (upd (upd (μ 3) 2 1) 3 (nI p1)))) dX0_readLine_86 (c_X0_fails (d - 1) ad (va_up μ 1 (upd (μ 1) 2 (nI p1))) 1 (nI p1)) wd_481 wd_484 wd_47 hy_X0_fails wd_483 wd_4 (by decide) ly_3 rfl rfl (by omega) (Nat.le_of_ble_eq_true rfl) (Nat.le_of_ble_eq_true rfl) (Nat.le_refl 0) (Nat.le_refl 0) ?_
          refine vx_eq (μ2 := (va_up (va_up μ 1 (upd (μ 1) 2 (nI p1))) 3 (upd (upd (μ 3) 2 1) 3 (nI p1)))) (ls2 := [(4, .inl (nI q1)), (3, .inl (nI kk)), (2, .inl (nI q)), (0, vx_r 3), (1, vx_r 1)]) (st2 := [.inl 0]) rfl rfl rfl ?_
          have eln : sp_ln (μ 2) e (μ 5) p = (1, p1, μ 5) := by
            unfold sp_ln
            simp only [hq, hp1, hq1, hp2, hkk]
            rw [if_neg (sp_nm1 (show kk ≤ 7 by omega)), nI_clamp (show kk < 2 ^ 31 by omega), if_neg (fun h => h c_39), if_pos e77]
          rw [eln] at hP
          exact vx_ret (ty := .boolean) dX0_readLine_89 rfl rfl (Nat.le_refl 0) (Nat.le_refl 0) (vx_pst hP rfl sp_m13)
      · refine vx_aload_n dX0_readLine_42 rfl ?_
        refine vx_iconst (v := 3) dX0_readLine_43 (by decide) ?_
        refine vx_aload_n dX0_readLine_44 rfl ?_
        refine vx_getI (ci := 7) (T := TX7) (n := 4) (j := 2) (a := 1) (v := (nI p)) dX0_readLine_45 rfl lay_X7 (by decide) wd_78 (by decide) ly_1 rfl hp ?_
        refine vx_callV (b := 3) (vs := [.inl 3, .inl (nI p)]) (st := []) (r0 := (some (.inl 0))) (μ0 := (va_up μ 3 (upd (upd (μ 3) 2 3) 3 (nI p)))) dX0_readLine_48 (c_X0_fails (d - 1) ad μ 3 (nI p)) wd_481 wd_484 wd_47 hy_X0_fails wd_483 wd_4 (by decide) ly_3 rfl rfl (by omega) (Nat.le_of_ble_eq_true rfl) (Nat.le_of_ble_eq_true rfl) (Nat.le_refl 0) (Nat.le_refl 0) ?_
        refine vx_eq (μ2 := (va_up μ 3 (upd (upd (μ 3) 2 3) 3 (nI p)))) (ls2 := [(3, .inl (nI kk)), (2, .inl (nI q)), (0, vx_r 3), (1, vx_r 1)]) (st2 := [.inl 0]) rfl rfl rfl ?_
        have eln : sp_ln (μ 2) e (μ 5) p = (3, p, μ 5) := by
          unfold sp_ln
          simp only [hq, hp1, hq1, hp2, hkk]
          rw [if_neg (sp_nm1 (show kk ≤ 7 by omega)), nI_clamp (show kk < 2 ^ 31 by omega), if_pos c_39]
        rw [eln] at hP
        exact vx_ret (ty := .boolean) dX0_readLine_51 rfl rfl (Nat.le_refl 0) (Nat.le_refl 0) (vx_pst hP rfl (sp_m3 hp))
  exact vx_J.M pn_X0_readLine (Nat.le_of_ble_eq_true rfl) (key _ _ ⟨rfl, rfl, rfl, rfl, rfl⟩)
end
