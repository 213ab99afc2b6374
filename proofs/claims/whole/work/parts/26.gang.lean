section
theorem sp_next_congv {gv gv2 ow ow2 : Nat → Int32} : ∀ {n : Nat}, (∀ q, q ≤ n → ow q = ow2 q) → (∀ q, q ≤ n → gv q = gv2 q) → sp_next gv ow n = sp_next gv2 ow2 n
  | 0, _, _ => rfl
  | n + 1, h, hg => by
    have hc := sp_next_congv (gv := gv) (gv2 := gv2) (n := n) (fun q hq => h q (by omega)) (fun q hq => hg q (by omega))
    unfold sp_next
    rw [hc, h (n + 1) (by omega), hg (n + 1) (by omega), h (sp_next gv2 ow2 n) (Nat.le_trans (sp_next_le _ _ _) (by omega))]
/-- who is asked at first: f alone -/
def sp_cn (f : Nat) : Nat → Int32 := upd (fun _ => -1) f 0
def sp_mix (a b : Nat → Int32) : Nat → Int32 := fun g => if g < 8 then a g else b g
theorem sp_mus_mix {lends ow ow2 : Nat → Int32} {most : Int32} {n f : Nat} {h : Nat → Int32} {g0 : Int32} (hn : n ≤ 7) (hf : f < 8) (how : ∀ q, q ≤ 7 → ow q = ow2 q) : ∀ t, sp_mus lends ow most n (upd (sp_fm h 8) f 0) g0 t = (sp_mix (sp_mus lends ow2 most n (sp_cn f) g0 t).1 h, (sp_mus lends ow2 most n (sp_cn f) g0 t).2)
  | 0 => by
    show (upd (sp_fm h 8) f 0, g0) = (sp_mix (sp_cn f) h, g0)
    have e : upd (sp_fm h 8) f 0 = sp_mix (sp_cn f) h := by
      funext g
      unfold upd sp_fm sp_mix sp_cn upd
      (repeat' split) <;> first | rfl | (exfalso; omega)
    rw [e]
  | t + 1 => by
    have ih := sp_mus_mix (lends := lends) (most := most) (h := h) (g0 := g0) hn hf how t
    generalize hp : sp_mus lends ow2 most n (sp_cn f) g0 t = p at ih
    have e1 : sp_next (sp_mix p.1 h) ow n = sp_next p.1 ow2 n := sp_next_congv (fun q hq => how q (by omega)) (fun q hq => by unfold sp_mix; rw [if_pos (by omega)])
    have e2 : sp_mus lends ow most n (upd (sp_fm h 8) f 0) g0 (t + 1) = (upd (sp_mix p.1 h) (sp_next (sp_mix p.1 h) ow n) (sp_min (lends (sp_next (sp_mix p.1 h) ow n)) (most - p.2)), p.2 + sp_min (lends (sp_next (sp_mix p.1 h) ow n)) (most - p.2)) := by
      show (upd (sp_mus lends ow most n (upd (sp_fm h 8) f 0) g0 t).1 _ _, _) = _
      rw [ih]
    have e3 : sp_mus lends ow2 most n (sp_cn f) g0 (t + 1) = (upd p.1 (sp_next p.1 ow2 n) (sp_min (lends (sp_next p.1 ow2 n)) (most - p.2)), p.2 + sp_min (lends (sp_next p.1 ow2 n)) (most - p.2)) := by
      rw [← hp]
      rfl
    rw [e2, e3, e1]
    have hle := sp_next_le p.1 ow2 n
    generalize sp_next p.1 ow2 n = g at hle
    generalize sp_min (lends g) (most - p.2) = x
    have e4 : upd (sp_mix p.1 h) g x = sp_mix (upd p.1 g x) h := by
      funext q
      by_cases h1 : q = g
      · have h2 : q < 8 := by omega
        simp [upd, sp_mix, h1, h1 ▸ h2]
      · simp [upd, sp_mix, h1]
    rw [e4]
/-- the gang of f: who gives how much, how many in all -/
def sp_G (μ : vx_mem) (n f : Nat) : (Nat → Int32) × Int32 := sp_mus (μ 11) (fun q => if q < 8 then μ (30 + q) f else 0) (μ 4 0) n (sp_cn f) (sp_min (μ 10 f) (μ 4 0)) (n - 1)
theorem sp_G_cong {M μ : vx_mem} {n f : Nat} (h4 : M 4 = μ 4) (h10 : M 10 = μ 10) (h11 : M 11 = μ 11) (h : ∀ q, q < 8 → M (30 + q) f = μ (30 + q) f) : sp_G M n f = sp_G μ n f := by
  have e : (fun q => if q < 8 then M (30 + q) f else 0) = (fun q => if q < 8 then μ (30 + q) f else 0) := by
    funext q
    split
    · exact h q (by assumption)
    · rfl
  unfold sp_G
  rw [e, h4, h10, h11]
theorem sp_G_38 (μ : vx_mem) (g : Nat → Int32) (n f : Nat) : sp_G (va_up μ 38 g) n f = sp_G μ n f := sp_G_cong rfl rfl rfl (fun q hq => by unfold va_up; rw [if_neg (by omega)])
/-- what the class's numbers are within: n farms -/
def sp_ck (μ : vx_mem) (n : Nat) : Prop := μ 6 0 = nI n ∧ n ≤ 7 ∧ (zz_in (μ 4 0) 1 20 ∧ zz_in (μ 4 1) 1 99 ∧ zz_in (μ 4 2) 1 50 ∧ zz_in (μ 4 3) 0 99 ∧ zz_in (μ 4 4) 0 7 ∧ zz_in (μ 4 5) 0 10) ∧ ∀ g, 1 ≤ g → g ≤ n → zz_in (μ 8 g) 0 300 ∧ zz_in (μ 10 g) 0 12 ∧ zz_in (μ 11 g) 0 12 ∧ zz_in (μ 12 g) 0 99 ∧ zz_in (μ 13 g) 0 99

theorem c_muster2 (d : Nat) (hd : 2 ≤ d) (ad : Nat → Nat) (μ : vx_mem) (n : Nat) (hk : sp_ck μ n) (f : Nat) (h1 : 1 ≤ f) (h2 : f ≤ n) : vx_Mf yX1_muster cX1_muster 8 (some .int) d ad 82 vx_lay μ [vx_r 28, vx_r 6, .inl (nI f), .inl (μ 4 0)] (some (.inl (sp_G μ n f).2)) (va_up μ 38 (sp_mix (sp_G μ n f).1 (μ 38))) := by
  have hn := hk.2.1
  have e := sp_mus_mix (lends := μ 11) (ow := fun q => μ (30 + q) f) (ow2 := fun q => if q < 8 then μ (30 + q) f else 0) (most := μ 4 0) (h := μ 38) (g0 := sp_min (μ 10 f) (μ 4 0)) hn (show f < 8 by omega) (fun q hq => by simp [show q < 8 by omega]) (n - 1)
  refine (c_X1_muster d hd ad μ n hk.1 hn f h1 h2 (μ 4 0) hk.2.2.1.1 (fun g a b => (hk.2.2.2 g a b).2.2.1) (hk.2.2.2 f h1 h2).2.1).to ?_ ?_
  · rw [e]; rfl
  · rw [e]; rfl
set_option maxRecDepth 20000 in
set_option maxHeartbeats 2000000 in
theorem c_X8_gangOf (d : Nat) (hd : 3 ≤ d) (ad : Nat → Nat) (μ : vx_mem) (n : Nat) (hk : sp_ck μ n) (f : Nat) (h1 : 1 ≤ f) (h2 : f ≤ n)  : vx_Mf yX8_gangOf cX8_gangOf 2 (some (.int)) d ad 82 vx_lay μ [vx_r 0, .inl (nI f)] (some (.inl (sp_G μ n f).2)) (va_up μ 38 (sp_mix (sp_G μ n f).1 (μ 38))) := by
  have key : ∀ (Post : vx_P) (ini : Bool), Post (some (.inl (sp_G μ n f).2)) ad 82 vx_lay (va_up μ 38 (sp_mix (sp_G μ n f).1 (μ 38))) → vx_J RX8 cX8_gangOf 2 (some (.int)) ini d 0 0 Post ad 0 0 82 vx_lay μ 0 [(0, vx_r 0), (1, .inl (nI f))] [] := by
    intro Post ini hP
    refine vx_aload_n dX8_gangOf_0 rfl ?_
    refine vx_getR (ci := 8) (T := TX8) (n := 8) (j := 4) (a := 0) (r := 28) dX8_gangOf_1 rfl lay_X8 (by decide) wd_347 (by decide) ly_0 rfl ?_
    refine vx_aload_n dX8_gangOf_4 rfl ?_
    refine vx_getR (ci := 8) (T := TX8) (n := 8) (j := 2) (a := 0) (r := 6) dX8_gangOf_5 rfl lay_X8 (by decide) wd_345 (by decide) ly_0 rfl ?_
    refine vx_iload_n dX8_gangOf_8 rfl ?_
    refine vx_aload_n dX8_gangOf_9 rfl ?_
    refine vx_getR (ci := 8) (T := TX8) (n := 8) (j := 1) (a := 0) (r := 3) dX8_gangOf_10 rfl lay_X8 (by decide) wd_344 (by decide) ly_0 rfl ?_
    refine vx_iconst (v := 0) dX8_gangOf_13 (by decide) ?_
    refine vx_callV (b := 3) (vs := [.inl 0]) (st := [.inl (nI f), vx_r 6, vx_r 28]) (r0 := (some (.inl (μ 4 0)))) (μ0 := μ) dX8_gangOf_14 ((c_X0_tells (d - 1) (by omega) ad μ 0).to (show some (Sum.inl (sp_at 6 ((μ 4)) (nI 0))) = some (Sum.inl _) from congrArg (fun z => some (Sum.inl z)) (sp_at_nI (k := 0) _ (by decide) (by decide))) rfl) wd_539 wd_542 wd_47 hy_X0_tells wd_540 wd_541 (by decide) ly_3 rfl rfl (by omega) (Nat.le_of_ble_eq_true rfl) (Nat.le_of_ble_eq_true rfl) (Nat.le_refl 0) (Nat.le_refl 0) ?_
    refine vx_eq (μ2 := μ) (ls2 := [(0, vx_r 0), (1, .inl (nI f))]) (st2 := [.inl (μ 4 0), .inl (nI f), vx_r 6, vx_r 28]) rfl rfl rfl ?_
    refine vx_callV (b := 28) (vs := [vx_r 6, .inl (nI f), .inl (μ 4 0)]) (st := []) (r0 := (some (.inl (sp_G μ n f).2))) (μ0 := (va_up μ 38 (sp_mix (sp_G μ n f).1 (μ 38)))) dX8_gangOf_17 (c_muster2 (d - 1) (by omega) ad μ n hk f (by omega) (by omega)) wd_555 wd_558 wd_50 hy_X1_muster wd_556 wd_557 (by decide) ly_28 rfl rfl (by omega) (Nat.le_of_ble_eq_true rfl) (Nat.le_of_ble_eq_true rfl) (Nat.le_refl 0) (Nat.le_refl 0) ?_
    refine vx_eq (μ2 := (va_up μ 38 (sp_mix (sp_G μ n f).1 (μ 38)))) (ls2 := [(0, vx_r 0), (1, .inl (nI f))]) (st2 := [.inl (sp_G μ n f).2]) rfl rfl rfl ?_
    exact vx_ret (ty := .int) dX8_gangOf_20 rfl rfl (Nat.le_refl 0) (Nat.le_refl 0) (vx_pst hP rfl rfl)
  exact vx_J.M pn_X8_gangOf (Nat.le_of_ble_eq_true rfl) (key _ _ ⟨rfl, rfl, rfl, rfl, rfl⟩)
def sp_speed (μ : vx_mem) (n f : Nat) : Int32 := sp_max (sp_cut (μ 4 1 * (sp_G μ n f).2) (μ 4 0)) 1
set_option maxRecDepth 20000 in
set_option maxHeartbeats 2000000 in
theorem c_X8_speedOf (d : Nat) (hd : 3 ≤ d) (ad : Nat → Nat) (μ : vx_mem) (n : Nat) (hk : sp_ck μ n) (f : Nat) (h1 : 1 ≤ f) (h2 : f ≤ n)  : vx_Mf yX8_speedOf cX8_speedOf 4 (some (.int)) d ad 82 vx_lay μ [vx_r 0, .inl (nI f)] (some (.inl (sp_speed μ n f))) (va_up μ 38 (sp_mix (sp_G μ n f).1 (μ 38))) := by
  have key : ∀ (Post : vx_P) (ini : Bool), Post (some (.inl (sp_speed μ n f))) ad 82 vx_lay (va_up μ 38 (sp_mix (sp_G μ n f).1 (μ 38))) → vx_J RX8 cX8_speedOf 4 (some (.int)) ini d 0 0 Post ad 0 0 82 vx_lay μ 0 [(0, vx_r 0), (1, .inl (nI f))] [] := by
    intro Post ini hP
    refine vx_aload_n dX8_speedOf_0 rfl ?_
    refine vx_getR (ci := 8) (T := TX8) (n := 8) (j := 1) (a := 0) (r := 3) dX8_speedOf_1 rfl lay_X8 (by decide) wd_344 (by decide) ly_0 rfl ?_
    refine vx_iconst (v := 0) dX8_speedOf_4 (by decide) ?_
    refine vx_callV (b := 3) (vs := [.inl 0]) (st := []) (r0 := (some (.inl (μ 4 0)))) (μ0 := μ) dX8_speedOf_5 ((c_X0_tells (d - 1) (by omega) ad μ 0).to (show some (Sum.inl (sp_at 6 ((μ 4)) (nI 0))) = some (Sum.inl _) from congrArg (fun z => some (Sum.inl z)) (sp_at_nI (k := 0) _ (by decide) (by decide))) rfl) wd_539 wd_542 wd_47 hy_X0_tells wd_540 wd_541 (by decide) ly_3 rfl rfl (by omega) (Nat.le_of_ble_eq_true rfl) (Nat.le_of_ble_eq_true rfl) (Nat.le_refl 0) (Nat.le_refl 0) ?_
    refine vx_eq (μ2 := μ) (ls2 := [(0, vx_r 0), (1, .inl (nI f))]) (st2 := [.inl (μ 4 0)]) rfl rfl rfl ?_
    refine vx_istore_n (ls2 := [(2, .inl (μ 4 0)), (0, vx_r 0), (1, .inl (nI f))]) dX8_speedOf_8 (by decide) rfl ?_
    refine vx_aload_n dX8_speedOf_9 rfl ?_
    refine vx_getR (ci := 8) (T := TX8) (n := 8) (j := 4) (a := 0) (r := 28) dX8_speedOf_10 rfl lay_X8 (by decide) wd_347 (by decide) ly_0 rfl ?_
    refine vx_aload_n dX8_speedOf_13 rfl ?_
    refine vx_getR (ci := 8) (T := TX8) (n := 8) (j := 2) (a := 0) (r := 6) dX8_speedOf_14 rfl lay_X8 (by decide) wd_345 (by decide) ly_0 rfl ?_
    refine vx_iload_n dX8_speedOf_17 rfl ?_
    refine vx_iload_n dX8_speedOf_18 rfl ?_
    refine vx_callV (b := 28) (vs := [vx_r 6, .inl (nI f), .inl (μ 4 0)]) (st := []) (r0 := (some (.inl (sp_G μ n f).2))) (μ0 := (va_up μ 38 (sp_mix (sp_G μ n f).1 (μ 38)))) dX8_speedOf_19 (c_muster2 (d - 1) (by omega) ad μ n hk f (by omega) (by omega)) wd_555 wd_558 wd_50 hy_X1_muster wd_556 wd_557 (by decide) ly_28 rfl rfl (by omega) (Nat.le_of_ble_eq_true rfl) (Nat.le_of_ble_eq_true rfl) (Nat.le_refl 0) (Nat.le_refl 0) ?_
    refine vx_eq (μ2 := (va_up μ 38 (sp_mix (sp_G μ n f).1 (μ 38)))) (ls2 := [(2, .inl (μ 4 0)), (0, vx_r 0), (1, .inl (nI f))]) (st2 := [.inl (sp_G μ n f).2]) rfl rfl rfl ?_
    refine vx_istore_n (ls2 := [(3, .inl (sp_G μ n f).2), (2, .inl (μ 4 0)), (0, vx_r 0), (1, .inl (nI f))]) dX8_speedOf_22 (by decide) rfl ?_
    refine vx_aload_n dX8_speedOf_23 rfl ?_
    refine vx_getR (ci := 8) (T := TX8) (n := 8) (j := 1) (a := 0) (r := 3) dX8_speedOf_24 rfl lay_X8 (by decide) wd_344 (by decide) ly_0 rfl ?_
    refine vx_iconst (v := 1) dX8_speedOf_27 (by decide) ?_
    refine vx_callV (b := 3) (vs := [.inl 1]) (st := []) (r0 := (some (.inl (μ 4 1)))) (μ0 := (va_up μ 38 (sp_mix (sp_G μ n f).1 (μ 38)))) dX8_speedOf_28 ((c_X0_tells (d - 1) (by omega) ad (va_up μ 38 (sp_mix (sp_G μ n f).1 (μ 38))) 1).to (show some (Sum.inl (sp_at 6 ((μ 4)) (nI 1))) = some (Sum.inl _) from congrArg (fun z => some (Sum.inl z)) (sp_at_nI (k := 1) _ (by decide) (by decide))) rfl) wd_539 wd_542 wd_47 hy_X0_tells wd_540 wd_541 (by decide) ly_3 rfl rfl (by omega) (Nat.le_of_ble_eq_true rfl) (Nat.le_of_ble_eq_true rfl) (Nat.le_refl 0) (Nat.le_refl 0) ?_
    refine vx_eq (μ2 := (va_up μ 38 (sp_mix (sp_G μ n f).1 (μ 38)))) (ls2 := [(3, .inl (sp_G μ n f).2), (2, .inl (μ 4 0)), (0, vx_r 0), (1, .inl (nI f))]) (st2 := [.inl (μ 4 1)]) rfl rfl rfl ?_
    refine vx_iload_n dX8_speedOf_31 rfl ?_
    refine vx_imul dX8_speedOf_32 ?_
    refine vx_iload_n dX8_speedOf_33 rfl ?_
    refine vx_callS (vs := [.inl ((μ 4 1) * (sp_G μ n f).2), .inl (μ 4 0)]) (st := []) (r0 := (some (.inl (sp_cut ((μ 4 1) * (sp_G μ n f).2) (μ 4 0))))) (μ0 := (va_up μ 38 (sp_mix (sp_G μ n f).1 (μ 38)))) dX8_speedOf_34 (c_X8_cut (d - 1) ad 82 vx_lay (va_up μ 38 (sp_mix (sp_G μ n f).1 (μ 38))) ((μ 4 1) * (sp_G μ n f).2) (μ 4 0)) wd_569 wd_571 wd_45 hy_X8_cut wd_570 (by omega) (Nat.le_of_ble_eq_true rfl) (Nat.le_of_ble_eq_true rfl) (Nat.le_refl 0) (Nat.le_refl 0) ?_
    refine vx_eq (μ2 := (va_up μ 38 (sp_mix (sp_G μ n f).1 (μ 38)))) (ls2 := [(3, .inl (sp_G μ n f).2), (2, .inl (μ 4 0)), (0, vx_r 0), (1, .inl (nI f))]) (st2 := [.inl (sp_cut ((μ 4 1) * (sp_G μ n f).2) (μ 4 0))]) rfl rfl rfl ?_
    refine vx_iconst (v := 1) dX8_speedOf_37 (by decide) ?_
    refine vx_mmax dX8_speedOf_38 wd_572 (by omega) (Nat.le_of_ble_eq_true rfl) (Nat.le_refl 0) (Nat.le_refl 0) ?_
    exact vx_ret (ty := .int) dX8_speedOf_41 rfl rfl (Nat.le_refl 0) (Nat.le_refl 0) (vx_pst hP rfl rfl)
  exact vx_J.M pn_X8_speedOf (Nat.le_of_ble_eq_true rfl) (key _ _ ⟨rfl, rfl, rfl, rfl, rfl⟩)
def sp_sacks (μ : vx_mem) (k : Nat) : Int32 := sp_cut ((μ 7 k - μ 8 k) * (100 - μ 4 5 * μ 9 k)) (100 * μ 4 2)
set_option maxRecDepth 20000 in
set_option maxHeartbeats 2000000 in
theorem c_X8_sacksOf (d : Nat) (hd : 2 ≤ d) (ad : Nat → Nat) (μ : vx_mem) (k : Nat) (hk8 : k < 8) : vx_Mf yX8_sacksOf cX8_sacksOf 4 (some (.int)) d ad 82 vx_lay μ [vx_r 0, .inl (nI k)] (some (.inl (sp_sacks μ k))) μ := by
  have key : ∀ (Post : vx_P) (ini : Bool), Post (some (.inl (sp_sacks μ k))) ad 82 vx_lay μ → vx_J RX8 cX8_sacksOf 4 (some (.int)) ini d 0 0 Post ad 0 0 82 vx_lay μ 0 [(0, vx_r 0), (1, .inl (nI k))] [] := by
    intro Post ini hP
    refine vx_aload_n dX8_sacksOf_0 rfl ?_
    refine vx_getR (ci := 8) (T := TX8) (n := 8) (j := 2) (a := 0) (r := 6) dX8_sacksOf_1 rfl lay_X8 (by decide) wd_345 (by decide) ly_0 rfl ?_
    refine vx_getR (ci := 3) (T := TX3) (n := 12) (j := 1) (a := 6) (r := 7) dX8_sacksOf_4 rfl lay_X3 (by decide) wd_137 (by decide) ly_6 rfl ?_
    refine vx_iload_n dX8_sacksOf_7 rfl ?_
    refine vx_callS (vs := [vx_r 7, .inl (nI k)]) (st := []) (r0 := (some (.inl (μ 7 k)))) (μ0 := μ) dX8_sacksOf_8 ((c_X8_at (d - 1) ad 82 vx_lay μ 7 8 (by decide) ly_7 (by decide) (nI k)).to (by first | rfl | (exact congrArg (fun z => some (Sum.inl z)) (sp_at_nI (k := k) _ (by omega) (by decide)))) rfl) wd_550 wd_109 wd_45 hy_X8_at wd_108 (by omega) (Nat.le_of_ble_eq_true rfl) (Nat.le_of_ble_eq_true rfl) (Nat.le_refl 0) (Nat.le_refl 0) ?_
    refine vx_eq (μ2 := μ) (ls2 := [(0, vx_r 0), (1, .inl (nI k))]) (st2 := [.inl (μ 7 k)]) rfl rfl rfl ?_
    refine vx_aload_n dX8_sacksOf_11 rfl ?_
    refine vx_getR (ci := 8) (T := TX8) (n := 8) (j := 2) (a := 0) (r := 6) dX8_sacksOf_12 rfl lay_X8 (by decide) wd_345 (by decide) ly_0 rfl ?_
    refine vx_getR (ci := 3) (T := TX3) (n := 12) (j := 2) (a := 6) (r := 8) dX8_sacksOf_15 rfl lay_X3 (by decide) wd_139 (by decide) ly_6 rfl ?_
    refine vx_iload_n dX8_sacksOf_18 rfl ?_
    refine vx_callS (vs := [vx_r 8, .inl (nI k)]) (st := [.inl (μ 7 k)]) (r0 := (some (.inl (μ 8 k)))) (μ0 := μ) dX8_sacksOf_19 ((c_X8_at (d - 1) ad 82 vx_lay μ 8 8 (by decide) ly_8 (by decide) (nI k)).to (by first | rfl | (exact congrArg (fun z => some (Sum.inl z)) (sp_at_nI (k := k) _ (by omega) (by decide)))) rfl) wd_550 wd_109 wd_45 hy_X8_at wd_108 (by omega) (Nat.le_of_ble_eq_true rfl) (Nat.le_of_ble_eq_true rfl) (Nat.le_refl 0) (Nat.le_refl 0) ?_
    refine vx_eq (μ2 := μ) (ls2 := [(0, vx_r 0), (1, .inl (nI k))]) (st2 := [.inl (μ 8 k), .inl (μ 7 k)]) rfl rfl rfl ?_
    refine vx_isub dX8_sacksOf_22 ?_
    refine vx_istore_n (ls2 := [(2, .inl ((μ 7 k) - (μ 8 k))), (0, vx_r 0), (1, .inl (nI k))]) dX8_sacksOf_23 (by decide) rfl ?_
    refine vx_bipush (v := 100) dX8_sacksOf_24 (by decide) ?_
    refine vx_aload_n dX8_sacksOf_26 rfl ?_
    refine vx_getR (ci := 8) (T := TX8) (n := 8) (j := 1) (a := 0) (r := 3) dX8_sacksOf_27 rfl lay_X8 (by decide) wd_344 (by decide) ly_0 rfl ?_
    refine vx_iconst (v := 5) dX8_sacksOf_30 (by decide) ?_
    refine vx_callV (b := 3) (vs := [.inl 5]) (st := [.inl 100]) (r0 := (some (.inl (μ 4 5)))) (μ0 := μ) dX8_sacksOf_31 ((c_X0_tells (d - 1) (by omega) ad μ 5).to (show some (Sum.inl (sp_at 6 ((μ 4)) (nI 5))) = some (Sum.inl _) from congrArg (fun z => some (Sum.inl z)) (sp_at_nI (k := 5) _ (by decide) (by decide))) rfl) wd_539 wd_542 wd_47 hy_X0_tells wd_540 wd_541 (by decide) ly_3 rfl rfl (by omega) (Nat.le_of_ble_eq_true rfl) (Nat.le_of_ble_eq_true rfl) (Nat.le_refl 0) (Nat.le_refl 0) ?_
    refine vx_eq (μ2 := μ) (ls2 := [(2, .inl ((μ 7 k) - (μ 8 k))), (0, vx_r 0), (1, .inl (nI k))]) (st2 := [.inl (μ 4 5), .inl 100]) rfl rfl rfl ?_
    refine vx_aload_n dX8_sacksOf_34 rfl ?_
    refine vx_getR (ci := 8) (T := TX8) (n := 8) (j := 2) (a := 0) (r := 6) dX8_sacksOf_35 rfl lay_X8 (by decide) wd_345 (by decide) ly_0 rfl ?_
    refine vx_getR (ci := 3) (T := TX3) (n := 12) (j := 3) (a := 6) (r := 9) dX8_sacksOf_38 rfl lay_X3 (by decide) wd_141 (by decide) ly_6 rfl ?_
    refine vx_iload_n dX8_sacksOf_41 rfl ?_
    refine vx_callS (vs := [vx_r 9, .inl (nI k)]) (st := [.inl (μ 4 5), .inl 100]) (r0 := (some (.inl (μ 9 k)))) (μ0 := μ) dX8_sacksOf_42 ((c_X8_at (d - 1) ad 82 vx_lay μ 9 8 (by decide) ly_9 (by decide) (nI k)).to (by first | rfl | (exact congrArg (fun z => some (Sum.inl z)) (sp_at_nI (k := k) _ (by omega) (by decide)))) rfl) wd_550 wd_109 wd_45 hy_X8_at wd_108 (by omega) (Nat.le_of_ble_eq_true rfl) (Nat.le_of_ble_eq_true rfl) (Nat.le_refl 0) (Nat.le_refl 0) ?_
    refine vx_eq (μ2 := μ) (ls2 := [(2, .inl ((μ 7 k) - (μ 8 k))), (0, vx_r 0), (1, .inl (nI k))]) (st2 := [.inl (μ 9 k), .inl (μ 4 5), .inl 100]) rfl rfl rfl ?_
    refine vx_imul dX8_sacksOf_45 ?_
    refine vx_isub dX8_sacksOf_46 ?_
    refine vx_istore_n (ls2 := [(3, .inl (100 - ((μ 4 5) * (μ 9 k)))), (2, .inl ((μ 7 k) - (μ 8 k))), (0, vx_r 0), (1, .inl (nI k))]) dX8_sacksOf_47 (by decide) rfl ?_
    refine vx_iload_n dX8_sacksOf_48 rfl ?_
    refine vx_iload_n dX8_sacksOf_49 rfl ?_
    refine vx_imul dX8_sacksOf_50 ?_
    refine vx_bipush (v := 100) dX8_sacksOf_51 (by decide) ?_
    refine vx_aload_n dX8_sacksOf_53 rfl ?_
    refine vx_getR (ci := 8) (T := TX8) (n := 8) (j := 1) (a := 0) (r := 3) dX8_sacksOf_54 rfl lay_X8 (by decide) wd_344 (by decide) ly_0 rfl ?_
    refine vx_iconst (v := 2) dX8_sacksOf_57 (by decide) ?_
    refine vx_callV (b := 3) (vs := [.inl 2]) (st := [.inl 100, .inl (((μ 7 k) - (μ 8 k)) * (100 - ((μ 4 5) * (μ 9 k))))]) (r0 := (some (.inl (μ 4 2)))) (μ0 := μ) dX8_sacksOf_58 ((c_X0_tells (d - 1) (by omega) ad μ 2).to (show some (Sum.inl (sp_at 6 ((μ 4)) (nI 2))) = some (Sum.inl _) from congrArg (fun z => some (Sum.inl z)) (sp_at_nI (k := 2) _ (by decide) (by decide))) rfl) wd_539 wd_542 wd_47 hy_X0_tells wd_540 wd_541 (by decide) ly_3 rfl rfl (by omega) (Nat.le_of_ble_eq_true rfl) (Nat.le_of_ble_eq_true rfl) (Nat.le_refl 0) (Nat.le_refl 0) ?_
    refine vx_eq (μ2 := μ) (ls2 := [(3, .inl (100 - ((μ 4 5) * (μ 9 k)))), (2, .inl ((μ 7 k) - (μ 8 k))), (0, vx_r 0), (1, .inl (nI k))]) (st2 := [.inl (μ 4 2), .inl 100, .inl (((μ 7 k) - (μ 8 k)) * (100 - ((μ 4 5) * (μ 9 k))))]) rfl rfl rfl ?_
    refine vx_imul dX8_sacksOf_61 ?_
    refine vx_callS (vs := [.inl (((μ 7 k) - (μ 8 k)) * (100 - ((μ 4 5) * (μ 9 k)))), .inl (100 * (μ 4 2))]) (st := []) (r0 := (some (.inl (sp_cut (((μ 7 k) - (μ 8 k)) * (100 - ((μ 4 5) * (μ 9 k)))) (100 * (μ 4 2)))))) (μ0 := μ) dX8_sacksOf_62 (c_X8_cut (d - 1) ad 82 vx_lay μ (((μ 7 k) - (μ 8 k)) * (100 - ((μ 4 5) * (μ 9 k)))) (100 * (μ 4 2))) wd_569 wd_571 wd_45 hy_X8_cut wd_570 (by omega) (Nat.le_of_ble_eq_true rfl) (Nat.le_of_ble_eq_true rfl) (Nat.le_refl 0) (Nat.le_refl 0) ?_
    refine vx_eq (μ2 := μ) (ls2 := [(3, .inl (100 - ((μ 4 5) * (μ 9 k)))), (2, .inl ((μ 7 k) - (μ 8 k))), (0, vx_r 0), (1, .inl (nI k))]) (st2 := [.inl (sp_cut (((μ 7 k) - (μ 8 k)) * (100 - ((μ 4 5) * (μ 9 k)))) (100 * (μ 4 2)))]) rfl rfl rfl ?_
    exact vx_ret (ty := .int) dX8_sacksOf_65 rfl rfl (Nat.le_refl 0) (Nat.le_refl 0) (vx_pst hP rfl rfl)
  exact vx_J.M pn_X8_sacksOf (Nat.le_of_ble_eq_true rfl) (key _ _ ⟨rfl, rfl, rfl, rfl, rfl⟩)
def sp_price (μ : vx_mem) (k : Nat) : Int32 := (if μ 16 k = 1 then sp_sacks μ k else μ 14 k) * μ 17 k
set_option maxRecDepth 20000 in
set_option maxHeartbeats 2000000 in
theorem c_X8_priceOf (d : Nat) (hd : 3 ≤ d) (ad : Nat → Nat) (μ : vx_mem) (k : Nat) (hk8 : k < 8) : vx_Mf yX8_priceOf cX8_priceOf 3 (some (.int)) d ad 82 vx_lay μ [vx_r 0, .inl (nI k)] (some (.inl (sp_price μ k))) μ := by
  have key : ∀ (Post : vx_P) (ini : Bool), Post (some (.inl (sp_price μ k))) ad 82 vx_lay μ → vx_J RX8 cX8_priceOf 3 (some (.int)) ini d 0 0 Post ad 0 0 82 vx_lay μ 0 [(0, vx_r 0), (1, .inl (nI k))] [] := by
    intro Post ini hP
    refine vx_aload_n dX8_priceOf_0 rfl ?_
    refine vx_getR (ci := 8) (T := TX8) (n := 8) (j := 2) (a := 0) (r := 6) dX8_priceOf_1 rfl lay_X8 (by decide) wd_345 (by decide) ly_0 rfl ?_
    refine vx_getR (ci := 3) (T := TX3) (n := 12) (j := 10) (a := 6) (r := 16) dX8_priceOf_4 rfl lay_X3 (by decide) wd_157 (by decide) ly_6 rfl ?_
    refine vx_iload_n dX8_priceOf_7 rfl ?_
    refine vx_callS (vs := [vx_r 16, .inl (nI k)]) (st := []) (r0 := (some (.inl (μ 16 k)))) (μ0 := μ) dX8_priceOf_8 ((c_X8_at (d - 1) ad 82 vx_lay μ 16 8 (by decide) ly_16 (by decide) (nI k)).to (by first | rfl | (exact congrArg (fun z => some (Sum.inl z)) (sp_at_nI (k := k) _ (by omega) (by decide)))) rfl) wd_550 wd_109 wd_45 hy_X8_at wd_108 (by omega) (Nat.le_of_ble_eq_true rfl) (Nat.le_of_ble_eq_true rfl) (Nat.le_refl 0) (Nat.le_refl 0) ?_
    refine vx_eq (μ2 := μ) (ls2 := [(0, vx_r 0), (1, .inl (nI k))]) (st2 := [.inl (μ 16 k)]) rfl rfl rfl ?_
    refine vx_iconst (v := 1) dX8_priceOf_11 (by decide) ?_
    refine vx_icmp_ne (tgt := 23) dX8_priceOf_12 (by decide) (fun c_12 => ?_) (fun c_12 => ?_)
    · refine vx_aload_n dX8_priceOf_23 rfl ?_
      refine vx_getR (ci := 8) (T := TX8) (n := 8) (j := 2) (a := 0) (r := 6) dX8_priceOf_24 rfl lay_X8 (by decide) wd_345 (by decide) ly_0 rfl ?_
      refine vx_getR (ci := 3) (T := TX3) (n := 12) (j := 8) (a := 6) (r := 14) dX8_priceOf_27 rfl lay_X3 (by decide) wd_153 (by decide) ly_6 rfl ?_
      refine vx_iload_n dX8_priceOf_30 rfl ?_
      refine vx_callS (vs := [vx_r 14, .inl (nI k)]) (st := []) (r0 := (some (.inl (μ 14 k)))) (μ0 := μ) dX8_priceOf_31 ((c_X8_at (d - 1) ad 82 vx_lay μ 14 8 (by decide) ly_14 (by decide) (nI k)).to (by first | rfl | (exact congrArg (fun z => some (Sum.inl z)) (sp_at_nI (k := k) _ (by omega) (by decide)))) rfl) wd_550 wd_109 wd_45 hy_X8_at wd_108 (by omega) (Nat.le_of_ble_eq_true rfl) (Nat.le_of_ble_eq_true rfl) (Nat.le_refl 0) (Nat.le_refl 0) ?_
      refine vx_eq (μ2 := μ) (ls2 := [(0, vx_r 0), (1, .inl (nI k))]) (st2 := [.inl (μ 14 k)]) rfl rfl rfl ?_
      refine vx_istore_n (ls2 := [(2, .inl (μ 14 k)), (0, vx_r 0), (1, .inl (nI k))]) dX8_priceOf_34 (by decide) rfl ?_
      refine vx_iload_n dX8_priceOf_35 rfl ?_
      refine vx_aload_n dX8_priceOf_36 rfl ?_
      refine vx_getR (ci := 8) (T := TX8) (n := 8) (j := 2) (a := 0) (r := 6) dX8_priceOf_37 rfl lay_X8 (by decide) wd_345 (by decide) ly_0 rfl ?_
      refine vx_getR (ci := 3) (T := TX3) (n := 12) (j := 11) (a := 6) (r := 17) dX8_priceOf_40 rfl lay_X3 (by decide) wd_159 (by decide) ly_6 rfl ?_
      refine vx_iload_n dX8_priceOf_43 rfl ?_
      refine vx_callS (vs := [vx_r 17, .inl (nI k)]) (st := [.inl (μ 14 k)]) (r0 := (some (.inl (μ 17 k)))) (μ0 := μ) dX8_priceOf_44 ((c_X8_at (d - 1) ad 82 vx_lay μ 17 8 (by decide) ly_17 (by decide) (nI k)).to (by first | rfl | (exact congrArg (fun z => some (Sum.inl z)) (sp_at_nI (k := k) _ (by omega) (by decide)))) rfl) wd_550 wd_109 wd_45 hy_X8_at wd_108 (by omega) (Nat.le_of_ble_eq_true rfl) (Nat.le_of_ble_eq_true rfl) (Nat.le_refl 0) (Nat.le_refl 0) ?_
      refine vx_eq (μ2 := μ) (ls2 := [(2, .inl (μ 14 k)), (0, vx_r 0), (1, .inl (nI k))]) (st2 := [.inl (μ 17 k), .inl (μ 14 k)]) rfl rfl rfl ?_
      refine vx_imul dX8_priceOf_47 ?_
      exact vx_ret (ty := .int) dX8_priceOf_48 rfl rfl (Nat.le_refl 0) (Nat.le_refl 0) (vx_pst hP (by simp [sp_price, *]) rfl)
    · refine vx_aload_n dX8_priceOf_15 rfl ?_
      refine vx_iload_n dX8_priceOf_16 rfl ?_
      refine vx_callV (b := 0) (vs := [.inl (nI k)]) (st := []) (r0 := (some (.inl (sp_sacks μ k)))) (μ0 := μ) dX8_priceOf_17 (c_X8_sacksOf (d - 1) (by omega) ad μ k (by omega)) wd_687 wd_690 wd_45 hy_X8_sacksOf wd_689 wd_18 (by decide) ly_0 rfl rfl (by omega) (Nat.le_of_ble_eq_true rfl) (Nat.le_of_ble_eq_true rfl) (Nat.le_refl 0) (Nat.le_refl 0) ?_
      refine vx_eq (μ2 := μ) (ls2 := [(0, vx_r 0), (1, .inl (nI k))]) (st2 := [.inl (sp_sacks μ k)]) rfl rfl rfl ?_
      refine vx_goto (tgt := 34) dX8_priceOf_20 (by decide) ?_
      refine vx_istore_n (ls2 := [(2, .inl (sp_sacks μ k)), (0, vx_r 0), (1, .inl (nI k))]) dX8_priceOf_34 (by decide) rfl ?_
      refine vx_iload_n dX8_priceOf_35 rfl ?_
      refine vx_aload_n dX8_priceOf_36 rfl ?_
      refine vx_getR (ci := 8) (T := TX8) (n := 8) (j := 2) (a := 0) (r := 6) dX8_priceOf_37 rfl lay_X8 (by decide) wd_345 (by decide) ly_0 rfl ?_
      refine vx_getR (ci := 3) (T := TX3) (n := 12) (j := 11) (a := 6) (r := 17) dX8_priceOf_40 rfl lay_X3 (by decide) wd_159 (by decide) ly_6 rfl ?_
      refine vx_iload_n dX8_priceOf_43 rfl ?_
      refine vx_callS (vs := [vx_r 17, .inl (nI k)]) (st := [.inl (sp_sacks μ k)]) (r0 := (some (.inl (μ 17 k)))) (μ0 := μ) dX8_priceOf_44 ((c_X8_at (d - 1) ad 82 vx_lay μ 17 8 (by decide) ly_17 (by decide) (nI k)).to (by first | rfl | (exact congrArg (fun z => some (Sum.inl z)) (sp_at_nI (k := k) _ (by omega) (by decide)))) rfl) wd_550 wd_109 wd_45 hy_X8_at wd_108 (by omega) (Nat.le_of_ble_eq_true rfl) (Nat.le_of_ble_eq_true rfl) (Nat.le_refl 0) (Nat.le_refl 0) ?_
      refine vx_eq (μ2 := μ) (ls2 := [(2, .inl (sp_sacks μ k)), (0, vx_r 0), (1, .inl (nI k))]) (st2 := [.inl (μ 17 k), .inl (sp_sacks μ k)]) rfl rfl rfl ?_
      refine vx_imul dX8_priceOf_47 ?_
      exact vx_ret (ty := .int) dX8_priceOf_48 rfl rfl (Nat.le_refl 0) (Nat.le_refl 0) (vx_pst hP (by simp [sp_price, *]) rfl)
  exact vx_J.M pn_X8_priceOf (Nat.le_of_ble_eq_true rfl) (key _ _ ⟨rfl, rfl, rfl, rfl, rfl⟩)
def sp_lossD (μ : vx_mem) (k : Nat) : Int32 := if μ 8 k ≤ 0 then μ 4 3 * sp_max (μ 15 k - μ 13 k) 0 else 0
set_option maxRecDepth 20000 in
set_option maxHeartbeats 2000000 in
theorem c_X8_lossOf (d : Nat) (hd : 2 ≤ d) (ad : Nat → Nat) (μ : vx_mem) (n : Nat) (hk : sp_ck μ n) (f : Nat) (h1 : 1 ≤ f) (h2 : f ≤ n)  : vx_Mf yX8_lossOf cX8_lossOf 3 (some (.int)) d ad 82 vx_lay μ [vx_r 0, .inl (nI f)] (some (.inl (sp_lossD μ f))) μ := by
  have key : ∀ (Post : vx_P) (ini : Bool), Post (some (.inl (sp_lossD μ f))) ad 82 vx_lay μ → vx_J RX8 cX8_lossOf 3 (some (.int)) ini d 0 0 Post ad 0 0 82 vx_lay μ 0 [(0, vx_r 0), (1, .inl (nI f))] [] := by
    intro Post ini hP
    have hc := hk.1
    have hn := hk.2.1
    refine vx_aload_n dX8_lossOf_0 rfl ?_
    refine vx_getR (ci := 8) (T := TX8) (n := 8) (j := 2) (a := 0) (r := 6) dX8_lossOf_1 rfl lay_X8 (by decide) wd_345 (by decide) ly_0 rfl ?_
    refine vx_iload_n dX8_lossOf_4 rfl ?_
    refine vx_callV (b := 6) (vs := [.inl (nI f)]) (st := []) (r0 := (some (.inl (sp_pos (μ 8 f))))) (μ0 := μ) dX8_lossOf_5 (c_X3_isOpen (d - 1) (by omega) ad μ n hc hn f (by omega) (by omega)) wd_544 wd_547 wd_48 hy_X3_isOpen wd_545 wd_546 (by decide) ly_6 rfl rfl (by omega) (Nat.le_of_ble_eq_true rfl) (Nat.le_of_ble_eq_true rfl) (Nat.le_refl 0) (Nat.le_refl 0) ?_
    refine vx_eq (μ2 := μ) (ls2 := [(0, vx_r 0), (1, .inl (nI f))]) (st2 := [.inl (sp_pos (μ 8 f))]) rfl rfl rfl ?_
    refine vx_if_eq (tgt := 13) dX8_lossOf_8 (by decide) (fun c_8 => ?_) (fun c_8 => ?_)
    · refine vx_aload_n dX8_lossOf_13 rfl ?_
      refine vx_getR (ci := 8) (T := TX8) (n := 8) (j := 2) (a := 0) (r := 6) dX8_lossOf_14 rfl lay_X8 (by decide) wd_345 (by decide) ly_0 rfl ?_
      refine vx_getR (ci := 3) (T := TX3) (n := 12) (j := 9) (a := 6) (r := 15) dX8_lossOf_17 rfl lay_X3 (by decide) wd_155 (by decide) ly_6 rfl ?_
      refine vx_iload_n dX8_lossOf_20 rfl ?_
      refine vx_callS (vs := [vx_r 15, .inl (nI f)]) (st := []) (r0 := (some (.inl (μ 15 f)))) (μ0 := μ) dX8_lossOf_21 ((c_X8_at (d - 1) ad 82 vx_lay μ 15 8 (by decide) ly_15 (by decide) (nI f)).to (by first | rfl | (exact congrArg (fun z => some (Sum.inl z)) (sp_at_nI (k := f) _ (by omega) (by decide)))) rfl) wd_550 wd_109 wd_45 hy_X8_at wd_108 (by omega) (Nat.le_of_ble_eq_true rfl) (Nat.le_of_ble_eq_true rfl) (Nat.le_refl 0) (Nat.le_refl 0) ?_
      refine vx_eq (μ2 := μ) (ls2 := [(0, vx_r 0), (1, .inl (nI f))]) (st2 := [.inl (μ 15 f)]) rfl rfl rfl ?_
      refine vx_aload_n dX8_lossOf_24 rfl ?_
      refine vx_getR (ci := 8) (T := TX8) (n := 8) (j := 2) (a := 0) (r := 6) dX8_lossOf_25 rfl lay_X8 (by decide) wd_345 (by decide) ly_0 rfl ?_
      refine vx_getR (ci := 3) (T := TX3) (n := 12) (j := 7) (a := 6) (r := 13) dX8_lossOf_28 rfl lay_X3 (by decide) wd_151 (by decide) ly_6 rfl ?_
      refine vx_iload_n dX8_lossOf_31 rfl ?_
      refine vx_callS (vs := [vx_r 13, .inl (nI f)]) (st := [.inl (μ 15 f)]) (r0 := (some (.inl (μ 13 f)))) (μ0 := μ) dX8_lossOf_32 ((c_X8_at (d - 1) ad 82 vx_lay μ 13 8 (by decide) ly_13 (by decide) (nI f)).to (by first | rfl | (exact congrArg (fun z => some (Sum.inl z)) (sp_at_nI (k := f) _ (by omega) (by decide)))) rfl) wd_550 wd_109 wd_45 hy_X8_at wd_108 (by omega) (Nat.le_of_ble_eq_true rfl) (Nat.le_of_ble_eq_true rfl) (Nat.le_refl 0) (Nat.le_refl 0) ?_
      refine vx_eq (μ2 := μ) (ls2 := [(0, vx_r 0), (1, .inl (nI f))]) (st2 := [.inl (μ 13 f), .inl (μ 15 f)]) rfl rfl rfl ?_
      refine vx_isub dX8_lossOf_35 ?_
      refine vx_istore_n (ls2 := [(2, .inl ((μ 15 f) - (μ 13 f))), (0, vx_r 0), (1, .inl (nI f))]) dX8_lossOf_36 (by decide) rfl ?_
      refine vx_aload_n dX8_lossOf_37 rfl ?_
      refine vx_getR (ci := 8) (T := TX8) (n := 8) (j := 1) (a := 0) (r := 3) dX8_lossOf_38 rfl lay_X8 (by decide) wd_344 (by decide) ly_0 rfl ?_
      refine vx_iconst (v := 3) dX8_lossOf_41 (by decide) ?_
      refine vx_callV (b := 3) (vs := [.inl 3]) (st := []) (r0 := (some (.inl (μ 4 3)))) (μ0 := μ) dX8_lossOf_42 ((c_X0_tells (d - 1) (by omega) ad μ 3).to (show some (Sum.inl (sp_at 6 ((μ 4)) (nI 3))) = some (Sum.inl _) from congrArg (fun z => some (Sum.inl z)) (sp_at_nI (k := 3) _ (by decide) (by decide))) rfl) wd_539 wd_542 wd_47 hy_X0_tells wd_540 wd_541 (by decide) ly_3 rfl rfl (by omega) (Nat.le_of_ble_eq_true rfl) (Nat.le_of_ble_eq_true rfl) (Nat.le_refl 0) (Nat.le_refl 0) ?_
      refine vx_eq (μ2 := μ) (ls2 := [(2, .inl ((μ 15 f) - (μ 13 f))), (0, vx_r 0), (1, .inl (nI f))]) (st2 := [.inl (μ 4 3)]) rfl rfl rfl ?_
      refine vx_iload_n dX8_lossOf_45 rfl ?_
      refine vx_iconst (v := 0) dX8_lossOf_46 (by decide) ?_
      refine vx_mmax dX8_lossOf_47 wd_572 (by omega) (Nat.le_of_ble_eq_true rfl) (Nat.le_refl 0) (Nat.le_refl 0) ?_
      refine vx_imul dX8_lossOf_50 ?_
      exact vx_ret (ty := .int) dX8_lossOf_51 rfl rfl (Nat.le_refl 0) (Nat.le_refl 0) (vx_pst hP (by unfold sp_lossD; rw [sp_pos0] at c_8; simp [c_8, sp_max]) rfl)
    · refine vx_iconst (v := 0) dX8_lossOf_11 (by decide) ?_
      exact vx_ret (ty := .int) dX8_lossOf_12 rfl rfl (Nat.le_refl 0) (Nat.le_refl 0) (vx_pst hP (by unfold sp_lossD; rw [sp_pos0] at c_8; simp [c_8, sp_max]) rfl)
  exact vx_J.M pn_X8_lossOf (Nat.le_of_ble_eq_true rfl) (key _ _ ⟨rfl, rfl, rfl, rfl, rfl⟩)
def sp_ahead (μ : vx_mem) (p : Nat) : Int32 := if μ 12 p ≤ μ 53 0 then 0 else 1
set_option maxRecDepth 20000 in
set_option maxHeartbeats 2000000 in
theorem c_X8_isAheadOfFrom (d : Nat) (hd : 1 ≤ d) (ad : Nat → Nat) (μ : vx_mem) (p : Nat) (hp : μ 53 1 = nI p) (hp8 : p < 8) : vx_Mf yX8_isAheadOfFrom cX8_isAheadOfFrom 1 (some (.boolean)) d ad 82 vx_lay μ [vx_r 0] (some (.inl (sp_ahead μ p))) μ := by
  have key : ∀ (Post : vx_P) (ini : Bool), Post (some (.inl (sp_ahead μ p))) ad 82 vx_lay μ → vx_J RX8 cX8_isAheadOfFrom 1 (some (.boolean)) ini d 0 0 Post ad 0 0 82 vx_lay μ 0 [(0, vx_r 0)] [] := by
    intro Post ini hP
    refine vx_aload_n dX8_isAheadOfFrom_0 rfl ?_
    refine vx_getR (ci := 8) (T := TX8) (n := 8) (j := 7) (a := 0) (r := 53) dX8_isAheadOfFrom_1 rfl lay_X8 (by decide) wd_350 (by decide) ly_0 rfl ?_
    refine vx_getI (ci := 2) (T := TX2) (n := 6) (j := 0) (a := 53) (v := (μ 53 0)) dX8_isAheadOfFrom_4 rfl lay_X2 (by decide) wd_319 (by decide) ly_53 rfl rfl ?_
    refine vx_aload_n dX8_isAheadOfFrom_7 rfl ?_
    refine vx_getR (ci := 8) (T := TX8) (n := 8) (j := 2) (a := 0) (r := 6) dX8_isAheadOfFrom_8 rfl lay_X8 (by decide) wd_345 (by decide) ly_0 rfl ?_
    refine vx_getR (ci := 3) (T := TX3) (n := 12) (j := 6) (a := 6) (r := 12) dX8_isAheadOfFrom_11 rfl lay_X3 (by decide) wd_149 (by decide) ly_6 rfl ?_
    refine vx_aload_n dX8_isAheadOfFrom_14 rfl ?_
    refine vx_getR (ci := 8) (T := TX8) (n := 8) (j := 7) (a := 0) (r := 53) dX8_isAheadOfFrom_15 rfl lay_X8 (by decide) wd_350 (by decide) ly_0 rfl ?_
    refine vx_getI (ci := 2) (T := TX2) (n := 6) (j := 1) (a := 53) (v := (nI p)) dX8_isAheadOfFrom_18 rfl lay_X2 (by decide) wd_321 (by decide) ly_53 rfl hp ?_
    refine vx_callS (vs := [vx_r 12, .inl (nI p)]) (st := [.inl (μ 53 0)]) (r0 := (some (.inl (μ 12 p)))) (μ0 := μ) dX8_isAheadOfFrom_21 ((c_X8_at (d - 1) ad 82 vx_lay μ 12 8 (by decide) ly_12 (by decide) (nI p)).to (by first | rfl | (exact congrArg (fun z => some (Sum.inl z)) (sp_at_nI (k := p) _ (by omega) (by decide)))) rfl) wd_550 wd_109 wd_45 hy_X8_at wd_108 (by omega) (Nat.le_of_ble_eq_true rfl) (Nat.le_of_ble_eq_true rfl) (Nat.le_refl 0) (Nat.le_refl 0) ?_
    refine vx_eq (μ2 := μ) (ls2 := [(0, vx_r 0)]) (st2 := [.inl (μ 12 p), .inl (μ 53 0)]) rfl rfl rfl ?_
    refine vx_icmp_ge (tgt := 31) dX8_isAheadOfFrom_24 (by decide) (fun c_24 => ?_) (fun c_24 => ?_)
    · refine vx_iconst (v := 0) dX8_isAheadOfFrom_31 (by decide) ?_
      exact vx_ret (ty := .boolean) dX8_isAheadOfFrom_32 rfl rfl (Nat.le_refl 0) (Nat.le_refl 0) (vx_pst hP (by simp [sp_ahead, *]) rfl)
    · refine vx_iconst (v := 1) dX8_isAheadOfFrom_27 (by decide) ?_
      refine vx_goto (tgt := 32) dX8_isAheadOfFrom_28 (by decide) ?_
      exact vx_ret (ty := .boolean) dX8_isAheadOfFrom_32 rfl rfl (Nat.le_refl 0) (Nat.le_refl 0) (vx_pst hP (by simp [sp_ahead, *]) rfl)
  exact vx_J.M pn_X8_isAheadOfFrom (Nat.le_of_ble_eq_true rfl) (key _ _ ⟨rfl, rfl, rfl, rfl, rfl⟩)
end
