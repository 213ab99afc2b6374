section
theorem sp_next_cong {gv ow ow2 : Nat → Int32} : ∀ {n : Nat}, (∀ q, q ≤ n → ow q = ow2 q) → sp_next gv ow n = sp_next gv ow2 n
  | 0, _ => rfl
  | n + 1, h => by
    have hc := sp_next_cong (gv := gv) (n := n) (fun q hq => h q (by omega))
    unfold sp_next
    rw [hc, h (n + 1) (by omega), h (sp_next gv ow2 n) (Nat.le_trans (sp_next_le _ _ _) (by omega))]
theorem c_nextLender2 (d : Nat) (hd : 1 ≤ d) (ad : Nat → Nat) (μ : vx_mem) (n f : Nat) (hn : n ≤ 7) (hf : f < 8) (gv ow : Nat → Int32) (hgv : μ 38 = gv) (how : ∀ q, q ≤ 7 → μ (30 + q) f = ow q) (g : Nat) (hg : g = sp_next gv ow n) (hz : ¬ g = 0) : vx_Mf yX1_nextLender cX1_nextLender 6 (some .int) d ad 82 vx_lay μ [vx_r 28, .inl (nI n), .inl (nI f)] (some (.inl (nI g))) μ := by
  refine (c_X1_nextLender d hd ad μ n f hn hf).to ?_ rfl
  rw [sp_next_cong (ow2 := ow) (fun q hq => how q (by omega)), hgv, ← hg, sp_nxp hz]
theorem sp_ask_init {f : Nat → Int32} {k n : Nat} (h1 : 1 ≤ k) (h2 : k ≤ n) (hn : n ≤ 7) : sp_ask (upd (sp_fm f 8) k 0) n = 1 := by
  have h0 : ∀ m, m ≤ 7 → sp_ask (sp_fm f 8) m = 0 := by
    intro m
    induction m with
    | zero => intro _; rfl
    | succ m ih =>
      intro hm
      unfold sp_ask
      rw [ih (by omega), if_pos (by unfold sp_fm; rw [if_pos (by omega)])]
  rw [sp_ask_put h1 (by unfold sp_fm; rw [if_pos (by omega)]) (by decide) h2, h0 n hn]
theorem sp_vinit {f : Nat → Int32} {k n : Nat} (hn : n ≤ 7) : ∀ g, 1 ≤ g → g ≤ n → upd (sp_fm f 8) k 0 g = -1 ∨ zz_in (upd (sp_fm f 8) k 0 g) 0 12 := by
  intro g h1 h2
  unfold upd
  by_cases e : g = k
  · rw [if_pos e]; exact Or.inr ⟨by decide, by decide⟩
  · rw [if_neg e]
    left
    unfold sp_fm
    rw [if_pos (by omega)]

set_option maxRecDepth 20000 in
set_option maxHeartbeats 2000000 in
theorem c_X1_muster (d : Nat) (hd : 2 ≤ d) (ad : Nat → Nat) (μ : vx_mem) (n : Nat) (hc : μ 6 0 = nI n) (hn : n ≤ 7) (f : Nat) (h1 : 1 ≤ f) (h2 : f ≤ n) (most : Int32) (hm : zz_in most 1 20) (hl : ∀ g, 1 ≤ g → g ≤ n → zz_in (μ 11 g) 0 12) (ho : zz_in (μ 10 f) 0 12) : vx_Mf yX1_muster cX1_muster 8 (some (.int)) d ad 82 vx_lay μ [vx_r 28, vx_r 6, .inl (nI f), .inl most] (some (.inl (sp_mus (μ 11) (fun q => μ (30 + q) f) most n (upd (sp_fm (μ 38) 8) f 0) (sp_min (μ 10 f) most) (n - 1)).2)) (va_up μ 38 (sp_mus (μ 11) (fun q => μ (30 + q) f) most n (upd (sp_fm (μ 38) 8) f 0) (sp_min (μ 10 f) most) (n - 1)).1) := by
  have key : ∀ (Post : vx_P) (ini : Bool), Post (some (.inl (sp_mus (μ 11) (fun q => μ (30 + q) f) most n (upd (sp_fm (μ 38) 8) f 0) (sp_min (μ 10 f) most) (n - 1)).2)) ad 82 vx_lay (va_up μ 38 (sp_mus (μ 11) (fun q => μ (30 + q) f) most n (upd (sp_fm (μ 38) 8) f 0) (sp_min (μ 10 f) most) (n - 1)).1) → vx_J RX1 cX1_muster 8 (some (.int)) ini d 0 0 Post ad 0 0 82 vx_lay μ 0 [(0, vx_r 28), (1, vx_r 6), (2, .inl (nI f)), (3, .inl most)] [] := by
    intro Post ini hP
    have hg0 : 0 ≤ (sp_min (μ 10 f) most).toInt ∧ (sp_min (μ 10 f) most).toInt ≤ most.toInt := by rw [sp_min_int]; unfold zz_in at hm ho; omega
    have loop2 : ∀ (r t : Nat) (gv : Nat → Int32) (gang : Int32), t + r + 1 = n → (sp_mus (μ 11) (fun q => μ (30 + q) f) most n (upd (sp_fm (μ 38) 8) f 0) (sp_min (μ 10 f) most) t) = (gv, gang) → vx_J RX1 cX1_muster 8 (some (.int)) ini d 0 0 Post ad 0 0 82 vx_lay (va_up μ 38 gv) 52 [(5, .inl (nI (t + 1))), (4, .inl gang), (0, vx_r 28), (1, vx_r 6), (2, .inl (nI f)), (3, .inl most)] [] := by
      intro r
      induction r with
      | zero =>
        intro t gv gang ht hsm
        refine vx_iload dX1_muster_52 rfl ?_
        refine vx_aload_n dX1_muster_54 rfl ?_
        refine vx_getI (ci := 3) (T := TX3) (n := 12) (j := 0) (a := 6) (v := (nI n)) dX1_muster_55 rfl lay_X3 (by decide) wd_134 (by decide) ly_6 rfl hc ?_
        refine vx_icmp_ge (tgt := 114) dX1_muster_58 (by decide) (fun _ => ?_) (fun h => absurd (by show (nI (n) ≤ nI ((t + 1))); rw [nI_leI (by omega) (by omega)]; omega) h)
        refine vx_iload dX1_muster_114 rfl ?_
        exact vx_ret (ty := .int) dX1_muster_116 rfl rfl (Nat.le_refl 0) (Nat.le_refl 0) (vx_pst hP (by rw [show n - 1 = t by omega, hsm]) (by rw [show n - 1 = t by omega, hsm]))
      | succ r ih =>
        intro t gv gang ht hsm
        have hok := sp_mus_ok (ow := fun q => μ (30 + q) f) (g0 := sp_min (μ 10 f) most) hl hm hg0 (sp_vinit (f := μ 38) (k := f) hn) (sp_ask_init h1 h2 hn) t (by omega)
        rw [hsm] at hok
        obtain ⟨i1, i2, i3, i4, i5⟩ := hok
        dsimp only at i1 i2 i3 i4 i5
        have hz := (sp_next_pos (ow := fun q => μ (30 + q) f) (sp_ask_free (gv := gv) (n := n) (by omega))).1
        have hle := sp_next_le gv (fun q => μ (30 + q) f) n
        obtain ⟨g, hgd⟩ : ∃ g, g = sp_next gv (fun q => μ (30 + q) f) n := ⟨_, rfl⟩
        rw [← hgd] at hz hle
        refine vx_iload dX1_muster_52 rfl ?_
        refine vx_aload_n dX1_muster_54 rfl ?_
        refine vx_getI (ci := 3) (T := TX3) (n := 12) (j := 0) (a := 6) (v := (nI n)) dX1_muster_55 rfl lay_X3 (by decide) wd_134 (by decide) ly_6 rfl hc ?_
        refine vx_icmp_ge (tgt := 114) dX1_muster_58 (by decide) (fun h => absurd h (by show ¬ (nI (n) ≤ nI ((t + 1))); rw [nI_leI (by omega) (by omega)]; omega)) (fun _ => ?_)
        refine vx_aload_n dX1_muster_61 rfl ?_
        refine vx_aload_n dX1_muster_62 rfl ?_
        refine vx_getI (ci := 3) (T := TX3) (n := 12) (j := 0) (a := 6) (v := (nI n)) dX1_muster_63 rfl lay_X3 (by decide) wd_134 (by decide) ly_6 rfl hc ?_
        refine vx_iload_n dX1_muster_66 rfl ?_
        refine vx_callV (b := 28) (vs := [.inl (nI n), .inl (nI f)]) (st := []) (r0 := (some (.inl (nI g)))) (μ0 := (va_up μ 38 gv)) dX1_muster_67 (c_nextLender2 (d - 1) (by omega) ad (va_up μ 38 gv) n f hn (by omega) gv (fun q => μ (30 + q) f) rfl (fun q hq => by unfold va_up; rw [if_neg (by omega)]) g hgd hz) wd_562 wd_565 wd_50 hy_X1_nextLender wd_564 wd_8 (by decide) ly_28 rfl rfl (by omega) (Nat.le_of_ble_eq_true rfl) (Nat.le_of_ble_eq_true rfl) (Nat.le_refl 0) (Nat.le_refl 0) ?_
        refine vx_eq (μ2 := (va_up μ 38 gv)) (ls2 := [(5, .inl (nI (t + 1))), (4, .inl gang), (0, vx_r 28), (1, vx_r 6), (2, .inl (nI f)), (3, .inl most)]) (st2 := [.inl (nI g)]) rfl rfl rfl ?_
        refine vx_istore (ls2 := [(6, .inl (nI g)), (5, .inl (nI (t + 1))), (4, .inl gang), (0, vx_r 28), (1, vx_r 6), (2, .inl (nI f)), (3, .inl most)]) dX1_muster_70 (by decide) rfl ?_
        refine vx_aload_n dX1_muster_72 rfl ?_
        refine vx_getR (ci := 3) (T := TX3) (n := 12) (j := 5) (a := 6) (r := 11) dX1_muster_73 rfl lay_X3 (by decide) wd_146 (by decide) ly_6 rfl ?_
        refine vx_iload dX1_muster_76 rfl ?_
        refine vx_callX (vs := [vx_r 11, .inl (nI g)]) (st := []) (r0 := (some (.inl (μ 11 g)))) (μ0 := (va_up μ 38 gv)) dX1_muster_78 ((c_X8_at (d - 1) ad 82 vx_lay (va_up μ 38 gv) 11 8 (by decide) ly_11 (by decide) (nI g)).to (by first | rfl | (exact congrArg (fun z => some (Sum.inl z)) (sp_at_nI (k := g) _ (by omega) (by decide)))) rfl) nst_10 wd_109 wd_45 hy_X8_at wd_108 (by omega) (Nat.le_of_ble_eq_true rfl) (Nat.le_of_ble_eq_true rfl) (Nat.le_refl 0) (Nat.le_refl 0) ?_
        refine vx_eq (μ2 := (va_up μ 38 gv)) (ls2 := [(6, .inl (nI g)), (5, .inl (nI (t + 1))), (4, .inl gang), (0, vx_r 28), (1, vx_r 6), (2, .inl (nI f)), (3, .inl most)]) (st2 := [.inl (μ 11 g)]) rfl rfl rfl ?_
        refine vx_iload_n dX1_muster_81 rfl ?_
        refine vx_iload dX1_muster_82 rfl ?_
        refine vx_isub dX1_muster_84 ?_
        refine vx_mmin dX1_muster_85 wd_561 (by omega) (Nat.le_of_ble_eq_true rfl) (Nat.le_refl 0) (Nat.le_refl 0) ?_
        refine vx_istore (ls2 := [(7, .inl (if (most - gang) < (μ 11 g) then (most - gang) else (μ 11 g))), (6, .inl (nI g)), (5, .inl (nI (t + 1))), (4, .inl gang), (0, vx_r 28), (1, vx_r 6), (2, .inl (nI f)), (3, .inl most)]) dX1_muster_88 (by decide) rfl ?_
        refine vx_aload_n dX1_muster_90 rfl ?_
        refine vx_getR (ci := 1) (T := TX1) (n := 2) (j := 1) (a := 28) (r := 38) dX1_muster_91 rfl lay_X1 (by decide) wd_210 (by decide) ly_28 rfl ?_
        refine vx_iload dX1_muster_94 rfl ?_
        refine vx_iload dX1_muster_96 rfl ?_
        refine vx_callX (vs := [vx_r 38, .inl (nI g), .inl (if (most - gang) < (μ 11 g) then (most - gang) else (μ 11 g))]) (st := []) (r0 := none) (μ0 := (va_up μ 38 (upd gv g (if (most - gang) < (μ 11 g) then (most - gang) else (μ 11 g))))) dX1_muster_98 (((c_X8_put (d - 1) ad 82 vx_lay (va_up μ 38 gv) 38 8 (by decide) ly_38 (by decide) (nI g) (if (most - gang) < (μ 11 g) then (most - gang) else (μ 11 g))).to rfl (congrArg (fun z => va_up (va_up μ 38 gv) 38 z) (sp_put_nI (k := g) _ _ (by omega) (by decide)))).to rfl vx_m1) nst_9 wd_102 wd_45 hy_X8_put wd_101 (by omega) (Nat.le_of_ble_eq_true rfl) (Nat.le_of_ble_eq_true rfl) (Nat.le_refl 0) (Nat.le_refl 0) ?_
        refine vx_eq (μ2 := (va_up μ 38 (upd gv g (if (most - gang) < (μ 11 g) then (most - gang) else (μ 11 g))))) (ls2 := [(7, .inl (if (most - gang) < (μ 11 g) then (most - gang) else (μ 11 g))), (6, .inl (nI g)), (5, .inl (nI (t + 1))), (4, .inl gang), (0, vx_r 28), (1, vx_r 6), (2, .inl (nI f)), (3, .inl most)]) (st2 := []) rfl rfl rfl ?_
        refine vx_iload dX1_muster_101 rfl ?_
        refine vx_iload dX1_muster_103 rfl ?_
        refine vx_iadd dX1_muster_105 ?_
        refine vx_istore (ls2 := [(4, .inl (gang + (if (most - gang) < (μ 11 g) then (most - gang) else (μ 11 g)))), (7, .inl (if (most - gang) < (μ 11 g) then (most - gang) else (μ 11 g))), (6, .inl (nI g)), (5, .inl (nI (t + 1))), (0, vx_r 28), (1, vx_r 6), (2, .inl (nI f)), (3, .inl most)]) dX1_muster_106 (by decide) rfl ?_
        refine vx_iinc (v := (nI ((t + 1) + 1))) (ls2 := [(5, .inl (nI ((t + 1) + 1))), (4, .inl (gang + (if (most - gang) < (μ 11 g) then (most - gang) else (μ 11 g)))), (7, .inl (if (most - gang) < (μ 11 g) then (most - gang) else (μ 11 g))), (6, .inl (nI g)), (0, vx_r 28), (1, vx_r 6), (2, .inl (nI f)), (3, .inl most)]) dX1_muster_108 rfl (nI_1 _) (by decide) rfl ?_
        refine vx_goto (tgt := 52) dX1_muster_111 (by decide) ?_
        refine vx_keep (ls2 := [(5, .inl (nI ((t + 1) + 1))), (4, .inl (gang + (if (most - gang) < (μ 11 g) then (most - gang) else (μ 11 g)))), (0, vx_r 28), (1, vx_r 6), (2, .inl (nI f)), (3, .inl most)]) ⟨rfl, rfl, rfl, rfl, rfl, rfl, trivial⟩ ?_
        exact ih (t + 1) _ _ (by omega) (by
          show (upd (sp_mus (μ 11) (fun q => μ (30 + q) f) most n (upd (sp_fm (μ 38) 8) f 0) (sp_min (μ 10 f) most) t).1 (sp_next (sp_mus (μ 11) (fun q => μ (30 + q) f) most n (upd (sp_fm (μ 38) 8) f 0) (sp_min (μ 10 f) most) t).1 (fun q => μ (30 + q) f) n) (sp_min (μ 11 (sp_next (sp_mus (μ 11) (fun q => μ (30 + q) f) most n (upd (sp_fm (μ 38) 8) f 0) (sp_min (μ 10 f) most) t).1 (fun q => μ (30 + q) f) n)) (most - (sp_mus (μ 11) (fun q => μ (30 + q) f) most n (upd (sp_fm (μ 38) 8) f 0) (sp_min (μ 10 f) most) t).2)), (sp_mus (μ 11) (fun q => μ (30 + q) f) most n (upd (sp_fm (μ 38) 8) f 0) (sp_min (μ 10 f) most) t).2 + sp_min (μ 11 (sp_next (sp_mus (μ 11) (fun q => μ (30 + q) f) most n (upd (sp_fm (μ 38) 8) f 0) (sp_min (μ 10 f) most) t).1 (fun q => μ (30 + q) f) n)) (most - (sp_mus (μ 11) (fun q => μ (30 + q) f) most n (upd (sp_fm (μ 38) 8) f 0) (sp_min (μ 10 f) most) t).2)) = _
          rw [hsm]
          show (upd gv (sp_next gv (fun q => μ (30 + q) f) n) (sp_min (μ 11 (sp_next gv (fun q => μ (30 + q) f) n)) (most - gang)), gang + sp_min (μ 11 (sp_next gv (fun q => μ (30 + q) f) n)) (most - gang)) = _
          rw [← hgd]; rfl)
    have loop1 : ∀ (r i : Nat), i + r = 8 → vx_J RX1 cX1_muster 8 (some (.int)) ini d 0 0 Post ad 0 0 82 vx_lay (va_up μ 38 (sp_fm (μ 38) i)) 3 [(4, .inl (nI i)), (0, vx_r 28), (1, vx_r 6), (2, .inl (nI f)), (3, .inl most)] [] := by
      intro r
      induction r with
      | zero =>
        intro i hi
        refine vx_iload dX1_muster_3 rfl ?_
        refine vx_bipush (v := 8) dX1_muster_5 (by decide) ?_
        refine vx_icmp_ge (tgt := 26) dX1_muster_7 (by decide) (fun _ => ?_) (fun h => absurd (by show (nI (8) ≤ nI (i)); rw [nI_leI (by omega) (by omega)]; omega) h)
        refine vx_aload_n dX1_muster_26 rfl ?_
        refine vx_getR (ci := 1) (T := TX1) (n := 2) (j := 1) (a := 28) (r := 38) dX1_muster_27 rfl lay_X1 (by decide) wd_210 (by decide) ly_28 rfl ?_
        refine vx_iload_n dX1_muster_30 rfl ?_
        refine vx_iconst (v := 0) dX1_muster_31 (by decide) ?_
        refine vx_callX (vs := [vx_r 38, .inl (nI f), .inl 0]) (st := []) (r0 := none) (μ0 := (va_up μ 38 (upd (sp_fm (μ 38) i) f 0))) dX1_muster_32 (((c_X8_put (d - 1) ad 82 vx_lay (va_up μ 38 (sp_fm (μ 38) i)) 38 8 (by decide) ly_38 (by decide) (nI f) 0).to rfl (congrArg (fun z => va_up (va_up μ 38 (sp_fm (μ 38) i)) 38 z) (sp_put_nI (k := f) _ _ (by omega) (by decide)))).to rfl vx_m1) nst_9 wd_102 wd_45 hy_X8_put wd_101 (by omega) (Nat.le_of_ble_eq_true rfl) (Nat.le_of_ble_eq_true rfl) (Nat.le_refl 0) (Nat.le_refl 0) ?_
        refine vx_eq (μ2 := (va_up μ 38 (upd (sp_fm (μ 38) i) f 0))) (ls2 := [(4, .inl (nI i)), (0, vx_r 28), (1, vx_r 6), (2, .inl (nI f)), (3, .inl most)]) (st2 := []) rfl rfl rfl ?_
        refine vx_aload_n dX1_muster_35 rfl ?_
        refine vx_getR (ci := 3) (T := TX3) (n := 12) (j := 4) (a := 6) (r := 10) dX1_muster_36 rfl lay_X3 (by decide) wd_143 (by decide) ly_6 rfl ?_
        refine vx_iload_n dX1_muster_39 rfl ?_
        refine vx_callX (vs := [vx_r 10, .inl (nI f)]) (st := []) (r0 := (some (.inl (μ 10 f)))) (μ0 := (va_up μ 38 (upd (sp_fm (μ 38) i) f 0))) dX1_muster_40 ((c_X8_at (d - 1) ad 82 vx_lay (va_up μ 38 (upd (sp_fm (μ 38) i) f 0)) 10 8 (by decide) ly_10 (by decide) (nI f)).to (by first | rfl | (exact congrArg (fun z => some (Sum.inl z)) (sp_at_nI (k := f) _ (by omega) (by decide)))) rfl) nst_10 wd_109 wd_45 hy_X8_at wd_108 (by omega) (Nat.le_of_ble_eq_true rfl) (Nat.le_of_ble_eq_true rfl) (Nat.le_refl 0) (Nat.le_refl 0) ?_
        refine vx_eq (μ2 := (va_up μ 38 (upd (sp_fm (μ 38) i) f 0))) (ls2 := [(4, .inl (nI i)), (0, vx_r 28), (1, vx_r 6), (2, .inl (nI f)), (3, .inl most)]) (st2 := [.inl (μ 10 f)]) rfl rfl rfl ?_
        refine vx_iload_n dX1_muster_43 rfl ?_
        refine vx_mmin dX1_muster_44 wd_561 (by omega) (Nat.le_of_ble_eq_true rfl) (Nat.le_refl 0) (Nat.le_refl 0) ?_
        refine vx_istore (ls2 := [(4, .inl (if most < (μ 10 f) then most else (μ 10 f))), (0, vx_r 28), (1, vx_r 6), (2, .inl (nI f)), (3, .inl most)]) dX1_muster_47 (by decide) rfl ?_
        refine vx_iconst (v := 1) dX1_muster_49 (by decide) ?_
        refine vx_istore (ls2 := [(5, .inl 1), (4, .inl (if most < (μ 10 f) then most else (μ 10 f))), (0, vx_r 28), (1, vx_r 6), (2, .inl (nI f)), (3, .inl most)]) dX1_muster_50 (by decide) rfl ?_
        refine vx_keep (ls2 := [(5, .inl 1), (4, .inl (if most < (μ 10 f) then most else (μ 10 f))), (0, vx_r 28), (1, vx_r 6), (2, .inl (nI f)), (3, .inl most)]) ⟨rfl, rfl, rfl, rfl, rfl, rfl, trivial⟩ ?_
        refine vx_eq (μ2 := (va_up μ 38 (sp_mus (μ 11) (fun q => μ (30 + q) f) most n (upd (sp_fm (μ 38) 8) f 0) (sp_min (μ 10 f) most) 0).1)) (ls2 := [(5, .inl (nI (0 + 1))), (4, .inl (sp_mus (μ 11) (fun q => μ (30 + q) f) most n (upd (sp_fm (μ 38) 8) f 0) (sp_min (μ 10 f) most) 0).2), (0, vx_r 28), (1, vx_r 6), (2, .inl (nI f)), (3, .inl most)]) (by rw [show i = 8 by omega]; rfl) rfl rfl ?_
        exact loop2 (n - 1) 0 _ _ (by omega) rfl
      | succ r ih =>
        intro i hi
        refine vx_iload dX1_muster_3 rfl ?_
        refine vx_bipush (v := 8) dX1_muster_5 (by decide) ?_
        refine vx_icmp_ge (tgt := 26) dX1_muster_7 (by decide) (fun h => absurd h (by show ¬ (nI (8) ≤ nI (i)); rw [nI_leI (by omega) (by omega)]; omega)) (fun _ => ?_)
        refine vx_aload_n dX1_muster_10 rfl ?_
        refine vx_getR (ci := 1) (T := TX1) (n := 2) (j := 1) (a := 28) (r := 38) dX1_muster_11 rfl lay_X1 (by decide) wd_210 (by decide) ly_28 rfl ?_
        refine vx_iload dX1_muster_14 rfl ?_
        refine vx_iconst (v := (-1)) dX1_muster_16 (by decide) ?_
        refine vx_callX (vs := [vx_r 38, .inl (nI i), .inl (-1)]) (st := []) (r0 := none) (μ0 := (va_up μ 38 (upd (sp_fm (μ 38) i) i (-1)))) dX1_muster_17 (((c_X8_put (d - 1) ad 82 vx_lay (va_up μ 38 (sp_fm (μ 38) i)) 38 8 (by decide) ly_38 (by decide) (nI i) (-1)).to rfl (congrArg (fun z => va_up (va_up μ 38 (sp_fm (μ 38) i)) 38 z) (sp_put_nI (k := i) _ _ (by omega) (by decide)))).to rfl vx_m1) nst_9 wd_102 wd_45 hy_X8_put wd_101 (by omega) (Nat.le_of_ble_eq_true rfl) (Nat.le_of_ble_eq_true rfl) (Nat.le_refl 0) (Nat.le_refl 0) ?_
        refine vx_eq (μ2 := (va_up μ 38 (upd (sp_fm (μ 38) i) i (-1)))) (ls2 := [(4, .inl (nI i)), (0, vx_r 28), (1, vx_r 6), (2, .inl (nI f)), (3, .inl most)]) (st2 := []) rfl rfl rfl ?_
        refine vx_iinc (v := (nI (i + 1))) (ls2 := [(4, .inl (nI (i + 1))), (0, vx_r 28), (1, vx_r 6), (2, .inl (nI f)), (3, .inl most)]) dX1_muster_20 rfl (nI_1 _) (by decide) rfl ?_
        refine vx_goto (tgt := 3) dX1_muster_23 (by decide) ?_
        refine vx_keep (ls2 := [(4, .inl (nI (i + 1))), (0, vx_r 28), (1, vx_r 6), (2, .inl (nI f)), (3, .inl most)]) ⟨rfl, rfl, rfl, rfl, rfl, trivial⟩ ?_
        refine vx_eq (μ2 := (va_up μ 38 (sp_fm (μ 38) (i + 1)))) (by rw [sp_fms]) rfl rfl ?_
        exact ih (i + 1) (by omega)
    refine vx_iconst (v := 0) dX1_muster_0 (by decide) ?_
    refine vx_istore (ls2 := [(4, .inl 0), (0, vx_r 28), (1, vx_r 6), (2, .inl (nI f)), (3, .inl most)]) dX1_muster_1 (by decide) rfl ?_
    refine vx_eq (μ2 := (va_up μ 38 (sp_fm (μ 38) 0))) (ls2 := [(4, .inl (nI 0)), (0, vx_r 28), (1, vx_r 6), (2, .inl (nI f)), (3, .inl most)]) (by rw [sp_fm0, vx_up_id]) rfl rfl ?_
    exact loop1 8 0 rfl
  exact vx_J.M pn_X1_muster (Nat.le_of_ble_eq_true rfl) (key _ _ ⟨rfl, rfl, rfl, rfl, rfl⟩)
end
