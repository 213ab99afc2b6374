section
def mo_so (μ : vx_mem) (sa fo : Nat) : Int32 := if fo = sa then 1 else if μ 71 (8 * sa + fo) = 0 then 0 else 1
def mo_so54 (μ : vx_mem) (sa fo : Nat) : Nat → Int32 := if μ 71 (8 * sa + fo) - 1 = 0 then upd (upd (upd (μ 54) 36 (μ 71 (8 * sa + fo) - 1)) 37 (nI fo)) 35 (nI fo) else upd (upd (μ 54) 36 (μ 71 (8 * sa + fo) - 1)) 37 (nI fo)
def mo_soM (μ : vx_mem) (sa fo : Nat) : vx_mem := if fo = sa then μ else if μ 71 (8 * sa + fo) = 0 then μ else va_up μ 54 (mo_so54 μ sa fo)
set_option maxRecDepth 20000 in
set_option maxHeartbeats 2000000 in
theorem c_X9_setsOut (d : Nat) (ad : Nat → Nat) (μ : vx_mem) (tu fo sa : Nat) (htu : μ 54 48 = nI tu) (ht7 : tu < 7) (hfo : μ 74 tu = nI fo) (hf8 : fo < 8) (hsa : μ 54 35 = nI sa) (hs8 : sa < 8) : vx_Mf yX9_setsOut cX9_setsOut 3 (some (.boolean)) d ad 82 vx_lay μ [vx_r 54] (some (.inl (mo_so μ sa fo))) (mo_soM μ sa fo) := by
  have key : ∀ (Post : vx_P) (ini : Bool), Post (some (.inl (mo_so μ sa fo))) ad 82 vx_lay (mo_soM μ sa fo) → vx_J RX9 cX9_setsOut 3 (some (.boolean)) ini d 0 0 Post ad 0 0 82 vx_lay μ 0 [(0, vx_r 54)] [] := by
    intro Post ini hP
    refine vx_aload_n dX9_setsOut_0 rfl ?_
    refine vx_getR (ci := 9) (T := TX9) (n := 56) (j := 39) (a := 54) (r := 74) dX9_setsOut_1 rfl lay_X9 (by decide) wd_775 (by decide) ly_54 rfl ?_
    refine vx_aload_n dX9_setsOut_4 rfl ?_
    refine vx_getI (ci := 9) (T := TX9) (n := 56) (j := 48) (a := 54) (v := (nI tu)) dX9_setsOut_5 rfl lay_X9 (by decide) wd_784 (by decide) ly_54 rfl htu ?_
    refine vx_iald (a := 74) (n := 7) (v := (nI fo)) dX9_setsOut_8 (by decide) ly_74 (vp_in_nI (by omega) (by omega)) (by rw [nI_clamp (by omega)]; exact hfo) ?_
    refine vx_istore_n (ls2 := [(1, .inl (nI fo)), (0, vx_r 54)]) dX9_setsOut_9 (by decide) rfl ?_
    refine vx_iload_n dX9_setsOut_10 rfl ?_
    refine vx_aload_n dX9_setsOut_11 rfl ?_
    refine vx_getI (ci := 9) (T := TX9) (n := 56) (j := 35) (a := 54) (v := (nI sa)) dX9_setsOut_12 rfl lay_X9 (by decide) wd_771 (by decide) ly_54 rfl hsa ?_
    refine vx_icmp_ne (tgt := 20) dX9_setsOut_15 (by decide) (fun c_15 => ?_) (fun c_15 => ?_)
    · have e15 : ¬ fo = sa := by rw [nI_eq (by omega) (by omega)] at c_15; exact c_15
      refine vx_aload_n dX9_setsOut_20 rfl ?_
      refine vx_getR (ci := 9) (T := TX9) (n := 56) (j := 30) (a := 54) (r := 71) dX9_setsOut_21 rfl lay_X9 (by decide) wd_766 (by decide) ly_54 rfl ?_
      refine vx_bipush (v := 8) dX9_setsOut_24 (by decide) ?_
      refine vx_aload_n dX9_setsOut_26 rfl ?_
      refine vx_getI (ci := 9) (T := TX9) (n := 56) (j := 35) (a := 54) (v := (nI sa)) dX9_setsOut_27 rfl lay_X9 (by decide) wd_771 (by decide) ly_54 rfl hsa ?_
      refine vx_imul dX9_setsOut_30 ?_
      refine vx_eq (st2 := [.inl (nI (8 * sa)), vx_r 71]) rfl rfl (by rw [show (8 : Int32) = nI 8 from rfl, pk_mul]) ?_
      refine vx_iload_n dX9_setsOut_31 rfl ?_
      refine vx_iadd dX9_setsOut_32 ?_
      refine vx_eq (st2 := [.inl (nI ((8 * sa) + fo)), vx_r 71]) rfl rfl (by rw [nI_add]) ?_
      refine vx_iald (a := 71) (n := 64) (v := (μ 71 ((8 * sa) + fo))) dX9_setsOut_33 (by decide) ly_71 (vp_in_nI (by omega) (by omega)) (by rw [nI_clamp (by omega)] <;> rfl) ?_
      refine vx_istore_n (ls2 := [(2, .inl (μ 71 ((8 * sa) + fo))), (1, .inl (nI fo)), (0, vx_r 54)]) dX9_setsOut_34 (by decide) rfl ?_
      refine vx_iload_n dX9_setsOut_35 rfl ?_
      refine vx_if_ne (tgt := 41) dX9_setsOut_36 (by decide) (fun c_36 => ?_) (fun c_36 => ?_)
      · refine vx_aload_n dX9_setsOut_41 rfl ?_
        refine vx_iload_n dX9_setsOut_42 rfl ?_
        refine vx_iconst (v := 1) dX9_setsOut_43 (by decide) ?_
        refine vx_isub dX9_setsOut_44 ?_
        refine vx_putI (ci := 9) (T := TX9) (n := 56) (j := 36) (a := 54) (ty := .int) (μ2 := (va_up μ 54 (upd (μ 54) 36 ((μ 71 ((8 * sa) + fo)) - 1)))) dX9_setsOut_45 rfl lay_X9 tyX9_ok nmX9 (by decide) wd_772 rfl rfl rfl rfl (by decide) ly_54 rfl rfl ?_
        refine vx_aload_n dX9_setsOut_48 rfl ?_
        refine vx_iload_n dX9_setsOut_49 rfl ?_
        refine vx_putI (ci := 9) (T := TX9) (n := 56) (j := 37) (a := 54) (ty := .int) (μ2 := (va_up μ 54 (upd (upd (μ 54) 36 ((μ 71 ((8 * sa) + fo)) - 1)) 37 (nI fo)))) dX9_setsOut_50 rfl lay_X9 tyX9_ok nmX9 (by decide) wd_773 rfl rfl rfl rfl (by decide) ly_54 rfl vx_m1 ?_
        refine vx_aload_n dX9_setsOut_53 rfl ?_
        refine vx_getI (ci := 9) (T := TX9) (n := 56) (j := 36) (a := 54) (v := ((μ 71 ((8 * sa) + fo)) - 1)) dX9_setsOut_54 rfl lay_X9 (by decide) wd_772 (by decide) ly_54 rfl rfl ?_
        refine vx_if_ne (tgt := 65) dX9_setsOut_57 (by decide) (fun c_57 => ?_) (fun c_57 => ?_)
        · refine vx_iconst (v := 1) dX9_setsOut_65 (by decide) ?_
          exact vx_ret (ty := .boolean) dX9_setsOut_66 rfl rfl (Nat.le_refl 0) (Nat.le_refl 0) (vx_pst hP (by unfold mo_so; rw [if_neg e15, if_neg c_36]) (by unfold mo_soM mo_so54; rw [if_neg e15, if_neg c_36, if_neg c_57]))
        · refine vx_aload_n dX9_setsOut_60 rfl ?_
          refine vx_iload_n dX9_setsOut_61 rfl ?_
          refine vx_putI (ci := 9) (T := TX9) (n := 56) (j := 35) (a := 54) (ty := .int) (μ2 := (va_up μ 54 (upd (upd (upd (μ 54) 36 ((μ 71 ((8 * sa) + fo)) - 1)) 37 (nI fo)) 35 (nI fo)))) dX9_setsOut_62 rfl lay_X9 tyX9_ok nmX9 (by decide) wd_771 rfl rfl rfl rfl (by decide) ly_54 rfl vx_m1 ?_
          refine vx_iconst (v := 1) dX9_setsOut_65 (by decide) ?_
          exact vx_ret (ty := .boolean) dX9_setsOut_66 rfl rfl (Nat.le_refl 0) (Nat.le_refl 0) (vx_pst hP (by unfold mo_so; rw [if_neg e15, if_neg c_36]) (by unfold mo_soM mo_so54; rw [if_neg e15, if_neg c_36, if_pos c_57]))
      · refine vx_iconst (v := 0) dX9_setsOut_39 (by decide) ?_
        exact vx_ret (ty := .boolean) dX9_setsOut_40 rfl rfl (Nat.le_refl 0) (Nat.le_refl 0) (vx_pst hP (by unfold mo_so; rw [if_neg e15, if_pos c_36]) (by unfold mo_soM; rw [if_neg e15, if_pos c_36]))
    · have e15 : fo = sa := by rw [nI_eq (by omega) (by omega)] at c_15; exact c_15
      refine vx_iconst (v := 1) dX9_setsOut_18 (by decide) ?_
      exact vx_ret (ty := .boolean) dX9_setsOut_19 rfl rfl (Nat.le_refl 0) (Nat.le_refl 0) (vx_pst hP (by unfold mo_so; rw [if_pos e15]) (by unfold mo_soM; rw [if_pos e15]))
  exact vx_J.M pn_X9_setsOut (Nat.le_of_ble_eq_true rfl) (key _ _ ⟨rfl, rfl, rfl, rfl, rfl⟩)
abbrev mo_ook (μ : vx_mem) (sa fo : Nat) : Prop := ¬ μ 54 46 = 0 ∧ μ 54 47 = 0 ∧ μ 54 45 = μ 54 34 ∧ ¬ mo_so μ sa fo = 0
theorem mo_so_no {μ : vx_mem} {sa fo : Nat} (h : mo_so μ sa fo = 0) : mo_soM μ sa fo = μ := by
  unfold mo_so at h
  unfold mo_soM
  split at h
  · exact absurd h (by decide)
  · rename_i h1
    rw [if_neg h1]
    split at h
    · rename_i h2
      rw [if_pos h2]
    · exact absurd h (by decide)
set_option maxRecDepth 20000 in
set_option maxHeartbeats 2000000 in
theorem c_X9_out (d : Nat) (hd : 1 ≤ d) (ad : Nat → Nat) (μ : vx_mem) (ht : μ 54 0 = 0) (tu fo sa : Nat) (hh : ¬ μ 54 46 = 0 → μ 54 48 = nI tu ∧ μ 74 tu = nI fo) (ht7 : tu < 7) (hf8 : fo < 8) (hsa : μ 54 35 = nI sa) (hs8 : sa < 8) : vx_Mf yX9_out cX9_out 1 (some (.boolean)) d ad 82 vx_lay μ [vx_r 54] (some (.inl (if mo_ook μ sa fo then 1 else 0))) (if mo_ook μ sa fo then va_up (mo_soM μ sa fo) 54 (upd (mo_soM μ sa fo 54) 47 1) else μ) := by
  have key : ∀ (Post : vx_P) (ini : Bool), Post (some (.inl (if mo_ook μ sa fo then 1 else 0))) ad 82 vx_lay (if mo_ook μ sa fo then va_up (mo_soM μ sa fo) 54 (upd (mo_soM μ sa fo 54) 47 1) else μ) → vx_J RX9 cX9_out 1 (some (.boolean)) ini d 0 0 Post ad 0 0 82 vx_lay μ 0 [(0, vx_r 54)] [] := by
    intro Post ini hP
    refine vx_aload_n dX9_out_0 rfl ?_
    refine vx_iconst (v := 0) dX9_out_1 (by decide) ?_
    refine vx_putI (ci := 9) (T := TX9) (n := 56) (j := 0) (a := 54) (ty := .int) (μ2 := (va_up μ 54 (upd (μ 54) 0 0))) dX9_out_2 rfl lay_X9 tyX9_ok nmX9 (by decide) wd_736 rfl rfl rfl rfl (by decide) ly_54 rfl rfl ?_
    refine vx_eq (μ2 := μ) (by rw [sp_ups ht, vx_up_id]) rfl rfl ?_
    refine vx_aload_n dX9_out_5 rfl ?_
    refine vx_getI (ci := 9) (T := TX9) (n := 56) (j := 46) (a := 54) (v := (μ 54 46)) dX9_out_6 rfl lay_X9 (by decide) wd_782 (by decide) ly_54 rfl rfl ?_
    refine vx_if_eq (tgt := 37) dX9_out_9 (by decide) (fun c_9 => ?_) (fun c_9 => ?_)
    · refine vx_iconst (v := 0) dX9_out_37 (by decide) ?_
      exact vx_ret (ty := .boolean) dX9_out_38 rfl rfl (Nat.le_refl 0) (Nat.le_refl 0) (vx_pst hP (by rw [if_neg (show ¬ mo_ook μ sa fo from fun h => h.1 c_9)]) (by rw [if_neg (show ¬ mo_ook μ sa fo from fun h => h.1 c_9)]))
    · refine vx_aload_n dX9_out_12 rfl ?_
      refine vx_getI (ci := 9) (T := TX9) (n := 56) (j := 47) (a := 54) (v := (μ 54 47)) dX9_out_13 rfl lay_X9 (by decide) wd_783 (by decide) ly_54 rfl rfl ?_
      refine vx_if_ne (tgt := 37) dX9_out_16 (by decide) (fun c_16 => ?_) (fun c_16 => ?_)
      · refine vx_iconst (v := 0) dX9_out_37 (by decide) ?_
        exact vx_ret (ty := .boolean) dX9_out_38 rfl rfl (Nat.le_refl 0) (Nat.le_refl 0) (vx_pst hP (by rw [if_neg (show ¬ mo_ook μ sa fo from fun h => c_16 h.2.1)]) (by rw [if_neg (show ¬ mo_ook μ sa fo from fun h => c_16 h.2.1)]))
      · refine vx_aload_n dX9_out_19 rfl ?_
        refine vx_getI (ci := 9) (T := TX9) (n := 56) (j := 45) (a := 54) (v := (μ 54 45)) dX9_out_20 rfl lay_X9 (by decide) wd_781 (by decide) ly_54 rfl rfl ?_
        refine vx_aload_n dX9_out_23 rfl ?_
        refine vx_getI (ci := 9) (T := TX9) (n := 56) (j := 34) (a := 54) (v := (μ 54 34)) dX9_out_24 rfl lay_X9 (by decide) wd_770 (by decide) ly_54 rfl rfl ?_
        refine vx_icmp_ne (tgt := 37) dX9_out_27 (by decide) (fun c_27 => ?_) (fun c_27 => ?_)
        · refine vx_iconst (v := 0) dX9_out_37 (by decide) ?_
          exact vx_ret (ty := .boolean) dX9_out_38 rfl rfl (Nat.le_refl 0) (Nat.le_refl 0) (vx_pst hP (by rw [if_neg (show ¬ mo_ook μ sa fo from fun h => c_27 h.2.2.1)]) (by rw [if_neg (show ¬ mo_ook μ sa fo from fun h => c_27 h.2.2.1)]))
        · refine vx_aload_n dX9_out_30 rfl ?_
          refine vx_callV (b := 54) (vs := []) (st := []) (r0 := (some (.inl (mo_so μ sa fo)))) (μ0 := (mo_soM μ sa fo)) dX9_out_31 (c_X9_setsOut (d - 1) ad μ tu fo sa (hh c_9).1 ht7 (hh c_9).2 hf8 hsa hs8) wd_1015 wd_1018 wd_54 hy_X9_setsOut wd_1017 wd_39 (by decide) ly_54 rfl rfl (by omega) (Nat.le_of_ble_eq_true rfl) (Nat.le_of_ble_eq_true rfl) (Nat.le_refl 0) (Nat.le_refl 0) ?_
          refine vx_eq (μ2 := (mo_soM μ sa fo)) (ls2 := [(0, vx_r 54)]) (st2 := [.inl (mo_so μ sa fo)]) rfl rfl rfl ?_
          refine vx_if_ne (tgt := 39) dX9_out_34 (by decide) (fun c_34 => ?_) (fun c_34 => ?_)
          · refine vx_aload_n dX9_out_39 rfl ?_
            refine vx_iconst (v := 1) dX9_out_40 (by decide) ?_
            refine vx_putI (ci := 9) (T := TX9) (n := 56) (j := 47) (a := 54) (ty := .boolean) (μ2 := (va_up (mo_soM μ sa fo) 54 (upd ((mo_soM μ sa fo) 54) 47 1))) dX9_out_41 rfl lay_X9 tyX9_ok nmX9 (by decide) wd_783 rfl rfl rfl rfl (by decide) ly_54 rfl rfl ?_
            refine vx_iconst (v := 1) dX9_out_44 (by decide) ?_
            exact vx_ret (ty := .boolean) dX9_out_45 rfl rfl (Nat.le_refl 0) (Nat.le_refl 0) (vx_pst hP (by rw [if_pos (show mo_ook μ sa fo from ⟨c_9, c_16, c_27, c_34⟩)]) (by rw [if_pos (show mo_ook μ sa fo from ⟨c_9, c_16, c_27, c_34⟩)]))
          · refine vx_iconst (v := 0) dX9_out_37 (by decide) ?_
            exact vx_ret (ty := .boolean) dX9_out_38 rfl rfl (Nat.le_refl 0) (Nat.le_refl 0) (vx_pst hP (by rw [if_neg (show ¬ mo_ook μ sa fo from fun h => h.2.2.2 c_34)]) (by rw [if_neg (show ¬ mo_ook μ sa fo from fun h => h.2.2.2 c_34)]; exact mo_so_no c_34))
  exact vx_J.M pn_X9_out (Nat.le_of_ble_eq_true rfl) (key _ _ ⟨rfl, rfl, rfl, rfl, rfl⟩)
/-- what is owed, as the model holds it -/
def mo_ol (O gi : Nat → Int32) (f : Nat) : Nat → Nat → Int32
  | 0 => O
  | t + 1 => upd (upd (mo_ol O gi f t) (8 * f + (t + 1)) (mo_ol O gi f t (8 * f + (t + 1)) + gi (t + 1))) (8 * (t + 1) + f) (upd (mo_ol O gi f t) (8 * f + (t + 1)) (mo_ol O gi f t (8 * f + (t + 1)) + gi (t + 1)) (8 * (t + 1) + f) - gi (t + 1))
theorem mo_ol_s {O gi : Nat → Int32} {f g : Nat} (h : 1 ≤ g) : mo_ol O gi f (g + 1 - 1) = upd (upd (mo_ol O gi f (g - 1)) (8 * f + g) (mo_ol O gi f (g - 1) (8 * f + g) + gi g)) (8 * g + f) (upd (mo_ol O gi f (g - 1)) (8 * f + g) (mo_ol O gi f (g - 1) (8 * f + g) + gi g) (8 * g + f) - gi g) := by
  obtain ⟨j, rfl⟩ : ∃ j, g = j + 1 := ⟨g - 1, by omega⟩
  rfl
def mo_sh (μ : vx_mem) (n f : Nat) : Int32 := sp_min (μ 61 f) (mo_speed μ n f)
def mo_gi (μ : vx_mem) (n f : Nat) : Nat → Int32 := mo_gg (mo_G μ n f).1 (μ 73)
def mo_th1 (μ : vx_mem) (n f : Nat) : vx_mem := (va_up (va_up (va_up (va_up (va_up μ 54 (upd (μ 54) 33 (mo_G μ n f).2)) 61 (upd (μ 61) f ((μ 61 f) - (mo_sh μ n f)))) 67 (upd (μ 67) f ((μ 67 f) + 1))) 72 (mo_ol (μ 72) (mo_gi μ n f) f n)) 73 (mo_gi μ n f))
def mo_th2 (μ : vx_mem) (n f tu : Nat) : vx_mem := va_up (va_up (mo_th1 μ n f) 54 (upd (mo_th1 μ n f 54) 48 (nI (tu + 1)))) 68 (upd (μ 68) f (μ 54 34))
def mo_thr (μ : vx_mem) (n f tu L fo : Nat) : vx_mem := if ¬ μ 61 f - mo_sh μ n f ≤ 0 then mo_th1 μ n f else if ¬ tu + 1 < L then mo_th2 μ n f tu else if mo_so (mo_th2 μ n f tu) f fo = 0 then va_up (mo_th2 μ n f tu) 54 (upd (mo_th2 μ n f tu 54) 48 (nI L)) else mo_soM (mo_th2 μ n f tu) f fo
theorem mo_th1_61 (μ : vx_mem) (n f : Nat) : mo_th1 μ n f 61 f = μ 61 f - mo_sh μ n f := by
  show upd (μ 61) f _ f = _
  simp [upd]
set_option maxRecDepth 20000 in
set_option maxHeartbeats 2000000 in
theorem c_X9_threshes (d : Nat) (hd : 3 ≤ d) (ad : Nat → Nat) (μ : vx_mem) (n : Nat) (hk : mo_ck μ n) (f : Nat) (h1 : 1 ≤ f) (h2 : f ≤ n) (tu L fo : Nat) (htu : μ 54 48 = nI tu) (hL : μ 54 44 = nI L) (htL : tu < L) (hL7 : L ≤ 7) (hx : tu + 1 < L → μ 74 (tu + 1) = nI fo) (hf8 : fo < 8) (hsa : μ 54 35 = nI f) : vx_Mf yX9_threshes cX9_threshes 4 none d ad 82 vx_lay μ [vx_r 54, .inl (nI f)] none (mo_thr μ n f tu L fo) := by
  have key : ∀ (Post : vx_P) (ini : Bool), Post none ad 82 vx_lay (mo_thr μ n f tu L fo) → vx_J RX9 cX9_threshes 4 none ini d 0 0 Post ad 0 0 82 vx_lay μ 0 [(0, vx_r 54), (1, .inl (nI f))] [] := by
    intro Post ini hP
    have hc := hk.1
    have hn := hk.2.1
    have loop : ∀ (r g : Nat), g + r = n + 1 → 1 ≤ g → vx_J RX9 cX9_threshes 4 none ini d 0 0 Post ad 0 0 82 vx_lay (va_up (va_up (va_up (va_up (va_up μ 54 (upd (μ 54) 33 (mo_G μ n f).2)) 61 (upd (μ 61) f ((μ 61 f) - (mo_sh μ n f)))) 67 (upd (μ 67) f ((μ 67 f) + 1))) 72 (mo_ol (μ 72) (mo_gi μ n f) f (g - 1))) 73 (mo_gi μ n f)) 37 [(3, .inl (nI g)), (2, .inl (mo_sh μ n f)), (0, vx_r 54), (1, .inl (nI f))] [] := by
      intro r
      induction r with
      | zero =>
        intro g hg hg1
        refine vx_iload_n dX9_threshes_37 rfl ?_
        refine vx_aload_n dX9_threshes_38 rfl ?_
        refine vx_getI (ci := 9) (T := TX9) (n := 56) (j := 18) (a := 54) (v := (nI n)) dX9_threshes_39 rfl lay_X9 (by decide) wd_754 (by decide) ly_54 rfl hc ?_
        refine vx_icmp_gt (tgt := 91) dX9_threshes_42 (by decide) (fun _ => ?_) (fun h => absurd (by show (nI (n) < nI (g)); rw [nI_ltI (by omega) (by omega)]; omega) h)
        refine vx_eq (μ2 := (mo_th1 μ n f)) (by rw [show g - 1 = n by omega]; rfl) rfl rfl ?_
        refine vx_aload_n dX9_threshes_91 rfl ?_
        refine vx_getR (ci := 9) (T := TX9) (n := 56) (j := 20) (a := 54) (r := 61) dX9_threshes_92 rfl lay_X9 (by decide) wd_756 (by decide) ly_54 rfl ?_
        refine vx_iload_n dX9_threshes_95 rfl ?_
        refine vx_iald (a := 61) (n := 8) (v := ((μ 61 f) - (mo_sh μ n f))) dX9_threshes_96 (by decide) ly_61 (vp_in_nI (by omega) (by omega)) (by rw [nI_clamp (by omega)]; exact (mo_th1_61 μ n f)) ?_
        refine vx_if_le (tgt := 101) dX9_threshes_97 (by decide) (fun c_97 => ?_) (fun c_97 => ?_)
        · have e97 : μ 61 f - mo_sh μ n f ≤ 0 := c_97
          refine vx_aload_n dX9_threshes_101 rfl ?_
          refine vx_getR (ci := 9) (T := TX9) (n := 56) (j := 27) (a := 54) (r := 68) dX9_threshes_102 rfl lay_X9 (by decide) wd_763 (by decide) ly_54 rfl ?_
          refine vx_iload_n dX9_threshes_105 rfl ?_
          refine vx_aload_n dX9_threshes_106 rfl ?_
          refine vx_getI (ci := 9) (T := TX9) (n := 56) (j := 34) (a := 54) (v := (μ 54 34)) dX9_threshes_107 rfl lay_X9 (by decide) wd_770 (by decide) ly_54 rfl rfl ?_
          refine vx_iast (a := 68) (n := 8) (μ2 := (va_up (mo_th1 μ n f) 68 (upd (μ 68) f (μ 54 34)))) dX9_threshes_110 (by decide) ly_68 (vp_in_nI (by omega) (by omega)) (by rw [nI_clamp (by omega)]; try exact rfl) ?_
          refine vx_aload_n dX9_threshes_111 rfl ?_
          refine vx_dup dX9_threshes_112 ?_
          refine vx_getI (ci := 9) (T := TX9) (n := 56) (j := 48) (a := 54) (v := (nI tu)) dX9_threshes_113 rfl lay_X9 (by decide) wd_784 (by decide) ly_54 rfl htu ?_
          refine vx_iconst (v := 1) dX9_threshes_116 (by decide) ?_
          refine vx_iadd dX9_threshes_117 ?_
          refine vx_eq (st2 := [.inl (nI (tu + 1)), vx_r 54]) rfl rfl (by rw [nI_1]) ?_
          refine vx_putI (ci := 9) (T := TX9) (n := 56) (j := 48) (a := 54) (ty := .int) (μ2 := (va_up (va_up (mo_th1 μ n f) 54 (upd (upd (μ 54) 33 (mo_G μ n f).2) 48 (nI (tu + 1)))) 68 (upd (μ 68) f (μ 54 34)))) dX9_threshes_118 rfl lay_X9 tyX9_ok nmX9 (by decide) wd_784 rfl rfl rfl rfl (by decide) ly_54 rfl (vx_m2 (by decide)) ?_
          refine vx_eq (μ2 := (mo_th2 μ n f tu)) rfl rfl rfl ?_
          refine vx_aload_n dX9_threshes_121 rfl ?_
          refine vx_getI (ci := 9) (T := TX9) (n := 56) (j := 48) (a := 54) (v := (nI (tu + 1))) dX9_threshes_122 rfl lay_X9 (by decide) wd_784 (by decide) ly_54 rfl rfl ?_
          refine vx_aload_n dX9_threshes_125 rfl ?_
          refine vx_getI (ci := 9) (T := TX9) (n := 56) (j := 44) (a := 54) (v := (nI L)) dX9_threshes_126 rfl lay_X9 (by decide) wd_780 (by decide) ly_54 rfl hL ?_
          refine vx_icmp_ge (tgt := 147) dX9_threshes_129 (by decide) (fun c_129 => ?_) (fun c_129 => ?_)
          · have q129 : ¬ tu + 1 < L := by rw [nI_leI (by omega) (by omega)] at c_129; omega
            exact vx_vret dX9_threshes_147 rfl (Nat.le_refl 0) (Nat.le_refl 0) (vx_pst hP rfl (by unfold mo_thr; rw [if_neg (fun h => h e97), if_pos q129]))
          · have q129 : tu + 1 < L := by rw [nI_leI (by omega) (by omega)] at c_129; omega
            refine vx_aload_n dX9_threshes_132 rfl ?_
            refine vx_callV (b := 54) (vs := []) (st := []) (r0 := (some (.inl (mo_so (mo_th2 μ n f tu) f fo)))) (μ0 := (mo_soM (mo_th2 μ n f tu) f fo)) dX9_threshes_133 (c_X9_setsOut (d - 1) ad (mo_th2 μ n f tu) (tu + 1) fo f rfl (by omega) (hx q129) hf8 hsa (by omega)) wd_1015 wd_1018 wd_54 hy_X9_setsOut wd_1017 wd_39 (by decide) ly_54 rfl rfl (by omega) (Nat.le_of_ble_eq_true rfl) (Nat.le_of_ble_eq_true rfl) (Nat.le_refl 0) (Nat.le_refl 0) ?_
            refine vx_eq (μ2 := (mo_soM (mo_th2 μ n f tu) f fo)) (ls2 := [(3, .inl (nI g)), (2, .inl (mo_sh μ n f)), (0, vx_r 54), (1, .inl (nI f))]) (st2 := [.inl (mo_so (mo_th2 μ n f tu) f fo)]) rfl rfl rfl ?_
            refine vx_if_ne (tgt := 147) dX9_threshes_136 (by decide) (fun c_136 => ?_) (fun c_136 => ?_)
            · exact vx_vret dX9_threshes_147 rfl (Nat.le_refl 0) (Nat.le_refl 0) (vx_pst hP rfl (by unfold mo_thr; rw [if_neg (fun h => h e97), if_neg (fun h => h q129), if_neg c_136]))
            · refine vx_eq (μ2 := (mo_th2 μ n f tu)) (mo_so_no c_136) rfl rfl ?_
              refine vx_aload_n dX9_threshes_139 rfl ?_
              refine vx_aload_n dX9_threshes_140 rfl ?_
              refine vx_getI (ci := 9) (T := TX9) (n := 56) (j := 44) (a := 54) (v := (nI L)) dX9_threshes_141 rfl lay_X9 (by decide) wd_780 (by decide) ly_54 rfl hL ?_
              refine vx_putI (ci := 9) (T := TX9) (n := 56) (j := 48) (a := 54) (ty := .int) (μ2 := (va_up (mo_th2 μ n f tu) 54 (upd ((mo_th2 μ n f tu) 54) 48 (nI L)))) dX9_threshes_144 rfl lay_X9 tyX9_ok nmX9 (by decide) wd_784 rfl rfl rfl rfl (by decide) ly_54 rfl rfl ?_
              exact vx_vret dX9_threshes_147 rfl (Nat.le_refl 0) (Nat.le_refl 0) (vx_pst hP rfl (by unfold mo_thr; rw [if_neg (fun h => h e97), if_neg (fun h => h q129), if_pos c_136]))
        · have e97 : ¬ μ 61 f - mo_sh μ n f ≤ 0 := c_97
          exact vx_vret dX9_threshes_100 rfl (Nat.le_refl 0) (Nat.le_refl 0) (vx_pst hP rfl (by unfold mo_thr; rw [if_pos e97]))
      | succ r ih =>
        intro g hg hg1
        refine vx_iload_n dX9_threshes_37 rfl ?_
        refine vx_aload_n dX9_threshes_38 rfl ?_
        refine vx_getI (ci := 9) (T := TX9) (n := 56) (j := 18) (a := 54) (v := (nI n)) dX9_threshes_39 rfl lay_X9 (by decide) wd_754 (by decide) ly_54 rfl hc ?_
        refine vx_icmp_gt (tgt := 91) dX9_threshes_42 (by decide) (fun h => absurd h (by show ¬ (nI (n) < nI (g)); rw [nI_ltI (by omega) (by omega)]; omega)) (fun _ => ?_)
        refine vx_aload_n dX9_threshes_45 rfl ?_
        refine vx_getR (ci := 9) (T := TX9) (n := 56) (j := 31) (a := 54) (r := 72) dX9_threshes_46 rfl lay_X9 (by decide) wd_767 (by decide) ly_54 rfl ?_
        refine vx_bipush (v := 8) dX9_threshes_49 (by decide) ?_
        refine vx_iload_n dX9_threshes_51 rfl ?_
        refine vx_imul dX9_threshes_52 ?_
        refine vx_eq (st2 := [.inl (nI (8 * f)), vx_r 72]) rfl rfl (by rw [show (8 : Int32) = nI 8 from rfl, pk_mul]) ?_
        refine vx_iload_n dX9_threshes_53 rfl ?_
        refine vx_iadd dX9_threshes_54 ?_
        refine vx_eq (st2 := [.inl (nI ((8 * f) + g)), vx_r 72]) rfl rfl (by rw [nI_add]) ?_
        refine vx_dup2 dX9_threshes_55 ?_
        refine vx_iald (a := 72) (n := 64) (v := ((mo_ol (μ 72) (mo_gi μ n f) f (g - 1)) ((8 * f) + g))) dX9_threshes_56 (by decide) ly_72 (vp_in_nI (by omega) (by omega)) (by rw [nI_clamp (by omega)] <;> rfl) ?_
        refine vx_aload_n dX9_threshes_57 rfl ?_
        refine vx_getR (ci := 9) (T := TX9) (n := 56) (j := 32) (a := 54) (r := 73) dX9_threshes_58 rfl lay_X9 (by decide) wd_768 (by decide) ly_54 rfl ?_
        refine vx_iload_n dX9_threshes_61 rfl ?_
        refine vx_iald (a := 73) (n := 8) (v := ((mo_gi μ n f) g)) dX9_threshes_62 (by decide) ly_73 (vp_in_nI (by omega) (by omega)) (by rw [nI_clamp (by omega)] <;> rfl) ?_
        refine vx_iadd dX9_threshes_63 ?_
        refine vx_iast (a := 72) (n := 64) (μ2 := (va_up (va_up (va_up (va_up (va_up μ 54 (upd (μ 54) 33 (mo_G μ n f).2)) 61 (upd (μ 61) f ((μ 61 f) - (mo_sh μ n f)))) 67 (upd (μ 67) f ((μ 67 f) + 1))) 72 (upd (mo_ol (μ 72) (mo_gi μ n f) f (g - 1)) ((8 * f) + g) (((mo_ol (μ 72) (mo_gi μ n f) f (g - 1)) ((8 * f) + g)) + ((mo_gi μ n f) g)))) 73 (mo_gi μ n f))) dX9_threshes_64 (by decide) ly_72 (vp_in_nI (by omega) (by omega)) (by rw [nI_clamp (by omega)]; try exact ((vx_m2 (by decide)).trans (congrArg (fun m => va_up m 73 (mo_gi μ n f)) vx_m1))) ?_
        refine vx_aload_n dX9_threshes_65 rfl ?_
        refine vx_getR (ci := 9) (T := TX9) (n := 56) (j := 31) (a := 54) (r := 72) dX9_threshes_66 rfl lay_X9 (by decide) wd_767 (by decide) ly_54 rfl ?_
        refine vx_bipush (v := 8) dX9_threshes_69 (by decide) ?_
        refine vx_iload_n dX9_threshes_71 rfl ?_
        refine vx_imul dX9_threshes_72 ?_
        refine vx_eq (st2 := [.inl (nI (8 * g)), vx_r 72]) rfl rfl (by rw [show (8 : Int32) = nI 8 from rfl, pk_mul]) ?_
        refine vx_iload_n dX9_threshes_73 rfl ?_
        refine vx_iadd dX9_threshes_74 ?_
        refine vx_eq (st2 := [.inl (nI ((8 * g) + f)), vx_r 72]) rfl rfl (by rw [nI_add]) ?_
        refine vx_dup2 dX9_threshes_75 ?_
        refine vx_iald (a := 72) (n := 64) (v := ((upd (mo_ol (μ 72) (mo_gi μ n f) f (g - 1)) ((8 * f) + g) (((mo_ol (μ 72) (mo_gi μ n f) f (g - 1)) ((8 * f) + g)) + ((mo_gi μ n f) g))) ((8 * g) + f))) dX9_threshes_76 (by decide) ly_72 (vp_in_nI (by omega) (by omega)) (by rw [nI_clamp (by omega)] <;> rfl) ?_
        refine vx_aload_n dX9_threshes_77 rfl ?_
        refine vx_getR (ci := 9) (T := TX9) (n := 56) (j := 32) (a := 54) (r := 73) dX9_threshes_78 rfl lay_X9 (by decide) wd_768 (by decide) ly_54 rfl ?_
        refine vx_iload_n dX9_threshes_81 rfl ?_
        refine vx_iald (a := 73) (n := 8) (v := ((mo_gi μ n f) g)) dX9_threshes_82 (by decide) ly_73 (vp_in_nI (by omega) (by omega)) (by rw [nI_clamp (by omega)] <;> rfl) ?_
        refine vx_isub dX9_threshes_83 ?_
        refine vx_iast (a := 72) (n := 64) (μ2 := (va_up (va_up (va_up (va_up (va_up μ 54 (upd (μ 54) 33 (mo_G μ n f).2)) 61 (upd (μ 61) f ((μ 61 f) - (mo_sh μ n f)))) 67 (upd (μ 67) f ((μ 67 f) + 1))) 72 (upd (upd (mo_ol (μ 72) (mo_gi μ n f) f (g - 1)) ((8 * f) + g) (((mo_ol (μ 72) (mo_gi μ n f) f (g - 1)) ((8 * f) + g)) + ((mo_gi μ n f) g))) ((8 * g) + f) (((upd (mo_ol (μ 72) (mo_gi μ n f) f (g - 1)) ((8 * f) + g) (((mo_ol (μ 72) (mo_gi μ n f) f (g - 1)) ((8 * f) + g)) + ((mo_gi μ n f) g))) ((8 * g) + f)) - ((mo_gi μ n f) g)))) 73 (mo_gi μ n f))) dX9_threshes_84 (by decide) ly_72 (vp_in_nI (by omega) (by omega)) (by rw [nI_clamp (by omega)]; try exact ((vx_m2 (by decide)).trans (congrArg (fun m => va_up m 73 (mo_gi μ n f)) vx_m1))) ?_
        refine vx_iinc (v := (nI (g + 1))) (ls2 := [(3, .inl (nI (g + 1))), (2, .inl (mo_sh μ n f)), (0, vx_r 54), (1, .inl (nI f))]) dX9_threshes_85 rfl (nI_1 _) (by decide) rfl ?_
        refine vx_goto (tgt := 37) dX9_threshes_88 (by decide) ?_
        refine vx_keep (ls2 := [(3, .inl (nI (g + 1))), (2, .inl (mo_sh μ n f)), (0, vx_r 54), (1, .inl (nI f))]) ⟨rfl, rfl, rfl, rfl, trivial⟩ ?_
        refine vx_eq (μ2 := (va_up (va_up (va_up (va_up (va_up μ 54 (upd (μ 54) 33 (mo_G μ n f).2)) 61 (upd (μ 61) f ((μ 61 f) - (mo_sh μ n f)))) 67 (upd (μ 67) f ((μ 67 f) + 1))) 72 (mo_ol (μ 72) (mo_gi μ n f) f (g + 1 - 1))) 73 (mo_gi μ n f))) (by rw [mo_ol_s hg1]) rfl rfl ?_
        exact ih (g + 1) (by omega) (by omega)
    refine vx_aload_n dX9_threshes_0 rfl ?_
    refine vx_getR (ci := 9) (T := TX9) (n := 56) (j := 20) (a := 54) (r := 61) dX9_threshes_1 rfl lay_X9 (by decide) wd_756 (by decide) ly_54 rfl ?_
    refine vx_iload_n dX9_threshes_4 rfl ?_
    refine vx_iald (a := 61) (n := 8) (v := (μ 61 f)) dX9_threshes_5 (by decide) ly_61 (vp_in_nI (by omega) (by omega)) (by rw [nI_clamp (by omega)] <;> rfl) ?_
    refine vx_aload_n dX9_threshes_6 rfl ?_
    refine vx_iload_n dX9_threshes_7 rfl ?_
    refine vx_callV (b := 54) (vs := [.inl (nI f)]) (st := [.inl (μ 61 f)]) (r0 := (some (.inl (mo_speed μ n f)))) (μ0 := (va_up (va_up μ 54 (upd (μ 54) 33 (mo_G μ n f).2)) 73 (mo_gg (mo_G μ n f).1 (μ 73)))) dX9_threshes_8 (c_X9_speedOf (d - 1) (by omega) ad μ n hk f (by omega) (by omega)) wd_977 wd_980 wd_54 hy_X9_speedOf wd_979 wd_32 (by decide) ly_54 rfl rfl (by omega) (Nat.le_of_ble_eq_true rfl) (Nat.le_of_ble_eq_true rfl) (Nat.le_refl 0) (Nat.le_refl 0) ?_
    refine vx_eq (μ2 := (va_up (va_up μ 54 (upd (μ 54) 33 (mo_G μ n f).2)) 73 (mo_gg (mo_G μ n f).1 (μ 73)))) (ls2 := [(0, vx_r 54), (1, .inl (nI f))]) (st2 := [.inl (mo_speed μ n f), .inl (μ 61 f)]) rfl rfl rfl ?_
    refine vx_mmin dX9_threshes_11 wd_985 (by omega) (Nat.le_of_ble_eq_true rfl) (Nat.le_refl 0) (Nat.le_refl 0) ?_
    refine vx_istore_n (ls2 := [(2, .inl (if (mo_speed μ n f) < (μ 61 f) then (mo_speed μ n f) else (μ 61 f))), (0, vx_r 54), (1, .inl (nI f))]) dX9_threshes_14 (by decide) rfl ?_
    refine vx_eq (ls2 := [(2, .inl (mo_sh μ n f)), (0, vx_r 54), (1, .inl (nI f))]) rfl rfl rfl ?_
    refine vx_aload_n dX9_threshes_15 rfl ?_
    refine vx_getR (ci := 9) (T := TX9) (n := 56) (j := 20) (a := 54) (r := 61) dX9_threshes_16 rfl lay_X9 (by decide) wd_756 (by decide) ly_54 rfl ?_
    refine vx_iload_n dX9_threshes_19 rfl ?_
    refine vx_dup2 dX9_threshes_20 ?_
    refine vx_iald (a := 61) (n := 8) (v := (μ 61 f)) dX9_threshes_21 (by decide) ly_61 (vp_in_nI (by omega) (by omega)) (by rw [nI_clamp (by omega)] <;> rfl) ?_
    refine vx_iload_n dX9_threshes_22 rfl ?_
    refine vx_isub dX9_threshes_23 ?_
    refine vx_iast (a := 61) (n := 8) (μ2 := (va_up (va_up (va_up μ 54 (upd (μ 54) 33 (mo_G μ n f).2)) 61 (upd (μ 61) f ((μ 61 f) - (mo_sh μ n f)))) 73 (mo_gg (mo_G μ n f).1 (μ 73)))) dX9_threshes_24 (by decide) ly_61 (vp_in_nI (by omega) (by omega)) (by rw [nI_clamp (by omega)]; try exact (vx_m2 (by decide))) ?_
    refine vx_aload_n dX9_threshes_25 rfl ?_
    refine vx_getR (ci := 9) (T := TX9) (n := 56) (j := 26) (a := 54) (r := 67) dX9_threshes_26 rfl lay_X9 (by decide) wd_762 (by decide) ly_54 rfl ?_
    refine vx_iload_n dX9_threshes_29 rfl ?_
    refine vx_dup2 dX9_threshes_30 ?_
    refine vx_iald (a := 67) (n := 8) (v := (μ 67 f)) dX9_threshes_31 (by decide) ly_67 (vp_in_nI (by omega) (by omega)) (by rw [nI_clamp (by omega)] <;> rfl) ?_
    refine vx_iconst (v := 1) dX9_threshes_32 (by decide) ?_
    refine vx_iadd dX9_threshes_33 ?_
    refine vx_iast (a := 67) (n := 8) (μ2 := (va_up (va_up (va_up (va_up μ 54 (upd (μ 54) 33 (mo_G μ n f).2)) 61 (upd (μ 61) f ((μ 61 f) - (mo_sh μ n f)))) 67 (upd (μ 67) f ((μ 67 f) + 1))) 73 (mo_gg (mo_G μ n f).1 (μ 73)))) dX9_threshes_34 (by decide) ly_67 (vp_in_nI (by omega) (by omega)) (by rw [nI_clamp (by omega)]; try exact (vx_m2 (by decide))) ?_
    refine vx_iconst (v := 1) dX9_threshes_35 (by decide) ?_
    refine vx_istore_n (ls2 := [(3, .inl 1), (2, .inl (mo_sh μ n f)), (0, vx_r 54), (1, .inl (nI f))]) dX9_threshes_36 (by decide) rfl ?_
    refine vx_eq (μ2 := (va_up (va_up (va_up (va_up (va_up μ 54 (upd (μ 54) 33 (mo_G μ n f).2)) 61 (upd (μ 61) f ((μ 61 f) - (mo_sh μ n f)))) 67 (upd (μ 67) f ((μ 67 f) + 1))) 72 (mo_ol (μ 72) (mo_gi μ n f) f (1 - 1))) 73 (mo_gi μ n f))) (congrArg (fun m => va_up m 73 (mo_gi μ n f)) (vx_up_id (va_up (va_up (va_up μ 54 (upd (μ 54) 33 (mo_G μ n f).2)) 61 (upd (μ 61) f ((μ 61 f) - (mo_sh μ n f)))) 67 (upd (μ 67) f ((μ 67 f) + 1))) 72).symm) rfl rfl ?_
    exact loop n 1 (by omega) (by omega)
  exact vx_J.M pn_X9_threshes (Nat.le_of_ble_eq_true rfl) (key _ _ ⟨rfl, rfl, rfl, rfl, rfl⟩)
end
