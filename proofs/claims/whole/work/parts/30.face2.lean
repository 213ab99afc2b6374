section
abbrev sp_wok (μ : vx_mem) (a b days : Int32) : Prop := ¬ sp_plc μ a = 0 ∧ ¬ sp_plc μ b = 0 ∧ ¬ a = b ∧ ¬ sp_in days (-1) 9 = 0
set_option maxRecDepth 20000 in
set_option maxHeartbeats 2000000 in
theorem c_X8_way (d : Nat) (hd : 2 ≤ d) (ad : Nat → Nat) (μ : vx_mem) (n : Nat) (hc : μ 6 0 = nI n) (hn : n ≤ 7) (a b days : Int32) : vx_Mf yX8_way cX8_way 4 (some (.boolean)) d ad 82 vx_lay μ [vx_r 0, .inl a, .inl b, .inl days] (some (.inl (if sp_wok μ a b days then 1 else 0))) (if sp_wok μ a b days then sp_set (sp_set μ 20 a.toNatClampNeg b.toNatClampNeg days) 20 b.toNatClampNeg a.toNatClampNeg days else μ) := by
  have key : ∀ (Post : vx_P) (ini : Bool), Post (some (.inl (if sp_wok μ a b days then 1 else 0))) ad 82 vx_lay (if sp_wok μ a b days then sp_set (sp_set μ 20 a.toNatClampNeg b.toNatClampNeg days) 20 b.toNatClampNeg a.toNatClampNeg days else μ) → vx_J RX8 cX8_way 4 (some (.boolean)) ini d 0 0 Post ad 0 0 82 vx_lay μ 0 [(0, vx_r 0), (1, .inl a), (2, .inl b), (3, .inl days)] [] := by
    intro Post ini hP
    refine vx_aload_n dX8_way_0 rfl ?_
    refine vx_iload_n dX8_way_1 rfl ?_
    refine vx_callV (b := 0) (vs := [.inl a]) (st := []) (r0 := (some (.inl (sp_plc μ a)))) (μ0 := μ) dX8_way_2 (c_X8_isPlace (d - 1) (by omega) ad μ a) wd_518 wd_521 wd_45 hy_X8_isPlace wd_520 wd_5 (by decide) ly_0 rfl rfl (by omega) (Nat.le_of_ble_eq_true rfl) (Nat.le_of_ble_eq_true rfl) (Nat.le_refl 0) (Nat.le_refl 0) ?_
    refine vx_eq (μ2 := μ) (ls2 := [(0, vx_r 0), (1, .inl a), (2, .inl b), (3, .inl days)]) (st2 := [.inl (sp_plc μ a)]) rfl rfl rfl ?_
    refine vx_if_eq (tgt := 31) dX8_way_5 (by decide) (fun c_5 => ?_) (fun c_5 => ?_)
    · refine vx_iconst (v := 0) dX8_way_31 (by decide) ?_
      exact vx_ret (ty := .boolean) dX8_way_32 rfl rfl (Nat.le_refl 0) (Nat.le_refl 0) (vx_pst hP (by rw [if_neg (show ¬ sp_wok μ a b days from fun h => h.1 c_5)]) (by rw [if_neg (show ¬ sp_wok μ a b days from fun h => h.1 c_5)]))
    · refine vx_aload_n dX8_way_8 rfl ?_
      refine vx_iload_n dX8_way_9 rfl ?_
      refine vx_callV (b := 0) (vs := [.inl b]) (st := []) (r0 := (some (.inl (sp_plc μ b)))) (μ0 := μ) dX8_way_10 (c_X8_isPlace (d - 1) (by omega) ad μ b) wd_518 wd_521 wd_45 hy_X8_isPlace wd_520 wd_5 (by decide) ly_0 rfl rfl (by omega) (Nat.le_of_ble_eq_true rfl) (Nat.le_of_ble_eq_true rfl) (Nat.le_refl 0) (Nat.le_refl 0) ?_
      refine vx_eq (μ2 := μ) (ls2 := [(0, vx_r 0), (1, .inl a), (2, .inl b), (3, .inl days)]) (st2 := [.inl (sp_plc μ b)]) rfl rfl rfl ?_
      refine vx_if_eq (tgt := 31) dX8_way_13 (by decide) (fun c_13 => ?_) (fun c_13 => ?_)
      · refine vx_iconst (v := 0) dX8_way_31 (by decide) ?_
        exact vx_ret (ty := .boolean) dX8_way_32 rfl rfl (Nat.le_refl 0) (Nat.le_refl 0) (vx_pst hP (by rw [if_neg (show ¬ sp_wok μ a b days from fun h => h.2.1 c_13)]) (by rw [if_neg (show ¬ sp_wok μ a b days from fun h => h.2.1 c_13)]))
      · refine vx_iload_n dX8_way_16 rfl ?_
        refine vx_iload_n dX8_way_17 rfl ?_
        refine vx_icmp_eq (tgt := 31) dX8_way_18 (by decide) (fun c_18 => ?_) (fun c_18 => ?_)
        · refine vx_iconst (v := 0) dX8_way_31 (by decide) ?_
          exact vx_ret (ty := .boolean) dX8_way_32 rfl rfl (Nat.le_refl 0) (Nat.le_refl 0) (vx_pst hP (by rw [if_neg (show ¬ sp_wok μ a b days from fun h => h.2.2.1 c_18)]) (by rw [if_neg (show ¬ sp_wok μ a b days from fun h => h.2.2.1 c_18)]))
        · refine vx_iload_n dX8_way_21 rfl ?_
          refine vx_iconst (v := (-1)) dX8_way_22 (by decide) ?_
          refine vx_bipush (v := 9) dX8_way_23 (by decide) ?_
          refine vx_callS (vs := [.inl days, .inl (-1), .inl 9]) (st := []) (r0 := (some (.inl (sp_in days (-1) 9)))) (μ0 := μ) dX8_way_25 (c_X8_within (d - 1) ad 82 vx_lay μ days (-1) 9) wd_507 wd_416 wd_45 hy_X8_within wd_415 (by omega) (Nat.le_of_ble_eq_true rfl) (Nat.le_of_ble_eq_true rfl) (Nat.le_refl 0) (Nat.le_refl 0) ?_
          refine vx_eq (μ2 := μ) (ls2 := [(0, vx_r 0), (1, .inl a), (2, .inl b), (3, .inl days)]) (st2 := [.inl (sp_in days (-1) 9)]) rfl rfl rfl ?_
          refine vx_if_ne (tgt := 33) dX8_way_28 (by decide) (fun c_28 => ?_) (fun c_28 => ?_)
          · have hokk : sp_wok μ a b days := ⟨c_5, c_13, c_18, c_28⟩
            rw [if_pos hokk, if_pos hokk] at hP
            obtain ⟨i, rfl, hi⟩ := sp_plc_far hc hn c_5
            obtain ⟨j, rfl, hj⟩ := sp_plc_far hc hn c_13
            rw [nI_clamp (by omega), nI_clamp (by omega)] at hP
            refine vx_aload_n dX8_way_33 rfl ?_
            refine vx_getR (ci := 8) (T := TX8) (n := 8) (j := 3) (a := 0) (r := 18) dX8_way_34 rfl lay_X8 (by decide) wd_346 (by decide) ly_0 rfl ?_
            refine vx_getR (ci := 5) (T := TX5) (n := 1) (j := 0) (a := 18) (r := 19) dX8_way_37 rfl lay_X5 (by decide) wd_197 (by decide) ly_18 rfl ?_
            refine vx_iload_n dX8_way_40 rfl ?_
            refine vx_iload_n dX8_way_41 rfl ?_
            refine vx_iload_n dX8_way_42 rfl ?_
            refine vx_callS (vs := [vx_r 19, .inl (nI i), .inl (nI j), .inl days]) (st := []) (r0 := none) (μ0 := (sp_set μ 20 i j days)) dX8_way_43 ((c_X8_put_ (d - 1) ad 82 vx_lay μ 19 8 8 [20, 21, 22, 23, 24, 25, 26, 27] (by decide) ly_19 (by decide) (by decide) rfl rows_19 (nI i) (nI j) days).to rfl (sp_put2_20 _ (a := i) (b := j) _ (by omega) (by omega))) wd_526 wd_195 wd_45 hy_X8_put_ wd_194 (by omega) (Nat.le_of_ble_eq_true rfl) (Nat.le_of_ble_eq_true rfl) (Nat.le_refl 0) (Nat.le_refl 0) ?_
            refine vx_eq (μ2 := (sp_set μ 20 i j days)) (ls2 := [(0, vx_r 0), (1, .inl (nI i)), (2, .inl (nI j)), (3, .inl days)]) (st2 := []) rfl rfl rfl ?_
            refine vx_aload_n dX8_way_46 rfl ?_
            refine vx_getR (ci := 8) (T := TX8) (n := 8) (j := 3) (a := 0) (r := 18) dX8_way_47 rfl lay_X8 (by decide) wd_346 (by decide) ly_0 rfl ?_
            refine vx_getR (ci := 5) (T := TX5) (n := 1) (j := 0) (a := 18) (r := 19) dX8_way_50 rfl lay_X5 (by decide) wd_197 (by decide) ly_18 rfl ?_
            refine vx_iload_n dX8_way_53 rfl ?_
            refine vx_iload_n dX8_way_54 rfl ?_
            refine vx_iload_n dX8_way_55 rfl ?_
            refine vx_callS (vs := [vx_r 19, .inl (nI j), .inl (nI i), .inl days]) (st := []) (r0 := none) (μ0 := (sp_set (sp_set μ 20 i j days) 20 j i days)) dX8_way_56 ((c_X8_put_ (d - 1) ad 82 vx_lay (sp_set μ 20 i j days) 19 8 8 [20, 21, 22, 23, 24, 25, 26, 27] (by decide) ly_19 (by decide) (by decide) rfl rows_19 (nI j) (nI i) days).to rfl (sp_put2_20 _ (a := j) (b := i) _ (by omega) (by omega))) wd_526 wd_195 wd_45 hy_X8_put_ wd_194 (by omega) (Nat.le_of_ble_eq_true rfl) (Nat.le_of_ble_eq_true rfl) (Nat.le_refl 0) (Nat.le_refl 0) ?_
            refine vx_eq (μ2 := (sp_set (sp_set μ 20 i j days) 20 j i days)) (ls2 := [(0, vx_r 0), (1, .inl (nI i)), (2, .inl (nI j)), (3, .inl days)]) (st2 := []) rfl rfl rfl ?_
            refine vx_iconst (v := 1) dX8_way_59 (by decide) ?_
            exact vx_ret (ty := .boolean) dX8_way_60 rfl rfl (Nat.le_refl 0) (Nat.le_refl 0) (vx_pst hP rfl rfl)
          · refine vx_iconst (v := 0) dX8_way_31 (by decide) ?_
            exact vx_ret (ty := .boolean) dX8_way_32 rfl rfl (Nat.le_refl 0) (Nat.le_refl 0) (vx_pst hP (by rw [if_neg (show ¬ sp_wok μ a b days from fun h => h.2.2.2 c_28)]) (by rw [if_neg (show ¬ sp_wok μ a b days from fun h => h.2.2.2 c_28)]))
  exact vx_J.M pn_X8_way (Nat.le_of_ble_eq_true rfl) (key _ _ ⟨rfl, rfl, rfl, rfl, rfl⟩)
def sp_lookK (μ : vx_mem) (n k : Nat) (x : Int32) : Int32 := if x = 0 then μ 8 k else if x = 1 then sp_sacks μ k else if x = 2 then μ 14 k else if x = 3 then μ 15 k else if x = 4 then sp_price μ k else if x = 5 then (sp_G μ n k).2 else if x = 6 then sp_speed μ n k else if x = 7 then sp_lossD μ k else -1
def sp_lookM (μ : vx_mem) (n k : Nat) (x : Int32) : vx_mem := if x = 5 then va_up μ 38 (sp_mix (sp_G μ n k).1 (μ 38)) else if x = 6 then va_up μ 38 (sp_mix (sp_G μ n k).1 (μ 38)) else μ
set_option maxRecDepth 20000 in
set_option maxHeartbeats 2000000 in
theorem c_X8_look (d : Nat) (hd : 4 ≤ d) (ad : Nat → Nat) (μ : vx_mem) (n : Nat) (hk : sp_ck μ n) (f x : Int32) : vx_Mf yX8_look cX8_look 3 (some (.int)) d ad 82 vx_lay μ [vx_r 0, .inl f, .inl x] (some (.inl (if sp_in f 1 (μ 6 0) = 0 then -1 else sp_lookK μ n f.toNatClampNeg x))) (if sp_in f 1 (μ 6 0) = 0 then μ else sp_lookM μ n f.toNatClampNeg x) := by
  have key : ∀ (Post : vx_P) (ini : Bool), Post (some (.inl (if sp_in f 1 (μ 6 0) = 0 then -1 else sp_lookK μ n f.toNatClampNeg x))) ad 82 vx_lay (if sp_in f 1 (μ 6 0) = 0 then μ else sp_lookM μ n f.toNatClampNeg x) → vx_J RX8 cX8_look 3 (some (.int)) ini d 0 0 Post ad 0 0 82 vx_lay μ 0 [(0, vx_r 0), (1, .inl f), (2, .inl x)] [] := by
    intro Post ini hP
    refine vx_aload_n dX8_look_0 rfl ?_
    refine vx_getR (ci := 8) (T := TX8) (n := 8) (j := 2) (a := 0) (r := 6) dX8_look_1 rfl lay_X8 (by decide) wd_345 (by decide) ly_0 rfl ?_
    refine vx_iload_n dX8_look_4 rfl ?_
    refine vx_callV (b := 6) (vs := [.inl f]) (st := []) (r0 := (some (.inl (sp_in f 1 (μ 6 0))))) (μ0 := μ) dX8_look_5 (c_X3_has (d - 1) ad μ f) wd_522 wd_525 wd_48 hy_X3_has wd_523 wd_524 (by decide) ly_6 rfl rfl (by omega) (Nat.le_of_ble_eq_true rfl) (Nat.le_of_ble_eq_true rfl) (Nat.le_refl 0) (Nat.le_refl 0) ?_
    refine vx_eq (μ2 := μ) (ls2 := [(0, vx_r 0), (1, .inl f), (2, .inl x)]) (st2 := [.inl (sp_in f 1 (μ 6 0))]) rfl rfl rfl ?_
    refine vx_if_ne (tgt := 13) dX8_look_8 (by decide) (fun c_8 => ?_) (fun c_8 => ?_)
    · have hc := hk.1
      have hn := hk.2.1
      rw [if_neg c_8, if_neg c_8] at hP
      obtain ⟨k, rfl, k1, k2⟩ := sp_in_far hc hn c_8
      rw [nI_clamp (by omega)] at hP
      refine vx_iload_n dX8_look_13 rfl ?_
      by_cases e14_0 : x = 0
      · refine vx_eq (st2 := [.inl 0]) rfl rfl (by rw [e14_0]) ?_
        refine vx_tabIn (tgt := 60) dX8_look_14 (by decide) (by decide) rfl (by decide) ?_
        refine vx_aload_n dX8_look_60 rfl ?_
        refine vx_getR (ci := 8) (T := TX8) (n := 8) (j := 2) (a := 0) (r := 6) dX8_look_61 rfl lay_X8 (by decide) wd_345 (by decide) ly_0 rfl ?_
        refine vx_getR (ci := 3) (T := TX3) (n := 12) (j := 2) (a := 6) (r := 8) dX8_look_64 rfl lay_X3 (by decide) wd_139 (by decide) ly_6 rfl ?_
        refine vx_iload_n dX8_look_67 rfl ?_
        refine vx_callS (vs := [vx_r 8, .inl (nI k)]) (st := []) (r0 := (some (.inl (μ 8 k)))) (μ0 := μ) dX8_look_68 ((c_X8_at (d - 1) ad 82 vx_lay μ 8 8 (by decide) ly_8 (by decide) (nI k)).to (by first | rfl | (exact congrArg (fun z => some (Sum.inl z)) (sp_at_nI (k := k) _ (by omega) (by decide)))) rfl) wd_550 wd_109 wd_45 hy_X8_at wd_108 (by omega) (Nat.le_of_ble_eq_true rfl) (Nat.le_of_ble_eq_true rfl) (Nat.le_refl 0) (Nat.le_refl 0) ?_
        refine vx_eq (μ2 := μ) (ls2 := [(0, vx_r 0), (1, .inl (nI k)), (2, .inl x)]) (st2 := [.inl (μ 8 k)]) rfl rfl rfl ?_
        exact vx_ret (ty := .int) dX8_look_71 rfl rfl (Nat.le_refl 0) (Nat.le_refl 0) (vx_pst hP (by unfold sp_lookK; rw [e14_0]; rfl) (by unfold sp_lookM; rw [if_neg (by rw [e14_0]; decide), if_neg (by rw [e14_0]; decide)]))
      by_cases e14_1 : x = 1
      · refine vx_eq (st2 := [.inl 1]) rfl rfl (by rw [e14_1]) ?_
        refine vx_tabIn (tgt := 72) dX8_look_14 (by decide) (by decide) rfl (by decide) ?_
        refine vx_aload_n dX8_look_72 rfl ?_
        refine vx_iload_n dX8_look_73 rfl ?_
        refine vx_callV (b := 0) (vs := [.inl (nI k)]) (st := []) (r0 := (some (.inl (sp_sacks μ k)))) (μ0 := μ) dX8_look_74 (c_X8_sacksOf (d - 1) (by omega) ad μ k (by omega)) wd_687 wd_690 wd_45 hy_X8_sacksOf wd_689 wd_18 (by decide) ly_0 rfl rfl (by omega) (Nat.le_of_ble_eq_true rfl) (Nat.le_of_ble_eq_true rfl) (Nat.le_refl 0) (Nat.le_refl 0) ?_
        refine vx_eq (μ2 := μ) (ls2 := [(0, vx_r 0), (1, .inl (nI k)), (2, .inl x)]) (st2 := [.inl (sp_sacks μ k)]) rfl rfl rfl ?_
        exact vx_ret (ty := .int) dX8_look_77 rfl rfl (Nat.le_refl 0) (Nat.le_refl 0) (vx_pst hP (by unfold sp_lookK; rw [e14_1]; rfl) (by unfold sp_lookM; rw [if_neg (by rw [e14_1]; decide), if_neg (by rw [e14_1]; decide)]))
      by_cases e14_2 : x = 2
      · refine vx_eq (st2 := [.inl 2]) rfl rfl (by rw [e14_2]) ?_
        refine vx_tabIn (tgt := 78) dX8_look_14 (by decide) (by decide) rfl (by decide) ?_
        refine vx_aload_n dX8_look_78 rfl ?_
        refine vx_getR (ci := 8) (T := TX8) (n := 8) (j := 2) (a := 0) (r := 6) dX8_look_79 rfl lay_X8 (by decide) wd_345 (by decide) ly_0 rfl ?_
        refine vx_getR (ci := 3) (T := TX3) (n := 12) (j := 8) (a := 6) (r := 14) dX8_look_82 rfl lay_X3 (by decide) wd_153 (by decide) ly_6 rfl ?_
        refine vx_iload_n dX8_look_85 rfl ?_
        refine vx_callS (vs := [vx_r 14, .inl (nI k)]) (st := []) (r0 := (some (.inl (μ 14 k)))) (μ0 := μ) dX8_look_86 ((c_X8_at (d - 1) ad 82 vx_lay μ 14 8 (by decide) ly_14 (by decide) (nI k)).to (by first | rfl | (exact congrArg (fun z => some (Sum.inl z)) (sp_at_nI (k := k) _ (by omega) (by decide)))) rfl) wd_550 wd_109 wd_45 hy_X8_at wd_108 (by omega) (Nat.le_of_ble_eq_true rfl) (Nat.le_of_ble_eq_true rfl) (Nat.le_refl 0) (Nat.le_refl 0) ?_
        refine vx_eq (μ2 := μ) (ls2 := [(0, vx_r 0), (1, .inl (nI k)), (2, .inl x)]) (st2 := [.inl (μ 14 k)]) rfl rfl rfl ?_
        exact vx_ret (ty := .int) dX8_look_89 rfl rfl (Nat.le_refl 0) (Nat.le_refl 0) (vx_pst hP (by unfold sp_lookK; rw [e14_2]; rfl) (by unfold sp_lookM; rw [if_neg (by rw [e14_2]; decide), if_neg (by rw [e14_2]; decide)]))
      by_cases e14_3 : x = 3
      · refine vx_eq (st2 := [.inl 3]) rfl rfl (by rw [e14_3]) ?_
        refine vx_tabIn (tgt := 90) dX8_look_14 (by decide) (by decide) rfl (by decide) ?_
        refine vx_aload_n dX8_look_90 rfl ?_
        refine vx_getR (ci := 8) (T := TX8) (n := 8) (j := 2) (a := 0) (r := 6) dX8_look_91 rfl lay_X8 (by decide) wd_345 (by decide) ly_0 rfl ?_
        refine vx_getR (ci := 3) (T := TX3) (n := 12) (j := 9) (a := 6) (r := 15) dX8_look_94 rfl lay_X3 (by decide) wd_155 (by decide) ly_6 rfl ?_
        refine vx_iload_n dX8_look_97 rfl ?_
        refine vx_callS (vs := [vx_r 15, .inl (nI k)]) (st := []) (r0 := (some (.inl (μ 15 k)))) (μ0 := μ) dX8_look_98 ((c_X8_at (d - 1) ad 82 vx_lay μ 15 8 (by decide) ly_15 (by decide) (nI k)).to (by first | rfl | (exact congrArg (fun z => some (Sum.inl z)) (sp_at_nI (k := k) _ (by omega) (by decide)))) rfl) wd_550 wd_109 wd_45 hy_X8_at wd_108 (by omega) (Nat.le_of_ble_eq_true rfl) (Nat.le_of_ble_eq_true rfl) (Nat.le_refl 0) (Nat.le_refl 0) ?_
        refine vx_eq (μ2 := μ) (ls2 := [(0, vx_r 0), (1, .inl (nI k)), (2, .inl x)]) (st2 := [.inl (μ 15 k)]) rfl rfl rfl ?_
        exact vx_ret (ty := .int) dX8_look_101 rfl rfl (Nat.le_refl 0) (Nat.le_refl 0) (vx_pst hP (by unfold sp_lookK; rw [e14_3]; rfl) (by unfold sp_lookM; rw [if_neg (by rw [e14_3]; decide), if_neg (by rw [e14_3]; decide)]))
      by_cases e14_4 : x = 4
      · refine vx_eq (st2 := [.inl 4]) rfl rfl (by rw [e14_4]) ?_
        refine vx_tabIn (tgt := 102) dX8_look_14 (by decide) (by decide) rfl (by decide) ?_
        refine vx_aload_n dX8_look_102 rfl ?_
        refine vx_iload_n dX8_look_103 rfl ?_
        refine vx_callV (b := 0) (vs := [.inl (nI k)]) (st := []) (r0 := (some (.inl (sp_price μ k)))) (μ0 := μ) dX8_look_104 (c_X8_priceOf (d - 1) (by omega) ad μ k (by omega)) wd_691 wd_694 wd_45 hy_X8_priceOf wd_693 wd_19 (by decide) ly_0 rfl rfl (by omega) (Nat.le_of_ble_eq_true rfl) (Nat.le_of_ble_eq_true rfl) (Nat.le_refl 0) (Nat.le_refl 0) ?_
        refine vx_eq (μ2 := μ) (ls2 := [(0, vx_r 0), (1, .inl (nI k)), (2, .inl x)]) (st2 := [.inl (sp_price μ k)]) rfl rfl rfl ?_
        exact vx_ret (ty := .int) dX8_look_107 rfl rfl (Nat.le_refl 0) (Nat.le_refl 0) (vx_pst hP (by unfold sp_lookK; rw [e14_4]; rfl) (by unfold sp_lookM; rw [if_neg (by rw [e14_4]; decide), if_neg (by rw [e14_4]; decide)]))
      by_cases e14_5 : x = 5
      · refine vx_eq (st2 := [.inl 5]) rfl rfl (by rw [e14_5]) ?_
        refine vx_tabIn (tgt := 108) dX8_look_14 (by decide) (by decide) rfl (by decide) ?_
        refine vx_aload_n dX8_look_108 rfl ?_
        refine vx_iload_n dX8_look_109 rfl ?_
        refine vx_callV (b := 0) (vs := [.inl (nI k)]) (st := []) (r0 := (some (.inl (sp_G μ n k).2))) (μ0 := (va_up μ 38 (sp_mix (sp_G μ n k).1 (μ 38)))) dX8_look_110 (c_X8_gangOf (d - 1) (by omega) ad μ n hk k (by omega) (by omega)) wd_695 wd_698 wd_45 hy_X8_gangOf wd_697 wd_20 (by decide) ly_0 rfl rfl (by omega) (Nat.le_of_ble_eq_true rfl) (Nat.le_of_ble_eq_true rfl) (Nat.le_refl 0) (Nat.le_refl 0) ?_
        refine vx_eq (μ2 := (va_up μ 38 (sp_mix (sp_G μ n k).1 (μ 38)))) (ls2 := [(0, vx_r 0), (1, .inl (nI k)), (2, .inl x)]) (st2 := [.inl (sp_G μ n k).2]) rfl rfl rfl ?_
        exact vx_ret (ty := .int) dX8_look_113 rfl rfl (Nat.le_refl 0) (Nat.le_refl 0) (vx_pst hP (by unfold sp_lookK; rw [e14_5]; rfl) (by unfold sp_lookM; rw [if_pos e14_5]))
      by_cases e14_6 : x = 6
      · refine vx_eq (st2 := [.inl 6]) rfl rfl (by rw [e14_6]) ?_
        refine vx_tabIn (tgt := 114) dX8_look_14 (by decide) (by decide) rfl (by decide) ?_
        refine vx_aload_n dX8_look_114 rfl ?_
        refine vx_iload_n dX8_look_115 rfl ?_
        refine vx_callV (b := 0) (vs := [.inl (nI k)]) (st := []) (r0 := (some (.inl (sp_speed μ n k)))) (μ0 := (va_up μ 38 (sp_mix (sp_G μ n k).1 (μ 38)))) dX8_look_116 (c_X8_speedOf (d - 1) (by omega) ad μ n hk k (by omega) (by omega)) wd_551 wd_554 wd_45 hy_X8_speedOf wd_553 wd_7 (by decide) ly_0 rfl rfl (by omega) (Nat.le_of_ble_eq_true rfl) (Nat.le_of_ble_eq_true rfl) (Nat.le_refl 0) (Nat.le_refl 0) ?_
        refine vx_eq (μ2 := (va_up μ 38 (sp_mix (sp_G μ n k).1 (μ 38)))) (ls2 := [(0, vx_r 0), (1, .inl (nI k)), (2, .inl x)]) (st2 := [.inl (sp_speed μ n k)]) rfl rfl rfl ?_
        exact vx_ret (ty := .int) dX8_look_119 rfl rfl (Nat.le_refl 0) (Nat.le_refl 0) (vx_pst hP (by unfold sp_lookK; rw [e14_6]; rfl) (by unfold sp_lookM; rw [if_neg e14_5, if_pos e14_6]))
      by_cases e14_7 : x = 7
      · refine vx_eq (st2 := [.inl 7]) rfl rfl (by rw [e14_7]) ?_
        refine vx_tabIn (tgt := 120) dX8_look_14 (by decide) (by decide) rfl (by decide) ?_
        refine vx_aload_n dX8_look_120 rfl ?_
        refine vx_iload_n dX8_look_121 rfl ?_
        refine vx_callV (b := 0) (vs := [.inl (nI k)]) (st := []) (r0 := (some (.inl (sp_lossD μ k)))) (μ0 := μ) dX8_look_122 (c_X8_lossOf (d - 1) (by omega) ad μ n hk k (by omega) (by omega)) wd_699 wd_702 wd_45 hy_X8_lossOf wd_701 wd_21 (by decide) ly_0 rfl rfl (by omega) (Nat.le_of_ble_eq_true rfl) (Nat.le_of_ble_eq_true rfl) (Nat.le_refl 0) (Nat.le_refl 0) ?_
        refine vx_eq (μ2 := μ) (ls2 := [(0, vx_r 0), (1, .inl (nI k)), (2, .inl x)]) (st2 := [.inl (sp_lossD μ k)]) rfl rfl rfl ?_
        exact vx_ret (ty := .int) dX8_look_125 rfl rfl (Nat.le_refl 0) (Nat.le_refl 0) (vx_pst hP (by unfold sp_lookK; rw [e14_7]; rfl) (by unfold sp_lookM; rw [if_neg (by rw [e14_7]; decide), if_neg (by rw [e14_7]; decide)]))
      refine vx_tabOut (tgt := 126) dX8_look_14 (by have t0 : (x).toInt ≠ 0 := fun q => e14_0 (Int32.toInt_inj.mp (q.trans (by decide))); have t1 : (x).toInt ≠ 1 := fun q => e14_1 (Int32.toInt_inj.mp (q.trans (by decide))); have t2 : (x).toInt ≠ 2 := fun q => e14_2 (Int32.toInt_inj.mp (q.trans (by decide))); have t3 : (x).toInt ≠ 3 := fun q => e14_3 (Int32.toInt_inj.mp (q.trans (by decide))); have t4 : (x).toInt ≠ 4 := fun q => e14_4 (Int32.toInt_inj.mp (q.trans (by decide))); have t5 : (x).toInt ≠ 5 := fun q => e14_5 (Int32.toInt_inj.mp (q.trans (by decide))); have t6 : (x).toInt ≠ 6 := fun q => e14_6 (Int32.toInt_inj.mp (q.trans (by decide))); have t7 : (x).toInt ≠ 7 := fun q => e14_7 (Int32.toInt_inj.mp (q.trans (by decide))); omega) (by decide) ?_
      refine vx_iconst (v := (-1)) dX8_look_126 (by decide) ?_
      exact vx_ret (ty := .int) dX8_look_127 rfl rfl (Nat.le_refl 0) (Nat.le_refl 0) (vx_pst hP (by unfold sp_lookK; rw [if_neg e14_0, if_neg e14_1, if_neg e14_2, if_neg e14_3, if_neg e14_4, if_neg e14_5, if_neg e14_6, if_neg e14_7]) (by unfold sp_lookM; rw [if_neg e14_5, if_neg e14_6]))
    · refine vx_iconst (v := (-1)) dX8_look_11 (by decide) ?_
      exact vx_ret (ty := .int) dX8_look_12 rfl rfl (Nat.le_refl 0) (Nat.le_refl 0) (vx_pst hP (by rw [if_pos c_8]) (by rw [if_pos c_8]))
  exact vx_J.M pn_X8_look (Nat.le_of_ble_eq_true rfl) (key _ _ ⟨rfl, rfl, rfl, rfl, rfl⟩)
def sp_count (μ : vx_mem) (n pl : Nat) (x : Int32) : Int32 := if x = 0 then μ 53 0 else if x = 1 then μ 53 1 else if x = 2 then μ 53 2 else if x = 3 then μ 53 3 else if x = 4 then μ 6 0 else if x = 5 then μ 6 0 - nI (sp_opn (μ 8) n) else if x = 6 then sp_how μ pl else -1
set_option maxRecDepth 20000 in
set_option maxHeartbeats 2000000 in
theorem c_X8_count (d : Nat) (hd : 3 ≤ d) (ad : Nat → Nat) (μ : vx_mem) (n : Nat) (hc : μ 6 0 = nI n) (hn : n ≤ 7) (pl : Nat) (hp : μ 53 1 = nI pl) (hp8 : pl < 8) (x : Int32) : vx_Mf yX8_count cX8_count 2 (some (.int)) d ad 82 vx_lay μ [vx_r 0, .inl x] (some (.inl (sp_count μ n pl x))) μ := by
  have key : ∀ (Post : vx_P) (ini : Bool), Post (some (.inl (sp_count μ n pl x))) ad 82 vx_lay μ → vx_J RX8 cX8_count 2 (some (.int)) ini d 0 0 Post ad 0 0 82 vx_lay μ 0 [(0, vx_r 0), (1, .inl x)] [] := by
    intro Post ini hP
    refine vx_iload_n dX8_count_0 rfl ?_
    by_cases e1_0 : x = 0
    · refine vx_eq (st2 := [.inl 0]) rfl rfl (by rw [e1_0]) ?_
      refine vx_tabIn (tgt := 44) dX8_count_1 (by decide) (by decide) rfl (by decide) ?_
      refine vx_aload_n dX8_count_44 rfl ?_
      refine vx_getR (ci := 8) (T := TX8) (n := 8) (j := 7) (a := 0) (r := 53) dX8_count_45 rfl lay_X8 (by decide) wd_350 (by decide) ly_0 rfl ?_
      refine vx_getI (ci := 2) (T := TX2) (n := 6) (j := 0) (a := 53) (v := (μ 53 0)) dX8_count_48 rfl lay_X2 (by decide) wd_319 (by decide) ly_53 rfl rfl ?_
      exact vx_ret (ty := .int) dX8_count_51 rfl rfl (Nat.le_refl 0) (Nat.le_refl 0) (vx_pst hP (by unfold sp_count; rw [e1_0]; rfl) rfl)
    by_cases e1_1 : x = 1
    · refine vx_eq (st2 := [.inl 1]) rfl rfl (by rw [e1_1]) ?_
      refine vx_tabIn (tgt := 52) dX8_count_1 (by decide) (by decide) rfl (by decide) ?_
      refine vx_aload_n dX8_count_52 rfl ?_
      refine vx_getR (ci := 8) (T := TX8) (n := 8) (j := 7) (a := 0) (r := 53) dX8_count_53 rfl lay_X8 (by decide) wd_350 (by decide) ly_0 rfl ?_
      refine vx_getI (ci := 2) (T := TX2) (n := 6) (j := 1) (a := 53) (v := (μ 53 1)) dX8_count_56 rfl lay_X2 (by decide) wd_321 (by decide) ly_53 rfl rfl ?_
      exact vx_ret (ty := .int) dX8_count_59 rfl rfl (Nat.le_refl 0) (Nat.le_refl 0) (vx_pst hP (by unfold sp_count; rw [e1_1]; rfl) rfl)
    by_cases e1_2 : x = 2
    · refine vx_eq (st2 := [.inl 2]) rfl rfl (by rw [e1_2]) ?_
      refine vx_tabIn (tgt := 60) dX8_count_1 (by decide) (by decide) rfl (by decide) ?_
      refine vx_aload_n dX8_count_60 rfl ?_
      refine vx_getR (ci := 8) (T := TX8) (n := 8) (j := 7) (a := 0) (r := 53) dX8_count_61 rfl lay_X8 (by decide) wd_350 (by decide) ly_0 rfl ?_
      refine vx_getI (ci := 2) (T := TX2) (n := 6) (j := 2) (a := 53) (v := (μ 53 2)) dX8_count_64 rfl lay_X2 (by decide) wd_323 (by decide) ly_53 rfl rfl ?_
      exact vx_ret (ty := .int) dX8_count_67 rfl rfl (Nat.le_refl 0) (Nat.le_refl 0) (vx_pst hP (by unfold sp_count; rw [e1_2]; rfl) rfl)
    by_cases e1_3 : x = 3
    · refine vx_eq (st2 := [.inl 3]) rfl rfl (by rw [e1_3]) ?_
      refine vx_tabIn (tgt := 68) dX8_count_1 (by decide) (by decide) rfl (by decide) ?_
      refine vx_aload_n dX8_count_68 rfl ?_
      refine vx_getR (ci := 8) (T := TX8) (n := 8) (j := 7) (a := 0) (r := 53) dX8_count_69 rfl lay_X8 (by decide) wd_350 (by decide) ly_0 rfl ?_
      refine vx_getI (ci := 2) (T := TX2) (n := 6) (j := 3) (a := 53) (v := (μ 53 3)) dX8_count_72 rfl lay_X2 (by decide) wd_325 (by decide) ly_53 rfl rfl ?_
      exact vx_ret (ty := .int) dX8_count_75 rfl rfl (Nat.le_refl 0) (Nat.le_refl 0) (vx_pst hP (by unfold sp_count; rw [e1_3]; rfl) rfl)
    by_cases e1_4 : x = 4
    · refine vx_eq (st2 := [.inl 4]) rfl rfl (by rw [e1_4]) ?_
      refine vx_tabIn (tgt := 76) dX8_count_1 (by decide) (by decide) rfl (by decide) ?_
      refine vx_aload_n dX8_count_76 rfl ?_
      refine vx_getR (ci := 8) (T := TX8) (n := 8) (j := 2) (a := 0) (r := 6) dX8_count_77 rfl lay_X8 (by decide) wd_345 (by decide) ly_0 rfl ?_
      refine vx_getI (ci := 3) (T := TX3) (n := 12) (j := 0) (a := 6) (v := (μ 6 0)) dX8_count_80 rfl lay_X3 (by decide) wd_135 (by decide) ly_6 rfl rfl ?_
      exact vx_ret (ty := .int) dX8_count_83 rfl rfl (Nat.le_refl 0) (Nat.le_refl 0) (vx_pst hP (by unfold sp_count; rw [e1_4]; rfl) rfl)
    by_cases e1_5 : x = 5
    · refine vx_eq (st2 := [.inl 5]) rfl rfl (by rw [e1_5]) ?_
      refine vx_tabIn (tgt := 84) dX8_count_1 (by decide) (by decide) rfl (by decide) ?_
      refine vx_aload_n dX8_count_84 rfl ?_
      refine vx_getR (ci := 8) (T := TX8) (n := 8) (j := 2) (a := 0) (r := 6) dX8_count_85 rfl lay_X8 (by decide) wd_345 (by decide) ly_0 rfl ?_
      refine vx_getI (ci := 3) (T := TX3) (n := 12) (j := 0) (a := 6) (v := (μ 6 0)) dX8_count_88 rfl lay_X3 (by decide) wd_135 (by decide) ly_6 rfl rfl ?_
      refine vx_aload_n dX8_count_91 rfl ?_
      refine vx_getR (ci := 8) (T := TX8) (n := 8) (j := 2) (a := 0) (r := 6) dX8_count_92 rfl lay_X8 (by decide) wd_345 (by decide) ly_0 rfl ?_
      refine vx_callV (b := 6) (vs := []) (st := [.inl (μ 6 0)]) (r0 := (some (.inl (nI (sp_opn (μ 8) n))))) (μ0 := μ) dX8_count_95 (c_X3_openOnes (d - 1) (by omega) ad μ n hc hn) wd_721 wd_724 wd_48 hy_X3_openOnes wd_722 wd_723 (by decide) ly_6 rfl rfl (by omega) (Nat.le_of_ble_eq_true rfl) (Nat.le_of_ble_eq_true rfl) (Nat.le_refl 0) (Nat.le_refl 0) ?_
      refine vx_eq (μ2 := μ) (ls2 := [(0, vx_r 0), (1, .inl x)]) (st2 := [.inl (nI (sp_opn (μ 8) n)), .inl (μ 6 0)]) rfl rfl rfl ?_
      refine vx_isub dX8_count_98 ?_
      exact vx_ret (ty := .int) dX8_count_99 rfl rfl (Nat.le_refl 0) (Nat.le_refl 0) (vx_pst hP (by unfold sp_count; rw [e1_5]; rfl) rfl)
    by_cases e1_6 : x = 6
    · refine vx_eq (st2 := [.inl 6]) rfl rfl (by rw [e1_6]) ?_
      refine vx_tabIn (tgt := 100) dX8_count_1 (by decide) (by decide) rfl (by decide) ?_
      refine vx_aload_n dX8_count_100 rfl ?_
      refine vx_callV (b := 0) (vs := []) (st := []) (r0 := (some (.inl (sp_how μ pl)))) (μ0 := μ) dX8_count_101 (c_X8_howItIs (d - 1) (by omega) ad μ pl hp hp8) wd_726 wd_729 wd_45 hy_X8_howItIs wd_728 wd_23 (by decide) ly_0 rfl rfl (by omega) (Nat.le_of_ble_eq_true rfl) (Nat.le_of_ble_eq_true rfl) (Nat.le_refl 0) (Nat.le_refl 0) ?_
      refine vx_eq (μ2 := μ) (ls2 := [(0, vx_r 0), (1, .inl x)]) (st2 := [.inl (sp_how μ pl)]) rfl rfl rfl ?_
      exact vx_ret (ty := .int) dX8_count_104 rfl rfl (Nat.le_refl 0) (Nat.le_refl 0) (vx_pst hP (by unfold sp_count; rw [e1_6]; rfl) rfl)
    refine vx_tabOut (tgt := 105) dX8_count_1 (by have t0 : (x).toInt ≠ 0 := fun q => e1_0 (Int32.toInt_inj.mp (q.trans (by decide))); have t1 : (x).toInt ≠ 1 := fun q => e1_1 (Int32.toInt_inj.mp (q.trans (by decide))); have t2 : (x).toInt ≠ 2 := fun q => e1_2 (Int32.toInt_inj.mp (q.trans (by decide))); have t3 : (x).toInt ≠ 3 := fun q => e1_3 (Int32.toInt_inj.mp (q.trans (by decide))); have t4 : (x).toInt ≠ 4 := fun q => e1_4 (Int32.toInt_inj.mp (q.trans (by decide))); have t5 : (x).toInt ≠ 5 := fun q => e1_5 (Int32.toInt_inj.mp (q.trans (by decide))); have t6 : (x).toInt ≠ 6 := fun q => e1_6 (Int32.toInt_inj.mp (q.trans (by decide))); omega) (by decide) ?_
    refine vx_iconst (v := (-1)) dX8_count_105 (by decide) ?_
    exact vx_ret (ty := .int) dX8_count_106 rfl rfl (Nat.le_refl 0) (Nat.le_refl 0) (vx_pst hP (by unfold sp_count; rw [if_neg e1_0, if_neg e1_1, if_neg e1_2, if_neg e1_3, if_neg e1_4, if_neg e1_5, if_neg e1_6]) rfl)
  exact vx_J.M pn_X8_count (Nat.le_of_ble_eq_true rfl) (key _ _ ⟨rfl, rfl, rfl, rfl, rfl⟩)
def sp_planK (μ : vx_mem) (k : Nat) (x : Int32) : Int32 := if x = 0 then μ 48 k else if x = 1 then μ 49 k else if x = 2 then μ 50 k else if x = 3 then μ 51 k else if x = 4 then μ 52 k else -1
theorem sp_in_row {f : Int32} {L : Nat} (hL : L ≤ 7) (h : ¬ sp_in f 0 (nI L - 1) = 0) : ∃ k, f = nI k ∧ k < L := by
  rw [sp_in0] at h
  obtain ⟨h1, h2⟩ := Decidable.not_not.mp h
  rw [zz_le] at h1 h2
  have e1 : (1 : Int32).toInt = 1 := by decide
  have e0 : (0 : Int32).toInt = 0 := by decide
  have e2 : (nI L).toInt = L := nI_toInt (by omega)
  rw [zz_sub (by omega) (by omega)] at h2
  refine ⟨f.toInt.toNat, ?_, by omega⟩
  apply Int32.toInt_inj.mp
  rw [nI_toInt (by omega)]
  omega
set_option maxRecDepth 20000 in
set_option maxHeartbeats 2000000 in
theorem c_X8_planned (d : Nat) (hd : 1 ≤ d) (ad : Nat → Nat) (μ : vx_mem) (L : Nat) (hL : μ 47 0 = nI L) (hL7 : L ≤ 7) (f x : Int32) : vx_Mf yX8_planned cX8_planned 3 (some (.int)) d ad 82 vx_lay μ [vx_r 0, .inl f, .inl x] (some (.inl (if sp_in f 0 (μ 47 0 - 1) = 0 then -1 else sp_planK μ f.toNatClampNeg x))) μ := by
  have key : ∀ (Post : vx_P) (ini : Bool), Post (some (.inl (if sp_in f 0 (μ 47 0 - 1) = 0 then -1 else sp_planK μ f.toNatClampNeg x))) ad 82 vx_lay μ → vx_J RX8 cX8_planned 3 (some (.int)) ini d 0 0 Post ad 0 0 82 vx_lay μ 0 [(0, vx_r 0), (1, .inl f), (2, .inl x)] [] := by
    intro Post ini hP
    refine vx_iload_n dX8_planned_0 rfl ?_
    refine vx_iconst (v := 0) dX8_planned_1 (by decide) ?_
    refine vx_aload_n dX8_planned_2 rfl ?_
    refine vx_getR (ci := 8) (T := TX8) (n := 8) (j := 6) (a := 0) (r := 47) dX8_planned_3 rfl lay_X8 (by decide) wd_349 (by decide) ly_0 rfl ?_
    refine vx_getI (ci := 4) (T := TX4) (n := 8) (j := 0) (a := 47) (v := (nI L)) dX8_planned_6 rfl lay_X4 (by decide) wd_280 (by decide) ly_47 rfl hL ?_
    refine vx_iconst (v := 1) dX8_planned_9 (by decide) ?_
    refine vx_isub dX8_planned_10 ?_
    refine vx_callS (vs := [.inl f, .inl 0, .inl ((nI L) - 1)]) (st := []) (r0 := (some (.inl (sp_in f 0 ((nI L) - 1))))) (μ0 := μ) dX8_planned_11 (c_X8_within (d - 1) ad 82 vx_lay μ f 0 ((nI L) - 1)) wd_507 wd_416 wd_45 hy_X8_within wd_415 (by omega) (Nat.le_of_ble_eq_true rfl) (Nat.le_of_ble_eq_true rfl) (Nat.le_refl 0) (Nat.le_refl 0) ?_
    refine vx_eq (μ2 := μ) (ls2 := [(0, vx_r 0), (1, .inl f), (2, .inl x)]) (st2 := [.inl (sp_in f 0 ((nI L) - 1))]) rfl rfl rfl ?_
    refine vx_if_ne (tgt := 19) dX8_planned_14 (by decide) (fun c_14 => ?_) (fun c_14 => ?_)
    · rw [hL, if_neg c_14] at hP
      obtain ⟨k, rfl, hk⟩ := sp_in_row hL7 c_14
      rw [nI_clamp (by omega)] at hP
      refine vx_iload_n dX8_planned_19 rfl ?_
      by_cases e20_0 : x = 0
      · refine vx_eq (st2 := [.inl 0]) rfl rfl (by rw [e20_0]) ?_
        refine vx_tabIn (tgt := 56) dX8_planned_20 (by decide) (by decide) rfl (by decide) ?_
        refine vx_aload_n dX8_planned_56 rfl ?_
        refine vx_getR (ci := 8) (T := TX8) (n := 8) (j := 6) (a := 0) (r := 47) dX8_planned_57 rfl lay_X8 (by decide) wd_349 (by decide) ly_0 rfl ?_
        refine vx_getR (ci := 4) (T := TX4) (n := 8) (j := 3) (a := 47) (r := 48) dX8_planned_60 rfl lay_X4 (by decide) wd_286 (by decide) ly_47 rfl ?_
        refine vx_iload_n dX8_planned_63 rfl ?_
        refine vx_callS (vs := [vx_r 48, .inl (nI k)]) (st := []) (r0 := (some (.inl (μ 48 k)))) (μ0 := μ) dX8_planned_64 ((c_X8_at (d - 1) ad 82 vx_lay μ 48 7 (by decide) ly_48 (by decide) (nI k)).to (by first | rfl | (exact congrArg (fun z => some (Sum.inl z)) (sp_at_nI (k := k) _ (by omega) (by decide)))) rfl) wd_550 wd_109 wd_45 hy_X8_at wd_108 (by omega) (Nat.le_of_ble_eq_true rfl) (Nat.le_of_ble_eq_true rfl) (Nat.le_refl 0) (Nat.le_refl 0) ?_
        refine vx_eq (μ2 := μ) (ls2 := [(0, vx_r 0), (1, .inl (nI k)), (2, .inl x)]) (st2 := [.inl (μ 48 k)]) rfl rfl rfl ?_
        exact vx_ret (ty := .int) dX8_planned_67 rfl rfl (Nat.le_refl 0) (Nat.le_refl 0) (vx_pst hP (by unfold sp_planK; rw [e20_0]; rfl) rfl)
      by_cases e20_1 : x = 1
      · refine vx_eq (st2 := [.inl 1]) rfl rfl (by rw [e20_1]) ?_
        refine vx_tabIn (tgt := 68) dX8_planned_20 (by decide) (by decide) rfl (by decide) ?_
        refine vx_aload_n dX8_planned_68 rfl ?_
        refine vx_getR (ci := 8) (T := TX8) (n := 8) (j := 6) (a := 0) (r := 47) dX8_planned_69 rfl lay_X8 (by decide) wd_349 (by decide) ly_0 rfl ?_
        refine vx_getR (ci := 4) (T := TX4) (n := 8) (j := 4) (a := 47) (r := 49) dX8_planned_72 rfl lay_X4 (by decide) wd_288 (by decide) ly_47 rfl ?_
        refine vx_iload_n dX8_planned_75 rfl ?_
        refine vx_callS (vs := [vx_r 49, .inl (nI k)]) (st := []) (r0 := (some (.inl (μ 49 k)))) (μ0 := μ) dX8_planned_76 ((c_X8_at (d - 1) ad 82 vx_lay μ 49 7 (by decide) ly_49 (by decide) (nI k)).to (by first | rfl | (exact congrArg (fun z => some (Sum.inl z)) (sp_at_nI (k := k) _ (by omega) (by decide)))) rfl) wd_550 wd_109 wd_45 hy_X8_at wd_108 (by omega) (Nat.le_of_ble_eq_true rfl) (Nat.le_of_ble_eq_true rfl) (Nat.le_refl 0) (Nat.le_refl 0) ?_
        refine vx_eq (μ2 := μ) (ls2 := [(0, vx_r 0), (1, .inl (nI k)), (2, .inl x)]) (st2 := [.inl (μ 49 k)]) rfl rfl rfl ?_
        exact vx_ret (ty := .int) dX8_planned_79 rfl rfl (Nat.le_refl 0) (Nat.le_refl 0) (vx_pst hP (by unfold sp_planK; rw [e20_1]; rfl) rfl)
      by_cases e20_2 : x = 2
      · refine vx_eq (st2 := [.inl 2]) rfl rfl (by rw [e20_2]) ?_
        refine vx_tabIn (tgt := 80) dX8_planned_20 (by decide) (by decide) rfl (by decide) ?_
        refine vx_aload_n dX8_planned_80 rfl ?_
        refine vx_getR (ci := 8) (T := TX8) (n := 8) (j := 6) (a := 0) (r := 47) dX8_planned_81 rfl lay_X8 (by decide) wd_349 (by decide) ly_0 rfl ?_
        refine vx_getR (ci := 4) (T := TX4) (n := 8) (j := 5) (a := 47) (r := 50) dX8_planned_84 rfl lay_X4 (by decide) wd_290 (by decide) ly_47 rfl ?_
        refine vx_iload_n dX8_planned_87 rfl ?_
        refine vx_callS (vs := [vx_r 50, .inl (nI k)]) (st := []) (r0 := (some (.inl (μ 50 k)))) (μ0 := μ) dX8_planned_88 ((c_X8_at (d - 1) ad 82 vx_lay μ 50 7 (by decide) ly_50 (by decide) (nI k)).to (by first | rfl | (exact congrArg (fun z => some (Sum.inl z)) (sp_at_nI (k := k) _ (by omega) (by decide)))) rfl) wd_550 wd_109 wd_45 hy_X8_at wd_108 (by omega) (Nat.le_of_ble_eq_true rfl) (Nat.le_of_ble_eq_true rfl) (Nat.le_refl 0) (Nat.le_refl 0) ?_
        refine vx_eq (μ2 := μ) (ls2 := [(0, vx_r 0), (1, .inl (nI k)), (2, .inl x)]) (st2 := [.inl (μ 50 k)]) rfl rfl rfl ?_
        exact vx_ret (ty := .int) dX8_planned_91 rfl rfl (Nat.le_refl 0) (Nat.le_refl 0) (vx_pst hP (by unfold sp_planK; rw [e20_2]; rfl) rfl)
      by_cases e20_3 : x = 3
      · refine vx_eq (st2 := [.inl 3]) rfl rfl (by rw [e20_3]) ?_
        refine vx_tabIn (tgt := 92) dX8_planned_20 (by decide) (by decide) rfl (by decide) ?_
        refine vx_aload_n dX8_planned_92 rfl ?_
        refine vx_getR (ci := 8) (T := TX8) (n := 8) (j := 6) (a := 0) (r := 47) dX8_planned_93 rfl lay_X8 (by decide) wd_349 (by decide) ly_0 rfl ?_
        refine vx_getR (ci := 4) (T := TX4) (n := 8) (j := 6) (a := 47) (r := 51) dX8_planned_96 rfl lay_X4 (by decide) wd_292 (by decide) ly_47 rfl ?_
        refine vx_iload_n dX8_planned_99 rfl ?_
        refine vx_callS (vs := [vx_r 51, .inl (nI k)]) (st := []) (r0 := (some (.inl (μ 51 k)))) (μ0 := μ) dX8_planned_100 ((c_X8_at (d - 1) ad 82 vx_lay μ 51 7 (by decide) ly_51 (by decide) (nI k)).to (by first | rfl | (exact congrArg (fun z => some (Sum.inl z)) (sp_at_nI (k := k) _ (by omega) (by decide)))) rfl) wd_550 wd_109 wd_45 hy_X8_at wd_108 (by omega) (Nat.le_of_ble_eq_true rfl) (Nat.le_of_ble_eq_true rfl) (Nat.le_refl 0) (Nat.le_refl 0) ?_
        refine vx_eq (μ2 := μ) (ls2 := [(0, vx_r 0), (1, .inl (nI k)), (2, .inl x)]) (st2 := [.inl (μ 51 k)]) rfl rfl rfl ?_
        exact vx_ret (ty := .int) dX8_planned_103 rfl rfl (Nat.le_refl 0) (Nat.le_refl 0) (vx_pst hP (by unfold sp_planK; rw [e20_3]; rfl) rfl)
      by_cases e20_4 : x = 4
      · refine vx_eq (st2 := [.inl 4]) rfl rfl (by rw [e20_4]) ?_
        refine vx_tabIn (tgt := 104) dX8_planned_20 (by decide) (by decide) rfl (by decide) ?_
        refine vx_aload_n dX8_planned_104 rfl ?_
        refine vx_getR (ci := 8) (T := TX8) (n := 8) (j := 6) (a := 0) (r := 47) dX8_planned_105 rfl lay_X8 (by decide) wd_349 (by decide) ly_0 rfl ?_
        refine vx_getR (ci := 4) (T := TX4) (n := 8) (j := 7) (a := 47) (r := 52) dX8_planned_108 rfl lay_X4 (by decide) wd_294 (by decide) ly_47 rfl ?_
        refine vx_iload_n dX8_planned_111 rfl ?_
        refine vx_callS (vs := [vx_r 52, .inl (nI k)]) (st := []) (r0 := (some (.inl (μ 52 k)))) (μ0 := μ) dX8_planned_112 ((c_X8_at (d - 1) ad 82 vx_lay μ 52 7 (by decide) ly_52 (by decide) (nI k)).to (by first | rfl | (exact congrArg (fun z => some (Sum.inl z)) (sp_at_nI (k := k) _ (by omega) (by decide)))) rfl) wd_550 wd_109 wd_45 hy_X8_at wd_108 (by omega) (Nat.le_of_ble_eq_true rfl) (Nat.le_of_ble_eq_true rfl) (Nat.le_refl 0) (Nat.le_refl 0) ?_
        refine vx_eq (μ2 := μ) (ls2 := [(0, vx_r 0), (1, .inl (nI k)), (2, .inl x)]) (st2 := [.inl (μ 52 k)]) rfl rfl rfl ?_
        exact vx_ret (ty := .int) dX8_planned_115 rfl rfl (Nat.le_refl 0) (Nat.le_refl 0) (vx_pst hP (by unfold sp_planK; rw [e20_4]; rfl) rfl)
      refine vx_tabOut (tgt := 116) dX8_planned_20 (by have t0 : (x).toInt ≠ 0 := fun q => e20_0 (Int32.toInt_inj.mp (q.trans (by decide))); have t1 : (x).toInt ≠ 1 := fun q => e20_1 (Int32.toInt_inj.mp (q.trans (by decide))); have t2 : (x).toInt ≠ 2 := fun q => e20_2 (Int32.toInt_inj.mp (q.trans (by decide))); have t3 : (x).toInt ≠ 3 := fun q => e20_3 (Int32.toInt_inj.mp (q.trans (by decide))); have t4 : (x).toInt ≠ 4 := fun q => e20_4 (Int32.toInt_inj.mp (q.trans (by decide))); omega) (by decide) ?_
      refine vx_iconst (v := (-1)) dX8_planned_116 (by decide) ?_
      exact vx_ret (ty := .int) dX8_planned_117 rfl rfl (Nat.le_refl 0) (Nat.le_refl 0) (vx_pst hP (by unfold sp_planK; rw [if_neg e20_0, if_neg e20_1, if_neg e20_2, if_neg e20_3, if_neg e20_4]) rfl)
    · refine vx_iconst (v := (-1)) dX8_planned_17 (by decide) ?_
      exact vx_ret (ty := .int) dX8_planned_18 rfl rfl (Nat.le_refl 0) (Nat.le_refl 0) (vx_pst hP (by rw [hL, if_pos c_14]) rfl)
  exact vx_J.M pn_X8_planned (Nat.le_of_ble_eq_true rfl) (key _ _ ⟨rfl, rfl, rfl, rfl, rfl⟩)
end
