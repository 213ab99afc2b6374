section
variable {own : String} {cc : ByteArray} {nL : Nat} {ret : Option FieldType} {ini : Bool} {d mc ms : Nat} {Post : vx_P} {ad : Nat → Nat} {kc ks N : Nat} {Λ : vx_L} {μ : vx_mem} {pc : Nat} {ls : List (Nat × vx_v)} {st : List vx_v}
theorem vx_ldcw {index : Nat} {v : Int32} (hd : decode cc pc = .ok (.ldc_w index, 3)) (hw : Cond.constant own index v ∈ vx_tbl) (k : vx_J own cc nL ret ini d mc ms Post ad kc ks N Λ μ (pc + 3) ls (.inl v :: st)) : vx_J own cc nL ret ini d mc ms Post ad kc ks N Λ μ pc ls st := by
  intro p l e s m args below meth c D dA A H locs LS hC hS hA hK hP hD hX hl
  exact lv_ldcw hC.1 hC.2.1 hC.2.2.2.2.1 (hC.2.2.2.2.2.1 _ hw) hd (k p l e s m args below meth c D dA A H locs LS hC hS hA hK hP hD hX hl)
end
section
def mo_go (μ : vx_mem) (n f tu L fo : Nat) : Prop := mo_wrk μ → 1 ≤ f ∧ f ≤ n ∧ μ 54 48 = nI tu ∧ μ 54 44 = nI L ∧ tu < L ∧ L ≤ 7 ∧ μ 74 tu = nI f ∧ (tu + 1 < L → μ 74 (tu + 1) = nI fo) ∧ fo < 8 ∧ μ 54 35 = nI f
def mo_dm (μ : vx_mem) (n f tu L fo : Nat) : vx_mem := if ¬ μ 54 38 ≤ 0 then va_up μ 54 (upd (μ 54) 38 (μ 54 38 - 1)) else if ¬ μ 54 36 ≤ 0 then (if μ 54 36 - 1 = 0 then va_up μ 54 (upd (upd (μ 54) 36 (μ 54 36 - 1)) 35 (μ 54 37)) else va_up μ 54 (upd (μ 54) 36 (μ 54 36 - 1))) else if mo_wrk μ ∧ ¬ μ 54 34 < μ 65 f then mo_thr μ n f tu L fo else μ
def mo_day (μ : vx_mem) (n f tu L fo : Nat) : vx_mem := va_up (mo_dm μ n f tu L fo) 54 (upd (mo_dm μ n f tu L fo 54) 34 (mo_dm μ n f tu L fo 54 34 + 1))
set_option maxRecDepth 20000 in
set_option maxHeartbeats 2000000 in
theorem c_X9_oneDay (d : Nat) (hd : 4 ≤ d) (ad : Nat → Nat) (μ : vx_mem) (n : Nat) (hk : mo_ck μ n) (f tu L fo : Nat) (hw : mo_go μ n f tu L fo) : vx_Mf yX9_oneDay cX9_oneDay 1 none d ad 82 vx_lay μ [vx_r 54] none (mo_day μ n f tu L fo) := by
  have key : ∀ (Post : vx_P) (ini : Bool), Post none ad 82 vx_lay (mo_day μ n f tu L fo) → vx_J RX9 cX9_oneDay 1 none ini d 0 0 Post ad 0 0 82 vx_lay μ 0 [(0, vx_r 54)] [] := by
    intro Post ini hP
    refine vx_aload_n dX9_oneDay_0 rfl ?_
    refine vx_getI (ci := 9) (T := TX9) (n := 56) (j := 38) (a := 54) (v := (μ 54 38)) dX9_oneDay_1 rfl lay_X9 (by decide) wd_774 (by decide) ly_54 rfl rfl ?_
    refine vx_if_le (tgt := 20) dX9_oneDay_4 (by decide) (fun c_4 => ?_) (fun c_4 => ?_)
    · refine vx_aload_n dX9_oneDay_20 rfl ?_
      refine vx_getI (ci := 9) (T := TX9) (n := 56) (j := 36) (a := 54) (v := (μ 54 36)) dX9_oneDay_21 rfl lay_X9 (by decide) wd_772 (by decide) ly_54 rfl rfl ?_
      refine vx_if_le (tgt := 55) dX9_oneDay_24 (by decide) (fun c_24 => ?_) (fun c_24 => ?_)
      · refine vx_aload_n dX9_oneDay_55 rfl ?_
        refine vx_callV (b := 54) (vs := []) (st := []) (r0 := (some (.inl (if mo_wrk μ then 1 else 0)))) (μ0 := μ) dX9_oneDay_56 (c_X9_isAtWork (d - 1) ad μ) wd_1031 wd_1034 wd_54 hy_X9_isAtWork wd_1033 wd_41 (by decide) ly_54 rfl rfl (by omega) (Nat.le_of_ble_eq_true rfl) (Nat.le_of_ble_eq_true rfl) (Nat.le_refl 0) (Nat.le_refl 0) ?_
        refine vx_eq (μ2 := μ) (ls2 := [(0, vx_r 54)]) (st2 := [.inl (if mo_wrk μ then 1 else 0)]) rfl rfl rfl ?_
        refine vx_if_eq (tgt := 96) dX9_oneDay_59 (by decide) (fun c_59 => ?_) (fun c_59 => ?_)
        · refine vx_eq (μ2 := (mo_dm μ n f tu L fo)) (by unfold mo_dm; rw [if_neg (fun h => h c_4), if_neg (fun h => h c_24), if_neg (fun h => by have := h.1; rw [if_pos this] at c_59; exact absurd c_59 (by decide))]) rfl rfl ?_
          refine vx_aload_n dX9_oneDay_96 rfl ?_
          refine vx_dup dX9_oneDay_97 ?_
          refine vx_getI (ci := 9) (T := TX9) (n := 56) (j := 34) (a := 54) (v := ((mo_dm μ n f tu L fo) 54 34)) dX9_oneDay_98 rfl lay_X9 (by decide) wd_770 (by decide) ly_54 rfl rfl ?_
          refine vx_iconst (v := 1) dX9_oneDay_101 (by decide) ?_
          refine vx_iadd dX9_oneDay_102 ?_
          refine vx_putI (ci := 9) (T := TX9) (n := 56) (j := 34) (a := 54) (ty := .int) (μ2 := (va_up (mo_dm μ n f tu L fo) 54 (upd ((mo_dm μ n f tu L fo) 54) 34 (((mo_dm μ n f tu L fo) 54 34) + 1)))) dX9_oneDay_103 rfl lay_X9 tyX9_ok nmX9 (by decide) wd_770 rfl rfl rfl rfl (by decide) ly_54 rfl rfl ?_
          exact vx_vret dX9_oneDay_106 rfl (Nat.le_refl 0) (Nat.le_refl 0) (vx_pst hP rfl rfl)
        · have hwk : mo_wrk μ := sp_one c_59
          have hg := hw hwk
          have h7 := hk.2.1
          refine vx_aload_n dX9_oneDay_62 rfl ?_
          refine vx_getI (ci := 9) (T := TX9) (n := 56) (j := 34) (a := 54) (v := (μ 54 34)) dX9_oneDay_63 rfl lay_X9 (by decide) wd_770 (by decide) ly_54 rfl rfl ?_
          refine vx_aload_n dX9_oneDay_66 rfl ?_
          refine vx_getR (ci := 9) (T := TX9) (n := 56) (j := 24) (a := 54) (r := 65) dX9_oneDay_67 rfl lay_X9 (by decide) wd_760 (by decide) ly_54 rfl ?_
          refine vx_aload_n dX9_oneDay_70 rfl ?_
          refine vx_getR (ci := 9) (T := TX9) (n := 56) (j := 39) (a := 54) (r := 74) dX9_oneDay_71 rfl lay_X9 (by decide) wd_775 (by decide) ly_54 rfl ?_
          refine vx_aload_n dX9_oneDay_74 rfl ?_
          refine vx_getI (ci := 9) (T := TX9) (n := 56) (j := 48) (a := 54) (v := (nI tu)) dX9_oneDay_75 rfl lay_X9 (by decide) wd_784 (by decide) ly_54 rfl hg.2.2.1 ?_
          refine vx_iald (a := 74) (n := 7) (v := (nI f)) dX9_oneDay_78 (by decide) ly_74 (vp_in_nI (by omega) (by omega)) (by rw [nI_clamp (by omega)]; exact hg.2.2.2.2.2.2.1) ?_
          refine vx_iald (a := 65) (n := 8) (v := (μ 65 f)) dX9_oneDay_79 (by decide) ly_65 (vp_in_nI (by omega) (by omega)) (by rw [nI_clamp (by omega)] <;> rfl) ?_
          refine vx_icmp_lt (tgt := 96) dX9_oneDay_80 (by decide) (fun c_80 => ?_) (fun c_80 => ?_)
          · refine vx_eq (μ2 := (mo_dm μ n f tu L fo)) (by unfold mo_dm; rw [if_neg (fun h => h c_4), if_neg (fun h => h c_24), if_neg (fun h => h.2 c_80)]) rfl rfl ?_
            refine vx_aload_n dX9_oneDay_96 rfl ?_
            refine vx_dup dX9_oneDay_97 ?_
            refine vx_getI (ci := 9) (T := TX9) (n := 56) (j := 34) (a := 54) (v := ((mo_dm μ n f tu L fo) 54 34)) dX9_oneDay_98 rfl lay_X9 (by decide) wd_770 (by decide) ly_54 rfl rfl ?_
            refine vx_iconst (v := 1) dX9_oneDay_101 (by decide) ?_
            refine vx_iadd dX9_oneDay_102 ?_
            refine vx_putI (ci := 9) (T := TX9) (n := 56) (j := 34) (a := 54) (ty := .int) (μ2 := (va_up (mo_dm μ n f tu L fo) 54 (upd ((mo_dm μ n f tu L fo) 54) 34 (((mo_dm μ n f tu L fo) 54 34) + 1)))) dX9_oneDay_103 rfl lay_X9 tyX9_ok nmX9 (by decide) wd_770 rfl rfl rfl rfl (by decide) ly_54 rfl rfl ?_
            exact vx_vret dX9_oneDay_106 rfl (Nat.le_refl 0) (Nat.le_refl 0) (vx_pst hP rfl rfl)
          · refine vx_aload_n dX9_oneDay_83 rfl ?_
            refine vx_aload_n dX9_oneDay_84 rfl ?_
            refine vx_getR (ci := 9) (T := TX9) (n := 56) (j := 39) (a := 54) (r := 74) dX9_oneDay_85 rfl lay_X9 (by decide) wd_775 (by decide) ly_54 rfl ?_
            refine vx_aload_n dX9_oneDay_88 rfl ?_
            refine vx_getI (ci := 9) (T := TX9) (n := 56) (j := 48) (a := 54) (v := (nI tu)) dX9_oneDay_89 rfl lay_X9 (by decide) wd_784 (by decide) ly_54 rfl hg.2.2.1 ?_
            refine vx_iald (a := 74) (n := 7) (v := (nI f)) dX9_oneDay_92 (by decide) ly_74 (vp_in_nI (by omega) (by omega)) (by rw [nI_clamp (by omega)]; exact hg.2.2.2.2.2.2.1) ?_
            refine vx_callV (b := 54) (vs := [.inl (nI f)]) (st := []) (r0 := none) (μ0 := (mo_thr μ n f tu L fo)) dX9_oneDay_93 (c_X9_threshes (d - 1) (by omega) ad μ n hk f hg.1 hg.2.1 tu L fo hg.2.2.1 hg.2.2.2.1 hg.2.2.2.2.1 hg.2.2.2.2.2.1 hg.2.2.2.2.2.2.2.1 hg.2.2.2.2.2.2.2.2.1 hg.2.2.2.2.2.2.2.2.2) wd_1035 wd_1038 wd_54 hy_X9_threshes wd_1037 wd_42 (by decide) ly_54 rfl rfl (by omega) (Nat.le_of_ble_eq_true rfl) (Nat.le_of_ble_eq_true rfl) (Nat.le_refl 0) (Nat.le_refl 0) ?_
            refine vx_eq (μ2 := (mo_thr μ n f tu L fo)) (ls2 := [(0, vx_r 54)]) (st2 := []) rfl rfl rfl ?_
            refine vx_eq (μ2 := (mo_dm μ n f tu L fo)) (by unfold mo_dm; rw [if_neg (fun h => h c_4), if_neg (fun h => h c_24), if_pos ⟨hwk, c_80⟩]) rfl rfl ?_
            refine vx_aload_n dX9_oneDay_96 rfl ?_
            refine vx_dup dX9_oneDay_97 ?_
            refine vx_getI (ci := 9) (T := TX9) (n := 56) (j := 34) (a := 54) (v := ((mo_dm μ n f tu L fo) 54 34)) dX9_oneDay_98 rfl lay_X9 (by decide) wd_770 (by decide) ly_54 rfl rfl ?_
            refine vx_iconst (v := 1) dX9_oneDay_101 (by decide) ?_
            refine vx_iadd dX9_oneDay_102 ?_
            refine vx_putI (ci := 9) (T := TX9) (n := 56) (j := 34) (a := 54) (ty := .int) (μ2 := (va_up (mo_dm μ n f tu L fo) 54 (upd ((mo_dm μ n f tu L fo) 54) 34 (((mo_dm μ n f tu L fo) 54 34) + 1)))) dX9_oneDay_103 rfl lay_X9 tyX9_ok nmX9 (by decide) wd_770 rfl rfl rfl rfl (by decide) ly_54 rfl rfl ?_
            exact vx_vret dX9_oneDay_106 rfl (Nat.le_refl 0) (Nat.le_refl 0) (vx_pst hP rfl rfl)
      · refine vx_aload_n dX9_oneDay_27 rfl ?_
        refine vx_dup dX9_oneDay_28 ?_
        refine vx_getI (ci := 9) (T := TX9) (n := 56) (j := 36) (a := 54) (v := (μ 54 36)) dX9_oneDay_29 rfl lay_X9 (by decide) wd_772 (by decide) ly_54 rfl rfl ?_
        refine vx_iconst (v := 1) dX9_oneDay_32 (by decide) ?_
        refine vx_isub dX9_oneDay_33 ?_
        refine vx_putI (ci := 9) (T := TX9) (n := 56) (j := 36) (a := 54) (ty := .int) (μ2 := (va_up μ 54 (upd (μ 54) 36 ((μ 54 36) - 1)))) dX9_oneDay_34 rfl lay_X9 tyX9_ok nmX9 (by decide) wd_772 rfl rfl rfl rfl (by decide) ly_54 rfl rfl ?_
        refine vx_aload_n dX9_oneDay_37 rfl ?_
        refine vx_getI (ci := 9) (T := TX9) (n := 56) (j := 36) (a := 54) (v := ((μ 54 36) - 1)) dX9_oneDay_38 rfl lay_X9 (by decide) wd_772 (by decide) ly_54 rfl rfl ?_
        refine vx_if_ne (tgt := 96) dX9_oneDay_41 (by decide) (fun c_41 => ?_) (fun c_41 => ?_)
        · refine vx_eq (μ2 := (mo_dm μ n f tu L fo)) (by unfold mo_dm; rw [if_neg (fun h => h c_4), if_pos c_24, if_neg c_41]) rfl rfl ?_
          refine vx_aload_n dX9_oneDay_96 rfl ?_
          refine vx_dup dX9_oneDay_97 ?_
          refine vx_getI (ci := 9) (T := TX9) (n := 56) (j := 34) (a := 54) (v := ((mo_dm μ n f tu L fo) 54 34)) dX9_oneDay_98 rfl lay_X9 (by decide) wd_770 (by decide) ly_54 rfl rfl ?_
          refine vx_iconst (v := 1) dX9_oneDay_101 (by decide) ?_
          refine vx_iadd dX9_oneDay_102 ?_
          refine vx_putI (ci := 9) (T := TX9) (n := 56) (j := 34) (a := 54) (ty := .int) (μ2 := (va_up (mo_dm μ n f tu L fo) 54 (upd ((mo_dm μ n f tu L fo) 54) 34 (((mo_dm μ n f tu L fo) 54 34) + 1)))) dX9_oneDay_103 rfl lay_X9 tyX9_ok nmX9 (by decide) wd_770 rfl rfl rfl rfl (by decide) ly_54 rfl rfl ?_
          exact vx_vret dX9_oneDay_106 rfl (Nat.le_refl 0) (Nat.le_refl 0) (vx_pst hP rfl rfl)
        · refine vx_aload_n dX9_oneDay_44 rfl ?_
          refine vx_aload_n dX9_oneDay_45 rfl ?_
          refine vx_getI (ci := 9) (T := TX9) (n := 56) (j := 37) (a := 54) (v := (μ 54 37)) dX9_oneDay_46 rfl lay_X9 (by decide) wd_773 (by decide) ly_54 rfl rfl ?_
          refine vx_putI (ci := 9) (T := TX9) (n := 56) (j := 35) (a := 54) (ty := .int) (μ2 := (va_up μ 54 (upd (upd (μ 54) 36 ((μ 54 36) - 1)) 35 (μ 54 37)))) dX9_oneDay_49 rfl lay_X9 tyX9_ok nmX9 (by decide) wd_771 rfl rfl rfl rfl (by decide) ly_54 rfl vx_m1 ?_
          refine vx_goto (tgt := 96) dX9_oneDay_52 (by decide) ?_
          refine vx_eq (μ2 := (mo_dm μ n f tu L fo)) (by unfold mo_dm; rw [if_neg (fun h => h c_4), if_pos c_24, if_pos c_41]) rfl rfl ?_
          refine vx_aload_n dX9_oneDay_96 rfl ?_
          refine vx_dup dX9_oneDay_97 ?_
          refine vx_getI (ci := 9) (T := TX9) (n := 56) (j := 34) (a := 54) (v := ((mo_dm μ n f tu L fo) 54 34)) dX9_oneDay_98 rfl lay_X9 (by decide) wd_770 (by decide) ly_54 rfl rfl ?_
          refine vx_iconst (v := 1) dX9_oneDay_101 (by decide) ?_
          refine vx_iadd dX9_oneDay_102 ?_
          refine vx_putI (ci := 9) (T := TX9) (n := 56) (j := 34) (a := 54) (ty := .int) (μ2 := (va_up (mo_dm μ n f tu L fo) 54 (upd ((mo_dm μ n f tu L fo) 54) 34 (((mo_dm μ n f tu L fo) 54 34) + 1)))) dX9_oneDay_103 rfl lay_X9 tyX9_ok nmX9 (by decide) wd_770 rfl rfl rfl rfl (by decide) ly_54 rfl rfl ?_
          exact vx_vret dX9_oneDay_106 rfl (Nat.le_refl 0) (Nat.le_refl 0) (vx_pst hP rfl rfl)
    · refine vx_aload_n dX9_oneDay_7 rfl ?_
      refine vx_dup dX9_oneDay_8 ?_
      refine vx_getI (ci := 9) (T := TX9) (n := 56) (j := 38) (a := 54) (v := (μ 54 38)) dX9_oneDay_9 rfl lay_X9 (by decide) wd_774 (by decide) ly_54 rfl rfl ?_
      refine vx_iconst (v := 1) dX9_oneDay_12 (by decide) ?_
      refine vx_isub dX9_oneDay_13 ?_
      refine vx_putI (ci := 9) (T := TX9) (n := 56) (j := 38) (a := 54) (ty := .int) (μ2 := (va_up μ 54 (upd (μ 54) 38 ((μ 54 38) - 1)))) dX9_oneDay_14 rfl lay_X9 tyX9_ok nmX9 (by decide) wd_774 rfl rfl rfl rfl (by decide) ly_54 rfl rfl ?_
      refine vx_goto (tgt := 96) dX9_oneDay_17 (by decide) ?_
      refine vx_eq (μ2 := (mo_dm μ n f tu L fo)) (by unfold mo_dm; rw [if_pos c_4]) rfl rfl ?_
      refine vx_aload_n dX9_oneDay_96 rfl ?_
      refine vx_dup dX9_oneDay_97 ?_
      refine vx_getI (ci := 9) (T := TX9) (n := 56) (j := 34) (a := 54) (v := ((mo_dm μ n f tu L fo) 54 34)) dX9_oneDay_98 rfl lay_X9 (by decide) wd_770 (by decide) ly_54 rfl rfl ?_
      refine vx_iconst (v := 1) dX9_oneDay_101 (by decide) ?_
      refine vx_iadd dX9_oneDay_102 ?_
      refine vx_putI (ci := 9) (T := TX9) (n := 56) (j := 34) (a := 54) (ty := .int) (μ2 := (va_up (mo_dm μ n f tu L fo) 54 (upd ((mo_dm μ n f tu L fo) 54) 34 (((mo_dm μ n f tu L fo) 54 34) + 1)))) dX9_oneDay_103 rfl lay_X9 tyX9_ok nmX9 (by decide) wd_770 rfl rfl rfl rfl (by decide) ly_54 rfl rfl ?_
      exact vx_vret dX9_oneDay_106 rfl (Nat.le_refl 0) (Nat.le_refl 0) (vx_pst hP rfl rfl)
  exact vx_J.M pn_X9_oneDay (Nat.le_of_ble_eq_true rfl) (key _ _ ⟨rfl, rfl, rfl, rfl, rfl⟩)
def mo_lookK (μ : vx_mem) (n k : Nat) (x : Int32) : Int32 := if x = 0 then μ 61 k else if x = 1 then mo_sacks μ k else if x = 2 then μ 67 k else if x = 3 then μ 68 k else if x = 4 then μ 70 k * (if μ 69 k = 0 then μ 67 k else mo_sacks μ k) else if x = 5 then (mo_G μ n k).2 else if x = 6 then mo_speed μ n k else if x = 7 then (if μ 68 k = -1 then 0 else μ 56 3 * sp_max 0 (μ 68 k + 1 - μ 66 k - 1)) else -1
def mo_gM (μ : vx_mem) (n k : Nat) : vx_mem := va_up (va_up μ 54 (upd (μ 54) 33 (mo_G μ n k).2)) 73 (mo_gg (mo_G μ n k).1 (μ 73))
def mo_lookM (μ : vx_mem) (n k : Nat) (x : Int32) : vx_mem := if x = 5 then mo_gM μ n k else if x = 6 then mo_gM μ n k else μ
set_option maxRecDepth 20000 in
set_option maxHeartbeats 2000000 in
theorem c_X9_look (d : Nat) (hd : 3 ≤ d) (ad : Nat → Nat) (μ : vx_mem) (ht : μ 54 0 = 0) (n : Nat) (hk : mo_ck μ n) (hne : ¬ 100 * μ 56 2 = 0) (f x : Int32) : vx_Mf yX9_look cX9_look 3 (some (.int)) d ad 82 vx_lay μ [vx_r 54, .inl f, .inl x] (some (.inl (if sp_in f 1 (μ 54 18) = 0 then -1 else mo_lookK μ n f.toNatClampNeg x))) (if sp_in f 1 (μ 54 18) = 0 then μ else mo_lookM μ n f.toNatClampNeg x) := by
  have key : ∀ (Post : vx_P) (ini : Bool), Post (some (.inl (if sp_in f 1 (μ 54 18) = 0 then -1 else mo_lookK μ n f.toNatClampNeg x))) ad 82 vx_lay (if sp_in f 1 (μ 54 18) = 0 then μ else mo_lookM μ n f.toNatClampNeg x) → vx_J RX9 cX9_look 3 (some (.int)) ini d 0 0 Post ad 0 0 82 vx_lay μ 0 [(0, vx_r 54), (1, .inl f), (2, .inl x)] [] := by
    intro Post ini hP
    refine vx_aload_n dX9_look_0 rfl ?_
    refine vx_iconst (v := 0) dX9_look_1 (by decide) ?_
    refine vx_putI (ci := 9) (T := TX9) (n := 56) (j := 0) (a := 54) (ty := .int) (μ2 := (va_up μ 54 (upd (μ 54) 0 0))) dX9_look_2 rfl lay_X9 tyX9_ok nmX9 (by decide) wd_736 rfl rfl rfl rfl (by decide) ly_54 rfl rfl ?_
    refine vx_eq (μ2 := μ) (by rw [sp_ups ht, vx_up_id]) rfl rfl ?_
    refine vx_aload_n dX9_look_5 rfl ?_
    refine vx_iload_n dX9_look_6 rfl ?_
    refine vx_callV (b := 54) (vs := [.inl f]) (st := []) (r0 := (some (.inl (sp_in f 1 (μ 54 18))))) (μ0 := μ) dX9_look_7 (c_X9_isFarm (d - 1) ad μ f) wd_961 wd_964 wd_54 hy_X9_isFarm wd_963 wd_29 (by decide) ly_54 rfl rfl (by omega) (Nat.le_of_ble_eq_true rfl) (Nat.le_of_ble_eq_true rfl) (Nat.le_refl 0) (Nat.le_refl 0) ?_
    refine vx_eq (μ2 := μ) (ls2 := [(0, vx_r 54), (1, .inl f), (2, .inl x)]) (st2 := [.inl (sp_in f 1 (μ 54 18))]) rfl rfl rfl ?_
    refine vx_if_ne (tgt := 15) dX9_look_10 (by decide) (fun c_10 => ?_) (fun c_10 => ?_)
    · have hc := hk.1
      have hn := hk.2.1
      rw [if_neg c_10, if_neg c_10] at hP
      obtain ⟨k, rfl, k1, k2⟩ := sp_in_far hc hn c_10
      rw [nI_clamp (by omega)] at hP
      refine vx_iload_n dX9_look_15 rfl ?_
      by_cases e16_0 : x = 0
      · refine vx_eq (st2 := [.inl 0]) rfl rfl (by rw [e16_0]) ?_
        refine vx_tabIn (tgt := 64) dX9_look_16 (by decide) (by decide) rfl (by decide) ?_
        refine vx_aload_n dX9_look_64 rfl ?_
        refine vx_getR (ci := 9) (T := TX9) (n := 56) (j := 20) (a := 54) (r := 61) dX9_look_65 rfl lay_X9 (by decide) wd_756 (by decide) ly_54 rfl ?_
        refine vx_iload_n dX9_look_68 rfl ?_
        refine vx_iald (a := 61) (n := 8) (v := (μ 61 k)) dX9_look_69 (by decide) ly_61 (vp_in_nI (by omega) (by omega)) (by rw [nI_clamp (by omega)] <;> rfl) ?_
        exact vx_ret (ty := .int) dX9_look_70 rfl rfl (Nat.le_refl 0) (Nat.le_refl 0) (vx_pst hP (by unfold mo_lookK; rw [e16_0]; rfl) (by unfold mo_lookM; rw [if_neg (by rw [e16_0]; decide), if_neg (by rw [e16_0]; decide)]))
      by_cases e16_1 : x = 1
      · refine vx_eq (st2 := [.inl 1]) rfl rfl (by rw [e16_1]) ?_
        refine vx_tabIn (tgt := 71) dX9_look_16 (by decide) (by decide) rfl (by decide) ?_
        refine vx_aload_n dX9_look_71 rfl ?_
        refine vx_iload_n dX9_look_72 rfl ?_
        refine vx_callV (b := 54) (vs := [.inl (nI k)]) (st := []) (r0 := (some (.inl (mo_sacks μ k)))) (μ0 := μ) dX9_look_73 (c_X9_sacksOf (d - 1) ad μ k (by omega) hne) wd_1043 wd_1046 wd_54 hy_X9_sacksOf wd_1045 wd_43 (by decide) ly_54 rfl rfl (by omega) (Nat.le_of_ble_eq_true rfl) (Nat.le_of_ble_eq_true rfl) (Nat.le_refl 0) (Nat.le_refl 0) ?_
        refine vx_eq (μ2 := μ) (ls2 := [(0, vx_r 54), (1, .inl (nI k)), (2, .inl x)]) (st2 := [.inl (mo_sacks μ k)]) rfl rfl rfl ?_
        exact vx_ret (ty := .int) dX9_look_76 rfl rfl (Nat.le_refl 0) (Nat.le_refl 0) (vx_pst hP (by unfold mo_lookK; rw [e16_1]; rfl) (by unfold mo_lookM; rw [if_neg (by rw [e16_1]; decide), if_neg (by rw [e16_1]; decide)]))
      by_cases e16_2 : x = 2
      · refine vx_eq (st2 := [.inl 2]) rfl rfl (by rw [e16_2]) ?_
        refine vx_tabIn (tgt := 77) dX9_look_16 (by decide) (by decide) rfl (by decide) ?_
        refine vx_aload_n dX9_look_77 rfl ?_
        refine vx_getR (ci := 9) (T := TX9) (n := 56) (j := 26) (a := 54) (r := 67) dX9_look_78 rfl lay_X9 (by decide) wd_762 (by decide) ly_54 rfl ?_
        refine vx_iload_n dX9_look_81 rfl ?_
        refine vx_iald (a := 67) (n := 8) (v := (μ 67 k)) dX9_look_82 (by decide) ly_67 (vp_in_nI (by omega) (by omega)) (by rw [nI_clamp (by omega)] <;> rfl) ?_
        exact vx_ret (ty := .int) dX9_look_83 rfl rfl (Nat.le_refl 0) (Nat.le_refl 0) (vx_pst hP (by unfold mo_lookK; rw [e16_2]; rfl) (by unfold mo_lookM; rw [if_neg (by rw [e16_2]; decide), if_neg (by rw [e16_2]; decide)]))
      by_cases e16_3 : x = 3
      · refine vx_eq (st2 := [.inl 3]) rfl rfl (by rw [e16_3]) ?_
        refine vx_tabIn (tgt := 84) dX9_look_16 (by decide) (by decide) rfl (by decide) ?_
        refine vx_aload_n dX9_look_84 rfl ?_
        refine vx_getR (ci := 9) (T := TX9) (n := 56) (j := 27) (a := 54) (r := 68) dX9_look_85 rfl lay_X9 (by decide) wd_763 (by decide) ly_54 rfl ?_
        refine vx_iload_n dX9_look_88 rfl ?_
        refine vx_iald (a := 68) (n := 8) (v := (μ 68 k)) dX9_look_89 (by decide) ly_68 (vp_in_nI (by omega) (by omega)) (by rw [nI_clamp (by omega)] <;> rfl) ?_
        exact vx_ret (ty := .int) dX9_look_90 rfl rfl (Nat.le_refl 0) (Nat.le_refl 0) (vx_pst hP (by unfold mo_lookK; rw [e16_3]; rfl) (by unfold mo_lookM; rw [if_neg (by rw [e16_3]; decide), if_neg (by rw [e16_3]; decide)]))
      by_cases e16_4 : x = 4
      · refine vx_eq (st2 := [.inl 4]) rfl rfl (by rw [e16_4]) ?_
        refine vx_tabIn (tgt := 91) dX9_look_16 (by decide) (by decide) rfl (by decide) ?_
        refine vx_aload_n dX9_look_91 rfl ?_
        refine vx_getR (ci := 9) (T := TX9) (n := 56) (j := 29) (a := 54) (r := 70) dX9_look_92 rfl lay_X9 (by decide) wd_765 (by decide) ly_54 rfl ?_
        refine vx_iload_n dX9_look_95 rfl ?_
        refine vx_iald (a := 70) (n := 8) (v := (μ 70 k)) dX9_look_96 (by decide) ly_70 (vp_in_nI (by omega) (by omega)) (by rw [nI_clamp (by omega)] <;> rfl) ?_
        refine vx_aload_n dX9_look_97 rfl ?_
        refine vx_getR (ci := 9) (T := TX9) (n := 56) (j := 28) (a := 54) (r := 69) dX9_look_98 rfl lay_X9 (by decide) wd_764 (by decide) ly_54 rfl ?_
        refine vx_iload_n dX9_look_101 rfl ?_
        refine vx_iald (a := 69) (n := 8) (v := (μ 69 k)) dX9_look_102 (by decide) ly_69 (vp_in_nI (by omega) (by omega)) (by rw [nI_clamp (by omega)] <;> rfl) ?_
        refine vx_if_ne (tgt := 115) dX9_look_103 (by decide) (fun c_103 => ?_) (fun c_103 => ?_)
        · refine vx_aload_n dX9_look_115 rfl ?_
          refine vx_iload_n dX9_look_116 rfl ?_
          refine vx_callV (b := 54) (vs := [.inl (nI k)]) (st := [.inl (μ 70 k)]) (r0 := (some (.inl (mo_sacks μ k)))) (μ0 := μ) dX9_look_117 (c_X9_sacksOf (d - 1) ad μ k (by omega) hne) wd_1043 wd_1046 wd_54 hy_X9_sacksOf wd_1045 wd_43 (by decide) ly_54 rfl rfl (by omega) (Nat.le_of_ble_eq_true rfl) (Nat.le_of_ble_eq_true rfl) (Nat.le_refl 0) (Nat.le_refl 0) ?_
          refine vx_eq (μ2 := μ) (ls2 := [(0, vx_r 54), (1, .inl (nI k)), (2, .inl x)]) (st2 := [.inl (mo_sacks μ k), .inl (μ 70 k)]) rfl rfl rfl ?_
          refine vx_imul dX9_look_120 ?_
          exact vx_ret (ty := .int) dX9_look_121 rfl rfl (Nat.le_refl 0) (Nat.le_refl 0) (vx_pst hP (by unfold mo_lookK; have q : ¬ μ 69 k = 0 := c_103; rw [e16_4]; show _ = some (Sum.inl (μ 70 k * (if μ 69 k = 0 then μ 67 k else mo_sacks μ k))); rw [if_neg q]) (by unfold mo_lookM; rw [if_neg (by rw [e16_4]; decide), if_neg (by rw [e16_4]; decide)]))
        · refine vx_aload_n dX9_look_106 rfl ?_
          refine vx_getR (ci := 9) (T := TX9) (n := 56) (j := 26) (a := 54) (r := 67) dX9_look_107 rfl lay_X9 (by decide) wd_762 (by decide) ly_54 rfl ?_
          refine vx_iload_n dX9_look_110 rfl ?_
          refine vx_iald (a := 67) (n := 8) (v := (μ 67 k)) dX9_look_111 (by decide) ly_67 (vp_in_nI (by omega) (by omega)) (by rw [nI_clamp (by omega)] <;> rfl) ?_
          refine vx_goto (tgt := 120) dX9_look_112 (by decide) ?_
          refine vx_imul dX9_look_120 ?_
          exact vx_ret (ty := .int) dX9_look_121 rfl rfl (Nat.le_refl 0) (Nat.le_refl 0) (vx_pst hP (by unfold mo_lookK; have q : μ 69 k = 0 := c_103; rw [e16_4]; show _ = some (Sum.inl (μ 70 k * (if μ 69 k = 0 then μ 67 k else mo_sacks μ k))); rw [if_pos q]) (by unfold mo_lookM; rw [if_neg (by rw [e16_4]; decide), if_neg (by rw [e16_4]; decide)]))
      by_cases e16_5 : x = 5
      · refine vx_eq (st2 := [.inl 5]) rfl rfl (by rw [e16_5]) ?_
        refine vx_tabIn (tgt := 122) dX9_look_16 (by decide) (by decide) rfl (by decide) ?_
        refine vx_aload_n dX9_look_122 rfl ?_
        refine vx_iload_n dX9_look_123 rfl ?_
        refine vx_callV (b := 54) (vs := [.inl (nI k)]) (st := []) (r0 := none) (μ0 := (va_up (va_up μ 54 (upd (μ 54) 33 (mo_G μ n k).2)) 73 (mo_gg (mo_G μ n k).1 (μ 73)))) dX9_look_124 (c_X9_gangs (d - 1) (by omega) ad μ n hk k (by omega) (by omega)) wd_981 wd_984 wd_54 hy_X9_gangs wd_983 wd_33 (by decide) ly_54 rfl rfl (by omega) (Nat.le_of_ble_eq_true rfl) (Nat.le_of_ble_eq_true rfl) (Nat.le_refl 0) (Nat.le_refl 0) ?_
        refine vx_eq (μ2 := (va_up (va_up μ 54 (upd (μ 54) 33 (mo_G μ n k).2)) 73 (mo_gg (mo_G μ n k).1 (μ 73)))) (ls2 := [(0, vx_r 54), (1, .inl (nI k)), (2, .inl x)]) (st2 := []) rfl rfl rfl ?_
        refine vx_aload_n dX9_look_127 rfl ?_
        refine vx_getI (ci := 9) (T := TX9) (n := 56) (j := 33) (a := 54) (v := (mo_G μ n k).2) dX9_look_128 rfl lay_X9 (by decide) wd_769 (by decide) ly_54 rfl rfl ?_
        exact vx_ret (ty := .int) dX9_look_131 rfl rfl (Nat.le_refl 0) (Nat.le_refl 0) (vx_pst hP (by unfold mo_lookK; rw [e16_5]; rfl) (by unfold mo_lookM; rw [if_pos e16_5]; rfl))
      by_cases e16_6 : x = 6
      · refine vx_eq (st2 := [.inl 6]) rfl rfl (by rw [e16_6]) ?_
        refine vx_tabIn (tgt := 132) dX9_look_16 (by decide) (by decide) rfl (by decide) ?_
        refine vx_aload_n dX9_look_132 rfl ?_
        refine vx_iload_n dX9_look_133 rfl ?_
        refine vx_callV (b := 54) (vs := [.inl (nI k)]) (st := []) (r0 := (some (.inl (mo_speed μ n k)))) (μ0 := (va_up (va_up μ 54 (upd (μ 54) 33 (mo_G μ n k).2)) 73 (mo_gg (mo_G μ n k).1 (μ 73)))) dX9_look_134 (c_X9_speedOf (d - 1) (by omega) ad μ n hk k (by omega) (by omega)) wd_977 wd_980 wd_54 hy_X9_speedOf wd_979 wd_32 (by decide) ly_54 rfl rfl (by omega) (Nat.le_of_ble_eq_true rfl) (Nat.le_of_ble_eq_true rfl) (Nat.le_refl 0) (Nat.le_refl 0) ?_
        refine vx_eq (μ2 := (va_up (va_up μ 54 (upd (μ 54) 33 (mo_G μ n k).2)) 73 (mo_gg (mo_G μ n k).1 (μ 73)))) (ls2 := [(0, vx_r 54), (1, .inl (nI k)), (2, .inl x)]) (st2 := [.inl (mo_speed μ n k)]) rfl rfl rfl ?_
        exact vx_ret (ty := .int) dX9_look_137 rfl rfl (Nat.le_refl 0) (Nat.le_refl 0) (vx_pst hP (by unfold mo_lookK; rw [e16_6]; rfl) (by unfold mo_lookM; rw [if_neg e16_5, if_pos e16_6]; rfl))
      by_cases e16_7 : x = 7
      · refine vx_eq (st2 := [.inl 7]) rfl rfl (by rw [e16_7]) ?_
        refine vx_tabIn (tgt := 138) dX9_look_16 (by decide) (by decide) rfl (by decide) ?_
        refine vx_aload_n dX9_look_138 rfl ?_
        refine vx_getR (ci := 9) (T := TX9) (n := 56) (j := 27) (a := 54) (r := 68) dX9_look_139 rfl lay_X9 (by decide) wd_763 (by decide) ly_54 rfl ?_
        refine vx_iload_n dX9_look_142 rfl ?_
        refine vx_iald (a := 68) (n := 8) (v := (μ 68 k)) dX9_look_143 (by decide) ly_68 (vp_in_nI (by omega) (by omega)) (by rw [nI_clamp (by omega)] <;> rfl) ?_
        refine vx_iconst (v := (-1)) dX9_look_144 (by decide) ?_
        refine vx_icmp_ne (tgt := 152) dX9_look_145 (by decide) (fun c_145 => ?_) (fun c_145 => ?_)
        · refine vx_aload_n dX9_look_152 rfl ?_
          refine vx_aload_n dX9_look_153 rfl ?_
          refine vx_getR (ci := 9) (T := TX9) (n := 56) (j := 27) (a := 54) (r := 68) dX9_look_154 rfl lay_X9 (by decide) wd_763 (by decide) ly_54 rfl ?_
          refine vx_iload_n dX9_look_157 rfl ?_
          refine vx_iald (a := 68) (n := 8) (v := (μ 68 k)) dX9_look_158 (by decide) ly_68 (vp_in_nI (by omega) (by omega)) (by rw [nI_clamp (by omega)] <;> rfl) ?_
          refine vx_iconst (v := 1) dX9_look_159 (by decide) ?_
          refine vx_iadd dX9_look_160 ?_
          refine vx_iload_n dX9_look_161 rfl ?_
          refine vx_callV (b := 54) (vs := [.inl ((μ 68 k) + 1), .inl (nI k)]) (st := []) (r0 := (some (.inl ((μ 56 3) * sp_max 0 (((μ 68 k) + 1) - (μ 66 k) - 1))))) (μ0 := μ) dX9_look_162 (c_X9_lossOf (d - 1) (by omega) ad μ ((μ 68 k) + 1) k (by omega)) wd_991 wd_994 wd_54 hy_X9_lossOf wd_993 wd_35 (by decide) ly_54 rfl rfl (by omega) (Nat.le_of_ble_eq_true rfl) (Nat.le_of_ble_eq_true rfl) (Nat.le_refl 0) (Nat.le_refl 0) ?_
          refine vx_eq (μ2 := μ) (ls2 := [(0, vx_r 54), (1, .inl (nI k)), (2, .inl x)]) (st2 := [.inl ((μ 56 3) * sp_max 0 (((μ 68 k) + 1) - (μ 66 k) - 1))]) rfl rfl rfl ?_
          exact vx_ret (ty := .int) dX9_look_165 rfl rfl (Nat.le_refl 0) (Nat.le_refl 0) (vx_pst hP (by unfold mo_lookK; rw [e16_7]; show _ = some (Sum.inl (if μ 68 k = -1 then (0 : Int32) else μ 56 3 * sp_max 0 (μ 68 k + 1 - μ 66 k - 1))); rw [if_neg c_145]) (by unfold mo_lookM; rw [if_neg (by rw [e16_7]; decide), if_neg (by rw [e16_7]; decide)]))
        · refine vx_iconst (v := 0) dX9_look_148 (by decide) ?_
          refine vx_goto (tgt := 165) dX9_look_149 (by decide) ?_
          exact vx_ret (ty := .int) dX9_look_165 rfl rfl (Nat.le_refl 0) (Nat.le_refl 0) (vx_pst hP (by unfold mo_lookK; rw [e16_7]; show _ = some (Sum.inl (if μ 68 k = -1 then (0 : Int32) else μ 56 3 * sp_max 0 (μ 68 k + 1 - μ 66 k - 1))); rw [if_pos c_145]) (by unfold mo_lookM; rw [if_neg (by rw [e16_7]; decide), if_neg (by rw [e16_7]; decide)]))
      refine vx_tabOut (tgt := 166) dX9_look_16 (by have t0 : (x).toInt ≠ 0 := fun q => e16_0 (Int32.toInt_inj.mp (q.trans (by decide))); have t1 : (x).toInt ≠ 1 := fun q => e16_1 (Int32.toInt_inj.mp (q.trans (by decide))); have t2 : (x).toInt ≠ 2 := fun q => e16_2 (Int32.toInt_inj.mp (q.trans (by decide))); have t3 : (x).toInt ≠ 3 := fun q => e16_3 (Int32.toInt_inj.mp (q.trans (by decide))); have t4 : (x).toInt ≠ 4 := fun q => e16_4 (Int32.toInt_inj.mp (q.trans (by decide))); have t5 : (x).toInt ≠ 5 := fun q => e16_5 (Int32.toInt_inj.mp (q.trans (by decide))); have t6 : (x).toInt ≠ 6 := fun q => e16_6 (Int32.toInt_inj.mp (q.trans (by decide))); have t7 : (x).toInt ≠ 7 := fun q => e16_7 (Int32.toInt_inj.mp (q.trans (by decide))); omega) (by decide) ?_
      refine vx_iconst (v := (-1)) dX9_look_166 (by decide) ?_
      exact vx_ret (ty := .int) dX9_look_167 rfl rfl (Nat.le_refl 0) (Nat.le_refl 0) (vx_pst hP (by unfold mo_lookK; rw [if_neg e16_0, if_neg e16_1, if_neg e16_2, if_neg e16_3, if_neg e16_4, if_neg e16_5, if_neg e16_6, if_neg e16_7]) (by unfold mo_lookM; rw [if_neg e16_5, if_neg e16_6]))
    · refine vx_iconst (v := (-1)) dX9_look_13 (by decide) ?_
      exact vx_ret (ty := .int) dX9_look_14 rfl rfl (Nat.le_refl 0) (Nat.le_refl 0) (vx_pst hP (by rw [if_pos c_10]) (by rw [if_pos c_10]))
  exact vx_J.M pn_X9_look (Nat.le_of_ble_eq_true rfl) (key _ _ ⟨rfl, rfl, rfl, rfl, rfl⟩)
abbrev mo_two (μ : vx_mem) (a b : Int32) : Prop := ¬ sp_in a 1 (μ 54 18) = 0 ∧ ¬ sp_in b 1 (μ 54 18) = 0 ∧ ¬ a = b
set_option maxRecDepth 20000 in
set_option maxHeartbeats 2000000 in
theorem c_X9_owed (d : Nat) (hd : 1 ≤ d) (ad : Nat → Nat) (μ : vx_mem) (ht : μ 54 0 = 0) (n : Nat) (hc : μ 54 18 = nI n) (hn : n ≤ 7) (a b : Int32) : vx_Mf yX9_owed cX9_owed 3 (some (.int)) d ad 82 vx_lay μ [vx_r 54, .inl a, .inl b] (some (.inl (if mo_two μ a b then μ 72 (8 * a.toNatClampNeg + b.toNatClampNeg) else -2147483648))) μ := by
  have key : ∀ (Post : vx_P) (ini : Bool), Post (some (.inl (if mo_two μ a b then μ 72 (8 * a.toNatClampNeg + b.toNatClampNeg) else -2147483648))) ad 82 vx_lay μ → vx_J RX9 cX9_owed 3 (some (.int)) ini d 0 0 Post ad 0 0 82 vx_lay μ 0 [(0, vx_r 54), (1, .inl a), (2, .inl b)] [] := by
    intro Post ini hP
    refine vx_aload_n dX9_owed_0 rfl ?_
    refine vx_iconst (v := 0) dX9_owed_1 (by decide) ?_
    refine vx_putI (ci := 9) (T := TX9) (n := 56) (j := 0) (a := 54) (ty := .int) (μ2 := (va_up μ 54 (upd (μ 54) 0 0))) dX9_owed_2 rfl lay_X9 tyX9_ok nmX9 (by decide) wd_736 rfl rfl rfl rfl (by decide) ly_54 rfl rfl ?_
    refine vx_eq (μ2 := μ) (by rw [sp_ups ht, vx_up_id]) rfl rfl ?_
    refine vx_aload_n dX9_owed_5 rfl ?_
    refine vx_iload_n dX9_owed_6 rfl ?_
    refine vx_callV (b := 54) (vs := [.inl a]) (st := []) (r0 := (some (.inl (sp_in a 1 (μ 54 18))))) (μ0 := μ) dX9_owed_7 (c_X9_isFarm (d - 1) ad μ a) wd_961 wd_964 wd_54 hy_X9_isFarm wd_963 wd_29 (by decide) ly_54 rfl rfl (by omega) (Nat.le_of_ble_eq_true rfl) (Nat.le_of_ble_eq_true rfl) (Nat.le_refl 0) (Nat.le_refl 0) ?_
    refine vx_eq (μ2 := μ) (ls2 := [(0, vx_r 54), (1, .inl a), (2, .inl b)]) (st2 := [.inl (sp_in a 1 (μ 54 18))]) rfl rfl rfl ?_
    refine vx_if_eq (tgt := 26) dX9_owed_10 (by decide) (fun c_10 => ?_) (fun c_10 => ?_)
    · refine vx_ldcw (v := (-2147483648)) dX9_owed_26 wd_1051 ?_
      refine vx_goto (tgt := 43) dX9_owed_29 (by decide) ?_
      exact vx_ret (ty := .int) dX9_owed_43 rfl rfl (Nat.le_refl 0) (Nat.le_refl 0) (vx_pst hP (by rw [if_neg (show ¬ mo_two μ a b from fun h => h.1 c_10)]) rfl)
    · refine vx_aload_n dX9_owed_13 rfl ?_
      refine vx_iload_n dX9_owed_14 rfl ?_
      refine vx_callV (b := 54) (vs := [.inl b]) (st := []) (r0 := (some (.inl (sp_in b 1 (μ 54 18))))) (μ0 := μ) dX9_owed_15 (c_X9_isFarm (d - 1) ad μ b) wd_961 wd_964 wd_54 hy_X9_isFarm wd_963 wd_29 (by decide) ly_54 rfl rfl (by omega) (Nat.le_of_ble_eq_true rfl) (Nat.le_of_ble_eq_true rfl) (Nat.le_refl 0) (Nat.le_refl 0) ?_
      refine vx_eq (μ2 := μ) (ls2 := [(0, vx_r 54), (1, .inl a), (2, .inl b)]) (st2 := [.inl (sp_in b 1 (μ 54 18))]) rfl rfl rfl ?_
      refine vx_if_eq (tgt := 26) dX9_owed_18 (by decide) (fun c_18 => ?_) (fun c_18 => ?_)
      · refine vx_ldcw (v := (-2147483648)) dX9_owed_26 wd_1051 ?_
        refine vx_goto (tgt := 43) dX9_owed_29 (by decide) ?_
        exact vx_ret (ty := .int) dX9_owed_43 rfl rfl (Nat.le_refl 0) (Nat.le_refl 0) (vx_pst hP (by rw [if_neg (show ¬ mo_two μ a b from fun h => h.2.1 c_18)]) rfl)
      · refine vx_iload_n dX9_owed_21 rfl ?_
        refine vx_iload_n dX9_owed_22 rfl ?_
        refine vx_icmp_ne (tgt := 32) dX9_owed_23 (by decide) (fun c_23 => ?_) (fun c_23 => ?_)
        · have hok : mo_two μ a b := ⟨c_10, c_18, c_23⟩
          obtain ⟨i, hia, hi1, hi2⟩ := sp_in_far hc hn c_10
          obtain ⟨j, hjb, hj1, hj2⟩ := sp_in_far hc hn c_18
          subst hia; subst hjb
          refine vx_aload_n dX9_owed_32 rfl ?_
          refine vx_getR (ci := 9) (T := TX9) (n := 56) (j := 31) (a := 54) (r := 72) dX9_owed_33 rfl lay_X9 (by decide) wd_767 (by decide) ly_54 rfl ?_
          refine vx_bipush (v := 8) dX9_owed_36 (by decide) ?_
          refine vx_iload_n dX9_owed_38 rfl ?_
          refine vx_imul dX9_owed_39 ?_
          refine vx_eq (st2 := [.inl (nI (8 * i)), vx_r 72]) rfl rfl (by rw [show (8 : Int32) = nI 8 from rfl, pk_mul]) ?_
          refine vx_iload_n dX9_owed_40 rfl ?_
          refine vx_iadd dX9_owed_41 ?_
          refine vx_eq (st2 := [.inl (nI ((8 * i) + j)), vx_r 72]) rfl rfl (by rw [nI_add]) ?_
          refine vx_iald (a := 72) (n := 64) (v := (μ 72 ((8 * i) + j))) dX9_owed_42 (by decide) ly_72 (vp_in_nI (by omega) (by omega)) (by rw [nI_clamp (by omega)] <;> rfl) ?_
          exact vx_ret (ty := .int) dX9_owed_43 rfl rfl (Nat.le_refl 0) (Nat.le_refl 0) (vx_pst hP (by rw [if_pos hok, nI_clamp (by omega), nI_clamp (by omega)]) rfl)
        · refine vx_ldcw (v := (-2147483648)) dX9_owed_26 wd_1051 ?_
          refine vx_goto (tgt := 43) dX9_owed_29 (by decide) ?_
          exact vx_ret (ty := .int) dX9_owed_43 rfl rfl (Nat.le_refl 0) (Nat.le_refl 0) (vx_pst hP (by rw [if_neg (show ¬ mo_two μ a b from fun h => h.2.2 c_23)]) rfl)
  exact vx_J.M pn_X9_owed (Nat.le_of_ble_eq_true rfl) (key _ _ ⟨rfl, rfl, rfl, rfl, rfl⟩)
set_option maxRecDepth 20000 in
set_option maxHeartbeats 2000000 in
theorem c_X9_lent (d : Nat) (hd : 2 ≤ d) (ad : Nat → Nat) (μ : vx_mem) (ht : μ 54 0 = 0) (n : Nat) (hk : mo_ck μ n) (a b : Int32) : vx_Mf yX9_lent cX9_lent 3 (some (.int)) d ad 82 vx_lay μ [vx_r 54, .inl a, .inl b] (some (.inl (if mo_two μ a b then mo_gg (mo_G μ n a.toNatClampNeg).1 (μ 73) b.toNatClampNeg else -1))) (if mo_two μ a b then mo_gM μ n a.toNatClampNeg else μ) := by
  have key : ∀ (Post : vx_P) (ini : Bool), Post (some (.inl (if mo_two μ a b then mo_gg (mo_G μ n a.toNatClampNeg).1 (μ 73) b.toNatClampNeg else -1))) ad 82 vx_lay (if mo_two μ a b then mo_gM μ n a.toNatClampNeg else μ) → vx_J RX9 cX9_lent 3 (some (.int)) ini d 0 0 Post ad 0 0 82 vx_lay μ 0 [(0, vx_r 54), (1, .inl a), (2, .inl b)] [] := by
    intro Post ini hP
    refine vx_aload_n dX9_lent_0 rfl ?_
    refine vx_iconst (v := 0) dX9_lent_1 (by decide) ?_
    refine vx_putI (ci := 9) (T := TX9) (n := 56) (j := 0) (a := 54) (ty := .int) (μ2 := (va_up μ 54 (upd (μ 54) 0 0))) dX9_lent_2 rfl lay_X9 tyX9_ok nmX9 (by decide) wd_736 rfl rfl rfl rfl (by decide) ly_54 rfl rfl ?_
    refine vx_eq (μ2 := μ) (by rw [sp_ups ht, vx_up_id]) rfl rfl ?_
    refine vx_aload_n dX9_lent_5 rfl ?_
    refine vx_iload_n dX9_lent_6 rfl ?_
    refine vx_callV (b := 54) (vs := [.inl a]) (st := []) (r0 := (some (.inl (sp_in a 1 (μ 54 18))))) (μ0 := μ) dX9_lent_7 (c_X9_isFarm (d - 1) ad μ a) wd_961 wd_964 wd_54 hy_X9_isFarm wd_963 wd_29 (by decide) ly_54 rfl rfl (by omega) (Nat.le_of_ble_eq_true rfl) (Nat.le_of_ble_eq_true rfl) (Nat.le_refl 0) (Nat.le_refl 0) ?_
    refine vx_eq (μ2 := μ) (ls2 := [(0, vx_r 54), (1, .inl a), (2, .inl b)]) (st2 := [.inl (sp_in a 1 (μ 54 18))]) rfl rfl rfl ?_
    refine vx_if_eq (tgt := 26) dX9_lent_10 (by decide) (fun c_10 => ?_) (fun c_10 => ?_)
    · refine vx_iconst (v := (-1)) dX9_lent_26 (by decide) ?_
      exact vx_ret (ty := .int) dX9_lent_27 rfl rfl (Nat.le_refl 0) (Nat.le_refl 0) (vx_pst hP (by rw [if_neg (show ¬ mo_two μ a b from fun h => h.1 c_10)]) (by rw [if_neg (show ¬ mo_two μ a b from fun h => h.1 c_10)]))
    · refine vx_aload_n dX9_lent_13 rfl ?_
      refine vx_iload_n dX9_lent_14 rfl ?_
      refine vx_callV (b := 54) (vs := [.inl b]) (st := []) (r0 := (some (.inl (sp_in b 1 (μ 54 18))))) (μ0 := μ) dX9_lent_15 (c_X9_isFarm (d - 1) ad μ b) wd_961 wd_964 wd_54 hy_X9_isFarm wd_963 wd_29 (by decide) ly_54 rfl rfl (by omega) (Nat.le_of_ble_eq_true rfl) (Nat.le_of_ble_eq_true rfl) (Nat.le_refl 0) (Nat.le_refl 0) ?_
      refine vx_eq (μ2 := μ) (ls2 := [(0, vx_r 54), (1, .inl a), (2, .inl b)]) (st2 := [.inl (sp_in b 1 (μ 54 18))]) rfl rfl rfl ?_
      refine vx_if_eq (tgt := 26) dX9_lent_18 (by decide) (fun c_18 => ?_) (fun c_18 => ?_)
      · refine vx_iconst (v := (-1)) dX9_lent_26 (by decide) ?_
        exact vx_ret (ty := .int) dX9_lent_27 rfl rfl (Nat.le_refl 0) (Nat.le_refl 0) (vx_pst hP (by rw [if_neg (show ¬ mo_two μ a b from fun h => h.2.1 c_18)]) (by rw [if_neg (show ¬ mo_two μ a b from fun h => h.2.1 c_18)]))
      · refine vx_iload_n dX9_lent_21 rfl ?_
        refine vx_iload_n dX9_lent_22 rfl ?_
        refine vx_icmp_ne (tgt := 28) dX9_lent_23 (by decide) (fun c_23 => ?_) (fun c_23 => ?_)
        · have hok : mo_two μ a b := ⟨c_10, c_18, c_23⟩
          obtain ⟨i, hia, hi1, hi2⟩ := sp_in_far hk.1 hk.2.1 c_10
          obtain ⟨j, hjb, hj1, hj2⟩ := sp_in_far hk.1 hk.2.1 c_18
          have hn := hk.2.1
          subst hia; subst hjb
          refine vx_aload_n dX9_lent_28 rfl ?_
          refine vx_iload_n dX9_lent_29 rfl ?_
          refine vx_callV (b := 54) (vs := [.inl (nI i)]) (st := []) (r0 := none) (μ0 := (va_up (va_up μ 54 (upd (μ 54) 33 (mo_G μ n i).2)) 73 (mo_gg (mo_G μ n i).1 (μ 73)))) dX9_lent_30 (c_X9_gangs (d - 1) (by omega) ad μ n hk i (by omega) (by omega)) wd_981 wd_984 wd_54 hy_X9_gangs wd_983 wd_33 (by decide) ly_54 rfl rfl (by omega) (Nat.le_of_ble_eq_true rfl) (Nat.le_of_ble_eq_true rfl) (Nat.le_refl 0) (Nat.le_refl 0) ?_
          refine vx_eq (μ2 := (va_up (va_up μ 54 (upd (μ 54) 33 (mo_G μ n i).2)) 73 (mo_gg (mo_G μ n i).1 (μ 73)))) (ls2 := [(0, vx_r 54), (1, .inl (nI i)), (2, .inl (nI j))]) (st2 := []) rfl rfl rfl ?_
          refine vx_aload_n dX9_lent_33 rfl ?_
          refine vx_getR (ci := 9) (T := TX9) (n := 56) (j := 32) (a := 54) (r := 73) dX9_lent_34 rfl lay_X9 (by decide) wd_768 (by decide) ly_54 rfl ?_
          refine vx_iload_n dX9_lent_37 rfl ?_
          refine vx_iald (a := 73) (n := 8) (v := ((mo_gg (mo_G μ n i).1 (μ 73)) j)) dX9_lent_38 (by decide) ly_73 (vp_in_nI (by omega) (by omega)) (by rw [nI_clamp (by omega)] <;> rfl) ?_
          exact vx_ret (ty := .int) dX9_lent_39 rfl rfl (Nat.le_refl 0) (Nat.le_refl 0) (vx_pst hP (by rw [if_pos hok, nI_clamp (by omega), nI_clamp (by omega)]) (by rw [if_pos hok, nI_clamp (by omega)]; rfl))
        · refine vx_iconst (v := (-1)) dX9_lent_26 (by decide) ?_
          exact vx_ret (ty := .int) dX9_lent_27 rfl rfl (Nat.le_refl 0) (Nat.le_refl 0) (vx_pst hP (by rw [if_neg (show ¬ mo_two μ a b from fun h => h.2.2 c_23)]) (by rw [if_neg (show ¬ mo_two μ a b from fun h => h.2.2 c_23)]))
  exact vx_J.M pn_X9_lent (Nat.le_of_ble_eq_true rfl) (key _ _ ⟨rfl, rfl, rfl, rfl, rfl⟩)
def mo_planK (μ : vx_mem) (k : Nat) (x : Int32) : Int32 := if x = 0 then μ 74 k else if x = 1 then μ 75 k else if x = 2 then μ 76 k else if x = 3 then μ 77 k else if x = 4 then μ 78 k else -1
abbrev mo_pok (μ : vx_mem) (f : Int32) : Prop := ¬ μ 54 46 = 0 ∧ ¬ f < 0 ∧ f < μ 54 44
set_option maxRecDepth 20000 in
set_option maxHeartbeats 2000000 in
theorem c_X9_planned (d : Nat) (ad : Nat → Nat) (μ : vx_mem) (ht : μ 54 0 = 0) (L : Nat) (hL : ¬ μ 54 46 = 0 → μ 54 44 = nI L) (hL7 : L ≤ 7) (f x : Int32) : vx_Mf yX9_planned cX9_planned 3 (some (.int)) d ad 82 vx_lay μ [vx_r 54, .inl f, .inl x] (some (.inl (if mo_pok μ f then mo_planK μ f.toNatClampNeg x else -1))) μ := by
  have key : ∀ (Post : vx_P) (ini : Bool), Post (some (.inl (if mo_pok μ f then mo_planK μ f.toNatClampNeg x else -1))) ad 82 vx_lay μ → vx_J RX9 cX9_planned 3 (some (.int)) ini d 0 0 Post ad 0 0 82 vx_lay μ 0 [(0, vx_r 54), (1, .inl f), (2, .inl x)] [] := by
    intro Post ini hP
    refine vx_aload_n dX9_planned_0 rfl ?_
    refine vx_iconst (v := 0) dX9_planned_1 (by decide) ?_
    refine vx_putI (ci := 9) (T := TX9) (n := 56) (j := 0) (a := 54) (ty := .int) (μ2 := (va_up μ 54 (upd (μ 54) 0 0))) dX9_planned_2 rfl lay_X9 tyX9_ok nmX9 (by decide) wd_736 rfl rfl rfl rfl (by decide) ly_54 rfl rfl ?_
    refine vx_eq (μ2 := μ) (by rw [sp_ups ht, vx_up_id]) rfl rfl ?_
    refine vx_aload_n dX9_planned_5 rfl ?_
    refine vx_getI (ci := 9) (T := TX9) (n := 56) (j := 46) (a := 54) (v := (μ 54 46)) dX9_planned_6 rfl lay_X9 (by decide) wd_782 (by decide) ly_54 rfl rfl ?_
    refine vx_if_eq (tgt := 24) dX9_planned_9 (by decide) (fun c_9 => ?_) (fun c_9 => ?_)
    · refine vx_iconst (v := (-1)) dX9_planned_24 (by decide) ?_
      exact vx_ret (ty := .int) dX9_planned_25 rfl rfl (Nat.le_refl 0) (Nat.le_refl 0) (vx_pst hP (by rw [if_neg (show ¬ mo_pok μ f from fun h => h.1 c_9)]) rfl)
    · refine vx_iload_n dX9_planned_12 rfl ?_
      refine vx_if_lt (tgt := 24) dX9_planned_13 (by decide) (fun c_13 => ?_) (fun c_13 => ?_)
      · refine vx_iconst (v := (-1)) dX9_planned_24 (by decide) ?_
        exact vx_ret (ty := .int) dX9_planned_25 rfl rfl (Nat.le_refl 0) (Nat.le_refl 0) (vx_pst hP (by rw [if_neg (show ¬ mo_pok μ f from fun h => h.2.1 c_13)]) rfl)
      · refine vx_iload_n dX9_planned_16 rfl ?_
        refine vx_aload_n dX9_planned_17 rfl ?_
        refine vx_getI (ci := 9) (T := TX9) (n := 56) (j := 44) (a := 54) (v := (nI L)) dX9_planned_18 rfl lay_X9 (by decide) wd_780 (by decide) ly_54 rfl (hL c_9) ?_
        refine vx_icmp_lt (tgt := 26) dX9_planned_21 (by decide) (fun c_21 => ?_) (fun c_21 => ?_)
        · have hok : mo_pok μ f := ⟨c_9, c_13, by rw [hL c_9]; exact c_21⟩
          rw [if_pos hok] at hP
          obtain ⟨k, hk, rfl⟩ := nI_of c_13
          have hkL : k < L := by rw [nI_ltI (by omega) (by omega)] at c_21; omega
          rw [nI_clamp (by omega)] at hP
          refine vx_iload_n dX9_planned_26 rfl ?_
          by_cases e27_0 : x = 0
          · refine vx_eq (st2 := [.inl 0]) rfl rfl (by rw [e27_0]) ?_
            refine vx_tabIn (tgt := 60) dX9_planned_27 (by decide) (by decide) rfl (by decide) ?_
            refine vx_aload_n dX9_planned_60 rfl ?_
            refine vx_getR (ci := 9) (T := TX9) (n := 56) (j := 39) (a := 54) (r := 74) dX9_planned_61 rfl lay_X9 (by decide) wd_775 (by decide) ly_54 rfl ?_
            refine vx_iload_n dX9_planned_64 rfl ?_
            refine vx_iald (a := 74) (n := 7) (v := (μ 74 k)) dX9_planned_65 (by decide) ly_74 (vp_in_nI (by omega) (by omega)) (by rw [nI_clamp (by omega)] <;> rfl) ?_
            exact vx_ret (ty := .int) dX9_planned_66 rfl rfl (Nat.le_refl 0) (Nat.le_refl 0) (vx_pst hP (by unfold mo_planK; rw [e27_0]; rfl) rfl)
          by_cases e27_1 : x = 1
          · refine vx_eq (st2 := [.inl 1]) rfl rfl (by rw [e27_1]) ?_
            refine vx_tabIn (tgt := 67) dX9_planned_27 (by decide) (by decide) rfl (by decide) ?_
            refine vx_aload_n dX9_planned_67 rfl ?_
            refine vx_getR (ci := 9) (T := TX9) (n := 56) (j := 40) (a := 54) (r := 75) dX9_planned_68 rfl lay_X9 (by decide) wd_776 (by decide) ly_54 rfl ?_
            refine vx_iload_n dX9_planned_71 rfl ?_
            refine vx_iald (a := 75) (n := 7) (v := (μ 75 k)) dX9_planned_72 (by decide) ly_75 (vp_in_nI (by omega) (by omega)) (by rw [nI_clamp (by omega)] <;> rfl) ?_
            exact vx_ret (ty := .int) dX9_planned_73 rfl rfl (Nat.le_refl 0) (Nat.le_refl 0) (vx_pst hP (by unfold mo_planK; rw [e27_1]; rfl) rfl)
          by_cases e27_2 : x = 2
          · refine vx_eq (st2 := [.inl 2]) rfl rfl (by rw [e27_2]) ?_
            refine vx_tabIn (tgt := 74) dX9_planned_27 (by decide) (by decide) rfl (by decide) ?_
            refine vx_aload_n dX9_planned_74 rfl ?_
            refine vx_getR (ci := 9) (T := TX9) (n := 56) (j := 41) (a := 54) (r := 76) dX9_planned_75 rfl lay_X9 (by decide) wd_777 (by decide) ly_54 rfl ?_
            refine vx_iload_n dX9_planned_78 rfl ?_
            refine vx_iald (a := 76) (n := 7) (v := (μ 76 k)) dX9_planned_79 (by decide) ly_76 (vp_in_nI (by omega) (by omega)) (by rw [nI_clamp (by omega)] <;> rfl) ?_
            exact vx_ret (ty := .int) dX9_planned_80 rfl rfl (Nat.le_refl 0) (Nat.le_refl 0) (vx_pst hP (by unfold mo_planK; rw [e27_2]; rfl) rfl)
          by_cases e27_3 : x = 3
          · refine vx_eq (st2 := [.inl 3]) rfl rfl (by rw [e27_3]) ?_
            refine vx_tabIn (tgt := 81) dX9_planned_27 (by decide) (by decide) rfl (by decide) ?_
            refine vx_aload_n dX9_planned_81 rfl ?_
            refine vx_getR (ci := 9) (T := TX9) (n := 56) (j := 42) (a := 54) (r := 77) dX9_planned_82 rfl lay_X9 (by decide) wd_778 (by decide) ly_54 rfl ?_
            refine vx_iload_n dX9_planned_85 rfl ?_
            refine vx_iald (a := 77) (n := 7) (v := (μ 77 k)) dX9_planned_86 (by decide) ly_77 (vp_in_nI (by omega) (by omega)) (by rw [nI_clamp (by omega)] <;> rfl) ?_
            exact vx_ret (ty := .int) dX9_planned_87 rfl rfl (Nat.le_refl 0) (Nat.le_refl 0) (vx_pst hP (by unfold mo_planK; rw [e27_3]; rfl) rfl)
          by_cases e27_4 : x = 4
          · refine vx_eq (st2 := [.inl 4]) rfl rfl (by rw [e27_4]) ?_
            refine vx_tabIn (tgt := 88) dX9_planned_27 (by decide) (by decide) rfl (by decide) ?_
            refine vx_aload_n dX9_planned_88 rfl ?_
            refine vx_getR (ci := 9) (T := TX9) (n := 56) (j := 43) (a := 54) (r := 78) dX9_planned_89 rfl lay_X9 (by decide) wd_779 (by decide) ly_54 rfl ?_
            refine vx_iload_n dX9_planned_92 rfl ?_
            refine vx_iald (a := 78) (n := 7) (v := (μ 78 k)) dX9_planned_93 (by decide) ly_78 (vp_in_nI (by omega) (by omega)) (by rw [nI_clamp (by omega)] <;> rfl) ?_
            exact vx_ret (ty := .int) dX9_planned_94 rfl rfl (Nat.le_refl 0) (Nat.le_refl 0) (vx_pst hP (by unfold mo_planK; rw [e27_4]; rfl) rfl)
          refine vx_tabOut (tgt := 95) dX9_planned_27 (by have t0 : (x).toInt ≠ 0 := fun q => e27_0 (Int32.toInt_inj.mp (q.trans (by decide))); have t1 : (x).toInt ≠ 1 := fun q => e27_1 (Int32.toInt_inj.mp (q.trans (by decide))); have t2 : (x).toInt ≠ 2 := fun q => e27_2 (Int32.toInt_inj.mp (q.trans (by decide))); have t3 : (x).toInt ≠ 3 := fun q => e27_3 (Int32.toInt_inj.mp (q.trans (by decide))); have t4 : (x).toInt ≠ 4 := fun q => e27_4 (Int32.toInt_inj.mp (q.trans (by decide))); omega) (by decide) ?_
          refine vx_iconst (v := (-1)) dX9_planned_95 (by decide) ?_
          exact vx_ret (ty := .int) dX9_planned_96 rfl rfl (Nat.le_refl 0) (Nat.le_refl 0) (vx_pst hP (by unfold mo_planK; rw [if_neg e27_0, if_neg e27_1, if_neg e27_2, if_neg e27_3, if_neg e27_4]) rfl)
        · refine vx_iconst (v := (-1)) dX9_planned_24 (by decide) ?_
          exact vx_ret (ty := .int) dX9_planned_25 rfl rfl (Nat.le_refl 0) (Nat.le_refl 0) (vx_pst hP (by rw [if_neg (show ¬ mo_pok μ f from fun h => c_21 ((hL c_9) ▸ h.2.2))]) rfl)
  exact vx_J.M pn_X9_planned (Nat.le_of_ble_eq_true rfl) (key _ _ ⟨rfl, rfl, rfl, rfl, rfl⟩)
end
