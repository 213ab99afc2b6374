section
def mo_fault (μ : vx_mem) (x : Int32) : Int32 := if x = 0 then μ 54 16 else if x = 1 then μ 54 17 else -1
set_option maxRecDepth 20000 in
set_option maxHeartbeats 2000000 in
theorem c_X9_fault (d : Nat) (ad : Nat → Nat) (μ : vx_mem) (ht : μ 54 0 = 0) (x : Int32) : vx_Mf yX9_fault cX9_fault 2 (some (.int)) d ad 82 vx_lay μ [vx_r 54, .inl x] (some (.inl (mo_fault μ x))) μ := by
  have key : ∀ (Post : vx_P) (ini : Bool), Post (some (.inl (mo_fault μ x))) ad 82 vx_lay μ → vx_J RX9 cX9_fault 2 (some (.int)) ini d 0 0 Post ad 0 0 82 vx_lay μ 0 [(0, vx_r 54), (1, .inl x)] [] := by
    intro Post ini hP
    refine vx_aload_n dX9_fault_0 rfl ?_
    refine vx_iconst (v := 0) dX9_fault_1 (by decide) ?_
    refine vx_putI (ci := 9) (T := TX9) (n := 56) (j := 0) (a := 54) (ty := .int) (μ2 := (va_up μ 54 (upd (μ 54) 0 0))) dX9_fault_2 rfl lay_X9 tyX9_ok nmX9 (by decide) wd_736 rfl rfl rfl rfl (by decide) ly_54 rfl rfl ?_
    refine vx_eq (μ2 := μ) (by rw [sp_ups ht, vx_up_id]) rfl rfl ?_
    refine vx_iload_n dX9_fault_5 rfl ?_
    refine vx_if_ne (tgt := 16) dX9_fault_6 (by decide) (fun c_6 => ?_) (fun c_6 => ?_)
    · refine vx_iload_n dX9_fault_16 rfl ?_
      refine vx_iconst (v := 1) dX9_fault_17 (by decide) ?_
      refine vx_icmp_ne (tgt := 28) dX9_fault_18 (by decide) (fun c_18 => ?_) (fun c_18 => ?_)
      · refine vx_iconst (v := (-1)) dX9_fault_28 (by decide) ?_
        exact vx_ret (ty := .int) dX9_fault_29 rfl rfl (Nat.le_refl 0) (Nat.le_refl 0) (vx_pst hP (by simp [mo_fault, *]) rfl)
      · refine vx_aload_n dX9_fault_21 rfl ?_
        refine vx_getI (ci := 9) (T := TX9) (n := 56) (j := 17) (a := 54) (v := (μ 54 17)) dX9_fault_22 rfl lay_X9 (by decide) wd_753 (by decide) ly_54 rfl rfl ?_
        refine vx_goto (tgt := 29) dX9_fault_25 (by decide) ?_
        exact vx_ret (ty := .int) dX9_fault_29 rfl rfl (Nat.le_refl 0) (Nat.le_refl 0) (vx_pst hP (by simp [mo_fault, *]) rfl)
    · refine vx_aload_n dX9_fault_9 rfl ?_
      refine vx_getI (ci := 9) (T := TX9) (n := 56) (j := 16) (a := 54) (v := (μ 54 16)) dX9_fault_10 rfl lay_X9 (by decide) wd_752 (by decide) ly_54 rfl rfl ?_
      refine vx_goto (tgt := 29) dX9_fault_13 (by decide) ?_
      exact vx_ret (ty := .int) dX9_fault_29 rfl rfl (Nat.le_refl 0) (Nat.le_refl 0) (vx_pst hP (by simp [mo_fault, *]) rfl)
  exact vx_J.M pn_X9_fault (Nat.le_of_ble_eq_true rfl) (key _ _ ⟨rfl, rfl, rfl, rfl, rfl⟩)
set_option maxRecDepth 20000 in
set_option maxHeartbeats 2000000 in
theorem c_X9_isFarm (d : Nat) (ad : Nat → Nat) (μ : vx_mem) (f : Int32) : vx_Mf yX9_isFarm cX9_isFarm 2 (some (.boolean)) d ad 82 vx_lay μ [vx_r 54, .inl f] (some (.inl (sp_in f 1 (μ 54 18)))) μ := by
  have key : ∀ (Post : vx_P) (ini : Bool), Post (some (.inl (sp_in f 1 (μ 54 18)))) ad 82 vx_lay μ → vx_J RX9 cX9_isFarm 2 (some (.boolean)) ini d 0 0 Post ad 0 0 82 vx_lay μ 0 [(0, vx_r 54), (1, .inl f)] [] := by
    intro Post ini hP
    refine vx_iload_n dX9_isFarm_0 rfl ?_
    refine vx_iconst (v := 1) dX9_isFarm_1 (by decide) ?_
    refine vx_icmp_lt (tgt := 17) dX9_isFarm_2 (by decide) (fun c_2 => ?_) (fun c_2 => ?_)
    · refine vx_iconst (v := 0) dX9_isFarm_17 (by decide) ?_
      exact vx_ret (ty := .boolean) dX9_isFarm_18 rfl rfl (Nat.le_refl 0) (Nat.le_refl 0) (vx_pst hP (by simp [sp_in, *]) rfl)
    · refine vx_iload_n dX9_isFarm_5 rfl ?_
      refine vx_aload_n dX9_isFarm_6 rfl ?_
      refine vx_getI (ci := 9) (T := TX9) (n := 56) (j := 18) (a := 54) (v := (μ 54 18)) dX9_isFarm_7 rfl lay_X9 (by decide) wd_754 (by decide) ly_54 rfl rfl ?_
      refine vx_icmp_gt (tgt := 17) dX9_isFarm_10 (by decide) (fun c_10 => ?_) (fun c_10 => ?_)
      · refine vx_iconst (v := 0) dX9_isFarm_17 (by decide) ?_
        exact vx_ret (ty := .boolean) dX9_isFarm_18 rfl rfl (Nat.le_refl 0) (Nat.le_refl 0) (vx_pst hP (by simp [sp_in, *]) rfl)
      · refine vx_iconst (v := 1) dX9_isFarm_13 (by decide) ?_
        refine vx_goto (tgt := 18) dX9_isFarm_14 (by decide) ?_
        exact vx_ret (ty := .boolean) dX9_isFarm_18 rfl rfl (Nat.le_refl 0) (Nat.le_refl 0) (vx_pst hP (by simp [sp_in, *]) rfl)
  exact vx_J.M pn_X9_isFarm (Nat.le_of_ble_eq_true rfl) (key _ _ ⟨rfl, rfl, rfl, rfl, rfl⟩)
set_option maxRecDepth 20000 in
set_option maxHeartbeats 2000000 in
theorem c_X9_isTwelve (d : Nat) (ad : Nat → Nat) (μ : vx_mem) (f : Int32) : vx_Mf yX9_isTwelve cX9_isTwelve 1 (some (.boolean)) d ad 82 vx_lay μ [.inl f] (some (.inl (sp_in f 0 12))) μ := by
  have key : ∀ (Post : vx_P) (ini : Bool), Post (some (.inl (sp_in f 0 12))) ad 82 vx_lay μ → vx_J RX9 cX9_isTwelve 1 (some (.boolean)) ini d 0 0 Post ad 0 0 82 vx_lay μ 0 [(0, .inl f)] [] := by
    intro Post ini hP
    refine vx_iload_n dX9_isTwelve_0 rfl ?_
    refine vx_if_lt (tgt := 14) dX9_isTwelve_1 (by decide) (fun c_1 => ?_) (fun c_1 => ?_)
    · refine vx_iconst (v := 0) dX9_isTwelve_14 (by decide) ?_
      exact vx_ret (ty := .boolean) dX9_isTwelve_15 rfl rfl (Nat.le_refl 0) (Nat.le_refl 0) (vx_pst hP (by simp [sp_in, *]) rfl)
    · refine vx_iload_n dX9_isTwelve_4 rfl ?_
      refine vx_bipush (v := 12) dX9_isTwelve_5 (by decide) ?_
      refine vx_icmp_gt (tgt := 14) dX9_isTwelve_7 (by decide) (fun c_7 => ?_) (fun c_7 => ?_)
      · refine vx_iconst (v := 0) dX9_isTwelve_14 (by decide) ?_
        exact vx_ret (ty := .boolean) dX9_isTwelve_15 rfl rfl (Nat.le_refl 0) (Nat.le_refl 0) (vx_pst hP (by simp [sp_in, *]) rfl)
      · refine vx_iconst (v := 1) dX9_isTwelve_10 (by decide) ?_
        refine vx_goto (tgt := 15) dX9_isTwelve_11 (by decide) ?_
        exact vx_ret (ty := .boolean) dX9_isTwelve_15 rfl rfl (Nat.le_refl 0) (Nat.le_refl 0) (vx_pst hP (by simp [sp_in, *]) rfl)
  exact vx_J.M pn_X9_isTwelve (Nat.le_of_ble_eq_true rfl) (key _ _ ⟨rfl, rfl, rfl, rfl, rfl⟩)
abbrev mo_fok (n : Nat) (a b c e f g : Int32) : Prop := ¬ a < 1 ∧ ¬ 300 < a ∧ ¬ b < 0 ∧ ¬ 9 < b ∧ ¬ sp_in c 0 12 = 0 ∧ ¬ sp_in e 0 12 = 0 ∧ ¬ f < 0 ∧ ¬ g < f ∧ ¬ 99 < g ∧ ¬ nI n = 7
def mo_farmM (μ : vx_mem) (n : Nat) (a b c e f g : Int32) : vx_mem := (va_up (va_up (va_up (va_up (va_up (va_up (va_up (va_up (va_up μ 54 (upd (μ 54) 18 (nI (n + 1)))) 60 (upd (μ 60) (n + 1) a)) 61 (upd (μ 61) (n + 1) a)) 62 (upd (μ 62) (n + 1) b)) 63 (upd (μ 63) (n + 1) c)) 64 (upd (μ 64) (n + 1) e)) 65 (upd (μ 65) (n + 1) f)) 66 (upd (μ 66) (n + 1) g)) 68 (upd (μ 68) (n + 1) (-1)))
set_option maxRecDepth 20000 in
set_option maxHeartbeats 2000000 in
theorem c_X9_farm (d : Nat) (hd : 1 ≤ d) (ad : Nat → Nat) (μ : vx_mem) (ht : μ 54 0 = 0) (n : Nat) (hc : μ 54 18 = nI n) (hn : n ≤ 7) (a b c e f g : Int32) : vx_Mf yX9_farm cX9_farm 7 (some (.int)) d ad 82 vx_lay μ [vx_r 54, .inl a, .inl b, .inl c, .inl e, .inl f, .inl g] (some (.inl (if mo_fok n a b c e f g then nI (n + 1) else -1))) (if mo_fok n a b c e f g then mo_farmM μ n a b c e f g else μ) := by
  have key : ∀ (Post : vx_P) (ini : Bool), Post (some (.inl (if mo_fok n a b c e f g then nI (n + 1) else -1))) ad 82 vx_lay (if mo_fok n a b c e f g then mo_farmM μ n a b c e f g else μ) → vx_J RX9 cX9_farm 7 (some (.int)) ini d 0 0 Post ad 0 0 82 vx_lay μ 0 [(0, vx_r 54), (1, .inl a), (2, .inl b), (3, .inl c), (4, .inl e), (5, .inl f), (6, .inl g)] [] := by
    intro Post ini hP
    refine vx_aload_n dX9_farm_0 rfl ?_
    refine vx_iconst (v := 0) dX9_farm_1 (by decide) ?_
    refine vx_putI (ci := 9) (T := TX9) (n := 56) (j := 0) (a := 54) (ty := .int) (μ2 := (va_up μ 54 (upd (μ 54) 0 0))) dX9_farm_2 rfl lay_X9 tyX9_ok nmX9 (by decide) wd_736 rfl rfl rfl rfl (by decide) ly_54 rfl rfl ?_
    refine vx_eq (μ2 := μ) (by rw [sp_ups ht, vx_up_id]) rfl rfl ?_
    refine vx_iload_n dX9_farm_5 rfl ?_
    refine vx_iconst (v := 1) dX9_farm_6 (by decide) ?_
    refine vx_icmp_lt (tgt := 70) dX9_farm_7 (by decide) (fun c_7 => ?_) (fun c_7 => ?_)
    · refine vx_iconst (v := (-1)) dX9_farm_70 (by decide) ?_
      exact vx_ret (ty := .int) dX9_farm_71 rfl rfl (Nat.le_refl 0) (Nat.le_refl 0) (vx_pst hP (by rw [if_neg (show ¬ mo_fok n a b c e f g from fun h => h.1 c_7)]) (by rw [if_neg (show ¬ mo_fok n a b c e f g from fun h => h.1 c_7)]))
    · refine vx_iload_n dX9_farm_10 rfl ?_
      refine vx_sipush (v := 300) dX9_farm_11 (by decide) ?_
      refine vx_icmp_gt (tgt := 70) dX9_farm_14 (by decide) (fun c_14 => ?_) (fun c_14 => ?_)
      · refine vx_iconst (v := (-1)) dX9_farm_70 (by decide) ?_
        exact vx_ret (ty := .int) dX9_farm_71 rfl rfl (Nat.le_refl 0) (Nat.le_refl 0) (vx_pst hP (by rw [if_neg (show ¬ mo_fok n a b c e f g from fun h => h.2.1 c_14)]) (by rw [if_neg (show ¬ mo_fok n a b c e f g from fun h => h.2.1 c_14)]))
      · refine vx_iload_n dX9_farm_17 rfl ?_
        refine vx_if_lt (tgt := 70) dX9_farm_18 (by decide) (fun c_18 => ?_) (fun c_18 => ?_)
        · refine vx_iconst (v := (-1)) dX9_farm_70 (by decide) ?_
          exact vx_ret (ty := .int) dX9_farm_71 rfl rfl (Nat.le_refl 0) (Nat.le_refl 0) (vx_pst hP (by rw [if_neg (show ¬ mo_fok n a b c e f g from fun h => h.2.2.1 c_18)]) (by rw [if_neg (show ¬ mo_fok n a b c e f g from fun h => h.2.2.1 c_18)]))
        · refine vx_iload_n dX9_farm_21 rfl ?_
          refine vx_bipush (v := 9) dX9_farm_22 (by decide) ?_
          refine vx_icmp_gt (tgt := 70) dX9_farm_24 (by decide) (fun c_24 => ?_) (fun c_24 => ?_)
          · refine vx_iconst (v := (-1)) dX9_farm_70 (by decide) ?_
            exact vx_ret (ty := .int) dX9_farm_71 rfl rfl (Nat.le_refl 0) (Nat.le_refl 0) (vx_pst hP (by rw [if_neg (show ¬ mo_fok n a b c e f g from fun h => h.2.2.2.1 c_24)]) (by rw [if_neg (show ¬ mo_fok n a b c e f g from fun h => h.2.2.2.1 c_24)]))
          · refine vx_iload_n dX9_farm_27 rfl ?_
            refine vx_callS (vs := [.inl c]) (st := []) (r0 := (some (.inl (sp_in c 0 12)))) (μ0 := μ) dX9_farm_28 (c_X9_isTwelve (d - 1) ad μ c) wd_950 wd_952 wd_54 hy_X9_isTwelve wd_951 (by omega) (Nat.le_of_ble_eq_true rfl) (Nat.le_of_ble_eq_true rfl) (Nat.le_refl 0) (Nat.le_refl 0) ?_
            refine vx_eq (μ2 := μ) (ls2 := [(0, vx_r 54), (1, .inl a), (2, .inl b), (3, .inl c), (4, .inl e), (5, .inl f), (6, .inl g)]) (st2 := [.inl (sp_in c 0 12)]) rfl rfl rfl ?_
            refine vx_if_eq (tgt := 70) dX9_farm_31 (by decide) (fun c_31 => ?_) (fun c_31 => ?_)
            · refine vx_iconst (v := (-1)) dX9_farm_70 (by decide) ?_
              exact vx_ret (ty := .int) dX9_farm_71 rfl rfl (Nat.le_refl 0) (Nat.le_refl 0) (vx_pst hP (by rw [if_neg (show ¬ mo_fok n a b c e f g from fun h => h.2.2.2.2.1 c_31)]) (by rw [if_neg (show ¬ mo_fok n a b c e f g from fun h => h.2.2.2.2.1 c_31)]))
            · refine vx_iload dX9_farm_34 rfl ?_
              refine vx_callS (vs := [.inl e]) (st := []) (r0 := (some (.inl (sp_in e 0 12)))) (μ0 := μ) dX9_farm_36 (c_X9_isTwelve (d - 1) ad μ e) wd_950 wd_952 wd_54 hy_X9_isTwelve wd_951 (by omega) (Nat.le_of_ble_eq_true rfl) (Nat.le_of_ble_eq_true rfl) (Nat.le_refl 0) (Nat.le_refl 0) ?_
              refine vx_eq (μ2 := μ) (ls2 := [(0, vx_r 54), (1, .inl a), (2, .inl b), (3, .inl c), (4, .inl e), (5, .inl f), (6, .inl g)]) (st2 := [.inl (sp_in e 0 12)]) rfl rfl rfl ?_
              refine vx_if_eq (tgt := 70) dX9_farm_39 (by decide) (fun c_39 => ?_) (fun c_39 => ?_)
              · refine vx_iconst (v := (-1)) dX9_farm_70 (by decide) ?_
                exact vx_ret (ty := .int) dX9_farm_71 rfl rfl (Nat.le_refl 0) (Nat.le_refl 0) (vx_pst hP (by rw [if_neg (show ¬ mo_fok n a b c e f g from fun h => h.2.2.2.2.2.1 c_39)]) (by rw [if_neg (show ¬ mo_fok n a b c e f g from fun h => h.2.2.2.2.2.1 c_39)]))
              · refine vx_iload dX9_farm_42 rfl ?_
                refine vx_if_lt (tgt := 70) dX9_farm_44 (by decide) (fun c_44 => ?_) (fun c_44 => ?_)
                · refine vx_iconst (v := (-1)) dX9_farm_70 (by decide) ?_
                  exact vx_ret (ty := .int) dX9_farm_71 rfl rfl (Nat.le_refl 0) (Nat.le_refl 0) (vx_pst hP (by rw [if_neg (show ¬ mo_fok n a b c e f g from fun h => h.2.2.2.2.2.2.1 c_44)]) (by rw [if_neg (show ¬ mo_fok n a b c e f g from fun h => h.2.2.2.2.2.2.1 c_44)]))
                · refine vx_iload dX9_farm_47 rfl ?_
                  refine vx_iload dX9_farm_49 rfl ?_
                  refine vx_icmp_gt (tgt := 70) dX9_farm_51 (by decide) (fun c_51 => ?_) (fun c_51 => ?_)
                  · refine vx_iconst (v := (-1)) dX9_farm_70 (by decide) ?_
                    exact vx_ret (ty := .int) dX9_farm_71 rfl rfl (Nat.le_refl 0) (Nat.le_refl 0) (vx_pst hP (by rw [if_neg (show ¬ mo_fok n a b c e f g from fun h => h.2.2.2.2.2.2.2.1 c_51)]) (by rw [if_neg (show ¬ mo_fok n a b c e f g from fun h => h.2.2.2.2.2.2.2.1 c_51)]))
                  · refine vx_iload dX9_farm_54 rfl ?_
                    refine vx_bipush (v := 99) dX9_farm_56 (by decide) ?_
                    refine vx_icmp_gt (tgt := 70) dX9_farm_58 (by decide) (fun c_58 => ?_) (fun c_58 => ?_)
                    · refine vx_iconst (v := (-1)) dX9_farm_70 (by decide) ?_
                      exact vx_ret (ty := .int) dX9_farm_71 rfl rfl (Nat.le_refl 0) (Nat.le_refl 0) (vx_pst hP (by rw [if_neg (show ¬ mo_fok n a b c e f g from fun h => h.2.2.2.2.2.2.2.2.1 c_58)]) (by rw [if_neg (show ¬ mo_fok n a b c e f g from fun h => h.2.2.2.2.2.2.2.2.1 c_58)]))
                    · refine vx_aload_n dX9_farm_61 rfl ?_
                      refine vx_getI (ci := 9) (T := TX9) (n := 56) (j := 18) (a := 54) (v := (nI n)) dX9_farm_62 rfl lay_X9 (by decide) wd_754 (by decide) ly_54 rfl hc ?_
                      refine vx_bipush (v := 7) dX9_farm_65 (by decide) ?_
                      refine vx_icmp_ne (tgt := 72) dX9_farm_67 (by decide) (fun c_67 => ?_) (fun c_67 => ?_)
                      · have hokk : mo_fok n a b c e f g := ⟨c_7, c_14, c_18, c_24, c_31, c_39, c_44, c_51, c_58, c_67⟩
                        have hlt : n < 7 := by
                          rcases Nat.lt_or_ge n 7 with q | q
                          · exact q
                          · exact absurd (show nI n = 7 by rw [show n = 7 by omega]; rfl) c_67
                        rw [if_pos hokk, if_pos hokk] at hP
                        refine vx_aload_n dX9_farm_72 rfl ?_
                        refine vx_dup dX9_farm_73 ?_
                        refine vx_getI (ci := 9) (T := TX9) (n := 56) (j := 18) (a := 54) (v := (nI n)) dX9_farm_74 rfl lay_X9 (by decide) wd_754 (by decide) ly_54 rfl hc ?_
                        refine vx_iconst (v := 1) dX9_farm_77 (by decide) ?_
                        refine vx_iadd dX9_farm_78 ?_
                        refine vx_eq (st2 := [.inl (nI (n + 1)), vx_r 54]) rfl rfl (by rw [nI_1]) ?_
                        refine vx_putI (ci := 9) (T := TX9) (n := 56) (j := 18) (a := 54) (ty := .int) (μ2 := (va_up μ 54 (upd (μ 54) 18 (nI (n + 1))))) dX9_farm_79 rfl lay_X9 tyX9_ok nmX9 (by decide) wd_754 rfl rfl rfl rfl (by decide) ly_54 rfl rfl ?_
                        refine vx_aload_n dX9_farm_82 rfl ?_
                        refine vx_getR (ci := 9) (T := TX9) (n := 56) (j := 19) (a := 54) (r := 60) dX9_farm_83 rfl lay_X9 (by decide) wd_755 (by decide) ly_54 rfl ?_
                        refine vx_aload_n dX9_farm_86 rfl ?_
                        refine vx_getI (ci := 9) (T := TX9) (n := 56) (j := 18) (a := 54) (v := (nI (n + 1))) dX9_farm_87 rfl lay_X9 (by decide) wd_754 (by decide) ly_54 rfl rfl ?_
                        refine vx_iload_n dX9_farm_90 rfl ?_
                        refine vx_iast (a := 60) (n := 8) (μ2 := (va_up (va_up μ 54 (upd (μ 54) 18 (nI (n + 1)))) 60 (upd (μ 60) (n + 1) a))) dX9_farm_91 (by decide) ly_60 (vp_in_nI (by omega) (by omega)) (by rw [nI_clamp (by omega)]; try exact rfl) ?_
                        refine vx_aload_n dX9_farm_92 rfl ?_
                        refine vx_getR (ci := 9) (T := TX9) (n := 56) (j := 20) (a := 54) (r := 61) dX9_farm_93 rfl lay_X9 (by decide) wd_756 (by decide) ly_54 rfl ?_
                        refine vx_aload_n dX9_farm_96 rfl ?_
                        refine vx_getI (ci := 9) (T := TX9) (n := 56) (j := 18) (a := 54) (v := (nI (n + 1))) dX9_farm_97 rfl lay_X9 (by decide) wd_754 (by decide) ly_54 rfl rfl ?_
                        refine vx_iload_n dX9_farm_100 rfl ?_
                        refine vx_iast (a := 61) (n := 8) (μ2 := (va_up (va_up (va_up μ 54 (upd (μ 54) 18 (nI (n + 1)))) 60 (upd (μ 60) (n + 1) a)) 61 (upd (μ 61) (n + 1) a))) dX9_farm_101 (by decide) ly_61 (vp_in_nI (by omega) (by omega)) (by rw [nI_clamp (by omega)]; try exact rfl) ?_
                        refine vx_aload_n dX9_farm_102 rfl ?_
                        refine vx_getR (ci := 9) (T := TX9) (n := 56) (j := 21) (a := 54) (r := 62) dX9_farm_103 rfl lay_X9 (by decide) wd_757 (by decide) ly_54 rfl ?_
                        refine vx_aload_n dX9_farm_106 rfl ?_
                        refine vx_getI (ci := 9) (T := TX9) (n := 56) (j := 18) (a := 54) (v := (nI (n + 1))) dX9_farm_107 rfl lay_X9 (by decide) wd_754 (by decide) ly_54 rfl rfl ?_
                        refine vx_iload_n dX9_farm_110 rfl ?_
                        refine vx_iast (a := 62) (n := 8) (μ2 := (va_up (va_up (va_up (va_up μ 54 (upd (μ 54) 18 (nI (n + 1)))) 60 (upd (μ 60) (n + 1) a)) 61 (upd (μ 61) (n + 1) a)) 62 (upd (μ 62) (n + 1) b))) dX9_farm_111 (by decide) ly_62 (vp_in_nI (by omega) (by omega)) (by rw [nI_clamp (by omega)]; try exact rfl) ?_
                        refine vx_aload_n dX9_farm_112 rfl ?_
                        refine vx_getR (ci := 9) (T := TX9) (n := 56) (j := 22) (a := 54) (r := 63) dX9_farm_113 rfl lay_X9 (by decide) wd_758 (by decide) ly_54 rfl ?_
                        refine vx_aload_n dX9_farm_116 rfl ?_
                        refine vx_getI (ci := 9) (T := TX9) (n := 56) (j := 18) (a := 54) (v := (nI (n + 1))) dX9_farm_117 rfl lay_X9 (by decide) wd_754 (by decide) ly_54 rfl rfl ?_
                        refine vx_iload_n dX9_farm_120 rfl ?_
                        refine vx_iast (a := 63) (n := 8) (μ2 := (va_up (va_up (va_up (va_up (va_up μ 54 (upd (μ 54) 18 (nI (n + 1)))) 60 (upd (μ 60) (n + 1) a)) 61 (upd (μ 61) (n + 1) a)) 62 (upd (μ 62) (n + 1) b)) 63 (upd (μ 63) (n + 1) c))) dX9_farm_121 (by decide) ly_63 (vp_in_nI (by omega) (by omega)) (by rw [nI_clamp (by omega)]; try exact rfl) ?_
                        refine vx_aload_n dX9_farm_122 rfl ?_
                        refine vx_getR (ci := 9) (T := TX9) (n := 56) (j := 23) (a := 54) (r := 64) dX9_farm_123 rfl lay_X9 (by decide) wd_759 (by decide) ly_54 rfl ?_
                        refine vx_aload_n dX9_farm_126 rfl ?_
                        refine vx_getI (ci := 9) (T := TX9) (n := 56) (j := 18) (a := 54) (v := (nI (n + 1))) dX9_farm_127 rfl lay_X9 (by decide) wd_754 (by decide) ly_54 rfl rfl ?_
                        refine vx_iload dX9_farm_130 rfl ?_
                        refine vx_iast (a := 64) (n := 8) (μ2 := (va_up (va_up (va_up (va_up (va_up (va_up μ 54 (upd (μ 54) 18 (nI (n + 1)))) 60 (upd (μ 60) (n + 1) a)) 61 (upd (μ 61) (n + 1) a)) 62 (upd (μ 62) (n + 1) b)) 63 (upd (μ 63) (n + 1) c)) 64 (upd (μ 64) (n + 1) e))) dX9_farm_132 (by decide) ly_64 (vp_in_nI (by omega) (by omega)) (by rw [nI_clamp (by omega)]; try exact rfl) ?_
                        refine vx_aload_n dX9_farm_133 rfl ?_
                        refine vx_getR (ci := 9) (T := TX9) (n := 56) (j := 24) (a := 54) (r := 65) dX9_farm_134 rfl lay_X9 (by decide) wd_760 (by decide) ly_54 rfl ?_
                        refine vx_aload_n dX9_farm_137 rfl ?_
                        refine vx_getI (ci := 9) (T := TX9) (n := 56) (j := 18) (a := 54) (v := (nI (n + 1))) dX9_farm_138 rfl lay_X9 (by decide) wd_754 (by decide) ly_54 rfl rfl ?_
                        refine vx_iload dX9_farm_141 rfl ?_
                        refine vx_iast (a := 65) (n := 8) (μ2 := (va_up (va_up (va_up (va_up (va_up (va_up (va_up μ 54 (upd (μ 54) 18 (nI (n + 1)))) 60 (upd (μ 60) (n + 1) a)) 61 (upd (μ 61) (n + 1) a)) 62 (upd (μ 62) (n + 1) b)) 63 (upd (μ 63) (n + 1) c)) 64 (upd (μ 64) (n + 1) e)) 65 (upd (μ 65) (n + 1) f))) dX9_farm_143 (by decide) ly_65 (vp_in_nI (by omega) (by omega)) (by rw [nI_clamp (by omega)]; try exact rfl) ?_
                        refine vx_aload_n dX9_farm_144 rfl ?_
                        refine vx_getR (ci := 9) (T := TX9) (n := 56) (j := 25) (a := 54) (r := 66) dX9_farm_145 rfl lay_X9 (by decide) wd_761 (by decide) ly_54 rfl ?_
                        refine vx_aload_n dX9_farm_148 rfl ?_
                        refine vx_getI (ci := 9) (T := TX9) (n := 56) (j := 18) (a := 54) (v := (nI (n + 1))) dX9_farm_149 rfl lay_X9 (by decide) wd_754 (by decide) ly_54 rfl rfl ?_
                        refine vx_iload dX9_farm_152 rfl ?_
                        refine vx_iast (a := 66) (n := 8) (μ2 := (va_up (va_up (va_up (va_up (va_up (va_up (va_up (va_up μ 54 (upd (μ 54) 18 (nI (n + 1)))) 60 (upd (μ 60) (n + 1) a)) 61 (upd (μ 61) (n + 1) a)) 62 (upd (μ 62) (n + 1) b)) 63 (upd (μ 63) (n + 1) c)) 64 (upd (μ 64) (n + 1) e)) 65 (upd (μ 65) (n + 1) f)) 66 (upd (μ 66) (n + 1) g))) dX9_farm_154 (by decide) ly_66 (vp_in_nI (by omega) (by omega)) (by rw [nI_clamp (by omega)]; try exact rfl) ?_
                        refine vx_aload_n dX9_farm_155 rfl ?_
                        refine vx_getR (ci := 9) (T := TX9) (n := 56) (j := 27) (a := 54) (r := 68) dX9_farm_156 rfl lay_X9 (by decide) wd_763 (by decide) ly_54 rfl ?_
                        refine vx_aload_n dX9_farm_159 rfl ?_
                        refine vx_getI (ci := 9) (T := TX9) (n := 56) (j := 18) (a := 54) (v := (nI (n + 1))) dX9_farm_160 rfl lay_X9 (by decide) wd_754 (by decide) ly_54 rfl rfl ?_
                        refine vx_iconst (v := (-1)) dX9_farm_163 (by decide) ?_
                        refine vx_iast (a := 68) (n := 8) (μ2 := (va_up (va_up (va_up (va_up (va_up (va_up (va_up (va_up (va_up μ 54 (upd (μ 54) 18 (nI (n + 1)))) 60 (upd (μ 60) (n + 1) a)) 61 (upd (μ 61) (n + 1) a)) 62 (upd (μ 62) (n + 1) b)) 63 (upd (μ 63) (n + 1) c)) 64 (upd (μ 64) (n + 1) e)) 65 (upd (μ 65) (n + 1) f)) 66 (upd (μ 66) (n + 1) g)) 68 (upd (μ 68) (n + 1) (-1)))) dX9_farm_164 (by decide) ly_68 (vp_in_nI (by omega) (by omega)) (by rw [nI_clamp (by omega)]; try exact rfl) ?_
                        refine vx_aload_n dX9_farm_165 rfl ?_
                        refine vx_getI (ci := 9) (T := TX9) (n := 56) (j := 18) (a := 54) (v := (nI (n + 1))) dX9_farm_166 rfl lay_X9 (by decide) wd_754 (by decide) ly_54 rfl rfl ?_
                        exact vx_ret (ty := .int) dX9_farm_169 rfl rfl (Nat.le_refl 0) (Nat.le_refl 0) (vx_pst hP rfl rfl)
                      · refine vx_iconst (v := (-1)) dX9_farm_70 (by decide) ?_
                        exact vx_ret (ty := .int) dX9_farm_71 rfl rfl (Nat.le_refl 0) (Nat.le_refl 0) (vx_pst hP (by rw [if_neg (show ¬ mo_fok n a b c e f g from fun h => h.2.2.2.2.2.2.2.2.2 c_67)]) (by rw [if_neg (show ¬ mo_fok n a b c e f g from fun h => h.2.2.2.2.2.2.2.2.2 c_67)]))
  exact vx_J.M pn_X9_farm (Nat.le_of_ble_eq_true rfl) (key _ _ ⟨rfl, rfl, rfl, rfl, rfl⟩)
abbrev mo_wok (n : Nat) (a b days : Int32) : Prop := ¬ a < 0 ∧ ¬ nI n < a ∧ ¬ b < 0 ∧ ¬ nI n < b ∧ ¬ a = b ∧ ¬ days < -1 ∧ days ≤ 9
theorem mo_plc {a : Int32} {n : Nat} (hn : n ≤ 7) (h1 : ¬ a < 0) (h2 : ¬ nI n < a) : ∃ i, a = nI i ∧ i ≤ n := by
  obtain ⟨i, hi, rfl⟩ := nI_of h1
  rw [nI_ltI (by omega) hi] at h2
  exact ⟨i, rfl, by omega⟩
set_option maxRecDepth 20000 in
set_option maxHeartbeats 2000000 in
theorem c_X9_way (d : Nat) (ad : Nat → Nat) (μ : vx_mem) (ht : μ 54 0 = 0) (n : Nat) (hc : μ 54 18 = nI n) (hn : n ≤ 7) (a b days : Int32) : vx_Mf yX9_way cX9_way 4 (some (.boolean)) d ad 82 vx_lay μ [vx_r 54, .inl a, .inl b, .inl days] (some (.inl (if mo_wok n a b days then 1 else 0))) (if mo_wok n a b days then va_up μ 71 (upd (upd (μ 71) (8 * a.toNatClampNeg + b.toNatClampNeg) (days + 1)) (8 * b.toNatClampNeg + a.toNatClampNeg) (days + 1)) else μ) := by
  have key : ∀ (Post : vx_P) (ini : Bool), Post (some (.inl (if mo_wok n a b days then 1 else 0))) ad 82 vx_lay (if mo_wok n a b days then va_up μ 71 (upd (upd (μ 71) (8 * a.toNatClampNeg + b.toNatClampNeg) (days + 1)) (8 * b.toNatClampNeg + a.toNatClampNeg) (days + 1)) else μ) → vx_J RX9 cX9_way 4 (some (.boolean)) ini d 0 0 Post ad 0 0 82 vx_lay μ 0 [(0, vx_r 54), (1, .inl a), (2, .inl b), (3, .inl days)] [] := by
    intro Post ini hP
    refine vx_aload_n dX9_way_0 rfl ?_
    refine vx_iconst (v := 0) dX9_way_1 (by decide) ?_
    refine vx_putI (ci := 9) (T := TX9) (n := 56) (j := 0) (a := 54) (ty := .int) (μ2 := (va_up μ 54 (upd (μ 54) 0 0))) dX9_way_2 rfl lay_X9 tyX9_ok nmX9 (by decide) wd_736 rfl rfl rfl rfl (by decide) ly_54 rfl rfl ?_
    refine vx_eq (μ2 := μ) (by rw [sp_ups ht, vx_up_id]) rfl rfl ?_
    refine vx_iload_n dX9_way_5 rfl ?_
    refine vx_if_lt (tgt := 45) dX9_way_6 (by decide) (fun c_6 => ?_) (fun c_6 => ?_)
    · refine vx_iconst (v := 0) dX9_way_45 (by decide) ?_
      exact vx_ret (ty := .boolean) dX9_way_46 rfl rfl (Nat.le_refl 0) (Nat.le_refl 0) (vx_pst hP (by rw [if_neg (show ¬ mo_wok n a b days from fun h => h.1 c_6)]) (by rw [if_neg (show ¬ mo_wok n a b days from fun h => h.1 c_6)]))
    · refine vx_iload_n dX9_way_9 rfl ?_
      refine vx_aload_n dX9_way_10 rfl ?_
      refine vx_getI (ci := 9) (T := TX9) (n := 56) (j := 18) (a := 54) (v := (nI n)) dX9_way_11 rfl lay_X9 (by decide) wd_754 (by decide) ly_54 rfl hc ?_
      refine vx_icmp_gt (tgt := 45) dX9_way_14 (by decide) (fun c_14 => ?_) (fun c_14 => ?_)
      · refine vx_iconst (v := 0) dX9_way_45 (by decide) ?_
        exact vx_ret (ty := .boolean) dX9_way_46 rfl rfl (Nat.le_refl 0) (Nat.le_refl 0) (vx_pst hP (by rw [if_neg (show ¬ mo_wok n a b days from fun h => h.2.1 c_14)]) (by rw [if_neg (show ¬ mo_wok n a b days from fun h => h.2.1 c_14)]))
      · refine vx_iload_n dX9_way_17 rfl ?_
        refine vx_if_lt (tgt := 45) dX9_way_18 (by decide) (fun c_18 => ?_) (fun c_18 => ?_)
        · refine vx_iconst (v := 0) dX9_way_45 (by decide) ?_
          exact vx_ret (ty := .boolean) dX9_way_46 rfl rfl (Nat.le_refl 0) (Nat.le_refl 0) (vx_pst hP (by rw [if_neg (show ¬ mo_wok n a b days from fun h => h.2.2.1 c_18)]) (by rw [if_neg (show ¬ mo_wok n a b days from fun h => h.2.2.1 c_18)]))
        · refine vx_iload_n dX9_way_21 rfl ?_
          refine vx_aload_n dX9_way_22 rfl ?_
          refine vx_getI (ci := 9) (T := TX9) (n := 56) (j := 18) (a := 54) (v := (nI n)) dX9_way_23 rfl lay_X9 (by decide) wd_754 (by decide) ly_54 rfl hc ?_
          refine vx_icmp_gt (tgt := 45) dX9_way_26 (by decide) (fun c_26 => ?_) (fun c_26 => ?_)
          · refine vx_iconst (v := 0) dX9_way_45 (by decide) ?_
            exact vx_ret (ty := .boolean) dX9_way_46 rfl rfl (Nat.le_refl 0) (Nat.le_refl 0) (vx_pst hP (by rw [if_neg (show ¬ mo_wok n a b days from fun h => h.2.2.2.1 c_26)]) (by rw [if_neg (show ¬ mo_wok n a b days from fun h => h.2.2.2.1 c_26)]))
          · refine vx_iload_n dX9_way_29 rfl ?_
            refine vx_iload_n dX9_way_30 rfl ?_
            refine vx_icmp_eq (tgt := 45) dX9_way_31 (by decide) (fun c_31 => ?_) (fun c_31 => ?_)
            · refine vx_iconst (v := 0) dX9_way_45 (by decide) ?_
              exact vx_ret (ty := .boolean) dX9_way_46 rfl rfl (Nat.le_refl 0) (Nat.le_refl 0) (vx_pst hP (by rw [if_neg (show ¬ mo_wok n a b days from fun h => h.2.2.2.2.1 c_31)]) (by rw [if_neg (show ¬ mo_wok n a b days from fun h => h.2.2.2.2.1 c_31)]))
            · refine vx_iload_n dX9_way_34 rfl ?_
              refine vx_iconst (v := (-1)) dX9_way_35 (by decide) ?_
              refine vx_icmp_lt (tgt := 45) dX9_way_36 (by decide) (fun c_36 => ?_) (fun c_36 => ?_)
              · refine vx_iconst (v := 0) dX9_way_45 (by decide) ?_
                exact vx_ret (ty := .boolean) dX9_way_46 rfl rfl (Nat.le_refl 0) (Nat.le_refl 0) (vx_pst hP (by rw [if_neg (show ¬ mo_wok n a b days from fun h => h.2.2.2.2.2.1 c_36)]) (by rw [if_neg (show ¬ mo_wok n a b days from fun h => h.2.2.2.2.2.1 c_36)]))
              · refine vx_iload_n dX9_way_39 rfl ?_
                refine vx_bipush (v := 9) dX9_way_40 (by decide) ?_
                refine vx_icmp_le (tgt := 47) dX9_way_42 (by decide) (fun c_42 => ?_) (fun c_42 => ?_)
                · have hokk : mo_wok n a b days := ⟨c_6, c_14, c_18, c_26, c_31, c_36, c_42⟩
                  rw [if_pos hokk, if_pos hokk] at hP
                  obtain ⟨i, rfl, hi⟩ := mo_plc hn c_6 c_14
                  obtain ⟨j, rfl, hj⟩ := mo_plc hn c_18 c_26
                  rw [nI_clamp (by omega), nI_clamp (by omega)] at hP
                  refine vx_aload_n dX9_way_47 rfl ?_
                  refine vx_getR (ci := 9) (T := TX9) (n := 56) (j := 30) (a := 54) (r := 71) dX9_way_48 rfl lay_X9 (by decide) wd_766 (by decide) ly_54 rfl ?_
                  refine vx_bipush (v := 8) dX9_way_51 (by decide) ?_
                  refine vx_iload_n dX9_way_53 rfl ?_
                  refine vx_imul dX9_way_54 ?_
                  refine vx_eq (st2 := [.inl (nI (8 * i)), vx_r 71]) rfl rfl (by rw [show (8 : Int32) = nI 8 from rfl, pk_mul]) ?_
                  refine vx_iload_n dX9_way_55 rfl ?_
                  refine vx_iadd dX9_way_56 ?_
                  refine vx_eq (st2 := [.inl (nI ((8 * i) + j)), vx_r 71]) rfl rfl (by rw [nI_add]) ?_
                  refine vx_iload_n dX9_way_57 rfl ?_
                  refine vx_iconst (v := 1) dX9_way_58 (by decide) ?_
                  refine vx_iadd dX9_way_59 ?_
                  refine vx_iast (a := 71) (n := 64) (μ2 := (va_up μ 71 (upd (μ 71) ((8 * i) + j) (days + 1)))) dX9_way_60 (by decide) ly_71 (vp_in_nI (by omega) (by omega)) (by rw [nI_clamp (by omega)]; try exact rfl) ?_
                  refine vx_aload_n dX9_way_61 rfl ?_
                  refine vx_getR (ci := 9) (T := TX9) (n := 56) (j := 30) (a := 54) (r := 71) dX9_way_62 rfl lay_X9 (by decide) wd_766 (by decide) ly_54 rfl ?_
                  refine vx_bipush (v := 8) dX9_way_65 (by decide) ?_
                  refine vx_iload_n dX9_way_67 rfl ?_
                  refine vx_imul dX9_way_68 ?_
                  refine vx_eq (st2 := [.inl (nI (8 * j)), vx_r 71]) rfl rfl (by rw [show (8 : Int32) = nI 8 from rfl, pk_mul]) ?_
                  refine vx_iload_n dX9_way_69 rfl ?_
                  refine vx_iadd dX9_way_70 ?_
                  refine vx_eq (st2 := [.inl (nI ((8 * j) + i)), vx_r 71]) rfl rfl (by rw [nI_add]) ?_
                  refine vx_iload_n dX9_way_71 rfl ?_
                  refine vx_iconst (v := 1) dX9_way_72 (by decide) ?_
                  refine vx_iadd dX9_way_73 ?_
                  refine vx_iast (a := 71) (n := 64) (μ2 := (va_up μ 71 (upd (upd (μ 71) ((8 * i) + j) (days + 1)) ((8 * j) + i) (days + 1)))) dX9_way_74 (by decide) ly_71 (vp_in_nI (by omega) (by omega)) (by rw [nI_clamp (by omega)]; try exact vx_m1) ?_
                  refine vx_iconst (v := 1) dX9_way_75 (by decide) ?_
                  exact vx_ret (ty := .boolean) dX9_way_76 rfl rfl (Nat.le_refl 0) (Nat.le_refl 0) (vx_pst hP rfl rfl)
                · refine vx_iconst (v := 0) dX9_way_45 (by decide) ?_
                  exact vx_ret (ty := .boolean) dX9_way_46 rfl rfl (Nat.le_refl 0) (Nat.le_refl 0) (vx_pst hP (by rw [if_neg (show ¬ mo_wok n a b days from fun h => c_42 h.2.2.2.2.2.2)]) (by rw [if_neg (show ¬ mo_wok n a b days from fun h => c_42 h.2.2.2.2.2.2)]))
  exact vx_J.M pn_X9_way (Nat.le_of_ble_eq_true rfl) (key _ _ ⟨rfl, rfl, rfl, rfl, rfl⟩)
abbrev mo_bok (μ : vx_mem) (f how coins : Int32) : Prop := ¬ sp_in f 1 (μ 54 18) = 0 ∧ ¬ how < 0 ∧ ¬ 1 < how ∧ ¬ coins < 0 ∧ coins ≤ 999
set_option maxRecDepth 20000 in
set_option maxHeartbeats 2000000 in
theorem c_X9_bargain (d : Nat) (hd : 1 ≤ d) (ad : Nat → Nat) (μ : vx_mem) (ht : μ 54 0 = 0) (n : Nat) (hc : μ 54 18 = nI n) (hn : n ≤ 7) (f how coins : Int32) : vx_Mf yX9_bargain cX9_bargain 4 (some (.boolean)) d ad 82 vx_lay μ [vx_r 54, .inl f, .inl how, .inl coins] (some (.inl (if mo_bok μ f how coins then 1 else 0))) (if mo_bok μ f how coins then va_up (va_up μ 69 (upd (μ 69) f.toNatClampNeg how)) 70 (upd (μ 70) f.toNatClampNeg coins) else μ) := by
  have key : ∀ (Post : vx_P) (ini : Bool), Post (some (.inl (if mo_bok μ f how coins then 1 else 0))) ad 82 vx_lay (if mo_bok μ f how coins then va_up (va_up μ 69 (upd (μ 69) f.toNatClampNeg how)) 70 (upd (μ 70) f.toNatClampNeg coins) else μ) → vx_J RX9 cX9_bargain 4 (some (.boolean)) ini d 0 0 Post ad 0 0 82 vx_lay μ 0 [(0, vx_r 54), (1, .inl f), (2, .inl how), (3, .inl coins)] [] := by
    intro Post ini hP
    refine vx_aload_n dX9_bargain_0 rfl ?_
    refine vx_iconst (v := 0) dX9_bargain_1 (by decide) ?_
    refine vx_putI (ci := 9) (T := TX9) (n := 56) (j := 0) (a := 54) (ty := .int) (μ2 := (va_up μ 54 (upd (μ 54) 0 0))) dX9_bargain_2 rfl lay_X9 tyX9_ok nmX9 (by decide) wd_736 rfl rfl rfl rfl (by decide) ly_54 rfl rfl ?_
    refine vx_eq (μ2 := μ) (by rw [sp_ups ht, vx_up_id]) rfl rfl ?_
    refine vx_aload_n dX9_bargain_5 rfl ?_
    refine vx_iload_n dX9_bargain_6 rfl ?_
    refine vx_callV (b := 54) (vs := [.inl f]) (st := []) (r0 := (some (.inl (sp_in f 1 (μ 54 18))))) (μ0 := μ) dX9_bargain_7 (c_X9_isFarm (d - 1) ad μ f) wd_961 wd_964 wd_54 hy_X9_isFarm wd_963 wd_29 (by decide) ly_54 rfl rfl (by omega) (Nat.le_of_ble_eq_true rfl) (Nat.le_of_ble_eq_true rfl) (Nat.le_refl 0) (Nat.le_refl 0) ?_
    refine vx_eq (μ2 := μ) (ls2 := [(0, vx_r 54), (1, .inl f), (2, .inl how), (3, .inl coins)]) (st2 := [.inl (sp_in f 1 (μ 54 18))]) rfl rfl rfl ?_
    refine vx_if_eq (tgt := 33) dX9_bargain_10 (by decide) (fun c_10 => ?_) (fun c_10 => ?_)
    · refine vx_iconst (v := 0) dX9_bargain_33 (by decide) ?_
      exact vx_ret (ty := .boolean) dX9_bargain_34 rfl rfl (Nat.le_refl 0) (Nat.le_refl 0) (vx_pst hP (by rw [if_neg (show ¬ mo_bok μ f how coins from fun h => h.1 c_10)]) (by rw [if_neg (show ¬ mo_bok μ f how coins from fun h => h.1 c_10)]))
    · refine vx_iload_n dX9_bargain_13 rfl ?_
      refine vx_if_lt (tgt := 33) dX9_bargain_14 (by decide) (fun c_14 => ?_) (fun c_14 => ?_)
      · refine vx_iconst (v := 0) dX9_bargain_33 (by decide) ?_
        exact vx_ret (ty := .boolean) dX9_bargain_34 rfl rfl (Nat.le_refl 0) (Nat.le_refl 0) (vx_pst hP (by rw [if_neg (show ¬ mo_bok μ f how coins from fun h => h.2.1 c_14)]) (by rw [if_neg (show ¬ mo_bok μ f how coins from fun h => h.2.1 c_14)]))
      · refine vx_iload_n dX9_bargain_17 rfl ?_
        refine vx_iconst (v := 1) dX9_bargain_18 (by decide) ?_
        refine vx_icmp_gt (tgt := 33) dX9_bargain_19 (by decide) (fun c_19 => ?_) (fun c_19 => ?_)
        · refine vx_iconst (v := 0) dX9_bargain_33 (by decide) ?_
          exact vx_ret (ty := .boolean) dX9_bargain_34 rfl rfl (Nat.le_refl 0) (Nat.le_refl 0) (vx_pst hP (by rw [if_neg (show ¬ mo_bok μ f how coins from fun h => h.2.2.1 c_19)]) (by rw [if_neg (show ¬ mo_bok μ f how coins from fun h => h.2.2.1 c_19)]))
        · refine vx_iload_n dX9_bargain_22 rfl ?_
          refine vx_if_lt (tgt := 33) dX9_bargain_23 (by decide) (fun c_23 => ?_) (fun c_23 => ?_)
          · refine vx_iconst (v := 0) dX9_bargain_33 (by decide) ?_
            exact vx_ret (ty := .boolean) dX9_bargain_34 rfl rfl (Nat.le_refl 0) (Nat.le_refl 0) (vx_pst hP (by rw [if_neg (show ¬ mo_bok μ f how coins from fun h => h.2.2.2.1 c_23)]) (by rw [if_neg (show ¬ mo_bok μ f how coins from fun h => h.2.2.2.1 c_23)]))
          · refine vx_iload_n dX9_bargain_26 rfl ?_
            refine vx_sipush (v := 999) dX9_bargain_27 (by decide) ?_
            refine vx_icmp_le (tgt := 35) dX9_bargain_30 (by decide) (fun c_30 => ?_) (fun c_30 => ?_)
            · have hokk : mo_bok μ f how coins := ⟨c_10, c_14, c_19, c_23, c_30⟩
              rw [if_pos hokk, if_pos hokk] at hP
              obtain ⟨k, rfl, k1, k2⟩ := sp_in_far hc hn c_10
              rw [nI_clamp (by omega)] at hP
              refine vx_aload_n dX9_bargain_35 rfl ?_
              refine vx_getR (ci := 9) (T := TX9) (n := 56) (j := 28) (a := 54) (r := 69) dX9_bargain_36 rfl lay_X9 (by decide) wd_764 (by decide) ly_54 rfl ?_
              refine vx_iload_n dX9_bargain_39 rfl ?_
              refine vx_iload_n dX9_bargain_40 rfl ?_
              refine vx_iast (a := 69) (n := 8) (μ2 := (va_up μ 69 (upd (μ 69) k how))) dX9_bargain_41 (by decide) ly_69 (vp_in_nI (by omega) (by omega)) (by rw [nI_clamp (by omega)]; try exact rfl) ?_
              refine vx_aload_n dX9_bargain_42 rfl ?_
              refine vx_getR (ci := 9) (T := TX9) (n := 56) (j := 29) (a := 54) (r := 70) dX9_bargain_43 rfl lay_X9 (by decide) wd_765 (by decide) ly_54 rfl ?_
              refine vx_iload_n dX9_bargain_46 rfl ?_
              refine vx_iload_n dX9_bargain_47 rfl ?_
              refine vx_iast (a := 70) (n := 8) (μ2 := (va_up (va_up μ 69 (upd (μ 69) k how)) 70 (upd (μ 70) k coins))) dX9_bargain_48 (by decide) ly_70 (vp_in_nI (by omega) (by omega)) (by rw [nI_clamp (by omega)]; try exact rfl) ?_
              refine vx_iconst (v := 1) dX9_bargain_49 (by decide) ?_
              exact vx_ret (ty := .boolean) dX9_bargain_50 rfl rfl (Nat.le_refl 0) (Nat.le_refl 0) (vx_pst hP rfl rfl)
            · refine vx_iconst (v := 0) dX9_bargain_33 (by decide) ?_
              exact vx_ret (ty := .boolean) dX9_bargain_34 rfl rfl (Nat.le_refl 0) (Nat.le_refl 0) (vx_pst hP (by rw [if_neg (show ¬ mo_bok μ f how coins from fun h => c_30 h.2.2.2.2)]) (by rw [if_neg (show ¬ mo_bok μ f how coins from fun h => c_30 h.2.2.2.2)]))
  exact vx_J.M pn_X9_bargain (Nat.le_of_ble_eq_true rfl) (key _ _ ⟨rfl, rfl, rfl, rfl, rfl⟩)
set_option maxRecDepth 20000 in
set_option maxHeartbeats 2000000 in
theorem c_X9_isDone (d : Nat) (ad : Nat → Nat) (μ : vx_mem) (k : Nat) (hk : k < 8) : vx_Mf yX9_isDone cX9_isDone 2 (some (.boolean)) d ad 82 vx_lay μ [vx_r 54, .inl (nI k)] (some (.inl (if μ 61 k = 0 then 1 else 0))) μ := by
  have key : ∀ (Post : vx_P) (ini : Bool), Post (some (.inl (if μ 61 k = 0 then 1 else 0))) ad 82 vx_lay μ → vx_J RX9 cX9_isDone 2 (some (.boolean)) ini d 0 0 Post ad 0 0 82 vx_lay μ 0 [(0, vx_r 54), (1, .inl (nI k))] [] := by
    intro Post ini hP
    refine vx_aload_n dX9_isDone_0 rfl ?_
    refine vx_getR (ci := 9) (T := TX9) (n := 56) (j := 20) (a := 54) (r := 61) dX9_isDone_1 rfl lay_X9 (by decide) wd_756 (by decide) ly_54 rfl ?_
    refine vx_iload_n dX9_isDone_4 rfl ?_
    refine vx_iald (a := 61) (n := 8) (v := (μ 61 k)) dX9_isDone_5 (by decide) ly_61 (vp_in_nI (by omega) (by omega)) (by rw [nI_clamp (by omega)]) ?_
    refine vx_if_ne (tgt := 13) dX9_isDone_6 (by decide) (fun c_6 => ?_) (fun c_6 => ?_)
    · refine vx_iconst (v := 0) dX9_isDone_13 (by decide) ?_
      exact vx_ret (ty := .boolean) dX9_isDone_14 rfl rfl (Nat.le_refl 0) (Nat.le_refl 0) (vx_pst hP (by simp [*]) rfl)
    · refine vx_iconst (v := 1) dX9_isDone_9 (by decide) ?_
      refine vx_goto (tgt := 14) dX9_isDone_10 (by decide) ?_
      exact vx_ret (ty := .boolean) dX9_isDone_14 rfl rfl (Nat.le_refl 0) (Nat.le_refl 0) (vx_pst hP (by simp [*]) rfl)
  exact vx_J.M pn_X9_isDone (Nat.le_of_ble_eq_true rfl) (key _ _ ⟨rfl, rfl, rfl, rfl, rfl⟩)
set_option maxRecDepth 20000 in
set_option maxHeartbeats 2000000 in
theorem c_X9_lossOf (d : Nat) (hd : 1 ≤ d) (ad : Nat → Nat) (μ : vx_mem) (en : Int32) (k : Nat) (hk : k < 8) : vx_Mf yX9_lossOf cX9_lossOf 3 (some (.int)) d ad 82 vx_lay μ [vx_r 54, .inl en, .inl (nI k)] (some (.inl (μ 56 3 * sp_max 0 (en - μ 66 k - 1)))) μ := by
  have key : ∀ (Post : vx_P) (ini : Bool), Post (some (.inl (μ 56 3 * sp_max 0 (en - μ 66 k - 1)))) ad 82 vx_lay μ → vx_J RX9 cX9_lossOf 3 (some (.int)) ini d 0 0 Post ad 0 0 82 vx_lay μ 0 [(0, vx_r 54), (1, .inl en), (2, .inl (nI k))] [] := by
    intro Post ini hP
    refine vx_aload_n dX9_lossOf_0 rfl ?_
    refine vx_getR (ci := 9) (T := TX9) (n := 56) (j := 3) (a := 54) (r := 56) dX9_lossOf_1 rfl lay_X9 (by decide) wd_739 (by decide) ly_54 rfl ?_
    refine vx_iconst (v := 3) dX9_lossOf_4 (by decide) ?_
    refine vx_iald (a := 56) (n := 12) (v := (μ 56 3)) dX9_lossOf_5 (by decide) ly_56 (by unfold vp_in; decide) rfl ?_
    refine vx_iconst (v := 0) dX9_lossOf_6 (by decide) ?_
    refine vx_iload_n dX9_lossOf_7 rfl ?_
    refine vx_aload_n dX9_lossOf_8 rfl ?_
    refine vx_getR (ci := 9) (T := TX9) (n := 56) (j := 25) (a := 54) (r := 66) dX9_lossOf_9 rfl lay_X9 (by decide) wd_761 (by decide) ly_54 rfl ?_
    refine vx_iload_n dX9_lossOf_12 rfl ?_
    refine vx_iald (a := 66) (n := 8) (v := (μ 66 k)) dX9_lossOf_13 (by decide) ly_66 (vp_in_nI (by omega) (by omega)) (by rw [nI_clamp (by omega)]) ?_
    refine vx_isub dX9_lossOf_14 ?_
    refine vx_iconst (v := 1) dX9_lossOf_15 (by decide) ?_
    refine vx_isub dX9_lossOf_16 ?_
    refine vx_mmax dX9_lossOf_17 wd_986 (by omega) (Nat.le_of_ble_eq_true rfl) (Nat.le_refl 0) (Nat.le_refl 0) ?_
    refine vx_imul dX9_lossOf_20 ?_
    exact vx_ret (ty := .int) dX9_lossOf_21 rfl rfl (Nat.le_refl 0) (Nat.le_refl 0) (vx_pst hP rfl rfl)
  exact vx_J.M pn_X9_lossOf (Nat.le_of_ble_eq_true rfl) (key _ _ ⟨rfl, rfl, rfl, rfl, rfl⟩)
def mo_sacks (μ : vx_mem) (k : Nat) : Int32 := (μ 60 k - μ 61 k) * (100 - μ 56 5 * μ 62 k) / (100 * μ 56 2)
set_option maxRecDepth 20000 in
set_option maxHeartbeats 2000000 in
theorem c_X9_sacksOf (d : Nat) (ad : Nat → Nat) (μ : vx_mem) (k : Nat) (hk : k < 8) (hne : ¬ 100 * μ 56 2 = 0) : vx_Mf yX9_sacksOf cX9_sacksOf 2 (some (.int)) d ad 82 vx_lay μ [vx_r 54, .inl (nI k)] (some (.inl (mo_sacks μ k))) μ := by
  have key : ∀ (Post : vx_P) (ini : Bool), Post (some (.inl (mo_sacks μ k))) ad 82 vx_lay μ → vx_J RX9 cX9_sacksOf 2 (some (.int)) ini d 0 0 Post ad 0 0 82 vx_lay μ 0 [(0, vx_r 54), (1, .inl (nI k))] [] := by
    intro Post ini hP
    refine vx_aload_n dX9_sacksOf_0 rfl ?_
    refine vx_getR (ci := 9) (T := TX9) (n := 56) (j := 19) (a := 54) (r := 60) dX9_sacksOf_1 rfl lay_X9 (by decide) wd_755 (by decide) ly_54 rfl ?_
    refine vx_iload_n dX9_sacksOf_4 rfl ?_
    refine vx_iald (a := 60) (n := 8) (v := (μ 60 k)) dX9_sacksOf_5 (by decide) ly_60 (vp_in_nI (by omega) (by omega)) (by rw [nI_clamp (by omega)]) ?_
    refine vx_aload_n dX9_sacksOf_6 rfl ?_
    refine vx_getR (ci := 9) (T := TX9) (n := 56) (j := 20) (a := 54) (r := 61) dX9_sacksOf_7 rfl lay_X9 (by decide) wd_756 (by decide) ly_54 rfl ?_
    refine vx_iload_n dX9_sacksOf_10 rfl ?_
    refine vx_iald (a := 61) (n := 8) (v := (μ 61 k)) dX9_sacksOf_11 (by decide) ly_61 (vp_in_nI (by omega) (by omega)) (by rw [nI_clamp (by omega)]) ?_
    refine vx_isub dX9_sacksOf_12 ?_
    refine vx_bipush (v := 100) dX9_sacksOf_13 (by decide) ?_
    refine vx_aload_n dX9_sacksOf_15 rfl ?_
    refine vx_getR (ci := 9) (T := TX9) (n := 56) (j := 3) (a := 54) (r := 56) dX9_sacksOf_16 rfl lay_X9 (by decide) wd_739 (by decide) ly_54 rfl ?_
    refine vx_iconst (v := 5) dX9_sacksOf_19 (by decide) ?_
    refine vx_iald (a := 56) (n := 12) (v := (μ 56 5)) dX9_sacksOf_20 (by decide) ly_56 (by unfold vp_in; decide) rfl ?_
    refine vx_aload_n dX9_sacksOf_21 rfl ?_
    refine vx_getR (ci := 9) (T := TX9) (n := 56) (j := 21) (a := 54) (r := 62) dX9_sacksOf_22 rfl lay_X9 (by decide) wd_757 (by decide) ly_54 rfl ?_
    refine vx_iload_n dX9_sacksOf_25 rfl ?_
    refine vx_iald (a := 62) (n := 8) (v := (μ 62 k)) dX9_sacksOf_26 (by decide) ly_62 (vp_in_nI (by omega) (by omega)) (by rw [nI_clamp (by omega)]) ?_
    refine vx_imul dX9_sacksOf_27 ?_
    refine vx_isub dX9_sacksOf_28 ?_
    refine vx_imul dX9_sacksOf_29 ?_
    refine vx_bipush (v := 100) dX9_sacksOf_30 (by decide) ?_
    refine vx_aload_n dX9_sacksOf_32 rfl ?_
    refine vx_getR (ci := 9) (T := TX9) (n := 56) (j := 3) (a := 54) (r := 56) dX9_sacksOf_33 rfl lay_X9 (by decide) wd_739 (by decide) ly_54 rfl ?_
    refine vx_iconst (v := 2) dX9_sacksOf_36 (by decide) ?_
    refine vx_iald (a := 56) (n := 12) (v := (μ 56 2)) dX9_sacksOf_37 (by decide) ly_56 (by unfold vp_in; decide) rfl ?_
    refine vx_imul dX9_sacksOf_38 ?_
    refine vx_idiv dX9_sacksOf_39 hne ?_
    exact vx_ret (ty := .int) dX9_sacksOf_40 rfl rfl (Nat.le_refl 0) (Nat.le_refl 0) (vx_pst hP rfl rfl)
  exact vx_J.M pn_X9_sacksOf (Nat.le_of_ble_eq_true rfl) (key _ _ ⟨rfl, rfl, rfl, rfl, rfl⟩)
abbrev mo_kok (x : Int32) : Prop := ¬ x < 1 ∧ x ≤ 9
set_option maxRecDepth 20000 in
set_option maxHeartbeats 2000000 in
theorem c_X9_breaks (d : Nat) (ad : Nat → Nat) (μ : vx_mem) (ht : μ 54 0 = 0) (x : Int32) : vx_Mf yX9_breaks cX9_breaks 2 (some (.boolean)) d ad 82 vx_lay μ [vx_r 54, .inl x] (some (.inl (if mo_kok x then 1 else 0))) (if mo_kok x then va_up μ 54 (upd (μ 54) 38 x) else μ) := by
  have key : ∀ (Post : vx_P) (ini : Bool), Post (some (.inl (if mo_kok x then 1 else 0))) ad 82 vx_lay (if mo_kok x then va_up μ 54 (upd (μ 54) 38 x) else μ) → vx_J RX9 cX9_breaks 2 (some (.boolean)) ini d 0 0 Post ad 0 0 82 vx_lay μ 0 [(0, vx_r 54), (1, .inl x)] [] := by
    intro Post ini hP
    refine vx_aload_n dX9_breaks_0 rfl ?_
    refine vx_iconst (v := 0) dX9_breaks_1 (by decide) ?_
    refine vx_putI (ci := 9) (T := TX9) (n := 56) (j := 0) (a := 54) (ty := .int) (μ2 := (va_up μ 54 (upd (μ 54) 0 0))) dX9_breaks_2 rfl lay_X9 tyX9_ok nmX9 (by decide) wd_736 rfl rfl rfl rfl (by decide) ly_54 rfl rfl ?_
    refine vx_eq (μ2 := μ) (by rw [sp_ups ht, vx_up_id]) rfl rfl ?_
    refine vx_iload_n dX9_breaks_5 rfl ?_
    refine vx_iconst (v := 1) dX9_breaks_6 (by decide) ?_
    refine vx_icmp_lt (tgt := 16) dX9_breaks_7 (by decide) (fun c_7 => ?_) (fun c_7 => ?_)
    · refine vx_iconst (v := 0) dX9_breaks_16 (by decide) ?_
      exact vx_ret (ty := .boolean) dX9_breaks_17 rfl rfl (Nat.le_refl 0) (Nat.le_refl 0) (vx_pst hP (by rw [if_neg (show ¬ mo_kok x from fun h => h.1 c_7)]) (by rw [if_neg (show ¬ mo_kok x from fun h => h.1 c_7)]))
    · refine vx_iload_n dX9_breaks_10 rfl ?_
      refine vx_bipush (v := 9) dX9_breaks_11 (by decide) ?_
      refine vx_icmp_le (tgt := 18) dX9_breaks_13 (by decide) (fun c_13 => ?_) (fun c_13 => ?_)
      · refine vx_aload_n dX9_breaks_18 rfl ?_
        refine vx_iload_n dX9_breaks_19 rfl ?_
        refine vx_putI (ci := 9) (T := TX9) (n := 56) (j := 38) (a := 54) (ty := .int) (μ2 := (va_up μ 54 (upd (μ 54) 38 x))) dX9_breaks_20 rfl lay_X9 tyX9_ok nmX9 (by decide) wd_774 rfl rfl rfl rfl (by decide) ly_54 rfl rfl ?_
        refine vx_iconst (v := 1) dX9_breaks_23 (by decide) ?_
        exact vx_ret (ty := .boolean) dX9_breaks_24 rfl rfl (Nat.le_refl 0) (Nat.le_refl 0) (vx_pst hP (by rw [if_pos (show mo_kok x from ⟨c_7, c_13⟩)]) (by rw [if_pos (show mo_kok x from ⟨c_7, c_13⟩)]))
      · refine vx_iconst (v := 0) dX9_breaks_16 (by decide) ?_
        exact vx_ret (ty := .boolean) dX9_breaks_17 rfl rfl (Nat.le_refl 0) (Nat.le_refl 0) (vx_pst hP (by rw [if_neg (show ¬ mo_kok x from fun h => c_13 h.2)]) (by rw [if_neg (show ¬ mo_kok x from fun h => c_13 h.2)]))
  exact vx_J.M pn_X9_breaks (Nat.le_of_ble_eq_true rfl) (key _ _ ⟨rfl, rfl, rfl, rfl, rfl⟩)
abbrev mo_wrk (μ : vx_mem) : Prop := ¬ μ 54 46 = 0 ∧ ¬ μ 54 47 = 0 ∧ ¬ μ 54 44 ≤ μ 54 48 ∧ μ 54 36 = 0
set_option maxRecDepth 20000 in
set_option maxHeartbeats 2000000 in
theorem c_X9_isAtWork (d : Nat) (ad : Nat → Nat) (μ : vx_mem)  : vx_Mf yX9_isAtWork cX9_isAtWork 1 (some (.boolean)) d ad 82 vx_lay μ [vx_r 54] (some (.inl (if mo_wrk μ then 1 else 0))) μ := by
  have key : ∀ (Post : vx_P) (ini : Bool), Post (some (.inl (if mo_wrk μ then 1 else 0))) ad 82 vx_lay μ → vx_J RX9 cX9_isAtWork 1 (some (.boolean)) ini d 0 0 Post ad 0 0 82 vx_lay μ 0 [(0, vx_r 54)] [] := by
    intro Post ini hP
    refine vx_aload_n dX9_isAtWork_0 rfl ?_
    refine vx_getI (ci := 9) (T := TX9) (n := 56) (j := 46) (a := 54) (v := (μ 54 46)) dX9_isAtWork_1 rfl lay_X9 (by decide) wd_782 (by decide) ly_54 rfl rfl ?_
    refine vx_if_eq (tgt := 36) dX9_isAtWork_4 (by decide) (fun c_4 => ?_) (fun c_4 => ?_)
    · refine vx_iconst (v := 0) dX9_isAtWork_36 (by decide) ?_
      exact vx_ret (ty := .boolean) dX9_isAtWork_37 rfl rfl (Nat.le_refl 0) (Nat.le_refl 0) (vx_pst hP (by rw [if_neg (show ¬ mo_wrk μ from fun h => h.1 c_4)]) rfl)
    · refine vx_aload_n dX9_isAtWork_7 rfl ?_
      refine vx_getI (ci := 9) (T := TX9) (n := 56) (j := 47) (a := 54) (v := (μ 54 47)) dX9_isAtWork_8 rfl lay_X9 (by decide) wd_783 (by decide) ly_54 rfl rfl ?_
      refine vx_if_eq (tgt := 36) dX9_isAtWork_11 (by decide) (fun c_11 => ?_) (fun c_11 => ?_)
      · refine vx_iconst (v := 0) dX9_isAtWork_36 (by decide) ?_
        exact vx_ret (ty := .boolean) dX9_isAtWork_37 rfl rfl (Nat.le_refl 0) (Nat.le_refl 0) (vx_pst hP (by rw [if_neg (show ¬ mo_wrk μ from fun h => h.2.1 c_11)]) rfl)
      · refine vx_aload_n dX9_isAtWork_14 rfl ?_
        refine vx_getI (ci := 9) (T := TX9) (n := 56) (j := 48) (a := 54) (v := (μ 54 48)) dX9_isAtWork_15 rfl lay_X9 (by decide) wd_784 (by decide) ly_54 rfl rfl ?_
        refine vx_aload_n dX9_isAtWork_18 rfl ?_
        refine vx_getI (ci := 9) (T := TX9) (n := 56) (j := 44) (a := 54) (v := (μ 54 44)) dX9_isAtWork_19 rfl lay_X9 (by decide) wd_780 (by decide) ly_54 rfl rfl ?_
        refine vx_icmp_ge (tgt := 36) dX9_isAtWork_22 (by decide) (fun c_22 => ?_) (fun c_22 => ?_)
        · refine vx_iconst (v := 0) dX9_isAtWork_36 (by decide) ?_
          exact vx_ret (ty := .boolean) dX9_isAtWork_37 rfl rfl (Nat.le_refl 0) (Nat.le_refl 0) (vx_pst hP (by rw [if_neg (show ¬ mo_wrk μ from fun h => h.2.2.1 c_22)]) rfl)
        · refine vx_aload_n dX9_isAtWork_25 rfl ?_
          refine vx_getI (ci := 9) (T := TX9) (n := 56) (j := 36) (a := 54) (v := (μ 54 36)) dX9_isAtWork_26 rfl lay_X9 (by decide) wd_772 (by decide) ly_54 rfl rfl ?_
          refine vx_if_ne (tgt := 36) dX9_isAtWork_29 (by decide) (fun c_29 => ?_) (fun c_29 => ?_)
          · refine vx_iconst (v := 0) dX9_isAtWork_36 (by decide) ?_
            exact vx_ret (ty := .boolean) dX9_isAtWork_37 rfl rfl (Nat.le_refl 0) (Nat.le_refl 0) (vx_pst hP (by rw [if_neg (show ¬ mo_wrk μ from fun h => c_29 h.2.2.2)]) rfl)
          · refine vx_iconst (v := 1) dX9_isAtWork_32 (by decide) ?_
            refine vx_goto (tgt := 37) dX9_isAtWork_33 (by decide) ?_
            exact vx_ret (ty := .boolean) dX9_isAtWork_37 rfl rfl (Nat.le_refl 0) (Nat.le_refl 0) (vx_pst hP (by rw [if_pos (show mo_wrk μ from ⟨c_4, c_11, c_22, c_29⟩)]) rfl)
  exact vx_J.M pn_X9_isAtWork (Nat.le_of_ble_eq_true rfl) (key _ _ ⟨rfl, rfl, rfl, rfl, rfl⟩)
end
