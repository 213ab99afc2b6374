section
theorem sp_uu {f : Nat → Int32} {k : Nat} {x y : Int32} : upd (upd f k x) k y = upd f k y := by
  funext j
  unfold upd
  by_cases h : j = k <;> simp [h]
abbrev sp_fok (μ : vx_mem) (a b c e f g : Int32) : Prop := ¬ sp_in a 1 300 = 0 ∧ ¬ sp_in b 0 9 = 0 ∧ ¬ sp_in c 0 12 = 0 ∧ ¬ sp_in e 0 12 = 0 ∧ ¬ sp_in f 0 99 = 0 ∧ ¬ sp_in g f 99 = 0 ∧ μ 6 0 < 7
def sp_farmM (μ : vx_mem) (n : Nat) (a b c e f g : Int32) : vx_mem := va_up (va_up (va_up (va_up (va_up (va_up (va_up (va_up (va_up μ 6 (upd (μ 6) 0 (nI (n + 1)))) 7 (upd (μ 7) (n + 1) a)) 8 (upd (μ 8) (n + 1) a)) 9 (upd (μ 9) (n + 1) b)) 10 (upd (μ 10) (n + 1) c)) 11 (upd (μ 11) (n + 1) e)) 12 (upd (μ 12) (n + 1) f)) 13 (upd (μ 13) (n + 1) g)) 15 (upd (μ 15) (n + 1) (-1))
theorem sp_lt7 {n : Nat} (hn : n ≤ 7) (h : nI n < 7) : n < 7 := by
  rw [zz_lt, nI_toInt (by omega)] at h
  have e : (7 : Int32).toInt = 7 := by decide
  omega
set_option maxRecDepth 20000 in
set_option maxHeartbeats 2000000 in
theorem c_X8_farm (d : Nat) (hd : 2 ≤ d) (ad : Nat → Nat) (μ : vx_mem) (n : Nat) (hc : μ 6 0 = nI n) (hn : n ≤ 7) (a b c e f g : Int32) : vx_Mf yX8_farm cX8_farm 9 (some (.int)) d ad 82 vx_lay μ [vx_r 0, .inl a, .inl b, .inl c, .inl e, .inl f, .inl g] (some (.inl (if sp_fok μ a b c e f g then nI (n + 1) else -1))) (if sp_fok μ a b c e f g then sp_farmM μ n a b c e f g else μ) := by
  have key : ∀ (Post : vx_P) (ini : Bool), Post (some (.inl (if sp_fok μ a b c e f g then nI (n + 1) else -1))) ad 82 vx_lay (if sp_fok μ a b c e f g then sp_farmM μ n a b c e f g else μ) → vx_J RX8 cX8_farm 9 (some (.int)) ini d 0 0 Post ad 0 0 82 vx_lay μ 0 [(0, vx_r 0), (1, .inl a), (2, .inl b), (3, .inl c), (4, .inl e), (5, .inl f), (6, .inl g)] [] := by
    intro Post ini hP
    refine vx_iload_n dX8_farm_0 rfl ?_
    refine vx_iconst (v := 1) dX8_farm_1 (by decide) ?_
    refine vx_sipush (v := 300) dX8_farm_2 (by decide) ?_
    refine vx_callS (vs := [.inl a, .inl 1, .inl 300]) (st := []) (r0 := (some (.inl (sp_in a 1 300)))) (μ0 := μ) dX8_farm_5 (c_X8_within (d - 1) ad 82 vx_lay μ a 1 300) wd_507 wd_416 wd_45 hy_X8_within wd_415 (by omega) (Nat.le_of_ble_eq_true rfl) (Nat.le_of_ble_eq_true rfl) (Nat.le_refl 0) (Nat.le_refl 0) ?_
    refine vx_eq (μ2 := μ) (ls2 := [(0, vx_r 0), (1, .inl a), (2, .inl b), (3, .inl c), (4, .inl e), (5, .inl f), (6, .inl g)]) (st2 := [.inl (sp_in a 1 300)]) rfl rfl rfl ?_
    refine vx_if_eq (tgt := 69) dX8_farm_8 (by decide) (fun c_8 => ?_) (fun c_8 => ?_)
    · refine vx_iconst (v := 0) dX8_farm_69 (by decide) ?_
      refine vx_istore (ls2 := [(7, .inl 0), (0, vx_r 0), (1, .inl a), (2, .inl b), (3, .inl c), (4, .inl e), (5, .inl f), (6, .inl g)]) dX8_farm_70 (by decide) rfl ?_
      refine vx_iload dX8_farm_72 rfl ?_
      refine vx_if_eq (tgt := 89) dX8_farm_74 (by decide) (fun _ => ?_) (fun h => absurd h (by decide))
      refine vx_iconst (v := (-1)) dX8_farm_89 (by decide) ?_
      exact vx_ret (ty := .int) dX8_farm_90 rfl rfl (Nat.le_refl 0) (Nat.le_refl 0) (vx_pst hP (by rw [if_neg (show ¬ sp_fok μ a b c e f g from fun h => h.1 c_8)]) (by rw [if_neg (show ¬ sp_fok μ a b c e f g from fun h => h.1 c_8)]))
    · refine vx_iload_n dX8_farm_11 rfl ?_
      refine vx_iconst (v := 0) dX8_farm_12 (by decide) ?_
      refine vx_bipush (v := 9) dX8_farm_13 (by decide) ?_
      refine vx_callS (vs := [.inl b, .inl 0, .inl 9]) (st := []) (r0 := (some (.inl (sp_in b 0 9)))) (μ0 := μ) dX8_farm_15 (c_X8_within (d - 1) ad 82 vx_lay μ b 0 9) wd_507 wd_416 wd_45 hy_X8_within wd_415 (by omega) (Nat.le_of_ble_eq_true rfl) (Nat.le_of_ble_eq_true rfl) (Nat.le_refl 0) (Nat.le_refl 0) ?_
      refine vx_eq (μ2 := μ) (ls2 := [(0, vx_r 0), (1, .inl a), (2, .inl b), (3, .inl c), (4, .inl e), (5, .inl f), (6, .inl g)]) (st2 := [.inl (sp_in b 0 9)]) rfl rfl rfl ?_
      refine vx_if_eq (tgt := 69) dX8_farm_18 (by decide) (fun c_18 => ?_) (fun c_18 => ?_)
      · refine vx_iconst (v := 0) dX8_farm_69 (by decide) ?_
        refine vx_istore (ls2 := [(7, .inl 0), (0, vx_r 0), (1, .inl a), (2, .inl b), (3, .inl c), (4, .inl e), (5, .inl f), (6, .inl g)]) dX8_farm_70 (by decide) rfl ?_
        refine vx_iload dX8_farm_72 rfl ?_
        refine vx_if_eq (tgt := 89) dX8_farm_74 (by decide) (fun _ => ?_) (fun h => absurd h (by decide))
        refine vx_iconst (v := (-1)) dX8_farm_89 (by decide) ?_
        exact vx_ret (ty := .int) dX8_farm_90 rfl rfl (Nat.le_refl 0) (Nat.le_refl 0) (vx_pst hP (by rw [if_neg (show ¬ sp_fok μ a b c e f g from fun h => h.2.1 c_18)]) (by rw [if_neg (show ¬ sp_fok μ a b c e f g from fun h => h.2.1 c_18)]))
      · refine vx_iload_n dX8_farm_21 rfl ?_
        refine vx_iconst (v := 0) dX8_farm_22 (by decide) ?_
        refine vx_bipush (v := 12) dX8_farm_23 (by decide) ?_
        refine vx_callS (vs := [.inl c, .inl 0, .inl 12]) (st := []) (r0 := (some (.inl (sp_in c 0 12)))) (μ0 := μ) dX8_farm_25 (c_X8_within (d - 1) ad 82 vx_lay μ c 0 12) wd_507 wd_416 wd_45 hy_X8_within wd_415 (by omega) (Nat.le_of_ble_eq_true rfl) (Nat.le_of_ble_eq_true rfl) (Nat.le_refl 0) (Nat.le_refl 0) ?_
        refine vx_eq (μ2 := μ) (ls2 := [(0, vx_r 0), (1, .inl a), (2, .inl b), (3, .inl c), (4, .inl e), (5, .inl f), (6, .inl g)]) (st2 := [.inl (sp_in c 0 12)]) rfl rfl rfl ?_
        refine vx_if_eq (tgt := 69) dX8_farm_28 (by decide) (fun c_28 => ?_) (fun c_28 => ?_)
        · refine vx_iconst (v := 0) dX8_farm_69 (by decide) ?_
          refine vx_istore (ls2 := [(7, .inl 0), (0, vx_r 0), (1, .inl a), (2, .inl b), (3, .inl c), (4, .inl e), (5, .inl f), (6, .inl g)]) dX8_farm_70 (by decide) rfl ?_
          refine vx_iload dX8_farm_72 rfl ?_
          refine vx_if_eq (tgt := 89) dX8_farm_74 (by decide) (fun _ => ?_) (fun h => absurd h (by decide))
          refine vx_iconst (v := (-1)) dX8_farm_89 (by decide) ?_
          exact vx_ret (ty := .int) dX8_farm_90 rfl rfl (Nat.le_refl 0) (Nat.le_refl 0) (vx_pst hP (by rw [if_neg (show ¬ sp_fok μ a b c e f g from fun h => h.2.2.1 c_28)]) (by rw [if_neg (show ¬ sp_fok μ a b c e f g from fun h => h.2.2.1 c_28)]))
        · refine vx_iload dX8_farm_31 rfl ?_
          refine vx_iconst (v := 0) dX8_farm_33 (by decide) ?_
          refine vx_bipush (v := 12) dX8_farm_34 (by decide) ?_
          refine vx_callS (vs := [.inl e, .inl 0, .inl 12]) (st := []) (r0 := (some (.inl (sp_in e 0 12)))) (μ0 := μ) dX8_farm_36 (c_X8_within (d - 1) ad 82 vx_lay μ e 0 12) wd_507 wd_416 wd_45 hy_X8_within wd_415 (by omega) (Nat.le_of_ble_eq_true rfl) (Nat.le_of_ble_eq_true rfl) (Nat.le_refl 0) (Nat.le_refl 0) ?_
          refine vx_eq (μ2 := μ) (ls2 := [(0, vx_r 0), (1, .inl a), (2, .inl b), (3, .inl c), (4, .inl e), (5, .inl f), (6, .inl g)]) (st2 := [.inl (sp_in e 0 12)]) rfl rfl rfl ?_
          refine vx_if_eq (tgt := 69) dX8_farm_39 (by decide) (fun c_39 => ?_) (fun c_39 => ?_)
          · refine vx_iconst (v := 0) dX8_farm_69 (by decide) ?_
            refine vx_istore (ls2 := [(7, .inl 0), (0, vx_r 0), (1, .inl a), (2, .inl b), (3, .inl c), (4, .inl e), (5, .inl f), (6, .inl g)]) dX8_farm_70 (by decide) rfl ?_
            refine vx_iload dX8_farm_72 rfl ?_
            refine vx_if_eq (tgt := 89) dX8_farm_74 (by decide) (fun _ => ?_) (fun h => absurd h (by decide))
            refine vx_iconst (v := (-1)) dX8_farm_89 (by decide) ?_
            exact vx_ret (ty := .int) dX8_farm_90 rfl rfl (Nat.le_refl 0) (Nat.le_refl 0) (vx_pst hP (by rw [if_neg (show ¬ sp_fok μ a b c e f g from fun h => h.2.2.2.1 c_39)]) (by rw [if_neg (show ¬ sp_fok μ a b c e f g from fun h => h.2.2.2.1 c_39)]))
          · refine vx_iload dX8_farm_42 rfl ?_
            refine vx_iconst (v := 0) dX8_farm_44 (by decide) ?_
            refine vx_bipush (v := 99) dX8_farm_45 (by decide) ?_
            refine vx_callS (vs := [.inl f, .inl 0, .inl 99]) (st := []) (r0 := (some (.inl (sp_in f 0 99)))) (μ0 := μ) dX8_farm_47 (c_X8_within (d - 1) ad 82 vx_lay μ f 0 99) wd_507 wd_416 wd_45 hy_X8_within wd_415 (by omega) (Nat.le_of_ble_eq_true rfl) (Nat.le_of_ble_eq_true rfl) (Nat.le_refl 0) (Nat.le_refl 0) ?_
            refine vx_eq (μ2 := μ) (ls2 := [(0, vx_r 0), (1, .inl a), (2, .inl b), (3, .inl c), (4, .inl e), (5, .inl f), (6, .inl g)]) (st2 := [.inl (sp_in f 0 99)]) rfl rfl rfl ?_
            refine vx_if_eq (tgt := 69) dX8_farm_50 (by decide) (fun c_50 => ?_) (fun c_50 => ?_)
            · refine vx_iconst (v := 0) dX8_farm_69 (by decide) ?_
              refine vx_istore (ls2 := [(7, .inl 0), (0, vx_r 0), (1, .inl a), (2, .inl b), (3, .inl c), (4, .inl e), (5, .inl f), (6, .inl g)]) dX8_farm_70 (by decide) rfl ?_
              refine vx_iload dX8_farm_72 rfl ?_
              refine vx_if_eq (tgt := 89) dX8_farm_74 (by decide) (fun _ => ?_) (fun h => absurd h (by decide))
              refine vx_iconst (v := (-1)) dX8_farm_89 (by decide) ?_
              exact vx_ret (ty := .int) dX8_farm_90 rfl rfl (Nat.le_refl 0) (Nat.le_refl 0) (vx_pst hP (by rw [if_neg (show ¬ sp_fok μ a b c e f g from fun h => h.2.2.2.2.1 c_50)]) (by rw [if_neg (show ¬ sp_fok μ a b c e f g from fun h => h.2.2.2.2.1 c_50)]))
            · refine vx_iload dX8_farm_53 rfl ?_
              refine vx_iload dX8_farm_55 rfl ?_
              refine vx_bipush (v := 99) dX8_farm_57 (by decide) ?_
              refine vx_callS (vs := [.inl g, .inl f, .inl 99]) (st := []) (r0 := (some (.inl (sp_in g f 99)))) (μ0 := μ) dX8_farm_59 (c_X8_within (d - 1) ad 82 vx_lay μ g f 99) wd_507 wd_416 wd_45 hy_X8_within wd_415 (by omega) (Nat.le_of_ble_eq_true rfl) (Nat.le_of_ble_eq_true rfl) (Nat.le_refl 0) (Nat.le_refl 0) ?_
              refine vx_eq (μ2 := μ) (ls2 := [(0, vx_r 0), (1, .inl a), (2, .inl b), (3, .inl c), (4, .inl e), (5, .inl f), (6, .inl g)]) (st2 := [.inl (sp_in g f 99)]) rfl rfl rfl ?_
              refine vx_if_eq (tgt := 69) dX8_farm_62 (by decide) (fun c_62 => ?_) (fun c_62 => ?_)
              · refine vx_iconst (v := 0) dX8_farm_69 (by decide) ?_
                refine vx_istore (ls2 := [(7, .inl 0), (0, vx_r 0), (1, .inl a), (2, .inl b), (3, .inl c), (4, .inl e), (5, .inl f), (6, .inl g)]) dX8_farm_70 (by decide) rfl ?_
                refine vx_iload dX8_farm_72 rfl ?_
                refine vx_if_eq (tgt := 89) dX8_farm_74 (by decide) (fun _ => ?_) (fun h => absurd h (by decide))
                refine vx_iconst (v := (-1)) dX8_farm_89 (by decide) ?_
                exact vx_ret (ty := .int) dX8_farm_90 rfl rfl (Nat.le_refl 0) (Nat.le_refl 0) (vx_pst hP (by rw [if_neg (show ¬ sp_fok μ a b c e f g from fun h => h.2.2.2.2.2.1 c_62)]) (by rw [if_neg (show ¬ sp_fok μ a b c e f g from fun h => h.2.2.2.2.2.1 c_62)]))
              · refine vx_iconst (v := 1) dX8_farm_65 (by decide) ?_
                refine vx_goto (tgt := 70) dX8_farm_66 (by decide) ?_
                refine vx_istore (ls2 := [(7, .inl 1), (0, vx_r 0), (1, .inl a), (2, .inl b), (3, .inl c), (4, .inl e), (5, .inl f), (6, .inl g)]) dX8_farm_70 (by decide) rfl ?_
                refine vx_iload dX8_farm_72 rfl ?_
                refine vx_if_eq (tgt := 89) dX8_farm_74 (by decide) (fun h => absurd h (by decide)) (fun _ => ?_)
                refine vx_aload_n dX8_farm_77 rfl ?_
                refine vx_getR (ci := 8) (T := TX8) (n := 8) (j := 2) (a := 0) (r := 6) dX8_farm_78 rfl lay_X8 (by decide) wd_345 (by decide) ly_0 rfl ?_
                refine vx_getI (ci := 3) (T := TX3) (n := 12) (j := 0) (a := 6) (v := (nI n)) dX8_farm_81 rfl lay_X3 (by decide) wd_135 (by decide) ly_6 rfl hc ?_
                refine vx_bipush (v := 7) dX8_farm_84 (by decide) ?_
                refine vx_icmp_lt (tgt := 91) dX8_farm_86 (by decide) (fun c_86 => ?_) (fun c_86 => ?_)
                · have hokk : sp_fok μ a b c e f g := ⟨c_8, c_18, c_28, c_39, c_50, c_62, by rw [hc]; exact c_86⟩
                  have hlt : n < 7 := sp_lt7 hn c_86
                  rw [if_pos hokk, if_pos hokk] at hP
                  refine vx_aload_n dX8_farm_91 rfl ?_
                  refine vx_getR (ci := 8) (T := TX8) (n := 8) (j := 2) (a := 0) (r := 6) dX8_farm_92 rfl lay_X8 (by decide) wd_345 (by decide) ly_0 rfl ?_
                  refine vx_callV (b := 6) (vs := []) (st := []) (r0 := (some (.inl (nI (n + 1))))) (μ0 := (va_up (va_up μ 6 (upd (μ 6) 0 (nI (n + 1)))) 15 (upd (μ 15) (n + 1) (-1)))) dX8_farm_95 (c_X3_add (d - 1) (by omega) ad μ n hc hlt) wd_508 wd_511 wd_48 hy_X3_add wd_509 wd_510 (by decide) ly_6 rfl rfl (by omega) (Nat.le_of_ble_eq_true rfl) (Nat.le_of_ble_eq_true rfl) (Nat.le_refl 0) (Nat.le_refl 0) ?_
                  refine vx_eq (μ2 := (va_up (va_up μ 6 (upd (μ 6) 0 (nI (n + 1)))) 15 (upd (μ 15) (n + 1) (-1)))) (ls2 := [(7, .inl 1), (0, vx_r 0), (1, .inl a), (2, .inl b), (3, .inl c), (4, .inl e), (5, .inl f), (6, .inl g)]) (st2 := [.inl (nI (n + 1))]) rfl rfl rfl ?_
                  refine vx_istore (ls2 := [(8, .inl (nI (n + 1))), (7, .inl 1), (0, vx_r 0), (1, .inl a), (2, .inl b), (3, .inl c), (4, .inl e), (5, .inl f), (6, .inl g)]) dX8_farm_98 (by decide) rfl ?_
                  refine vx_aload_n dX8_farm_100 rfl ?_
                  refine vx_getR (ci := 8) (T := TX8) (n := 8) (j := 2) (a := 0) (r := 6) dX8_farm_101 rfl lay_X8 (by decide) wd_345 (by decide) ly_0 rfl ?_
                  refine vx_getR (ci := 3) (T := TX3) (n := 12) (j := 1) (a := 6) (r := 7) dX8_farm_104 rfl lay_X3 (by decide) wd_137 (by decide) ly_6 rfl ?_
                  refine vx_iload dX8_farm_107 rfl ?_
                  refine vx_iload_n dX8_farm_109 rfl ?_
                  refine vx_callS (vs := [vx_r 7, .inl (nI (n + 1)), .inl a]) (st := []) (r0 := none) (μ0 := (va_up (va_up (va_up μ 6 (upd (μ 6) 0 (nI (n + 1)))) 7 (upd (μ 7) (n + 1) a)) 15 (upd (μ 15) (n + 1) (-1)))) dX8_farm_110 (((c_X8_put (d - 1) ad 82 vx_lay (va_up (va_up μ 6 (upd (μ 6) 0 (nI (n + 1)))) 15 (upd (μ 15) (n + 1) (-1))) 7 8 (by decide) ly_7 (by decide) (nI (n + 1)) a).to rfl (congrArg (fun z => va_up (va_up (va_up μ 6 (upd (μ 6) 0 (nI (n + 1)))) 15 (upd (μ 15) (n + 1) (-1))) 7 z) (sp_put_nI (k := (n + 1)) _ _ (by omega) (by decide)))).to rfl (vx_m2 (by decide))) wd_513 wd_102 wd_45 hy_X8_put wd_101 (by omega) (Nat.le_of_ble_eq_true rfl) (Nat.le_of_ble_eq_true rfl) (Nat.le_refl 0) (Nat.le_refl 0) ?_
                  refine vx_eq (μ2 := (va_up (va_up (va_up μ 6 (upd (μ 6) 0 (nI (n + 1)))) 7 (upd (μ 7) (n + 1) a)) 15 (upd (μ 15) (n + 1) (-1)))) (ls2 := [(8, .inl (nI (n + 1))), (7, .inl 1), (0, vx_r 0), (1, .inl a), (2, .inl b), (3, .inl c), (4, .inl e), (5, .inl f), (6, .inl g)]) (st2 := []) rfl rfl rfl ?_
                  refine vx_aload_n dX8_farm_113 rfl ?_
                  refine vx_getR (ci := 8) (T := TX8) (n := 8) (j := 2) (a := 0) (r := 6) dX8_farm_114 rfl lay_X8 (by decide) wd_345 (by decide) ly_0 rfl ?_
                  refine vx_getR (ci := 3) (T := TX3) (n := 12) (j := 2) (a := 6) (r := 8) dX8_farm_117 rfl lay_X3 (by decide) wd_139 (by decide) ly_6 rfl ?_
                  refine vx_iload dX8_farm_120 rfl ?_
                  refine vx_iload_n dX8_farm_122 rfl ?_
                  refine vx_callS (vs := [vx_r 8, .inl (nI (n + 1)), .inl a]) (st := []) (r0 := none) (μ0 := (va_up (va_up (va_up (va_up μ 6 (upd (μ 6) 0 (nI (n + 1)))) 7 (upd (μ 7) (n + 1) a)) 8 (upd (μ 8) (n + 1) a)) 15 (upd (μ 15) (n + 1) (-1)))) dX8_farm_123 (((c_X8_put (d - 1) ad 82 vx_lay (va_up (va_up (va_up μ 6 (upd (μ 6) 0 (nI (n + 1)))) 7 (upd (μ 7) (n + 1) a)) 15 (upd (μ 15) (n + 1) (-1))) 8 8 (by decide) ly_8 (by decide) (nI (n + 1)) a).to rfl (congrArg (fun z => va_up (va_up (va_up (va_up μ 6 (upd (μ 6) 0 (nI (n + 1)))) 7 (upd (μ 7) (n + 1) a)) 15 (upd (μ 15) (n + 1) (-1))) 8 z) (sp_put_nI (k := (n + 1)) _ _ (by omega) (by decide)))).to rfl (vx_m2 (by decide))) wd_513 wd_102 wd_45 hy_X8_put wd_101 (by omega) (Nat.le_of_ble_eq_true rfl) (Nat.le_of_ble_eq_true rfl) (Nat.le_refl 0) (Nat.le_refl 0) ?_
                  refine vx_eq (μ2 := (va_up (va_up (va_up (va_up μ 6 (upd (μ 6) 0 (nI (n + 1)))) 7 (upd (μ 7) (n + 1) a)) 8 (upd (μ 8) (n + 1) a)) 15 (upd (μ 15) (n + 1) (-1)))) (ls2 := [(8, .inl (nI (n + 1))), (7, .inl 1), (0, vx_r 0), (1, .inl a), (2, .inl b), (3, .inl c), (4, .inl e), (5, .inl f), (6, .inl g)]) (st2 := []) rfl rfl rfl ?_
                  refine vx_aload_n dX8_farm_126 rfl ?_
                  refine vx_getR (ci := 8) (T := TX8) (n := 8) (j := 2) (a := 0) (r := 6) dX8_farm_127 rfl lay_X8 (by decide) wd_345 (by decide) ly_0 rfl ?_
                  refine vx_getR (ci := 3) (T := TX3) (n := 12) (j := 3) (a := 6) (r := 9) dX8_farm_130 rfl lay_X3 (by decide) wd_141 (by decide) ly_6 rfl ?_
                  refine vx_iload dX8_farm_133 rfl ?_
                  refine vx_iload_n dX8_farm_135 rfl ?_
                  refine vx_callS (vs := [vx_r 9, .inl (nI (n + 1)), .inl b]) (st := []) (r0 := none) (μ0 := (va_up (va_up (va_up (va_up (va_up μ 6 (upd (μ 6) 0 (nI (n + 1)))) 7 (upd (μ 7) (n + 1) a)) 8 (upd (μ 8) (n + 1) a)) 9 (upd (μ 9) (n + 1) b)) 15 (upd (μ 15) (n + 1) (-1)))) dX8_farm_136 (((c_X8_put (d - 1) ad 82 vx_lay (va_up (va_up (va_up (va_up μ 6 (upd (μ 6) 0 (nI (n + 1)))) 7 (upd (μ 7) (n + 1) a)) 8 (upd (μ 8) (n + 1) a)) 15 (upd (μ 15) (n + 1) (-1))) 9 8 (by decide) ly_9 (by decide) (nI (n + 1)) b).to rfl (congrArg (fun z => va_up (va_up (va_up (va_up (va_up μ 6 (upd (μ 6) 0 (nI (n + 1)))) 7 (upd (μ 7) (n + 1) a)) 8 (upd (μ 8) (n + 1) a)) 15 (upd (μ 15) (n + 1) (-1))) 9 z) (sp_put_nI (k := (n + 1)) _ _ (by omega) (by decide)))).to rfl (vx_m2 (by decide))) wd_513 wd_102 wd_45 hy_X8_put wd_101 (by omega) (Nat.le_of_ble_eq_true rfl) (Nat.le_of_ble_eq_true rfl) (Nat.le_refl 0) (Nat.le_refl 0) ?_
                  refine vx_eq (μ2 := (va_up (va_up (va_up (va_up (va_up μ 6 (upd (μ 6) 0 (nI (n + 1)))) 7 (upd (μ 7) (n + 1) a)) 8 (upd (μ 8) (n + 1) a)) 9 (upd (μ 9) (n + 1) b)) 15 (upd (μ 15) (n + 1) (-1)))) (ls2 := [(8, .inl (nI (n + 1))), (7, .inl 1), (0, vx_r 0), (1, .inl a), (2, .inl b), (3, .inl c), (4, .inl e), (5, .inl f), (6, .inl g)]) (st2 := []) rfl rfl rfl ?_
                  refine vx_aload_n dX8_farm_139 rfl ?_
                  refine vx_getR (ci := 8) (T := TX8) (n := 8) (j := 2) (a := 0) (r := 6) dX8_farm_140 rfl lay_X8 (by decide) wd_345 (by decide) ly_0 rfl ?_
                  refine vx_getR (ci := 3) (T := TX3) (n := 12) (j := 4) (a := 6) (r := 10) dX8_farm_143 rfl lay_X3 (by decide) wd_144 (by decide) ly_6 rfl ?_
                  refine vx_iload dX8_farm_146 rfl ?_
                  refine vx_iload_n dX8_farm_148 rfl ?_
                  refine vx_callS (vs := [vx_r 10, .inl (nI (n + 1)), .inl c]) (st := []) (r0 := none) (μ0 := (va_up (va_up (va_up (va_up (va_up (va_up μ 6 (upd (μ 6) 0 (nI (n + 1)))) 7 (upd (μ 7) (n + 1) a)) 8 (upd (μ 8) (n + 1) a)) 9 (upd (μ 9) (n + 1) b)) 10 (upd (μ 10) (n + 1) c)) 15 (upd (μ 15) (n + 1) (-1)))) dX8_farm_149 (((c_X8_put (d - 1) ad 82 vx_lay (va_up (va_up (va_up (va_up (va_up μ 6 (upd (μ 6) 0 (nI (n + 1)))) 7 (upd (μ 7) (n + 1) a)) 8 (upd (μ 8) (n + 1) a)) 9 (upd (μ 9) (n + 1) b)) 15 (upd (μ 15) (n + 1) (-1))) 10 8 (by decide) ly_10 (by decide) (nI (n + 1)) c).to rfl (congrArg (fun z => va_up (va_up (va_up (va_up (va_up (va_up μ 6 (upd (μ 6) 0 (nI (n + 1)))) 7 (upd (μ 7) (n + 1) a)) 8 (upd (μ 8) (n + 1) a)) 9 (upd (μ 9) (n + 1) b)) 15 (upd (μ 15) (n + 1) (-1))) 10 z) (sp_put_nI (k := (n + 1)) _ _ (by omega) (by decide)))).to rfl (vx_m2 (by decide))) wd_513 wd_102 wd_45 hy_X8_put wd_101 (by omega) (Nat.le_of_ble_eq_true rfl) (Nat.le_of_ble_eq_true rfl) (Nat.le_refl 0) (Nat.le_refl 0) ?_
                  refine vx_eq (μ2 := (va_up (va_up (va_up (va_up (va_up (va_up μ 6 (upd (μ 6) 0 (nI (n + 1)))) 7 (upd (μ 7) (n + 1) a)) 8 (upd (μ 8) (n + 1) a)) 9 (upd (μ 9) (n + 1) b)) 10 (upd (μ 10) (n + 1) c)) 15 (upd (μ 15) (n + 1) (-1)))) (ls2 := [(8, .inl (nI (n + 1))), (7, .inl 1), (0, vx_r 0), (1, .inl a), (2, .inl b), (3, .inl c), (4, .inl e), (5, .inl f), (6, .inl g)]) (st2 := []) rfl rfl rfl ?_
                  refine vx_aload_n dX8_farm_152 rfl ?_
                  refine vx_getR (ci := 8) (T := TX8) (n := 8) (j := 2) (a := 0) (r := 6) dX8_farm_153 rfl lay_X8 (by decide) wd_345 (by decide) ly_0 rfl ?_
                  refine vx_getR (ci := 3) (T := TX3) (n := 12) (j := 5) (a := 6) (r := 11) dX8_farm_156 rfl lay_X3 (by decide) wd_147 (by decide) ly_6 rfl ?_
                  refine vx_iload dX8_farm_159 rfl ?_
                  refine vx_iload dX8_farm_161 rfl ?_
                  refine vx_callS (vs := [vx_r 11, .inl (nI (n + 1)), .inl e]) (st := []) (r0 := none) (μ0 := (va_up (va_up (va_up (va_up (va_up (va_up (va_up μ 6 (upd (μ 6) 0 (nI (n + 1)))) 7 (upd (μ 7) (n + 1) a)) 8 (upd (μ 8) (n + 1) a)) 9 (upd (μ 9) (n + 1) b)) 10 (upd (μ 10) (n + 1) c)) 11 (upd (μ 11) (n + 1) e)) 15 (upd (μ 15) (n + 1) (-1)))) dX8_farm_163 (((c_X8_put (d - 1) ad 82 vx_lay (va_up (va_up (va_up (va_up (va_up (va_up μ 6 (upd (μ 6) 0 (nI (n + 1)))) 7 (upd (μ 7) (n + 1) a)) 8 (upd (μ 8) (n + 1) a)) 9 (upd (μ 9) (n + 1) b)) 10 (upd (μ 10) (n + 1) c)) 15 (upd (μ 15) (n + 1) (-1))) 11 8 (by decide) ly_11 (by decide) (nI (n + 1)) e).to rfl (congrArg (fun z => va_up (va_up (va_up (va_up (va_up (va_up (va_up μ 6 (upd (μ 6) 0 (nI (n + 1)))) 7 (upd (μ 7) (n + 1) a)) 8 (upd (μ 8) (n + 1) a)) 9 (upd (μ 9) (n + 1) b)) 10 (upd (μ 10) (n + 1) c)) 15 (upd (μ 15) (n + 1) (-1))) 11 z) (sp_put_nI (k := (n + 1)) _ _ (by omega) (by decide)))).to rfl (vx_m2 (by decide))) wd_513 wd_102 wd_45 hy_X8_put wd_101 (by omega) (Nat.le_of_ble_eq_true rfl) (Nat.le_of_ble_eq_true rfl) (Nat.le_refl 0) (Nat.le_refl 0) ?_
                  refine vx_eq (μ2 := (va_up (va_up (va_up (va_up (va_up (va_up (va_up μ 6 (upd (μ 6) 0 (nI (n + 1)))) 7 (upd (μ 7) (n + 1) a)) 8 (upd (μ 8) (n + 1) a)) 9 (upd (μ 9) (n + 1) b)) 10 (upd (μ 10) (n + 1) c)) 11 (upd (μ 11) (n + 1) e)) 15 (upd (μ 15) (n + 1) (-1)))) (ls2 := [(8, .inl (nI (n + 1))), (7, .inl 1), (0, vx_r 0), (1, .inl a), (2, .inl b), (3, .inl c), (4, .inl e), (5, .inl f), (6, .inl g)]) (st2 := []) rfl rfl rfl ?_
                  refine vx_aload_n dX8_farm_166 rfl ?_
                  refine vx_getR (ci := 8) (T := TX8) (n := 8) (j := 2) (a := 0) (r := 6) dX8_farm_167 rfl lay_X8 (by decide) wd_345 (by decide) ly_0 rfl ?_
                  refine vx_getR (ci := 3) (T := TX3) (n := 12) (j := 6) (a := 6) (r := 12) dX8_farm_170 rfl lay_X3 (by decide) wd_149 (by decide) ly_6 rfl ?_
                  refine vx_iload dX8_farm_173 rfl ?_
                  refine vx_iload dX8_farm_175 rfl ?_
                  refine vx_callS (vs := [vx_r 12, .inl (nI (n + 1)), .inl f]) (st := []) (r0 := none) (μ0 := (va_up (va_up (va_up (va_up (va_up (va_up (va_up (va_up μ 6 (upd (μ 6) 0 (nI (n + 1)))) 7 (upd (μ 7) (n + 1) a)) 8 (upd (μ 8) (n + 1) a)) 9 (upd (μ 9) (n + 1) b)) 10 (upd (μ 10) (n + 1) c)) 11 (upd (μ 11) (n + 1) e)) 12 (upd (μ 12) (n + 1) f)) 15 (upd (μ 15) (n + 1) (-1)))) dX8_farm_177 (((c_X8_put (d - 1) ad 82 vx_lay (va_up (va_up (va_up (va_up (va_up (va_up (va_up μ 6 (upd (μ 6) 0 (nI (n + 1)))) 7 (upd (μ 7) (n + 1) a)) 8 (upd (μ 8) (n + 1) a)) 9 (upd (μ 9) (n + 1) b)) 10 (upd (μ 10) (n + 1) c)) 11 (upd (μ 11) (n + 1) e)) 15 (upd (μ 15) (n + 1) (-1))) 12 8 (by decide) ly_12 (by decide) (nI (n + 1)) f).to rfl (congrArg (fun z => va_up (va_up (va_up (va_up (va_up (va_up (va_up (va_up μ 6 (upd (μ 6) 0 (nI (n + 1)))) 7 (upd (μ 7) (n + 1) a)) 8 (upd (μ 8) (n + 1) a)) 9 (upd (μ 9) (n + 1) b)) 10 (upd (μ 10) (n + 1) c)) 11 (upd (μ 11) (n + 1) e)) 15 (upd (μ 15) (n + 1) (-1))) 12 z) (sp_put_nI (k := (n + 1)) _ _ (by omega) (by decide)))).to rfl (vx_m2 (by decide))) wd_513 wd_102 wd_45 hy_X8_put wd_101 (by omega) (Nat.le_of_ble_eq_true rfl) (Nat.le_of_ble_eq_true rfl) (Nat.le_refl 0) (Nat.le_refl 0) ?_
                  refine vx_eq (μ2 := (va_up (va_up (va_up (va_up (va_up (va_up (va_up (va_up μ 6 (upd (μ 6) 0 (nI (n + 1)))) 7 (upd (μ 7) (n + 1) a)) 8 (upd (μ 8) (n + 1) a)) 9 (upd (μ 9) (n + 1) b)) 10 (upd (μ 10) (n + 1) c)) 11 (upd (μ 11) (n + 1) e)) 12 (upd (μ 12) (n + 1) f)) 15 (upd (μ 15) (n + 1) (-1)))) (ls2 := [(8, .inl (nI (n + 1))), (7, .inl 1), (0, vx_r 0), (1, .inl a), (2, .inl b), (3, .inl c), (4, .inl e), (5, .inl f), (6, .inl g)]) (st2 := []) rfl rfl rfl ?_
                  refine vx_aload_n dX8_farm_180 rfl ?_
                  refine vx_getR (ci := 8) (T := TX8) (n := 8) (j := 2) (a := 0) (r := 6) dX8_farm_181 rfl lay_X8 (by decide) wd_345 (by decide) ly_0 rfl ?_
                  refine vx_getR (ci := 3) (T := TX3) (n := 12) (j := 7) (a := 6) (r := 13) dX8_farm_184 rfl lay_X3 (by decide) wd_151 (by decide) ly_6 rfl ?_
                  refine vx_iload dX8_farm_187 rfl ?_
                  refine vx_iload dX8_farm_189 rfl ?_
                  refine vx_callS (vs := [vx_r 13, .inl (nI (n + 1)), .inl g]) (st := []) (r0 := none) (μ0 := (va_up (va_up (va_up (va_up (va_up (va_up (va_up (va_up (va_up μ 6 (upd (μ 6) 0 (nI (n + 1)))) 7 (upd (μ 7) (n + 1) a)) 8 (upd (μ 8) (n + 1) a)) 9 (upd (μ 9) (n + 1) b)) 10 (upd (μ 10) (n + 1) c)) 11 (upd (μ 11) (n + 1) e)) 12 (upd (μ 12) (n + 1) f)) 13 (upd (μ 13) (n + 1) g)) 15 (upd (μ 15) (n + 1) (-1)))) dX8_farm_191 (((c_X8_put (d - 1) ad 82 vx_lay (va_up (va_up (va_up (va_up (va_up (va_up (va_up (va_up μ 6 (upd (μ 6) 0 (nI (n + 1)))) 7 (upd (μ 7) (n + 1) a)) 8 (upd (μ 8) (n + 1) a)) 9 (upd (μ 9) (n + 1) b)) 10 (upd (μ 10) (n + 1) c)) 11 (upd (μ 11) (n + 1) e)) 12 (upd (μ 12) (n + 1) f)) 15 (upd (μ 15) (n + 1) (-1))) 13 8 (by decide) ly_13 (by decide) (nI (n + 1)) g).to rfl (congrArg (fun z => va_up (va_up (va_up (va_up (va_up (va_up (va_up (va_up (va_up μ 6 (upd (μ 6) 0 (nI (n + 1)))) 7 (upd (μ 7) (n + 1) a)) 8 (upd (μ 8) (n + 1) a)) 9 (upd (μ 9) (n + 1) b)) 10 (upd (μ 10) (n + 1) c)) 11 (upd (μ 11) (n + 1) e)) 12 (upd (μ 12) (n + 1) f)) 15 (upd (μ 15) (n + 1) (-1))) 13 z) (sp_put_nI (k := (n + 1)) _ _ (by omega) (by decide)))).to rfl (vx_m2 (by decide))) wd_513 wd_102 wd_45 hy_X8_put wd_101 (by omega) (Nat.le_of_ble_eq_true rfl) (Nat.le_of_ble_eq_true rfl) (Nat.le_refl 0) (Nat.le_refl 0) ?_
                  refine vx_eq (μ2 := (va_up (va_up (va_up (va_up (va_up (va_up (va_up (va_up (va_up μ 6 (upd (μ 6) 0 (nI (n + 1)))) 7 (upd (μ 7) (n + 1) a)) 8 (upd (μ 8) (n + 1) a)) 9 (upd (μ 9) (n + 1) b)) 10 (upd (μ 10) (n + 1) c)) 11 (upd (μ 11) (n + 1) e)) 12 (upd (μ 12) (n + 1) f)) 13 (upd (μ 13) (n + 1) g)) 15 (upd (μ 15) (n + 1) (-1)))) (ls2 := [(8, .inl (nI (n + 1))), (7, .inl 1), (0, vx_r 0), (1, .inl a), (2, .inl b), (3, .inl c), (4, .inl e), (5, .inl f), (6, .inl g)]) (st2 := []) rfl rfl rfl ?_
                  refine vx_iload dX8_farm_194 rfl ?_
                  exact vx_ret (ty := .int) dX8_farm_196 rfl rfl (Nat.le_refl 0) (Nat.le_refl 0) (vx_pst hP rfl rfl)
                · refine vx_iconst (v := (-1)) dX8_farm_89 (by decide) ?_
                  exact vx_ret (ty := .int) dX8_farm_90 rfl rfl (Nat.le_refl 0) (Nat.le_refl 0) (vx_pst hP (by rw [if_neg (show ¬ sp_fok μ a b c e f g from fun h => c_86 (hc ▸ h.2.2.2.2.2.2))]) (by rw [if_neg (show ¬ sp_fok μ a b c e f g from fun h => c_86 (hc ▸ h.2.2.2.2.2.2))]))
  exact vx_J.M pn_X8_farm (Nat.le_of_ble_eq_true rfl) (key _ _ ⟨rfl, rfl, rfl, rfl, rfl⟩)
def sp_by (x s : Int32) : Int32 := ((x).toUInt32 >>> ((s : Int32).toUInt32 &&& Int32.toUInt32 31)).toInt32 &&& 255
def sp_app (f : Nat → Int32) (len : Nat) (x : Int32) : Nat → Int32 := upd (upd (upd (upd f len (sp_by x 24)) (len + 1) (sp_by x 16)) (len + 1 + 1) (sp_by x 8)) (len + 1 + 1 + 1) (sp_by x 0)
set_option maxRecDepth 20000 in
set_option maxHeartbeats 2000000 in
theorem c_X7_append (d : Nat) (hd : 1 ≤ d) (ad : Nat → Nat) (μ : vx_mem) (len : Nat) (hl : μ 1 1 = nI len) (hr : len + 4 ≤ 300) (x : Int32) : vx_Mf yX7_append cX7_append 3 none d ad 82 vx_lay μ [vx_r 1, .inl x] none (va_up (va_up μ 1 (upd (μ 1) 1 (nI (len + 4)))) 2 (sp_app (μ 2) len x)) := by
  have key : ∀ (Post : vx_P) (ini : Bool), Post none ad 82 vx_lay (va_up (va_up μ 1 (upd (μ 1) 1 (nI (len + 4)))) 2 (sp_app (μ 2) len x)) → vx_J RX7 cX7_append 3 none ini d 0 0 Post ad 0 0 82 vx_lay μ 0 [(0, vx_r 1), (1, .inl x)] [] := by
    intro Post ini hP
    refine vx_bipush (v := 24) dX7_append_0 (by decide) ?_
    refine vx_istore_n (ls2 := [(2, .inl 24), (0, vx_r 1), (1, .inl x)]) dX7_append_2 (by decide) rfl ?_
    refine vx_iload_n dX7_append_3 rfl ?_
    refine vx_if_lt (tgt := 41) dX7_append_4 (by decide) (fun h => absurd h (by decide)) (fun _ => ?_)
    refine vx_aload_n dX7_append_7 rfl ?_
    refine vx_getR (ci := 7) (T := TX7) (n := 4) (j := 0) (a := 1) (r := 2) dX7_append_8 rfl lay_X7 (by decide) wd_74 (by decide) ly_1 rfl ?_
    refine vx_aload_n dX7_append_11 rfl ?_
    refine vx_getI (ci := 7) (T := TX7) (n := 4) (j := 1) (a := 1) (v := (nI len)) dX7_append_12 rfl lay_X7 (by decide) wd_75 (by decide) ly_1 rfl hl ?_
    refine vx_iload_n dX7_append_15 rfl ?_
    refine vx_iload_n dX7_append_16 rfl ?_
    refine vx_iushr dX7_append_17 rfl ?_
    refine vx_sipush (v := 255) dX7_append_18 (by decide) ?_
    refine vx_iand dX7_append_21 ?_
    refine vx_callX (vs := [vx_r 2, .inl (nI len), .inl ((((x).toUInt32 >>> ((24 : Int32).toUInt32 &&& Int32.toUInt32 31)).toInt32) &&& 255)]) (st := []) (r0 := none) (μ0 := (va_up μ 2 (upd (μ 2) len ((((x).toUInt32 >>> ((24 : Int32).toUInt32 &&& Int32.toUInt32 31)).toInt32) &&& 255)))) dX7_append_22 ((c_X8_put (d - 1) ad 82 vx_lay μ 2 300 (by decide) ly_2 (by decide) (nI len) ((((x).toUInt32 >>> ((24 : Int32).toUInt32 &&& Int32.toUInt32 31)).toInt32) &&& 255)).to rfl (congrArg (fun z => va_up μ 2 z) (sp_put_nI (k := len) _ _ (by omega) (by decide)))) nst_3 wd_102 wd_45 hy_X8_put wd_101 (by omega) (Nat.le_of_ble_eq_true rfl) (Nat.le_of_ble_eq_true rfl) (Nat.le_refl 0) (Nat.le_refl 0) ?_
    refine vx_eq (μ2 := (va_up μ 2 (upd (μ 2) len ((((x).toUInt32 >>> ((24 : Int32).toUInt32 &&& Int32.toUInt32 31)).toInt32) &&& 255)))) (ls2 := [(2, .inl 24), (0, vx_r 1), (1, .inl x)]) (st2 := []) rfl rfl rfl ?_
    refine vx_aload_n dX7_append_25 rfl ?_
    refine vx_dup dX7_append_26 ?_
    refine vx_getI (ci := 7) (T := TX7) (n := 4) (j := 1) (a := 1) (v := (nI len)) dX7_append_27 rfl lay_X7 (by decide) wd_75 (by decide) ly_1 rfl hl ?_
    refine vx_iconst (v := 1) dX7_append_30 (by decide) ?_
    refine vx_iadd dX7_append_31 ?_
    refine vx_eq (st2 := [.inl (nI (len + 1)), vx_r 1]) rfl rfl (by rw [nI_1]) ?_
    refine vx_putI (ci := 7) (T := TX7) (n := 4) (j := 1) (a := 1) (ty := .int) (μ2 := (va_up (va_up μ 1 (upd (μ 1) 1 (nI (len + 1)))) 2 (upd (μ 2) len ((((x).toUInt32 >>> ((24 : Int32).toUInt32 &&& Int32.toUInt32 31)).toInt32) &&& 255)))) dX7_append_32 rfl lay_X7 tyX7_ok nmX7 (by decide) wd_75 rfl rfl rfl rfl (by decide) ly_1 rfl (vx_m2 (by decide)) ?_
    refine vx_iinc (v := 16) (ls2 := [(2, .inl 16), (0, vx_r 1), (1, .inl x)]) dX7_append_35 rfl (by decide) (by decide) rfl ?_
    refine vx_goto (tgt := 3) dX7_append_38 (by decide) ?_
    refine vx_iload_n dX7_append_3 rfl ?_
    refine vx_if_lt (tgt := 41) dX7_append_4 (by decide) (fun h => absurd h (by decide)) (fun _ => ?_)
    refine vx_aload_n dX7_append_7 rfl ?_
    refine vx_getR (ci := 7) (T := TX7) (n := 4) (j := 0) (a := 1) (r := 2) dX7_append_8 rfl lay_X7 (by decide) wd_74 (by decide) ly_1 rfl ?_
    refine vx_aload_n dX7_append_11 rfl ?_
    refine vx_getI (ci := 7) (T := TX7) (n := 4) (j := 1) (a := 1) (v := (nI (len + 1))) dX7_append_12 rfl lay_X7 (by decide) wd_75 (by decide) ly_1 rfl rfl ?_
    refine vx_iload_n dX7_append_15 rfl ?_
    refine vx_iload_n dX7_append_16 rfl ?_
    refine vx_iushr dX7_append_17 rfl ?_
    refine vx_sipush (v := 255) dX7_append_18 (by decide) ?_
    refine vx_iand dX7_append_21 ?_
    refine vx_callX (vs := [vx_r 2, .inl (nI (len + 1)), .inl ((((x).toUInt32 >>> ((16 : Int32).toUInt32 &&& Int32.toUInt32 31)).toInt32) &&& 255)]) (st := []) (r0 := none) (μ0 := (va_up (va_up μ 1 (upd (μ 1) 1 (nI (len + 1)))) 2 (upd (upd (μ 2) len ((((x).toUInt32 >>> ((24 : Int32).toUInt32 &&& Int32.toUInt32 31)).toInt32) &&& 255)) (len + 1) ((((x).toUInt32 >>> ((16 : Int32).toUInt32 &&& Int32.toUInt32 31)).toInt32) &&& 255)))) dX7_append_22 (((c_X8_put (d - 1) ad 82 vx_lay (va_up (va_up μ 1 (upd (μ 1) 1 (nI (len + 1)))) 2 (upd (μ 2) len ((((x).toUInt32 >>> ((24 : Int32).toUInt32 &&& Int32.toUInt32 31)).toInt32) &&& 255))) 2 300 (by decide) ly_2 (by decide) (nI (len + 1)) ((((x).toUInt32 >>> ((16 : Int32).toUInt32 &&& Int32.toUInt32 31)).toInt32) &&& 255)).to rfl (congrArg (fun z => va_up (va_up (va_up μ 1 (upd (μ 1) 1 (nI (len + 1)))) 2 (upd (μ 2) len ((((x).toUInt32 >>> ((24 : Int32).toUInt32 &&& Int32.toUInt32 31)).toInt32) &&& 255))) 2 z) (sp_put_nI (k := (len + 1)) _ _ (by omega) (by decide)))).to rfl vx_m1) nst_3 wd_102 wd_45 hy_X8_put wd_101 (by omega) (Nat.le_of_ble_eq_true rfl) (Nat.le_of_ble_eq_true rfl) (Nat.le_refl 0) (Nat.le_refl 0) ?_
    refine vx_eq (μ2 := (va_up (va_up μ 1 (upd (μ 1) 1 (nI (len + 1)))) 2 (upd (upd (μ 2) len ((((x).toUInt32 >>> ((24 : Int32).toUInt32 &&& Int32.toUInt32 31)).toInt32) &&& 255)) (len + 1) ((((x).toUInt32 >>> ((16 : Int32).toUInt32 &&& Int32.toUInt32 31)).toInt32) &&& 255)))) (ls2 := [(2, .inl 16), (0, vx_r 1), (1, .inl x)]) (st2 := []) rfl rfl rfl ?_
    refine vx_aload_n dX7_append_25 rfl ?_
    refine vx_dup dX7_append_26 ?_
    refine vx_getI (ci := 7) (T := TX7) (n := 4) (j := 1) (a := 1) (v := (nI (len + 1))) dX7_append_27 rfl lay_X7 (by decide) wd_75 (by decide) ly_1 rfl rfl ?_
    refine vx_iconst (v := 1) dX7_append_30 (by decide) ?_
    refine vx_iadd dX7_append_31 ?_
    refine vx_eq (st2 := [.inl (nI ((len + 1) + 1)), vx_r 1]) rfl rfl (by rw [nI_1]) ?_
    refine vx_putI (ci := 7) (T := TX7) (n := 4) (j := 1) (a := 1) (ty := .int) (μ2 := (va_up (va_up μ 1 (upd (upd (μ 1) 1 (nI (len + 1))) 1 (nI ((len + 1) + 1)))) 2 (upd (upd (μ 2) len ((((x).toUInt32 >>> ((24 : Int32).toUInt32 &&& Int32.toUInt32 31)).toInt32) &&& 255)) (len + 1) ((((x).toUInt32 >>> ((16 : Int32).toUInt32 &&& Int32.toUInt32 31)).toInt32) &&& 255)))) dX7_append_32 rfl lay_X7 tyX7_ok nmX7 (by decide) wd_75 rfl rfl rfl rfl (by decide) ly_1 rfl ((vx_m2 (by decide)).trans (congrArg (fun m => va_up m 2 (upd (upd (μ 2) len ((((x).toUInt32 >>> ((24 : Int32).toUInt32 &&& Int32.toUInt32 31)).toInt32) &&& 255)) (len + 1) ((((x).toUInt32 >>> ((16 : Int32).toUInt32 &&& Int32.toUInt32 31)).toInt32) &&& 255))) vx_m1)) ?_
    refine vx_iinc (v := 8) (ls2 := [(2, .inl 8), (0, vx_r 1), (1, .inl x)]) dX7_append_35 rfl (by decide) (by decide) rfl ?_
    refine vx_goto (tgt := 3) dX7_append_38 (by decide) ?_
    refine vx_iload_n dX7_append_3 rfl ?_
    refine vx_if_lt (tgt := 41) dX7_append_4 (by decide) (fun h => absurd h (by decide)) (fun _ => ?_)
    refine vx_aload_n dX7_append_7 rfl ?_
    refine vx_getR (ci := 7) (T := TX7) (n := 4) (j := 0) (a := 1) (r := 2) dX7_append_8 rfl lay_X7 (by decide) wd_74 (by decide) ly_1 rfl ?_
    refine vx_aload_n dX7_append_11 rfl ?_
    refine vx_getI (ci := 7) (T := TX7) (n := 4) (j := 1) (a := 1) (v := (nI ((len + 1) + 1))) dX7_append_12 rfl lay_X7 (by decide) wd_75 (by decide) ly_1 rfl rfl ?_
    refine vx_iload_n dX7_append_15 rfl ?_
    refine vx_iload_n dX7_append_16 rfl ?_
    refine vx_iushr dX7_append_17 rfl ?_
    refine vx_sipush (v := 255) dX7_append_18 (by decide) ?_
    refine vx_iand dX7_append_21 ?_
    refine vx_callX (vs := [vx_r 2, .inl (nI ((len + 1) + 1)), .inl ((((x).toUInt32 >>> ((8 : Int32).toUInt32 &&& Int32.toUInt32 31)).toInt32) &&& 255)]) (st := []) (r0 := none) (μ0 := (va_up (va_up μ 1 (upd (upd (μ 1) 1 (nI (len + 1))) 1 (nI ((len + 1) + 1)))) 2 (upd (upd (upd (μ 2) len ((((x).toUInt32 >>> ((24 : Int32).toUInt32 &&& Int32.toUInt32 31)).toInt32) &&& 255)) (len + 1) ((((x).toUInt32 >>> ((16 : Int32).toUInt32 &&& Int32.toUInt32 31)).toInt32) &&& 255)) ((len + 1) + 1) ((((x).toUInt32 >>> ((8 : Int32).toUInt32 &&& Int32.toUInt32 31)).toInt32) &&& 255)))) dX7_append_22 (((c_X8_put (d - 1) ad 82 vx_lay (va_up (va_up μ 1 (upd (upd (μ 1) 1 (nI (len + 1))) 1 (nI ((len + 1) + 1)))) 2 (upd (upd (μ 2) len ((((x).toUInt32 >>> ((24 : Int32).toUInt32 &&& Int32.toUInt32 31)).toInt32) &&& 255)) (len + 1) ((((x).toUInt32 >>> ((16 : Int32).toUInt32 &&& Int32.toUInt32 31)).toInt32) &&& 255))) 2 300 (by decide) ly_2 (by decide) (nI ((len + 1) + 1)) ((((x).toUInt32 >>> ((8 : Int32).toUInt32 &&& Int32.toUInt32 31)).toInt32) &&& 255)).to rfl (congrArg (fun z => va_up (va_up (va_up μ 1 (upd (upd (μ 1) 1 (nI (len + 1))) 1 (nI ((len + 1) + 1)))) 2 (upd (upd (μ 2) len ((((x).toUInt32 >>> ((24 : Int32).toUInt32 &&& Int32.toUInt32 31)).toInt32) &&& 255)) (len + 1) ((((x).toUInt32 >>> ((16 : Int32).toUInt32 &&& Int32.toUInt32 31)).toInt32) &&& 255))) 2 z) (sp_put_nI (k := ((len + 1) + 1)) _ _ (by omega) (by decide)))).to rfl vx_m1) nst_3 wd_102 wd_45 hy_X8_put wd_101 (by omega) (Nat.le_of_ble_eq_true rfl) (Nat.le_of_ble_eq_true rfl) (Nat.le_refl 0) (Nat.le_refl 0) ?_
    refine vx_eq (μ2 := (va_up (va_up μ 1 (upd (upd (μ 1) 1 (nI (len + 1))) 1 (nI ((len + 1) + 1)))) 2 (upd (upd (upd (μ 2) len ((((x).toUInt32 >>> ((24 : Int32).toUInt32 &&& Int32.toUInt32 31)).toInt32) &&& 255)) (len + 1) ((((x).toUInt32 >>> ((16 : Int32).toUInt32 &&& Int32.toUInt32 31)).toInt32) &&& 255)) ((len + 1) + 1) ((((x).toUInt32 >>> ((8 : Int32).toUInt32 &&& Int32.toUInt32 31)).toInt32) &&& 255)))) (ls2 := [(2, .inl 8), (0, vx_r 1), (1, .inl x)]) (st2 := []) rfl rfl rfl ?_
    refine vx_aload_n dX7_append_25 rfl ?_
    refine vx_dup dX7_append_26 ?_
    refine vx_getI (ci := 7) (T := TX7) (n := 4) (j := 1) (a := 1) (v := (nI ((len + 1) + 1))) dX7_append_27 rfl lay_X7 (by decide) wd_75 (by decide) ly_1 rfl rfl ?_
    refine vx_iconst (v := 1) dX7_append_30 (by decide) ?_
    refine vx_iadd dX7_append_31 ?_
    refine vx_eq (st2 := [.inl (nI (((len + 1) + 1) + 1)), vx_r 1]) rfl rfl (by rw [nI_1]) ?_
    refine vx_putI (ci := 7) (T := TX7) (n := 4) (j := 1) (a := 1) (ty := .int) (μ2 := (va_up (va_up μ 1 (upd (upd (upd (μ 1) 1 (nI (len + 1))) 1 (nI ((len + 1) + 1))) 1 (nI (((len + 1) + 1) + 1)))) 2 (upd (upd (upd (μ 2) len ((((x).toUInt32 >>> ((24 : Int32).toUInt32 &&& Int32.toUInt32 31)).toInt32) &&& 255)) (len + 1) ((((x).toUInt32 >>> ((16 : Int32).toUInt32 &&& Int32.toUInt32 31)).toInt32) &&& 255)) ((len + 1) + 1) ((((x).toUInt32 >>> ((8 : Int32).toUInt32 &&& Int32.toUInt32 31)).toInt32) &&& 255)))) dX7_append_32 rfl lay_X7 tyX7_ok nmX7 (by decide) wd_75 rfl rfl rfl rfl (by decide) ly_1 rfl ((vx_m2 (by decide)).trans (congrArg (fun m => va_up m 2 (upd (upd (upd (μ 2) len ((((x).toUInt32 >>> ((24 : Int32).toUInt32 &&& Int32.toUInt32 31)).toInt32) &&& 255)) (len + 1) ((((x).toUInt32 >>> ((16 : Int32).toUInt32 &&& Int32.toUInt32 31)).toInt32) &&& 255)) ((len + 1) + 1) ((((x).toUInt32 >>> ((8 : Int32).toUInt32 &&& Int32.toUInt32 31)).toInt32) &&& 255))) vx_m1)) ?_
    refine vx_iinc (v := 0) (ls2 := [(2, .inl 0), (0, vx_r 1), (1, .inl x)]) dX7_append_35 rfl (by decide) (by decide) rfl ?_
    refine vx_goto (tgt := 3) dX7_append_38 (by decide) ?_
    refine vx_iload_n dX7_append_3 rfl ?_
    refine vx_if_lt (tgt := 41) dX7_append_4 (by decide) (fun h => absurd h (by decide)) (fun _ => ?_)
    refine vx_aload_n dX7_append_7 rfl ?_
    refine vx_getR (ci := 7) (T := TX7) (n := 4) (j := 0) (a := 1) (r := 2) dX7_append_8 rfl lay_X7 (by decide) wd_74 (by decide) ly_1 rfl ?_
    refine vx_aload_n dX7_append_11 rfl ?_
    refine vx_getI (ci := 7) (T := TX7) (n := 4) (j := 1) (a := 1) (v := (nI (((len + 1) + 1) + 1))) dX7_append_12 rfl lay_X7 (by decide) wd_75 (by decide) ly_1 rfl rfl ?_
    refine vx_iload_n dX7_append_15 rfl ?_
    refine vx_iload_n dX7_append_16 rfl ?_
    refine vx_iushr dX7_append_17 rfl ?_
    refine vx_sipush (v := 255) dX7_append_18 (by decide) ?_
    refine vx_iand dX7_append_21 ?_
    refine vx_callX (vs := [vx_r 2, .inl (nI (((len + 1) + 1) + 1)), .inl ((((x).toUInt32 >>> ((0 : Int32).toUInt32 &&& Int32.toUInt32 31)).toInt32) &&& 255)]) (st := []) (r0 := none) (μ0 := (va_up (va_up μ 1 (upd (upd (upd (μ 1) 1 (nI (len + 1))) 1 (nI ((len + 1) + 1))) 1 (nI (((len + 1) + 1) + 1)))) 2 (upd (upd (upd (upd (μ 2) len ((((x).toUInt32 >>> ((24 : Int32).toUInt32 &&& Int32.toUInt32 31)).toInt32) &&& 255)) (len + 1) ((((x).toUInt32 >>> ((16 : Int32).toUInt32 &&& Int32.toUInt32 31)).toInt32) &&& 255)) ((len + 1) + 1) ((((x).toUInt32 >>> ((8 : Int32).toUInt32 &&& Int32.toUInt32 31)).toInt32) &&& 255)) (((len + 1) + 1) + 1) ((((x).toUInt32 >>> ((0 : Int32).toUInt32 &&& Int32.toUInt32 31)).toInt32) &&& 255)))) dX7_append_22 (((c_X8_put (d - 1) ad 82 vx_lay (va_up (va_up μ 1 (upd (upd (upd (μ 1) 1 (nI (len + 1))) 1 (nI ((len + 1) + 1))) 1 (nI (((len + 1) + 1) + 1)))) 2 (upd (upd (upd (μ 2) len ((((x).toUInt32 >>> ((24 : Int32).toUInt32 &&& Int32.toUInt32 31)).toInt32) &&& 255)) (len + 1) ((((x).toUInt32 >>> ((16 : Int32).toUInt32 &&& Int32.toUInt32 31)).toInt32) &&& 255)) ((len + 1) + 1) ((((x).toUInt32 >>> ((8 : Int32).toUInt32 &&& Int32.toUInt32 31)).toInt32) &&& 255))) 2 300 (by decide) ly_2 (by decide) (nI (((len + 1) + 1) + 1)) ((((x).toUInt32 >>> ((0 : Int32).toUInt32 &&& Int32.toUInt32 31)).toInt32) &&& 255)).to rfl (congrArg (fun z => va_up (va_up (va_up μ 1 (upd (upd (upd (μ 1) 1 (nI (len + 1))) 1 (nI ((len + 1) + 1))) 1 (nI (((len + 1) + 1) + 1)))) 2 (upd (upd (upd (μ 2) len ((((x).toUInt32 >>> ((24 : Int32).toUInt32 &&& Int32.toUInt32 31)).toInt32) &&& 255)) (len + 1) ((((x).toUInt32 >>> ((16 : Int32).toUInt32 &&& Int32.toUInt32 31)).toInt32) &&& 255)) ((len + 1) + 1) ((((x).toUInt32 >>> ((8 : Int32).toUInt32 &&& Int32.toUInt32 31)).toInt32) &&& 255))) 2 z) (sp_put_nI (k := (((len + 1) + 1) + 1)) _ _ (by omega) (by decide)))).to rfl vx_m1) nst_3 wd_102 wd_45 hy_X8_put wd_101 (by omega) (Nat.le_of_ble_eq_true rfl) (Nat.le_of_ble_eq_true rfl) (Nat.le_refl 0) (Nat.le_refl 0) ?_
    refine vx_eq (μ2 := (va_up (va_up μ 1 (upd (upd (upd (μ 1) 1 (nI (len + 1))) 1 (nI ((len + 1) + 1))) 1 (nI (((len + 1) + 1) + 1)))) 2 (upd (upd (upd (upd (μ 2) len ((((x).toUInt32 >>> ((24 : Int32).toUInt32 &&& Int32.toUInt32 31)).toInt32) &&& 255)) (len + 1) ((((x).toUInt32 >>> ((16 : Int32).toUInt32 &&& Int32.toUInt32 31)).toInt32) &&& 255)) ((len + 1) + 1) ((((x).toUInt32 >>> ((8 : Int32).toUInt32 &&& Int32.toUInt32 31)).toInt32) &&& 255)) (((len + 1) + 1) + 1) ((((x).toUInt32 >>> ((0 : Int32).toUInt32 &&& Int32.toUInt32 31)).toInt32) &&& 255)))) (ls2 := [(2, .inl 0), (0, vx_r 1), (1, .inl x)]) (st2 := []) rfl rfl rfl ?_
    refine vx_aload_n dX7_append_25 rfl ?_
    refine vx_dup dX7_append_26 ?_
    refine vx_getI (ci := 7) (T := TX7) (n := 4) (j := 1) (a := 1) (v := (nI (((len + 1) + 1) + 1))) dX7_append_27 rfl lay_X7 (by decide) wd_75 (by decide) ly_1 rfl rfl ?_
    refine vx_iconst (v := 1) dX7_append_30 (by decide) ?_
    refine vx_iadd dX7_append_31 ?_
    refine vx_eq (st2 := [.inl (nI ((((len + 1) + 1) + 1) + 1)), vx_r 1]) rfl rfl (by rw [nI_1]) ?_
    refine vx_putI (ci := 7) (T := TX7) (n := 4) (j := 1) (a := 1) (ty := .int) (μ2 := (va_up (va_up μ 1 (upd (upd (upd (upd (μ 1) 1 (nI (len + 1))) 1 (nI ((len + 1) + 1))) 1 (nI (((len + 1) + 1) + 1))) 1 (nI ((((len + 1) + 1) + 1) + 1)))) 2 (upd (upd (upd (upd (μ 2) len ((((x).toUInt32 >>> ((24 : Int32).toUInt32 &&& Int32.toUInt32 31)).toInt32) &&& 255)) (len + 1) ((((x).toUInt32 >>> ((16 : Int32).toUInt32 &&& Int32.toUInt32 31)).toInt32) &&& 255)) ((len + 1) + 1) ((((x).toUInt32 >>> ((8 : Int32).toUInt32 &&& Int32.toUInt32 31)).toInt32) &&& 255)) (((len + 1) + 1) + 1) ((((x).toUInt32 >>> ((0 : Int32).toUInt32 &&& Int32.toUInt32 31)).toInt32) &&& 255)))) dX7_append_32 rfl lay_X7 tyX7_ok nmX7 (by decide) wd_75 rfl rfl rfl rfl (by decide) ly_1 rfl ((vx_m2 (by decide)).trans (congrArg (fun m => va_up m 2 (upd (upd (upd (upd (μ 2) len ((((x).toUInt32 >>> ((24 : Int32).toUInt32 &&& Int32.toUInt32 31)).toInt32) &&& 255)) (len + 1) ((((x).toUInt32 >>> ((16 : Int32).toUInt32 &&& Int32.toUInt32 31)).toInt32) &&& 255)) ((len + 1) + 1) ((((x).toUInt32 >>> ((8 : Int32).toUInt32 &&& Int32.toUInt32 31)).toInt32) &&& 255)) (((len + 1) + 1) + 1) ((((x).toUInt32 >>> ((0 : Int32).toUInt32 &&& Int32.toUInt32 31)).toInt32) &&& 255))) vx_m1)) ?_
    refine vx_iinc (v := (-8)) (ls2 := [(2, .inl (-8)), (0, vx_r 1), (1, .inl x)]) dX7_append_35 rfl (by decide) (by decide) rfl ?_
    refine vx_goto (tgt := 3) dX7_append_38 (by decide) ?_
    refine vx_iload_n dX7_append_3 rfl ?_
    refine vx_if_lt (tgt := 41) dX7_append_4 (by decide) (fun _ => ?_) (fun h => absurd h (by decide))
    exact vx_vret dX7_append_41 rfl (Nat.le_refl 0) (Nat.le_refl 0) (vx_pst hP rfl (by rw [sp_uu, sp_uu, sp_uu]; rfl))
  exact vx_J.M pn_X7_append (Nat.le_of_ble_eq_true rfl) (key _ _ ⟨rfl, rfl, rfl, rfl, rfl⟩)
def sp_room (x k : Int32) : Int32 := if 300 < x + k then 0 else 1
set_option maxRecDepth 20000 in
set_option maxHeartbeats 2000000 in
theorem c_X7_hasRoomFor (d : Nat) (ad : Nat → Nat) (μ : vx_mem) (k : Int32) : vx_Mf yX7_hasRoomFor cX7_hasRoomFor 2 (some (.boolean)) d ad 82 vx_lay μ [vx_r 1, .inl k] (some (.inl (sp_room (μ 1 1) k))) μ := by
  have key : ∀ (Post : vx_P) (ini : Bool), Post (some (.inl (sp_room (μ 1 1) k))) ad 82 vx_lay μ → vx_J RX7 cX7_hasRoomFor 2 (some (.boolean)) ini d 0 0 Post ad 0 0 82 vx_lay μ 0 [(0, vx_r 1), (1, .inl k)] [] := by
    intro Post ini hP
    refine vx_aload_n dX7_hasRoomFor_0 rfl ?_
    refine vx_getI (ci := 7) (T := TX7) (n := 4) (j := 1) (a := 1) (v := (μ 1 1)) dX7_hasRoomFor_1 rfl lay_X7 (by decide) wd_75 (by decide) ly_1 rfl rfl ?_
    refine vx_iload_n dX7_hasRoomFor_4 rfl ?_
    refine vx_iadd dX7_hasRoomFor_5 ?_
    refine vx_sipush (v := 300) dX7_hasRoomFor_6 (by decide) ?_
    refine vx_icmp_gt (tgt := 16) dX7_hasRoomFor_9 (by decide) (fun c_9 => ?_) (fun c_9 => ?_)
    · refine vx_iconst (v := 0) dX7_hasRoomFor_16 (by decide) ?_
      exact vx_ret (ty := .boolean) dX7_hasRoomFor_17 rfl rfl (Nat.le_refl 0) (Nat.le_refl 0) (vx_pst hP (by simp [sp_room, *]) rfl)
    · refine vx_iconst (v := 1) dX7_hasRoomFor_12 (by decide) ?_
      refine vx_goto (tgt := 17) dX7_hasRoomFor_13 (by decide) ?_
      exact vx_ret (ty := .boolean) dX7_hasRoomFor_17 rfl rfl (Nat.le_refl 0) (Nat.le_refl 0) (vx_pst hP (by simp [sp_room, *]) rfl)
  exact vx_J.M pn_X7_hasRoomFor (Nat.le_of_ble_eq_true rfl) (key _ _ ⟨rfl, rfl, rfl, rfl, rfl⟩)
theorem sp_room20 {x : Int32} {len : Nat} (hl : x = nI len) (h3 : len ≤ 300) (h : ¬ sp_room x 20 = 0) : len + 20 ≤ 300 := by
  unfold sp_room at h
  split at h
  · exact absurd rfl h
  · rename_i q
    rw [hl, show (20 : Int32) = nI 20 from rfl, nI_add, zz_lt, nI_toInt (by omega)] at q
    have e : (300 : Int32).toInt = 300 := by decide
    omega
def sp_feed5 (f : Nat → Int32) (len : Nat) (a b c e g : Int32) : Nat → Int32 := sp_app (sp_app (sp_app (sp_app (sp_app f len a) (len + 4) b) (len + 8) c) (len + 12) e) (len + 16) g
set_option maxRecDepth 20000 in
set_option maxHeartbeats 2000000 in
theorem c_X8_feed (d : Nat) (hd : 2 ≤ d) (ad : Nat → Nat) (μ : vx_mem) (len : Nat) (hl : μ 1 1 = nI len) (hl3 : len ≤ 300) (a b c e g : Int32) : vx_Mf yX8_feed cX8_feed 6 (some (.int)) d ad 82 vx_lay μ [vx_r 0, .inl a, .inl b, .inl c, .inl e, .inl g] (some (.inl (if sp_room (μ 1 1) 20 = 0 then -1 else nI (len + 20)))) (if sp_room (μ 1 1) 20 = 0 then μ else va_up (va_up μ 1 (upd (μ 1) 1 (nI (len + 20)))) 2 (sp_feed5 (μ 2) len a b c e g)) := by
  have key : ∀ (Post : vx_P) (ini : Bool), Post (some (.inl (if sp_room (μ 1 1) 20 = 0 then -1 else nI (len + 20)))) ad 82 vx_lay (if sp_room (μ 1 1) 20 = 0 then μ else va_up (va_up μ 1 (upd (μ 1) 1 (nI (len + 20)))) 2 (sp_feed5 (μ 2) len a b c e g)) → vx_J RX8 cX8_feed 6 (some (.int)) ini d 0 0 Post ad 0 0 82 vx_lay μ 0 [(0, vx_r 0), (1, .inl a), (2, .inl b), (3, .inl c), (4, .inl e), (5, .inl g)] [] := by
    intro Post ini hP
    refine vx_aload_n dX8_feed_0 rfl ?_
    refine vx_getR (ci := 8) (T := TX8) (n := 8) (j := 0) (a := 0) (r := 1) dX8_feed_1 rfl lay_X8 (by decide) wd_343 (by decide) ly_0 rfl ?_
    refine vx_bipush (v := 20) dX8_feed_4 (by decide) ?_
    refine vx_callV (b := 1) (vs := [.inl 20]) (st := []) (r0 := (some (.inl (sp_room (μ 1 1) 20)))) (μ0 := μ) dX8_feed_6 (c_X7_hasRoomFor (d - 1) ad μ 20) wd_372 wd_375 wd_46 hy_X7_hasRoomFor wd_373 wd_374 (by decide) ly_1 rfl rfl (by omega) (Nat.le_of_ble_eq_true rfl) (Nat.le_of_ble_eq_true rfl) (Nat.le_refl 0) (Nat.le_refl 0) ?_
    refine vx_eq (μ2 := μ) (ls2 := [(0, vx_r 0), (1, .inl a), (2, .inl b), (3, .inl c), (4, .inl e), (5, .inl g)]) (st2 := [.inl (sp_room (μ 1 1) 20)]) rfl rfl rfl ?_
    refine vx_if_ne (tgt := 14) dX8_feed_9 (by decide) (fun c_9 => ?_) (fun c_9 => ?_)
    · have hr : len + 20 ≤ 300 := sp_room20 hl hl3 c_9
      rw [if_neg c_9, if_neg c_9] at hP
      refine vx_aload_n dX8_feed_14 rfl ?_
      refine vx_getR (ci := 8) (T := TX8) (n := 8) (j := 0) (a := 0) (r := 1) dX8_feed_15 rfl lay_X8 (by decide) wd_343 (by decide) ly_0 rfl ?_
      refine vx_iload_n dX8_feed_18 rfl ?_
      refine vx_callV (b := 1) (vs := [.inl a]) (st := []) (r0 := none) (μ0 := (va_up (va_up μ 1 (upd (μ 1) 1 (nI (len + 4)))) 2 (sp_app (μ 2) (len) a))) dX8_feed_19 (c_X7_append (d - 1) (by omega) ad μ (len) hl (by omega) a) wd_376 wd_379 wd_46 hy_X7_append wd_377 wd_378 (by decide) ly_1 rfl rfl (by omega) (Nat.le_of_ble_eq_true rfl) (Nat.le_of_ble_eq_true rfl) (Nat.le_refl 0) (Nat.le_refl 0) ?_
      refine vx_eq (μ2 := (va_up (va_up μ 1 (upd (μ 1) 1 (nI (len + 4)))) 2 (sp_app (μ 2) (len) a))) (ls2 := [(0, vx_r 0), (1, .inl a), (2, .inl b), (3, .inl c), (4, .inl e), (5, .inl g)]) (st2 := []) rfl rfl rfl ?_
      refine vx_aload_n dX8_feed_22 rfl ?_
      refine vx_getR (ci := 8) (T := TX8) (n := 8) (j := 0) (a := 0) (r := 1) dX8_feed_23 rfl lay_X8 (by decide) wd_343 (by decide) ly_0 rfl ?_
      refine vx_iload_n dX8_feed_26 rfl ?_
      refine vx_callV (b := 1) (vs := [.inl b]) (st := []) (r0 := none) (μ0 := (va_up (va_up μ 1 (upd (μ 1) 1 (nI (len + 8)))) 2 (sp_app (sp_app (μ 2) (len) a) (len + 4) b))) dX8_feed_27 (((c_X7_append (d - 1) (by omega) ad (va_up (va_up μ 1 (upd (μ 1) 1 (nI (len + 4)))) 2 (sp_app (μ 2) (len) a)) (len + 4) rfl (by omega) b).to rfl (congrArg (fun z => va_up (va_up (va_up (va_up μ 1 (upd (μ 1) 1 (nI (len + 4)))) 2 (sp_app (μ 2) (len) a)) 1 z) 2 (sp_app (sp_app (μ 2) (len) a) (len + 4) b)) (sp_uu (f := (μ 1)) (k := 1)))).to rfl ((congrArg (fun m => va_up m 2 (sp_app (sp_app (μ 2) (len) a) (len + 4) b)) ((vx_m2 (by decide)).trans (congrArg (fun m => va_up m 2 (sp_app (μ 2) (len) a)) vx_m1))).trans vx_m1)) wd_376 wd_379 wd_46 hy_X7_append wd_377 wd_378 (by decide) ly_1 rfl rfl (by omega) (Nat.le_of_ble_eq_true rfl) (Nat.le_of_ble_eq_true rfl) (Nat.le_refl 0) (Nat.le_refl 0) ?_
      refine vx_eq (μ2 := (va_up (va_up μ 1 (upd (μ 1) 1 (nI (len + 8)))) 2 (sp_app (sp_app (μ 2) (len) a) (len + 4) b))) (ls2 := [(0, vx_r 0), (1, .inl a), (2, .inl b), (3, .inl c), (4, .inl e), (5, .inl g)]) (st2 := []) rfl rfl rfl ?_
      refine vx_aload_n dX8_feed_30 rfl ?_
      refine vx_getR (ci := 8) (T := TX8) (n := 8) (j := 0) (a := 0) (r := 1) dX8_feed_31 rfl lay_X8 (by decide) wd_343 (by decide) ly_0 rfl ?_
      refine vx_iload_n dX8_feed_34 rfl ?_
      refine vx_callV (b := 1) (vs := [.inl c]) (st := []) (r0 := none) (μ0 := (va_up (va_up μ 1 (upd (μ 1) 1 (nI (len + 12)))) 2 (sp_app (sp_app (sp_app (μ 2) (len) a) (len + 4) b) (len + 8) c))) dX8_feed_35 (((c_X7_append (d - 1) (by omega) ad (va_up (va_up μ 1 (upd (μ 1) 1 (nI (len + 8)))) 2 (sp_app (sp_app (μ 2) (len) a) (len + 4) b)) (len + 8) rfl (by omega) c).to rfl (congrArg (fun z => va_up (va_up (va_up (va_up μ 1 (upd (μ 1) 1 (nI (len + 8)))) 2 (sp_app (sp_app (μ 2) (len) a) (len + 4) b)) 1 z) 2 (sp_app (sp_app (sp_app (μ 2) (len) a) (len + 4) b) (len + 8) c)) (sp_uu (f := (μ 1)) (k := 1)))).to rfl ((congrArg (fun m => va_up m 2 (sp_app (sp_app (sp_app (μ 2) (len) a) (len + 4) b) (len + 8) c)) ((vx_m2 (by decide)).trans (congrArg (fun m => va_up m 2 (sp_app (sp_app (μ 2) (len) a) (len + 4) b)) vx_m1))).trans vx_m1)) wd_376 wd_379 wd_46 hy_X7_append wd_377 wd_378 (by decide) ly_1 rfl rfl (by omega) (Nat.le_of_ble_eq_true rfl) (Nat.le_of_ble_eq_true rfl) (Nat.le_refl 0) (Nat.le_refl 0) ?_
      refine vx_eq (μ2 := (va_up (va_up μ 1 (upd (μ 1) 1 (nI (len + 12)))) 2 (sp_app (sp_app (sp_app (μ 2) (len) a) (len + 4) b) (len + 8) c))) (ls2 := [(0, vx_r 0), (1, .inl a), (2, .inl b), (3, .inl c), (4, .inl e), (5, .inl g)]) (st2 := []) rfl rfl rfl ?_
      refine vx_aload_n dX8_feed_38 rfl ?_
      refine vx_getR (ci := 8) (T := TX8) (n := 8) (j := 0) (a := 0) (r := 1) dX8_feed_39 rfl lay_X8 (by decide) wd_343 (by decide) ly_0 rfl ?_
      refine vx_iload dX8_feed_42 rfl ?_
      refine vx_callV (b := 1) (vs := [.inl e]) (st := []) (r0 := none) (μ0 := (va_up (va_up μ 1 (upd (μ 1) 1 (nI (len + 16)))) 2 (sp_app (sp_app (sp_app (sp_app (μ 2) (len) a) (len + 4) b) (len + 8) c) (len + 12) e))) dX8_feed_44 (((c_X7_append (d - 1) (by omega) ad (va_up (va_up μ 1 (upd (μ 1) 1 (nI (len + 12)))) 2 (sp_app (sp_app (sp_app (μ 2) (len) a) (len + 4) b) (len + 8) c)) (len + 12) rfl (by omega) e).to rfl (congrArg (fun z => va_up (va_up (va_up (va_up μ 1 (upd (μ 1) 1 (nI (len + 12)))) 2 (sp_app (sp_app (sp_app (μ 2) (len) a) (len + 4) b) (len + 8) c)) 1 z) 2 (sp_app (sp_app (sp_app (sp_app (μ 2) (len) a) (len + 4) b) (len + 8) c) (len + 12) e)) (sp_uu (f := (μ 1)) (k := 1)))).to rfl ((congrArg (fun m => va_up m 2 (sp_app (sp_app (sp_app (sp_app (μ 2) (len) a) (len + 4) b) (len + 8) c) (len + 12) e)) ((vx_m2 (by decide)).trans (congrArg (fun m => va_up m 2 (sp_app (sp_app (sp_app (μ 2) (len) a) (len + 4) b) (len + 8) c)) vx_m1))).trans vx_m1)) wd_376 wd_379 wd_46 hy_X7_append wd_377 wd_378 (by decide) ly_1 rfl rfl (by omega) (Nat.le_of_ble_eq_true rfl) (Nat.le_of_ble_eq_true rfl) (Nat.le_refl 0) (Nat.le_refl 0) ?_
      refine vx_eq (μ2 := (va_up (va_up μ 1 (upd (μ 1) 1 (nI (len + 16)))) 2 (sp_app (sp_app (sp_app (sp_app (μ 2) (len) a) (len + 4) b) (len + 8) c) (len + 12) e))) (ls2 := [(0, vx_r 0), (1, .inl a), (2, .inl b), (3, .inl c), (4, .inl e), (5, .inl g)]) (st2 := []) rfl rfl rfl ?_
      refine vx_aload_n dX8_feed_47 rfl ?_
      refine vx_getR (ci := 8) (T := TX8) (n := 8) (j := 0) (a := 0) (r := 1) dX8_feed_48 rfl lay_X8 (by decide) wd_343 (by decide) ly_0 rfl ?_
      refine vx_iload dX8_feed_51 rfl ?_
      refine vx_callV (b := 1) (vs := [.inl g]) (st := []) (r0 := none) (μ0 := (va_up (va_up μ 1 (upd (μ 1) 1 (nI (len + 20)))) 2 (sp_app (sp_app (sp_app (sp_app (sp_app (μ 2) (len) a) (len + 4) b) (len + 8) c) (len + 12) e) (len + 16) g))) dX8_feed_53 (((c_X7_append (d - 1) (by omega) ad (va_up (va_up μ 1 (upd (μ 1) 1 (nI (len + 16)))) 2 (sp_app (sp_app (sp_app (sp_app (μ 2) (len) a) (len + 4) b) (len + 8) c) (len + 12) e)) (len + 16) rfl (by omega) g).to rfl (congrArg (fun z => va_up (va_up (va_up (va_up μ 1 (upd (μ 1) 1 (nI (len + 16)))) 2 (sp_app (sp_app (sp_app (sp_app (μ 2) (len) a) (len + 4) b) (len + 8) c) (len + 12) e)) 1 z) 2 (sp_app (sp_app (sp_app (sp_app (sp_app (μ 2) (len) a) (len + 4) b) (len + 8) c) (len + 12) e) (len + 16) g)) (sp_uu (f := (μ 1)) (k := 1)))).to rfl ((congrArg (fun m => va_up m 2 (sp_app (sp_app (sp_app (sp_app (sp_app (μ 2) (len) a) (len + 4) b) (len + 8) c) (len + 12) e) (len + 16) g)) ((vx_m2 (by decide)).trans (congrArg (fun m => va_up m 2 (sp_app (sp_app (sp_app (sp_app (μ 2) (len) a) (len + 4) b) (len + 8) c) (len + 12) e)) vx_m1))).trans vx_m1)) wd_376 wd_379 wd_46 hy_X7_append wd_377 wd_378 (by decide) ly_1 rfl rfl (by omega) (Nat.le_of_ble_eq_true rfl) (Nat.le_of_ble_eq_true rfl) (Nat.le_refl 0) (Nat.le_refl 0) ?_
      refine vx_eq (μ2 := (va_up (va_up μ 1 (upd (μ 1) 1 (nI (len + 20)))) 2 (sp_app (sp_app (sp_app (sp_app (sp_app (μ 2) (len) a) (len + 4) b) (len + 8) c) (len + 12) e) (len + 16) g))) (ls2 := [(0, vx_r 0), (1, .inl a), (2, .inl b), (3, .inl c), (4, .inl e), (5, .inl g)]) (st2 := []) rfl rfl rfl ?_
      refine vx_aload_n dX8_feed_56 rfl ?_
      refine vx_getR (ci := 8) (T := TX8) (n := 8) (j := 0) (a := 0) (r := 1) dX8_feed_57 rfl lay_X8 (by decide) wd_343 (by decide) ly_0 rfl ?_
      refine vx_getI (ci := 7) (T := TX7) (n := 4) (j := 1) (a := 1) (v := (nI (len + 20))) dX8_feed_60 rfl lay_X7 (by decide) wd_76 (by decide) ly_1 rfl rfl ?_
      exact vx_ret (ty := .int) dX8_feed_63 rfl rfl (Nat.le_refl 0) (Nat.le_refl 0) (vx_pst hP rfl rfl)
    · refine vx_iconst (v := (-1)) dX8_feed_12 (by decide) ?_
      exact vx_ret (ty := .int) dX8_feed_13 rfl rfl (Nat.le_refl 0) (Nat.le_refl 0) (vx_pst hP (by rw [if_pos c_9]) (by rw [if_pos c_9]))
  exact vx_J.M pn_X8_feed (Nat.le_of_ble_eq_true rfl) (key _ _ ⟨rfl, rfl, rfl, rfl, rfl⟩)
end
