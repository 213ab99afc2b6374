section
theorem mo_chr : ∀ k, k < 35 → sp_chr 6 k = [104, 97, 110, 100, 115, 32, 114, 97, 116, 101, 32, 115, 104, 101, 97, 118, 101, 115, 32, 108, 97, 116, 101, 32, 102, 105, 114, 115, 116, 32, 100, 97, 109, 112, 32].getD k 0 := by decide +kernel
theorem mo_ll_0 : vx_ll.getD 0 0 = 5 := by decide +kernel
theorem mo_ch_0_0 : sp_chr 0 0 = 104 := by decide +kernel
theorem mo_ch_0_1 : sp_chr 0 1 = 97 := by decide +kernel
theorem mo_ch_0_2 : sp_chr 0 2 = 110 := by decide +kernel
theorem mo_ch_0_3 : sp_chr 0 3 = 100 := by decide +kernel
theorem mo_ch_0_4 : sp_chr 0 4 = 115 := by decide +kernel
theorem mo_ll_1 : vx_ll.getD 1 0 = 4 := by decide +kernel
theorem mo_ch_1_0 : sp_chr 1 0 = 114 := by decide +kernel
theorem mo_ch_1_1 : sp_chr 1 1 = 97 := by decide +kernel
theorem mo_ch_1_2 : sp_chr 1 2 = 116 := by decide +kernel
theorem mo_ch_1_3 : sp_chr 1 3 = 101 := by decide +kernel
theorem mo_ll_2 : vx_ll.getD 2 0 = 7 := by decide +kernel
theorem mo_ch_2_0 : sp_chr 2 0 = 115 := by decide +kernel
theorem mo_ch_2_1 : sp_chr 2 1 = 104 := by decide +kernel
theorem mo_ch_2_2 : sp_chr 2 2 = 101 := by decide +kernel
theorem mo_ch_2_3 : sp_chr 2 3 = 97 := by decide +kernel
theorem mo_ch_2_4 : sp_chr 2 4 = 118 := by decide +kernel
theorem mo_ch_2_5 : sp_chr 2 5 = 101 := by decide +kernel
theorem mo_ch_2_6 : sp_chr 2 6 = 115 := by decide +kernel
theorem mo_ll_3 : vx_ll.getD 3 0 = 4 := by decide +kernel
theorem mo_ch_3_0 : sp_chr 3 0 = 108 := by decide +kernel
theorem mo_ch_3_1 : sp_chr 3 1 = 97 := by decide +kernel
theorem mo_ch_3_2 : sp_chr 3 2 = 116 := by decide +kernel
theorem mo_ch_3_3 : sp_chr 3 3 = 101 := by decide +kernel
theorem mo_ll_4 : vx_ll.getD 4 0 = 5 := by decide +kernel
theorem mo_ch_4_0 : sp_chr 4 0 = 102 := by decide +kernel
theorem mo_ch_4_1 : sp_chr 4 1 = 105 := by decide +kernel
theorem mo_ch_4_2 : sp_chr 4 2 = 114 := by decide +kernel
theorem mo_ch_4_3 : sp_chr 4 3 = 115 := by decide +kernel
theorem mo_ch_4_4 : sp_chr 4 4 = 116 := by decide +kernel
theorem mo_ll_5 : vx_ll.getD 5 0 = 4 := by decide +kernel
theorem mo_ch_5_0 : sp_chr 5 0 = 100 := by decide +kernel
theorem mo_ch_5_1 : sp_chr 5 1 = 97 := by decide +kernel
theorem mo_ch_5_2 : sp_chr 5 2 = 109 := by decide +kernel
theorem mo_ch_5_3 : sp_chr 5 3 = 112 := by decide +kernel
theorem mo_isw_ne {t : Nat → Int32} {p q i j : Nat} (hj : j < vx_ll.getD i 0) (h : ¬ t (p + j) = sp_chr i j) : sp_isw t p q i = 0 := by
  unfold sp_isw
  rw [if_neg (fun z => h (z.2 j hj))]
theorem mo_isw_len {t : Nat → Int32} {p q i : Nat} (h : ¬ q - p = vx_ll.getD i 0) : sp_isw t p q i = 0 := by
  unfold sp_isw
  rw [if_neg (fun z => h z.1)]
theorem mo_isw_yes {t : Nat → Int32} {p q i : Nat} (h : q - p = vx_ll.getD i 0) (h2 : ∀ k, k < vx_ll.getD i 0 → t (p + k) = sp_chr i k) : ¬ sp_isw t p q i = 0 := by
  unfold sp_isw
  rw [if_pos ⟨h, h2⟩]
  decide
set_option maxRecDepth 20000 in
set_option maxHeartbeats 2000000 in
theorem c_X9_here (d : Nat) (ad : Nat → Nat) (μ : vx_mem) (p e : Nat) (hp : μ 54 10 = nI p) (he : μ 54 9 = nI e) (hpe : p ≤ e) (he3 : e ≤ 300)  : vx_Mf yX9_here cX9_here 1 (some (.int)) d ad 82 vx_lay μ [vx_r 54] (some (.inl (sp_ba (μ 55) e p))) μ := by
  have key : ∀ (Post : vx_P) (ini : Bool), Post (some (.inl (sp_ba (μ 55) e p))) ad 82 vx_lay μ → vx_J RX9 cX9_here 1 (some (.int)) ini d 0 0 Post ad 0 0 82 vx_lay μ 0 [(0, vx_r 54)] [] := by
    intro Post ini hP
    refine vx_aload_n dX9_here_0 rfl ?_
    refine vx_getI (ci := 9) (T := TX9) (n := 56) (j := 10) (a := 54) (v := (nI p)) dX9_here_1 rfl lay_X9 (by decide) wd_746 (by decide) ly_54 rfl hp ?_
    refine vx_aload_n dX9_here_4 rfl ?_
    refine vx_getI (ci := 9) (T := TX9) (n := 56) (j := 9) (a := 54) (v := (nI e)) dX9_here_5 rfl lay_X9 (by decide) wd_745 (by decide) ly_54 rfl he ?_
    refine vx_icmp_ge (tgt := 23) dX9_here_8 (by decide) (fun c_8 => ?_) (fun c_8 => ?_)
    · have q8 : ¬ p < e := by rw [nI_leI (by omega) (by omega)] at c_8; omega
      refine vx_iconst (v := (-1)) dX9_here_23 (by decide) ?_
      exact vx_ret (ty := .int) dX9_here_24 rfl rfl (Nat.le_refl 0) (Nat.le_refl 0) (vx_pst hP (by unfold sp_ba; simp [q8]) rfl)
    · have q8 : p < e := by rw [nI_leI (by omega) (by omega)] at c_8; omega
      refine vx_aload_n dX9_here_11 rfl ?_
      refine vx_getR (ci := 9) (T := TX9) (n := 56) (j := 1) (a := 54) (r := 55) dX9_here_12 rfl lay_X9 (by decide) wd_737 (by decide) ly_54 rfl ?_
      refine vx_aload_n dX9_here_15 rfl ?_
      refine vx_getI (ci := 9) (T := TX9) (n := 56) (j := 10) (a := 54) (v := (nI p)) dX9_here_16 rfl lay_X9 (by decide) wd_746 (by decide) ly_54 rfl hp ?_
      refine vx_iald (a := 55) (n := 300) (v := (μ 55 p)) dX9_here_19 (by decide) ly_55 (vp_in_nI (by omega) (by omega)) (by rw [nI_clamp (by omega)] <;> rfl) ?_
      refine vx_goto (tgt := 24) dX9_here_20 (by decide) ?_
      exact vx_ret (ty := .int) dX9_here_24 rfl rfl (Nat.le_refl 0) (Nat.le_refl 0) (vx_pst hP (by unfold sp_ba; simp [q8]) rfl)
  exact vx_J.M pn_X9_here (Nat.le_of_ble_eq_true rfl) (key _ _ ⟨rfl, rfl, rfl, rfl, rfl⟩)
set_option maxRecDepth 20000 in
set_option maxHeartbeats 2000000 in
theorem c_X9_isSmall (d : Nat) (ad : Nat → Nat) (μ : vx_mem) (c : Int32) : vx_Mf yX9_isSmall cX9_isSmall 1 (some (.boolean)) d ad 82 vx_lay μ [.inl c] (some (.inl (sp_in c 97 122))) μ := by
  have key : ∀ (Post : vx_P) (ini : Bool), Post (some (.inl (sp_in c 97 122))) ad 82 vx_lay μ → vx_J RX9 cX9_isSmall 1 (some (.boolean)) ini d 0 0 Post ad 0 0 82 vx_lay μ 0 [(0, .inl c)] [] := by
    intro Post ini hP
    refine vx_iload_n dX9_isSmall_0 rfl ?_
    refine vx_bipush (v := 97) dX9_isSmall_1 (by decide) ?_
    refine vx_icmp_lt (tgt := 16) dX9_isSmall_3 (by decide) (fun c_3 => ?_) (fun c_3 => ?_)
    · refine vx_iconst (v := 0) dX9_isSmall_16 (by decide) ?_
      exact vx_ret (ty := .boolean) dX9_isSmall_17 rfl rfl (Nat.le_refl 0) (Nat.le_refl 0) (vx_pst hP (by simp [sp_in, *]) rfl)
    · refine vx_iload_n dX9_isSmall_6 rfl ?_
      refine vx_bipush (v := 122) dX9_isSmall_7 (by decide) ?_
      refine vx_icmp_gt (tgt := 16) dX9_isSmall_9 (by decide) (fun c_9 => ?_) (fun c_9 => ?_)
      · refine vx_iconst (v := 0) dX9_isSmall_16 (by decide) ?_
        exact vx_ret (ty := .boolean) dX9_isSmall_17 rfl rfl (Nat.le_refl 0) (Nat.le_refl 0) (vx_pst hP (by simp [sp_in, *]) rfl)
      · refine vx_iconst (v := 1) dX9_isSmall_12 (by decide) ?_
        refine vx_goto (tgt := 17) dX9_isSmall_13 (by decide) ?_
        exact vx_ret (ty := .boolean) dX9_isSmall_17 rfl rfl (Nat.le_refl 0) (Nat.le_refl 0) (vx_pst hP (by simp [sp_in, *]) rfl)
  exact vx_J.M pn_X9_isSmall (Nat.le_of_ble_eq_true rfl) (key _ _ ⟨rfl, rfl, rfl, rfl, rfl⟩)
set_option maxRecDepth 20000 in
set_option maxHeartbeats 2000000 in
theorem c_X9_isDigit (d : Nat) (ad : Nat → Nat) (μ : vx_mem) (c : Int32) : vx_Mf yX9_isDigit cX9_isDigit 1 (some (.boolean)) d ad 82 vx_lay μ [.inl c] (some (.inl (sp_in c 48 57))) μ := by
  have key : ∀ (Post : vx_P) (ini : Bool), Post (some (.inl (sp_in c 48 57))) ad 82 vx_lay μ → vx_J RX9 cX9_isDigit 1 (some (.boolean)) ini d 0 0 Post ad 0 0 82 vx_lay μ 0 [(0, .inl c)] [] := by
    intro Post ini hP
    refine vx_iload_n dX9_isDigit_0 rfl ?_
    refine vx_bipush (v := 48) dX9_isDigit_1 (by decide) ?_
    refine vx_icmp_lt (tgt := 16) dX9_isDigit_3 (by decide) (fun c_3 => ?_) (fun c_3 => ?_)
    · refine vx_iconst (v := 0) dX9_isDigit_16 (by decide) ?_
      exact vx_ret (ty := .boolean) dX9_isDigit_17 rfl rfl (Nat.le_refl 0) (Nat.le_refl 0) (vx_pst hP (by simp [sp_in, *]) rfl)
    · refine vx_iload_n dX9_isDigit_6 rfl ?_
      refine vx_bipush (v := 57) dX9_isDigit_7 (by decide) ?_
      refine vx_icmp_gt (tgt := 16) dX9_isDigit_9 (by decide) (fun c_9 => ?_) (fun c_9 => ?_)
      · refine vx_iconst (v := 0) dX9_isDigit_16 (by decide) ?_
        exact vx_ret (ty := .boolean) dX9_isDigit_17 rfl rfl (Nat.le_refl 0) (Nat.le_refl 0) (vx_pst hP (by simp [sp_in, *]) rfl)
      · refine vx_iconst (v := 1) dX9_isDigit_12 (by decide) ?_
        refine vx_goto (tgt := 17) dX9_isDigit_13 (by decide) ?_
        exact vx_ret (ty := .boolean) dX9_isDigit_17 rfl rfl (Nat.le_refl 0) (Nat.le_refl 0) (vx_pst hP (by simp [sp_in, *]) rfl)
  exact vx_J.M pn_X9_isDigit (Nat.le_of_ble_eq_true rfl) (key _ _ ⟨rfl, rfl, rfl, rfl, rfl⟩)
set_option maxRecDepth 20000 in
set_option maxHeartbeats 2000000 in
theorem mo_s0 {d : Nat} (hd : 4 ≤ d) {ad : Nat → Nat} {μ : vx_mem} {p q : Nat} (hp : μ 54 11 = nI p) (hq : μ 54 10 = nI q) (hpq : p ≤ q) (hq3 : q ≤ 300) {Post : vx_P} {ini : Bool} (hno : vx_J RX9 cX9_wordOf 4 (some (.int)) ini d 0 0 Post ad 0 0 82 vx_lay μ 4 [(2, .inl 6), (1, .inl 1), (0, vx_r 54)] []) : vx_J RX9 cX9_wordOf 4 (some (.int)) ini d 0 0 Post ad 0 0 82 vx_lay μ 97 [(2, .inl 0), (1, .inl 0), (0, vx_r 54)] [] := by
  refine vx_ldcS (i := 6) dX9_wordOf_97 rfl ?_
  refine vx_iload_n dX9_wordOf_99 rfl ?_
  refine vx_callK (i := 6) (vs := [.inl 0]) (st := []) (r0 := (some (.inl 104))) (μ0 := μ) dX9_wordOf_100 ((c_J0_charAt_5068e (d - 1) (by omega) ad 82 vx_lay μ 6 (by decide) 0 (by decide)).to (congrArg (fun z => some (Sum.inl z)) (mo_chr 0 (by omega))) rfl) wd_930 wd_446 wd_55 hy_J0_charAt_5068e wd_444 wd_445 (by decide) rfl (by omega) (Nat.le_of_ble_eq_true rfl) (Nat.le_of_ble_eq_true rfl) (Nat.le_refl 0) (Nat.le_refl 0) ?_
  refine vx_eq (μ2 := μ) (ls2 := [(2, .inl 0), (1, .inl 0), (0, vx_r 54)]) (st2 := [.inl 104]) rfl rfl rfl ?_
  refine vx_bipush (v := 32) dX9_wordOf_103 (by decide) ?_
  refine vx_icmp_eq (tgt := 114) dX9_wordOf_105 (by decide) (fun h => absurd h (by decide)) (fun _ => ?_)
  refine vx_iinc (v := 1) (ls2 := [(2, .inl 1), (1, .inl 0), (0, vx_r 54)]) dX9_wordOf_108 rfl (by decide) (by decide) rfl ?_
  refine vx_goto (tgt := 97) dX9_wordOf_111 (by decide) ?_
  refine vx_ldcS (i := 6) dX9_wordOf_97 rfl ?_
  refine vx_iload_n dX9_wordOf_99 rfl ?_
  refine vx_callK (i := 6) (vs := [.inl 1]) (st := []) (r0 := (some (.inl 97))) (μ0 := μ) dX9_wordOf_100 ((c_J0_charAt_5068e (d - 1) (by omega) ad 82 vx_lay μ 6 (by decide) 1 (by decide)).to (congrArg (fun z => some (Sum.inl z)) (mo_chr 1 (by omega))) rfl) wd_930 wd_446 wd_55 hy_J0_charAt_5068e wd_444 wd_445 (by decide) rfl (by omega) (Nat.le_of_ble_eq_true rfl) (Nat.le_of_ble_eq_true rfl) (Nat.le_refl 0) (Nat.le_refl 0) ?_
  refine vx_eq (μ2 := μ) (ls2 := [(2, .inl 1), (1, .inl 0), (0, vx_r 54)]) (st2 := [.inl 97]) rfl rfl rfl ?_
  refine vx_bipush (v := 32) dX9_wordOf_103 (by decide) ?_
  refine vx_icmp_eq (tgt := 114) dX9_wordOf_105 (by decide) (fun h => absurd h (by decide)) (fun _ => ?_)
  refine vx_iinc (v := 2) (ls2 := [(2, .inl 2), (1, .inl 0), (0, vx_r 54)]) dX9_wordOf_108 rfl (by decide) (by decide) rfl ?_
  refine vx_goto (tgt := 97) dX9_wordOf_111 (by decide) ?_
  refine vx_ldcS (i := 6) dX9_wordOf_97 rfl ?_
  refine vx_iload_n dX9_wordOf_99 rfl ?_
  refine vx_callK (i := 6) (vs := [.inl 2]) (st := []) (r0 := (some (.inl 110))) (μ0 := μ) dX9_wordOf_100 ((c_J0_charAt_5068e (d - 1) (by omega) ad 82 vx_lay μ 6 (by decide) 2 (by decide)).to (congrArg (fun z => some (Sum.inl z)) (mo_chr 2 (by omega))) rfl) wd_930 wd_446 wd_55 hy_J0_charAt_5068e wd_444 wd_445 (by decide) rfl (by omega) (Nat.le_of_ble_eq_true rfl) (Nat.le_of_ble_eq_true rfl) (Nat.le_refl 0) (Nat.le_refl 0) ?_
  refine vx_eq (μ2 := μ) (ls2 := [(2, .inl 2), (1, .inl 0), (0, vx_r 54)]) (st2 := [.inl 110]) rfl rfl rfl ?_
  refine vx_bipush (v := 32) dX9_wordOf_103 (by decide) ?_
  refine vx_icmp_eq (tgt := 114) dX9_wordOf_105 (by decide) (fun h => absurd h (by decide)) (fun _ => ?_)
  refine vx_iinc (v := 3) (ls2 := [(2, .inl 3), (1, .inl 0), (0, vx_r 54)]) dX9_wordOf_108 rfl (by decide) (by decide) rfl ?_
  refine vx_goto (tgt := 97) dX9_wordOf_111 (by decide) ?_
  refine vx_ldcS (i := 6) dX9_wordOf_97 rfl ?_
  refine vx_iload_n dX9_wordOf_99 rfl ?_
  refine vx_callK (i := 6) (vs := [.inl 3]) (st := []) (r0 := (some (.inl 100))) (μ0 := μ) dX9_wordOf_100 ((c_J0_charAt_5068e (d - 1) (by omega) ad 82 vx_lay μ 6 (by decide) 3 (by decide)).to (congrArg (fun z => some (Sum.inl z)) (mo_chr 3 (by omega))) rfl) wd_930 wd_446 wd_55 hy_J0_charAt_5068e wd_444 wd_445 (by decide) rfl (by omega) (Nat.le_of_ble_eq_true rfl) (Nat.le_of_ble_eq_true rfl) (Nat.le_refl 0) (Nat.le_refl 0) ?_
  refine vx_eq (μ2 := μ) (ls2 := [(2, .inl 3), (1, .inl 0), (0, vx_r 54)]) (st2 := [.inl 100]) rfl rfl rfl ?_
  refine vx_bipush (v := 32) dX9_wordOf_103 (by decide) ?_
  refine vx_icmp_eq (tgt := 114) dX9_wordOf_105 (by decide) (fun h => absurd h (by decide)) (fun _ => ?_)
  refine vx_iinc (v := 4) (ls2 := [(2, .inl 4), (1, .inl 0), (0, vx_r 54)]) dX9_wordOf_108 rfl (by decide) (by decide) rfl ?_
  refine vx_goto (tgt := 97) dX9_wordOf_111 (by decide) ?_
  refine vx_ldcS (i := 6) dX9_wordOf_97 rfl ?_
  refine vx_iload_n dX9_wordOf_99 rfl ?_
  refine vx_callK (i := 6) (vs := [.inl 4]) (st := []) (r0 := (some (.inl 115))) (μ0 := μ) dX9_wordOf_100 ((c_J0_charAt_5068e (d - 1) (by omega) ad 82 vx_lay μ 6 (by decide) 4 (by decide)).to (congrArg (fun z => some (Sum.inl z)) (mo_chr 4 (by omega))) rfl) wd_930 wd_446 wd_55 hy_J0_charAt_5068e wd_444 wd_445 (by decide) rfl (by omega) (Nat.le_of_ble_eq_true rfl) (Nat.le_of_ble_eq_true rfl) (Nat.le_refl 0) (Nat.le_refl 0) ?_
  refine vx_eq (μ2 := μ) (ls2 := [(2, .inl 4), (1, .inl 0), (0, vx_r 54)]) (st2 := [.inl 115]) rfl rfl rfl ?_
  refine vx_bipush (v := 32) dX9_wordOf_103 (by decide) ?_
  refine vx_icmp_eq (tgt := 114) dX9_wordOf_105 (by decide) (fun h => absurd h (by decide)) (fun _ => ?_)
  refine vx_iinc (v := 5) (ls2 := [(2, .inl 5), (1, .inl 0), (0, vx_r 54)]) dX9_wordOf_108 rfl (by decide) (by decide) rfl ?_
  refine vx_goto (tgt := 97) dX9_wordOf_111 (by decide) ?_
  refine vx_ldcS (i := 6) dX9_wordOf_97 rfl ?_
  refine vx_iload_n dX9_wordOf_99 rfl ?_
  refine vx_callK (i := 6) (vs := [.inl 5]) (st := []) (r0 := (some (.inl 32))) (μ0 := μ) dX9_wordOf_100 ((c_J0_charAt_5068e (d - 1) (by omega) ad 82 vx_lay μ 6 (by decide) 5 (by decide)).to (congrArg (fun z => some (Sum.inl z)) (mo_chr 5 (by omega))) rfl) wd_930 wd_446 wd_55 hy_J0_charAt_5068e wd_444 wd_445 (by decide) rfl (by omega) (Nat.le_of_ble_eq_true rfl) (Nat.le_of_ble_eq_true rfl) (Nat.le_refl 0) (Nat.le_refl 0) ?_
  refine vx_eq (μ2 := μ) (ls2 := [(2, .inl 5), (1, .inl 0), (0, vx_r 54)]) (st2 := [.inl 32]) rfl rfl rfl ?_
  refine vx_bipush (v := 32) dX9_wordOf_103 (by decide) ?_
  refine vx_icmp_eq (tgt := 114) dX9_wordOf_105 (by decide) (fun _ => ?_) (fun h => absurd h (by decide))
  refine vx_iinc (v := 6) (ls2 := [(2, .inl 6), (1, .inl 0), (0, vx_r 54)]) dX9_wordOf_114 rfl (by decide) (by decide) rfl ?_
  refine vx_iinc (v := 1) (ls2 := [(1, .inl 1), (2, .inl 6), (0, vx_r 54)]) dX9_wordOf_117 rfl (by decide) (by decide) rfl ?_
  refine vx_goto (tgt := 4) dX9_wordOf_120 (by decide) ?_
  refine vx_keep (ls2 := [(2, .inl 6), (1, .inl 1), (0, vx_r 54)]) ⟨rfl, rfl, rfl, trivial⟩ ?_
  exact hno
set_option maxRecDepth 20000 in
set_option maxHeartbeats 2000000 in
theorem mo_w0_5 {d : Nat} (hd : 4 ≤ d) {ad : Nat → Nat} {μ : vx_mem} {p q : Nat} (hp : μ 54 11 = nI p) (hq : μ 54 10 = nI q) (hpq : p ≤ q) (hq3 : q ≤ 300) {Post : vx_P} {ini : Bool} (hyes : ¬ sp_isw (μ 55) p q 0 = 0 → Post (some (.inl 0)) ad 82 vx_lay μ) (hno : sp_isw (μ 55) p q 0 = 0 → vx_J RX9 cX9_wordOf 4 (some (.int)) ini d 0 0 Post ad 0 0 82 vx_lay μ 4 [(2, .inl 6), (1, .inl 1), (0, vx_r 54)] []) (m0 : μ 55 (p + 0) = sp_chr 0 0) (m1 : μ 55 (p + 1) = sp_chr 0 1) (m2 : μ 55 (p + 2) = sp_chr 0 2) (m3 : μ 55 (p + 3) = sp_chr 0 3) (m4 : μ 55 (p + 4) = sp_chr 0 4) : vx_J RX9 cX9_wordOf 4 (some (.int)) ini d 0 0 Post ad 0 0 82 vx_lay μ 15 [(3, .inl 5), (2, .inl 0), (1, .inl 0), (0, vx_r 54)] [] := by
  refine vx_ldcS (i := 6) dX9_wordOf_15 rfl ?_
  refine vx_iload_n dX9_wordOf_17 rfl ?_
  refine vx_iload_n dX9_wordOf_18 rfl ?_
  refine vx_iadd dX9_wordOf_19 ?_
  refine vx_eq (st2 := [.inl 5, vx_r 1006]) rfl rfl (by rfl) ?_
  refine vx_callK (i := 6) (vs := [.inl 5]) (st := []) (r0 := (some (.inl 32))) (μ0 := μ) dX9_wordOf_20 ((c_J0_charAt_5068e (d - 1) (by omega) ad 82 vx_lay μ 6 (by decide) 5 (by decide)).to (congrArg (fun z => some (Sum.inl z)) (mo_chr 5 (by omega))) rfl) wd_930 wd_446 wd_55 hy_J0_charAt_5068e wd_444 wd_445 (by decide) rfl (by omega) (Nat.le_of_ble_eq_true rfl) (Nat.le_of_ble_eq_true rfl) (Nat.le_refl 0) (Nat.le_refl 0) ?_
  refine vx_eq (μ2 := μ) (ls2 := [(3, .inl 5), (2, .inl 0), (1, .inl 0), (0, vx_r 54)]) (st2 := [.inl 32]) rfl rfl rfl ?_
  refine vx_bipush (v := 32) dX9_wordOf_23 (by decide) ?_
  refine vx_icmp_eq (tgt := 69) dX9_wordOf_25 (by decide) (fun _ => ?_) (fun h => absurd h (by decide))
  refine vx_ldcS (i := 6) dX9_wordOf_69 rfl ?_
  refine vx_iload_n dX9_wordOf_71 rfl ?_
  refine vx_iload_n dX9_wordOf_72 rfl ?_
  refine vx_iadd dX9_wordOf_73 ?_
  refine vx_eq (st2 := [.inl 5, vx_r 1006]) rfl rfl (by rfl) ?_
  refine vx_callK (i := 6) (vs := [.inl 5]) (st := []) (r0 := (some (.inl 32))) (μ0 := μ) dX9_wordOf_74 ((c_J0_charAt_5068e (d - 1) (by omega) ad 82 vx_lay μ 6 (by decide) 5 (by decide)).to (congrArg (fun z => some (Sum.inl z)) (mo_chr 5 (by omega))) rfl) wd_930 wd_446 wd_55 hy_J0_charAt_5068e wd_444 wd_445 (by decide) rfl (by omega) (Nat.le_of_ble_eq_true rfl) (Nat.le_of_ble_eq_true rfl) (Nat.le_refl 0) (Nat.le_refl 0) ?_
  refine vx_eq (μ2 := μ) (ls2 := [(3, .inl 5), (2, .inl 0), (1, .inl 0), (0, vx_r 54)]) (st2 := [.inl 32]) rfl rfl rfl ?_
  refine vx_bipush (v := 32) dX9_wordOf_77 (by decide) ?_
  refine vx_icmp_ne (tgt := 97) dX9_wordOf_79 (by decide) (fun h => absurd h (by decide)) (fun _ => ?_)
  refine vx_aload_n dX9_wordOf_82 rfl ?_
  refine vx_getI (ci := 9) (T := TX9) (n := 56) (j := 11) (a := 54) (v := (nI p)) dX9_wordOf_83 rfl lay_X9 (by decide) wd_747 (by decide) ly_54 rfl hp ?_
  refine vx_iload_n dX9_wordOf_86 rfl ?_
  refine vx_iadd dX9_wordOf_87 ?_
  refine vx_eq (st2 := [.inl (nI (p + 5))]) rfl rfl (by rw [show (5 : Int32) = nI 5 from rfl, nI_add]) ?_
  refine vx_aload_n dX9_wordOf_88 rfl ?_
  refine vx_getI (ci := 9) (T := TX9) (n := 56) (j := 10) (a := 54) (v := (nI q)) dX9_wordOf_89 rfl lay_X9 (by decide) wd_746 (by decide) ly_54 rfl hq ?_
  refine vx_icmp_ne (tgt := 97) dX9_wordOf_92 (by decide) (fun c_92 => ?_) (fun c_92 => ?_)
  · refine vx_keep (ls2 := [(2, .inl 0), (1, .inl 0), (0, vx_r 54)]) ⟨rfl, rfl, rfl, trivial⟩ ?_
    exact mo_s0 hd hp hq hpq hq3 (hno (mo_isw_len (by rw [mo_ll_0]; have h9 := c_92; rw [nI_eq (by omega) (by omega)] at h9; omega)))
  · have hl : q - p = 5 := by have h9 := c_92; rw [nI_eq (by omega) (by omega)] at h9; omega
    have hP := hyes (mo_isw_yes (by rw [mo_ll_0]; exact hl) (fun k hk => by
      rw [mo_ll_0] at hk
      rcases (show k = 0 ∨ k = 1 ∨ k = 2 ∨ k = 3 ∨ k = 4 by omega) with rfl | rfl | rfl | rfl | rfl
      · exact m0
      · exact m1
      · exact m2
      · exact m3
      · exact m4))
    refine vx_iload_n dX9_wordOf_95 rfl ?_
    exact vx_ret (ty := .int) dX9_wordOf_96 rfl rfl (Nat.le_refl 0) (Nat.le_refl 0) (hP)
set_option maxRecDepth 20000 in
set_option maxHeartbeats 2000000 in
theorem mo_w0_4 {d : Nat} (hd : 4 ≤ d) {ad : Nat → Nat} {μ : vx_mem} {p q : Nat} (hp : μ 54 11 = nI p) (hq : μ 54 10 = nI q) (hpq : p ≤ q) (hq3 : q ≤ 300) {Post : vx_P} {ini : Bool} (hyes : ¬ sp_isw (μ 55) p q 0 = 0 → Post (some (.inl 0)) ad 82 vx_lay μ) (hno : sp_isw (μ 55) p q 0 = 0 → vx_J RX9 cX9_wordOf 4 (some (.int)) ini d 0 0 Post ad 0 0 82 vx_lay μ 4 [(2, .inl 6), (1, .inl 1), (0, vx_r 54)] []) (m0 : μ 55 (p + 0) = sp_chr 0 0) (m1 : μ 55 (p + 1) = sp_chr 0 1) (m2 : μ 55 (p + 2) = sp_chr 0 2) (m3 : μ 55 (p + 3) = sp_chr 0 3) : vx_J RX9 cX9_wordOf 4 (some (.int)) ini d 0 0 Post ad 0 0 82 vx_lay μ 15 [(3, .inl 4), (2, .inl 0), (1, .inl 0), (0, vx_r 54)] [] := by
  refine vx_ldcS (i := 6) dX9_wordOf_15 rfl ?_
  refine vx_iload_n dX9_wordOf_17 rfl ?_
  refine vx_iload_n dX9_wordOf_18 rfl ?_
  refine vx_iadd dX9_wordOf_19 ?_
  refine vx_eq (st2 := [.inl 4, vx_r 1006]) rfl rfl (by rfl) ?_
  refine vx_callK (i := 6) (vs := [.inl 4]) (st := []) (r0 := (some (.inl 115))) (μ0 := μ) dX9_wordOf_20 ((c_J0_charAt_5068e (d - 1) (by omega) ad 82 vx_lay μ 6 (by decide) 4 (by decide)).to (congrArg (fun z => some (Sum.inl z)) (mo_chr 4 (by omega))) rfl) wd_930 wd_446 wd_55 hy_J0_charAt_5068e wd_444 wd_445 (by decide) rfl (by omega) (Nat.le_of_ble_eq_true rfl) (Nat.le_of_ble_eq_true rfl) (Nat.le_refl 0) (Nat.le_refl 0) ?_
  refine vx_eq (μ2 := μ) (ls2 := [(3, .inl 4), (2, .inl 0), (1, .inl 0), (0, vx_r 54)]) (st2 := [.inl 115]) rfl rfl rfl ?_
  refine vx_bipush (v := 32) dX9_wordOf_23 (by decide) ?_
  refine vx_icmp_eq (tgt := 69) dX9_wordOf_25 (by decide) (fun h => absurd h (by decide)) (fun _ => ?_)
  refine vx_aload_n dX9_wordOf_28 rfl ?_
  refine vx_getI (ci := 9) (T := TX9) (n := 56) (j := 11) (a := 54) (v := (nI p)) dX9_wordOf_29 rfl lay_X9 (by decide) wd_747 (by decide) ly_54 rfl hp ?_
  refine vx_iload_n dX9_wordOf_32 rfl ?_
  refine vx_iadd dX9_wordOf_33 ?_
  refine vx_eq (st2 := [.inl (nI (p + 4))]) rfl rfl (by rw [show (4 : Int32) = nI 4 from rfl, nI_add]) ?_
  refine vx_aload_n dX9_wordOf_34 rfl ?_
  refine vx_getI (ci := 9) (T := TX9) (n := 56) (j := 10) (a := 54) (v := (nI q)) dX9_wordOf_35 rfl lay_X9 (by decide) wd_746 (by decide) ly_54 rfl hq ?_
  refine vx_icmp_ge (tgt := 69) dX9_wordOf_38 (by decide) (fun c_38 => ?_) (fun c_38 => ?_)
  · refine vx_ldcS (i := 6) dX9_wordOf_69 rfl ?_
    refine vx_iload_n dX9_wordOf_71 rfl ?_
    refine vx_iload_n dX9_wordOf_72 rfl ?_
    refine vx_iadd dX9_wordOf_73 ?_
    refine vx_eq (st2 := [.inl 4, vx_r 1006]) rfl rfl (by rfl) ?_
    refine vx_callK (i := 6) (vs := [.inl 4]) (st := []) (r0 := (some (.inl 115))) (μ0 := μ) dX9_wordOf_74 ((c_J0_charAt_5068e (d - 1) (by omega) ad 82 vx_lay μ 6 (by decide) 4 (by decide)).to (congrArg (fun z => some (Sum.inl z)) (mo_chr 4 (by omega))) rfl) wd_930 wd_446 wd_55 hy_J0_charAt_5068e wd_444 wd_445 (by decide) rfl (by omega) (Nat.le_of_ble_eq_true rfl) (Nat.le_of_ble_eq_true rfl) (Nat.le_refl 0) (Nat.le_refl 0) ?_
    refine vx_eq (μ2 := μ) (ls2 := [(3, .inl 4), (2, .inl 0), (1, .inl 0), (0, vx_r 54)]) (st2 := [.inl 115]) rfl rfl rfl ?_
    refine vx_bipush (v := 32) dX9_wordOf_77 (by decide) ?_
    refine vx_icmp_ne (tgt := 97) dX9_wordOf_79 (by decide) (fun _ => ?_) (fun h => absurd h (by decide))
    refine vx_keep (ls2 := [(2, .inl 0), (1, .inl 0), (0, vx_r 54)]) ⟨rfl, rfl, rfl, trivial⟩ ?_
    exact mo_s0 hd hp hq hpq hq3 (hno (mo_isw_len (by rw [mo_ll_0]; have h9 := c_38; rw [nI_leI (by omega) (by omega)] at h9; omega)))
  · refine vx_aload_n dX9_wordOf_41 rfl ?_
    refine vx_getR (ci := 9) (T := TX9) (n := 56) (j := 1) (a := 54) (r := 55) dX9_wordOf_42 rfl lay_X9 (by decide) wd_737 (by decide) ly_54 rfl ?_
    refine vx_aload_n dX9_wordOf_45 rfl ?_
    refine vx_getI (ci := 9) (T := TX9) (n := 56) (j := 11) (a := 54) (v := (nI p)) dX9_wordOf_46 rfl lay_X9 (by decide) wd_747 (by decide) ly_54 rfl hp ?_
    refine vx_iload_n dX9_wordOf_49 rfl ?_
    refine vx_iadd dX9_wordOf_50 ?_
    refine vx_eq (st2 := [.inl (nI (p + 4)), vx_r 55]) rfl rfl (by rw [show (4 : Int32) = nI 4 from rfl, nI_add]) ?_
    refine vx_iald (a := 55) (n := 300) (v := (μ 55 (p + 4))) dX9_wordOf_51 (by decide) ly_55 (vp_in_nI (by have h9 := c_38; rw [nI_leI (by omega) (by omega)] at h9; omega) (by omega)) (by rw [nI_clamp (by omega)] <;> rfl) ?_
    refine vx_ldcS (i := 6) dX9_wordOf_52 rfl ?_
    refine vx_iload_n dX9_wordOf_54 rfl ?_
    refine vx_iload_n dX9_wordOf_55 rfl ?_
    refine vx_iadd dX9_wordOf_56 ?_
    refine vx_eq (st2 := [.inl 4, vx_r 1006, .inl (μ 55 (p + 4))]) rfl rfl (by rfl) ?_
    refine vx_callK (i := 6) (vs := [.inl 4]) (st := [.inl (μ 55 (p + 4))]) (r0 := (some (.inl 115))) (μ0 := μ) dX9_wordOf_57 ((c_J0_charAt_5068e (d - 1) (by omega) ad 82 vx_lay μ 6 (by decide) 4 (by decide)).to (congrArg (fun z => some (Sum.inl z)) (mo_chr 4 (by omega))) rfl) wd_930 wd_446 wd_55 hy_J0_charAt_5068e wd_444 wd_445 (by decide) rfl (by omega) (Nat.le_of_ble_eq_true rfl) (Nat.le_of_ble_eq_true rfl) (Nat.le_refl 0) (Nat.le_refl 0) ?_
    refine vx_eq (μ2 := μ) (ls2 := [(3, .inl 4), (2, .inl 0), (1, .inl 0), (0, vx_r 54)]) (st2 := [.inl 115, .inl (μ 55 (p + 4))]) rfl rfl rfl ?_
    refine vx_icmp_ne (tgt := 69) dX9_wordOf_60 (by decide) (fun c_60 => ?_) (fun c_60 => ?_)
    · refine vx_ldcS (i := 6) dX9_wordOf_69 rfl ?_
      refine vx_iload_n dX9_wordOf_71 rfl ?_
      refine vx_iload_n dX9_wordOf_72 rfl ?_
      refine vx_iadd dX9_wordOf_73 ?_
      refine vx_eq (st2 := [.inl 4, vx_r 1006]) rfl rfl (by rfl) ?_
      refine vx_callK (i := 6) (vs := [.inl 4]) (st := []) (r0 := (some (.inl 115))) (μ0 := μ) dX9_wordOf_74 ((c_J0_charAt_5068e (d - 1) (by omega) ad 82 vx_lay μ 6 (by decide) 4 (by decide)).to (congrArg (fun z => some (Sum.inl z)) (mo_chr 4 (by omega))) rfl) wd_930 wd_446 wd_55 hy_J0_charAt_5068e wd_444 wd_445 (by decide) rfl (by omega) (Nat.le_of_ble_eq_true rfl) (Nat.le_of_ble_eq_true rfl) (Nat.le_refl 0) (Nat.le_refl 0) ?_
      refine vx_eq (μ2 := μ) (ls2 := [(3, .inl 4), (2, .inl 0), (1, .inl 0), (0, vx_r 54)]) (st2 := [.inl 115]) rfl rfl rfl ?_
      refine vx_bipush (v := 32) dX9_wordOf_77 (by decide) ?_
      refine vx_icmp_ne (tgt := 97) dX9_wordOf_79 (by decide) (fun _ => ?_) (fun h => absurd h (by decide))
      refine vx_keep (ls2 := [(2, .inl 0), (1, .inl 0), (0, vx_r 54)]) ⟨rfl, rfl, rfl, trivial⟩ ?_
      exact mo_s0 hd hp hq hpq hq3 (hno (mo_isw_ne (j := 4) (by rw [mo_ll_0]; omega) (by rw [mo_ch_0_4]; exact c_60)))
    · refine vx_iinc (v := 5) (ls2 := [(3, .inl 5), (2, .inl 0), (1, .inl 0), (0, vx_r 54)]) dX9_wordOf_63 rfl (by decide) (by decide) rfl ?_
      refine vx_goto (tgt := 15) dX9_wordOf_66 (by decide) ?_
      exact mo_w0_5 hd hp hq hpq hq3 hyes hno m0 m1 m2 m3 (by rw [mo_ch_0_4]; exact c_60)
set_option maxRecDepth 20000 in
set_option maxHeartbeats 2000000 in
theorem mo_w0_3 {d : Nat} (hd : 4 ≤ d) {ad : Nat → Nat} {μ : vx_mem} {p q : Nat} (hp : μ 54 11 = nI p) (hq : μ 54 10 = nI q) (hpq : p ≤ q) (hq3 : q ≤ 300) {Post : vx_P} {ini : Bool} (hyes : ¬ sp_isw (μ 55) p q 0 = 0 → Post (some (.inl 0)) ad 82 vx_lay μ) (hno : sp_isw (μ 55) p q 0 = 0 → vx_J RX9 cX9_wordOf 4 (some (.int)) ini d 0 0 Post ad 0 0 82 vx_lay μ 4 [(2, .inl 6), (1, .inl 1), (0, vx_r 54)] []) (m0 : μ 55 (p + 0) = sp_chr 0 0) (m1 : μ 55 (p + 1) = sp_chr 0 1) (m2 : μ 55 (p + 2) = sp_chr 0 2) : vx_J RX9 cX9_wordOf 4 (some (.int)) ini d 0 0 Post ad 0 0 82 vx_lay μ 15 [(3, .inl 3), (2, .inl 0), (1, .inl 0), (0, vx_r 54)] [] := by
  refine vx_ldcS (i := 6) dX9_wordOf_15 rfl ?_
  refine vx_iload_n dX9_wordOf_17 rfl ?_
  refine vx_iload_n dX9_wordOf_18 rfl ?_
  refine vx_iadd dX9_wordOf_19 ?_
  refine vx_eq (st2 := [.inl 3, vx_r 1006]) rfl rfl (by rfl) ?_
  refine vx_callK (i := 6) (vs := [.inl 3]) (st := []) (r0 := (some (.inl 100))) (μ0 := μ) dX9_wordOf_20 ((c_J0_charAt_5068e (d - 1) (by omega) ad 82 vx_lay μ 6 (by decide) 3 (by decide)).to (congrArg (fun z => some (Sum.inl z)) (mo_chr 3 (by omega))) rfl) wd_930 wd_446 wd_55 hy_J0_charAt_5068e wd_444 wd_445 (by decide) rfl (by omega) (Nat.le_of_ble_eq_true rfl) (Nat.le_of_ble_eq_true rfl) (Nat.le_refl 0) (Nat.le_refl 0) ?_
  refine vx_eq (μ2 := μ) (ls2 := [(3, .inl 3), (2, .inl 0), (1, .inl 0), (0, vx_r 54)]) (st2 := [.inl 100]) rfl rfl rfl ?_
  refine vx_bipush (v := 32) dX9_wordOf_23 (by decide) ?_
  refine vx_icmp_eq (tgt := 69) dX9_wordOf_25 (by decide) (fun h => absurd h (by decide)) (fun _ => ?_)
  refine vx_aload_n dX9_wordOf_28 rfl ?_
  refine vx_getI (ci := 9) (T := TX9) (n := 56) (j := 11) (a := 54) (v := (nI p)) dX9_wordOf_29 rfl lay_X9 (by decide) wd_747 (by decide) ly_54 rfl hp ?_
  refine vx_iload_n dX9_wordOf_32 rfl ?_
  refine vx_iadd dX9_wordOf_33 ?_
  refine vx_eq (st2 := [.inl (nI (p + 3))]) rfl rfl (by rw [show (3 : Int32) = nI 3 from rfl, nI_add]) ?_
  refine vx_aload_n dX9_wordOf_34 rfl ?_
  refine vx_getI (ci := 9) (T := TX9) (n := 56) (j := 10) (a := 54) (v := (nI q)) dX9_wordOf_35 rfl lay_X9 (by decide) wd_746 (by decide) ly_54 rfl hq ?_
  refine vx_icmp_ge (tgt := 69) dX9_wordOf_38 (by decide) (fun c_38_1 => ?_) (fun c_38_1 => ?_)
  · refine vx_ldcS (i := 6) dX9_wordOf_69 rfl ?_
    refine vx_iload_n dX9_wordOf_71 rfl ?_
    refine vx_iload_n dX9_wordOf_72 rfl ?_
    refine vx_iadd dX9_wordOf_73 ?_
    refine vx_eq (st2 := [.inl 3, vx_r 1006]) rfl rfl (by rfl) ?_
    refine vx_callK (i := 6) (vs := [.inl 3]) (st := []) (r0 := (some (.inl 100))) (μ0 := μ) dX9_wordOf_74 ((c_J0_charAt_5068e (d - 1) (by omega) ad 82 vx_lay μ 6 (by decide) 3 (by decide)).to (congrArg (fun z => some (Sum.inl z)) (mo_chr 3 (by omega))) rfl) wd_930 wd_446 wd_55 hy_J0_charAt_5068e wd_444 wd_445 (by decide) rfl (by omega) (Nat.le_of_ble_eq_true rfl) (Nat.le_of_ble_eq_true rfl) (Nat.le_refl 0) (Nat.le_refl 0) ?_
    refine vx_eq (μ2 := μ) (ls2 := [(3, .inl 3), (2, .inl 0), (1, .inl 0), (0, vx_r 54)]) (st2 := [.inl 100]) rfl rfl rfl ?_
    refine vx_bipush (v := 32) dX9_wordOf_77 (by decide) ?_
    refine vx_icmp_ne (tgt := 97) dX9_wordOf_79 (by decide) (fun _ => ?_) (fun h => absurd h (by decide))
    refine vx_keep (ls2 := [(2, .inl 0), (1, .inl 0), (0, vx_r 54)]) ⟨rfl, rfl, rfl, trivial⟩ ?_
    exact mo_s0 hd hp hq hpq hq3 (hno (mo_isw_len (by rw [mo_ll_0]; have h9 := c_38_1; rw [nI_leI (by omega) (by omega)] at h9; omega)))
  · refine vx_aload_n dX9_wordOf_41 rfl ?_
    refine vx_getR (ci := 9) (T := TX9) (n := 56) (j := 1) (a := 54) (r := 55) dX9_wordOf_42 rfl lay_X9 (by decide) wd_737 (by decide) ly_54 rfl ?_
    refine vx_aload_n dX9_wordOf_45 rfl ?_
    refine vx_getI (ci := 9) (T := TX9) (n := 56) (j := 11) (a := 54) (v := (nI p)) dX9_wordOf_46 rfl lay_X9 (by decide) wd_747 (by decide) ly_54 rfl hp ?_
    refine vx_iload_n dX9_wordOf_49 rfl ?_
    refine vx_iadd dX9_wordOf_50 ?_
    refine vx_eq (st2 := [.inl (nI (p + 3)), vx_r 55]) rfl rfl (by rw [show (3 : Int32) = nI 3 from rfl, nI_add]) ?_
    refine vx_iald (a := 55) (n := 300) (v := (μ 55 (p + 3))) dX9_wordOf_51 (by decide) ly_55 (vp_in_nI (by have h9 := c_38_1; rw [nI_leI (by omega) (by omega)] at h9; omega) (by omega)) (by rw [nI_clamp (by omega)] <;> rfl) ?_
    refine vx_ldcS (i := 6) dX9_wordOf_52 rfl ?_
    refine vx_iload_n dX9_wordOf_54 rfl ?_
    refine vx_iload_n dX9_wordOf_55 rfl ?_
    refine vx_iadd dX9_wordOf_56 ?_
    refine vx_eq (st2 := [.inl 3, vx_r 1006, .inl (μ 55 (p + 3))]) rfl rfl (by rfl) ?_
    refine vx_callK (i := 6) (vs := [.inl 3]) (st := [.inl (μ 55 (p + 3))]) (r0 := (some (.inl 100))) (μ0 := μ) dX9_wordOf_57 ((c_J0_charAt_5068e (d - 1) (by omega) ad 82 vx_lay μ 6 (by decide) 3 (by decide)).to (congrArg (fun z => some (Sum.inl z)) (mo_chr 3 (by omega))) rfl) wd_930 wd_446 wd_55 hy_J0_charAt_5068e wd_444 wd_445 (by decide) rfl (by omega) (Nat.le_of_ble_eq_true rfl) (Nat.le_of_ble_eq_true rfl) (Nat.le_refl 0) (Nat.le_refl 0) ?_
    refine vx_eq (μ2 := μ) (ls2 := [(3, .inl 3), (2, .inl 0), (1, .inl 0), (0, vx_r 54)]) (st2 := [.inl 100, .inl (μ 55 (p + 3))]) rfl rfl rfl ?_
    refine vx_icmp_ne (tgt := 69) dX9_wordOf_60 (by decide) (fun c_60_1 => ?_) (fun c_60_1 => ?_)
    · refine vx_ldcS (i := 6) dX9_wordOf_69 rfl ?_
      refine vx_iload_n dX9_wordOf_71 rfl ?_
      refine vx_iload_n dX9_wordOf_72 rfl ?_
      refine vx_iadd dX9_wordOf_73 ?_
      refine vx_eq (st2 := [.inl 3, vx_r 1006]) rfl rfl (by rfl) ?_
      refine vx_callK (i := 6) (vs := [.inl 3]) (st := []) (r0 := (some (.inl 100))) (μ0 := μ) dX9_wordOf_74 ((c_J0_charAt_5068e (d - 1) (by omega) ad 82 vx_lay μ 6 (by decide) 3 (by decide)).to (congrArg (fun z => some (Sum.inl z)) (mo_chr 3 (by omega))) rfl) wd_930 wd_446 wd_55 hy_J0_charAt_5068e wd_444 wd_445 (by decide) rfl (by omega) (Nat.le_of_ble_eq_true rfl) (Nat.le_of_ble_eq_true rfl) (Nat.le_refl 0) (Nat.le_refl 0) ?_
      refine vx_eq (μ2 := μ) (ls2 := [(3, .inl 3), (2, .inl 0), (1, .inl 0), (0, vx_r 54)]) (st2 := [.inl 100]) rfl rfl rfl ?_
      refine vx_bipush (v := 32) dX9_wordOf_77 (by decide) ?_
      refine vx_icmp_ne (tgt := 97) dX9_wordOf_79 (by decide) (fun _ => ?_) (fun h => absurd h (by decide))
      refine vx_keep (ls2 := [(2, .inl 0), (1, .inl 0), (0, vx_r 54)]) ⟨rfl, rfl, rfl, trivial⟩ ?_
      exact mo_s0 hd hp hq hpq hq3 (hno (mo_isw_ne (j := 3) (by rw [mo_ll_0]; omega) (by rw [mo_ch_0_3]; exact c_60_1)))
    · refine vx_iinc (v := 4) (ls2 := [(3, .inl 4), (2, .inl 0), (1, .inl 0), (0, vx_r 54)]) dX9_wordOf_63 rfl (by decide) (by decide) rfl ?_
      refine vx_goto (tgt := 15) dX9_wordOf_66 (by decide) ?_
      exact mo_w0_4 hd hp hq hpq hq3 hyes hno m0 m1 m2 (by rw [mo_ch_0_3]; exact c_60_1)
set_option maxRecDepth 20000 in
set_option maxHeartbeats 2000000 in
theorem mo_w0_2 {d : Nat} (hd : 4 ≤ d) {ad : Nat → Nat} {μ : vx_mem} {p q : Nat} (hp : μ 54 11 = nI p) (hq : μ 54 10 = nI q) (hpq : p ≤ q) (hq3 : q ≤ 300) {Post : vx_P} {ini : Bool} (hyes : ¬ sp_isw (μ 55) p q 0 = 0 → Post (some (.inl 0)) ad 82 vx_lay μ) (hno : sp_isw (μ 55) p q 0 = 0 → vx_J RX9 cX9_wordOf 4 (some (.int)) ini d 0 0 Post ad 0 0 82 vx_lay μ 4 [(2, .inl 6), (1, .inl 1), (0, vx_r 54)] []) (m0 : μ 55 (p + 0) = sp_chr 0 0) (m1 : μ 55 (p + 1) = sp_chr 0 1) : vx_J RX9 cX9_wordOf 4 (some (.int)) ini d 0 0 Post ad 0 0 82 vx_lay μ 15 [(3, .inl 2), (2, .inl 0), (1, .inl 0), (0, vx_r 54)] [] := by
  refine vx_ldcS (i := 6) dX9_wordOf_15 rfl ?_
  refine vx_iload_n dX9_wordOf_17 rfl ?_
  refine vx_iload_n dX9_wordOf_18 rfl ?_
  refine vx_iadd dX9_wordOf_19 ?_
  refine vx_eq (st2 := [.inl 2, vx_r 1006]) rfl rfl (by rfl) ?_
  refine vx_callK (i := 6) (vs := [.inl 2]) (st := []) (r0 := (some (.inl 110))) (μ0 := μ) dX9_wordOf_20 ((c_J0_charAt_5068e (d - 1) (by omega) ad 82 vx_lay μ 6 (by decide) 2 (by decide)).to (congrArg (fun z => some (Sum.inl z)) (mo_chr 2 (by omega))) rfl) wd_930 wd_446 wd_55 hy_J0_charAt_5068e wd_444 wd_445 (by decide) rfl (by omega) (Nat.le_of_ble_eq_true rfl) (Nat.le_of_ble_eq_true rfl) (Nat.le_refl 0) (Nat.le_refl 0) ?_
  refine vx_eq (μ2 := μ) (ls2 := [(3, .inl 2), (2, .inl 0), (1, .inl 0), (0, vx_r 54)]) (st2 := [.inl 110]) rfl rfl rfl ?_
  refine vx_bipush (v := 32) dX9_wordOf_23 (by decide) ?_
  refine vx_icmp_eq (tgt := 69) dX9_wordOf_25 (by decide) (fun h => absurd h (by decide)) (fun _ => ?_)
  refine vx_aload_n dX9_wordOf_28 rfl ?_
  refine vx_getI (ci := 9) (T := TX9) (n := 56) (j := 11) (a := 54) (v := (nI p)) dX9_wordOf_29 rfl lay_X9 (by decide) wd_747 (by decide) ly_54 rfl hp ?_
  refine vx_iload_n dX9_wordOf_32 rfl ?_
  refine vx_iadd dX9_wordOf_33 ?_
  refine vx_eq (st2 := [.inl (nI (p + 2))]) rfl rfl (by rw [show (2 : Int32) = nI 2 from rfl, nI_add]) ?_
  refine vx_aload_n dX9_wordOf_34 rfl ?_
  refine vx_getI (ci := 9) (T := TX9) (n := 56) (j := 10) (a := 54) (v := (nI q)) dX9_wordOf_35 rfl lay_X9 (by decide) wd_746 (by decide) ly_54 rfl hq ?_
  refine vx_icmp_ge (tgt := 69) dX9_wordOf_38 (by decide) (fun c_38_2 => ?_) (fun c_38_2 => ?_)
  · refine vx_ldcS (i := 6) dX9_wordOf_69 rfl ?_
    refine vx_iload_n dX9_wordOf_71 rfl ?_
    refine vx_iload_n dX9_wordOf_72 rfl ?_
    refine vx_iadd dX9_wordOf_73 ?_
    refine vx_eq (st2 := [.inl 2, vx_r 1006]) rfl rfl (by rfl) ?_
    refine vx_callK (i := 6) (vs := [.inl 2]) (st := []) (r0 := (some (.inl 110))) (μ0 := μ) dX9_wordOf_74 ((c_J0_charAt_5068e (d - 1) (by omega) ad 82 vx_lay μ 6 (by decide) 2 (by decide)).to (congrArg (fun z => some (Sum.inl z)) (mo_chr 2 (by omega))) rfl) wd_930 wd_446 wd_55 hy_J0_charAt_5068e wd_444 wd_445 (by decide) rfl (by omega) (Nat.le_of_ble_eq_true rfl) (Nat.le_of_ble_eq_true rfl) (Nat.le_refl 0) (Nat.le_refl 0) ?_
    refine vx_eq (μ2 := μ) (ls2 := [(3, .inl 2), (2, .inl 0), (1, .inl 0), (0, vx_r 54)]) (st2 := [.inl 110]) rfl rfl rfl ?_
    refine vx_bipush (v := 32) dX9_wordOf_77 (by decide) ?_
    refine vx_icmp_ne (tgt := 97) dX9_wordOf_79 (by decide) (fun _ => ?_) (fun h => absurd h (by decide))
    refine vx_keep (ls2 := [(2, .inl 0), (1, .inl 0), (0, vx_r 54)]) ⟨rfl, rfl, rfl, trivial⟩ ?_
    exact mo_s0 hd hp hq hpq hq3 (hno (mo_isw_len (by rw [mo_ll_0]; have h9 := c_38_2; rw [nI_leI (by omega) (by omega)] at h9; omega)))
  · refine vx_aload_n dX9_wordOf_41 rfl ?_
    refine vx_getR (ci := 9) (T := TX9) (n := 56) (j := 1) (a := 54) (r := 55) dX9_wordOf_42 rfl lay_X9 (by decide) wd_737 (by decide) ly_54 rfl ?_
    refine vx_aload_n dX9_wordOf_45 rfl ?_
    refine vx_getI (ci := 9) (T := TX9) (n := 56) (j := 11) (a := 54) (v := (nI p)) dX9_wordOf_46 rfl lay_X9 (by decide) wd_747 (by decide) ly_54 rfl hp ?_
    refine vx_iload_n dX9_wordOf_49 rfl ?_
    refine vx_iadd dX9_wordOf_50 ?_
    refine vx_eq (st2 := [.inl (nI (p + 2)), vx_r 55]) rfl rfl (by rw [show (2 : Int32) = nI 2 from rfl, nI_add]) ?_
    refine vx_iald (a := 55) (n := 300) (v := (μ 55 (p + 2))) dX9_wordOf_51 (by decide) ly_55 (vp_in_nI (by have h9 := c_38_2; rw [nI_leI (by omega) (by omega)] at h9; omega) (by omega)) (by rw [nI_clamp (by omega)] <;> rfl) ?_
    refine vx_ldcS (i := 6) dX9_wordOf_52 rfl ?_
    refine vx_iload_n dX9_wordOf_54 rfl ?_
    refine vx_iload_n dX9_wordOf_55 rfl ?_
    refine vx_iadd dX9_wordOf_56 ?_
    refine vx_eq (st2 := [.inl 2, vx_r 1006, .inl (μ 55 (p + 2))]) rfl rfl (by rfl) ?_
    refine vx_callK (i := 6) (vs := [.inl 2]) (st := [.inl (μ 55 (p + 2))]) (r0 := (some (.inl 110))) (μ0 := μ) dX9_wordOf_57 ((c_J0_charAt_5068e (d - 1) (by omega) ad 82 vx_lay μ 6 (by decide) 2 (by decide)).to (congrArg (fun z => some (Sum.inl z)) (mo_chr 2 (by omega))) rfl) wd_930 wd_446 wd_55 hy_J0_charAt_5068e wd_444 wd_445 (by decide) rfl (by omega) (Nat.le_of_ble_eq_true rfl) (Nat.le_of_ble_eq_true rfl) (Nat.le_refl 0) (Nat.le_refl 0) ?_
    refine vx_eq (μ2 := μ) (ls2 := [(3, .inl 2), (2, .inl 0), (1, .inl 0), (0, vx_r 54)]) (st2 := [.inl 110, .inl (μ 55 (p + 2))]) rfl rfl rfl ?_
    refine vx_icmp_ne (tgt := 69) dX9_wordOf_60 (by decide) (fun c_60_2 => ?_) (fun c_60_2 => ?_)
    · refine vx_ldcS (i := 6) dX9_wordOf_69 rfl ?_
      refine vx_iload_n dX9_wordOf_71 rfl ?_
      refine vx_iload_n dX9_wordOf_72 rfl ?_
      refine vx_iadd dX9_wordOf_73 ?_
      refine vx_eq (st2 := [.inl 2, vx_r 1006]) rfl rfl (by rfl) ?_
      refine vx_callK (i := 6) (vs := [.inl 2]) (st := []) (r0 := (some (.inl 110))) (μ0 := μ) dX9_wordOf_74 ((c_J0_charAt_5068e (d - 1) (by omega) ad 82 vx_lay μ 6 (by decide) 2 (by decide)).to (congrArg (fun z => some (Sum.inl z)) (mo_chr 2 (by omega))) rfl) wd_930 wd_446 wd_55 hy_J0_charAt_5068e wd_444 wd_445 (by decide) rfl (by omega) (Nat.le_of_ble_eq_true rfl) (Nat.le_of_ble_eq_true rfl) (Nat.le_refl 0) (Nat.le_refl 0) ?_
      refine vx_eq (μ2 := μ) (ls2 := [(3, .inl 2), (2, .inl 0), (1, .inl 0), (0, vx_r 54)]) (st2 := [.inl 110]) rfl rfl rfl ?_
      refine vx_bipush (v := 32) dX9_wordOf_77 (by decide) ?_
      refine vx_icmp_ne (tgt := 97) dX9_wordOf_79 (by decide) (fun _ => ?_) (fun h => absurd h (by decide))
      refine vx_keep (ls2 := [(2, .inl 0), (1, .inl 0), (0, vx_r 54)]) ⟨rfl, rfl, rfl, trivial⟩ ?_
      exact mo_s0 hd hp hq hpq hq3 (hno (mo_isw_ne (j := 2) (by rw [mo_ll_0]; omega) (by rw [mo_ch_0_2]; exact c_60_2)))
    · refine vx_iinc (v := 3) (ls2 := [(3, .inl 3), (2, .inl 0), (1, .inl 0), (0, vx_r 54)]) dX9_wordOf_63 rfl (by decide) (by decide) rfl ?_
      refine vx_goto (tgt := 15) dX9_wordOf_66 (by decide) ?_
      exact mo_w0_3 hd hp hq hpq hq3 hyes hno m0 m1 (by rw [mo_ch_0_2]; exact c_60_2)
set_option maxRecDepth 20000 in
set_option maxHeartbeats 2000000 in
theorem mo_w0_1 {d : Nat} (hd : 4 ≤ d) {ad : Nat → Nat} {μ : vx_mem} {p q : Nat} (hp : μ 54 11 = nI p) (hq : μ 54 10 = nI q) (hpq : p ≤ q) (hq3 : q ≤ 300) {Post : vx_P} {ini : Bool} (hyes : ¬ sp_isw (μ 55) p q 0 = 0 → Post (some (.inl 0)) ad 82 vx_lay μ) (hno : sp_isw (μ 55) p q 0 = 0 → vx_J RX9 cX9_wordOf 4 (some (.int)) ini d 0 0 Post ad 0 0 82 vx_lay μ 4 [(2, .inl 6), (1, .inl 1), (0, vx_r 54)] []) (m0 : μ 55 (p + 0) = sp_chr 0 0) : vx_J RX9 cX9_wordOf 4 (some (.int)) ini d 0 0 Post ad 0 0 82 vx_lay μ 15 [(3, .inl 1), (2, .inl 0), (1, .inl 0), (0, vx_r 54)] [] := by
  refine vx_ldcS (i := 6) dX9_wordOf_15 rfl ?_
  refine vx_iload_n dX9_wordOf_17 rfl ?_
  refine vx_iload_n dX9_wordOf_18 rfl ?_
  refine vx_iadd dX9_wordOf_19 ?_
  refine vx_eq (st2 := [.inl 1, vx_r 1006]) rfl rfl (by rfl) ?_
  refine vx_callK (i := 6) (vs := [.inl 1]) (st := []) (r0 := (some (.inl 97))) (μ0 := μ) dX9_wordOf_20 ((c_J0_charAt_5068e (d - 1) (by omega) ad 82 vx_lay μ 6 (by decide) 1 (by decide)).to (congrArg (fun z => some (Sum.inl z)) (mo_chr 1 (by omega))) rfl) wd_930 wd_446 wd_55 hy_J0_charAt_5068e wd_444 wd_445 (by decide) rfl (by omega) (Nat.le_of_ble_eq_true rfl) (Nat.le_of_ble_eq_true rfl) (Nat.le_refl 0) (Nat.le_refl 0) ?_
  refine vx_eq (μ2 := μ) (ls2 := [(3, .inl 1), (2, .inl 0), (1, .inl 0), (0, vx_r 54)]) (st2 := [.inl 97]) rfl rfl rfl ?_
  refine vx_bipush (v := 32) dX9_wordOf_23 (by decide) ?_
  refine vx_icmp_eq (tgt := 69) dX9_wordOf_25 (by decide) (fun h => absurd h (by decide)) (fun _ => ?_)
  refine vx_aload_n dX9_wordOf_28 rfl ?_
  refine vx_getI (ci := 9) (T := TX9) (n := 56) (j := 11) (a := 54) (v := (nI p)) dX9_wordOf_29 rfl lay_X9 (by decide) wd_747 (by decide) ly_54 rfl hp ?_
  refine vx_iload_n dX9_wordOf_32 rfl ?_
  refine vx_iadd dX9_wordOf_33 ?_
  refine vx_eq (st2 := [.inl (nI (p + 1))]) rfl rfl (by rw [show (1 : Int32) = nI 1 from rfl, nI_add]) ?_
  refine vx_aload_n dX9_wordOf_34 rfl ?_
  refine vx_getI (ci := 9) (T := TX9) (n := 56) (j := 10) (a := 54) (v := (nI q)) dX9_wordOf_35 rfl lay_X9 (by decide) wd_746 (by decide) ly_54 rfl hq ?_
  refine vx_icmp_ge (tgt := 69) dX9_wordOf_38 (by decide) (fun c_38_3 => ?_) (fun c_38_3 => ?_)
  · refine vx_ldcS (i := 6) dX9_wordOf_69 rfl ?_
    refine vx_iload_n dX9_wordOf_71 rfl ?_
    refine vx_iload_n dX9_wordOf_72 rfl ?_
    refine vx_iadd dX9_wordOf_73 ?_
    refine vx_eq (st2 := [.inl 1, vx_r 1006]) rfl rfl (by rfl) ?_
    refine vx_callK (i := 6) (vs := [.inl 1]) (st := []) (r0 := (some (.inl 97))) (μ0 := μ) dX9_wordOf_74 ((c_J0_charAt_5068e (d - 1) (by omega) ad 82 vx_lay μ 6 (by decide) 1 (by decide)).to (congrArg (fun z => some (Sum.inl z)) (mo_chr 1 (by omega))) rfl) wd_930 wd_446 wd_55 hy_J0_charAt_5068e wd_444 wd_445 (by decide) rfl (by omega) (Nat.le_of_ble_eq_true rfl) (Nat.le_of_ble_eq_true rfl) (Nat.le_refl 0) (Nat.le_refl 0) ?_
    refine vx_eq (μ2 := μ) (ls2 := [(3, .inl 1), (2, .inl 0), (1, .inl 0), (0, vx_r 54)]) (st2 := [.inl 97]) rfl rfl rfl ?_
    refine vx_bipush (v := 32) dX9_wordOf_77 (by decide) ?_
    refine vx_icmp_ne (tgt := 97) dX9_wordOf_79 (by decide) (fun _ => ?_) (fun h => absurd h (by decide))
    refine vx_keep (ls2 := [(2, .inl 0), (1, .inl 0), (0, vx_r 54)]) ⟨rfl, rfl, rfl, trivial⟩ ?_
    exact mo_s0 hd hp hq hpq hq3 (hno (mo_isw_len (by rw [mo_ll_0]; have h9 := c_38_3; rw [nI_leI (by omega) (by omega)] at h9; omega)))
  · refine vx_aload_n dX9_wordOf_41 rfl ?_
    refine vx_getR (ci := 9) (T := TX9) (n := 56) (j := 1) (a := 54) (r := 55) dX9_wordOf_42 rfl lay_X9 (by decide) wd_737 (by decide) ly_54 rfl ?_
    refine vx_aload_n dX9_wordOf_45 rfl ?_
    refine vx_getI (ci := 9) (T := TX9) (n := 56) (j := 11) (a := 54) (v := (nI p)) dX9_wordOf_46 rfl lay_X9 (by decide) wd_747 (by decide) ly_54 rfl hp ?_
    refine vx_iload_n dX9_wordOf_49 rfl ?_
    refine vx_iadd dX9_wordOf_50 ?_
    refine vx_eq (st2 := [.inl (nI (p + 1)), vx_r 55]) rfl rfl (by rw [show (1 : Int32) = nI 1 from rfl, nI_add]) ?_
    refine vx_iald (a := 55) (n := 300) (v := (μ 55 (p + 1))) dX9_wordOf_51 (by decide) ly_55 (vp_in_nI (by have h9 := c_38_3; rw [nI_leI (by omega) (by omega)] at h9; omega) (by omega)) (by rw [nI_clamp (by omega)] <;> rfl) ?_
    refine vx_ldcS (i := 6) dX9_wordOf_52 rfl ?_
    refine vx_iload_n dX9_wordOf_54 rfl ?_
    refine vx_iload_n dX9_wordOf_55 rfl ?_
    refine vx_iadd dX9_wordOf_56 ?_
    refine vx_eq (st2 := [.inl 1, vx_r 1006, .inl (μ 55 (p + 1))]) rfl rfl (by rfl) ?_
    refine vx_callK (i := 6) (vs := [.inl 1]) (st := [.inl (μ 55 (p + 1))]) (r0 := (some (.inl 97))) (μ0 := μ) dX9_wordOf_57 ((c_J0_charAt_5068e (d - 1) (by omega) ad 82 vx_lay μ 6 (by decide) 1 (by decide)).to (congrArg (fun z => some (Sum.inl z)) (mo_chr 1 (by omega))) rfl) wd_930 wd_446 wd_55 hy_J0_charAt_5068e wd_444 wd_445 (by decide) rfl (by omega) (Nat.le_of_ble_eq_true rfl) (Nat.le_of_ble_eq_true rfl) (Nat.le_refl 0) (Nat.le_refl 0) ?_
    refine vx_eq (μ2 := μ) (ls2 := [(3, .inl 1), (2, .inl 0), (1, .inl 0), (0, vx_r 54)]) (st2 := [.inl 97, .inl (μ 55 (p + 1))]) rfl rfl rfl ?_
    refine vx_icmp_ne (tgt := 69) dX9_wordOf_60 (by decide) (fun c_60_3 => ?_) (fun c_60_3 => ?_)
    · refine vx_ldcS (i := 6) dX9_wordOf_69 rfl ?_
      refine vx_iload_n dX9_wordOf_71 rfl ?_
      refine vx_iload_n dX9_wordOf_72 rfl ?_
      refine vx_iadd dX9_wordOf_73 ?_
      refine vx_eq (st2 := [.inl 1, vx_r 1006]) rfl rfl (by rfl) ?_
      refine vx_callK (i := 6) (vs := [.inl 1]) (st := []) (r0 := (some (.inl 97))) (μ0 := μ) dX9_wordOf_74 ((c_J0_charAt_5068e (d - 1) (by omega) ad 82 vx_lay μ 6 (by decide) 1 (by decide)).to (congrArg (fun z => some (Sum.inl z)) (mo_chr 1 (by omega))) rfl) wd_930 wd_446 wd_55 hy_J0_charAt_5068e wd_444 wd_445 (by decide) rfl (by omega) (Nat.le_of_ble_eq_true rfl) (Nat.le_of_ble_eq_true rfl) (Nat.le_refl 0) (Nat.le_refl 0) ?_
      refine vx_eq (μ2 := μ) (ls2 := [(3, .inl 1), (2, .inl 0), (1, .inl 0), (0, vx_r 54)]) (st2 := [.inl 97]) rfl rfl rfl ?_
      refine vx_bipush (v := 32) dX9_wordOf_77 (by decide) ?_
      refine vx_icmp_ne (tgt := 97) dX9_wordOf_79 (by decide) (fun _ => ?_) (fun h => absurd h (by decide))
      refine vx_keep (ls2 := [(2, .inl 0), (1, .inl 0), (0, vx_r 54)]) ⟨rfl, rfl, rfl, trivial⟩ ?_
      exact mo_s0 hd hp hq hpq hq3 (hno (mo_isw_ne (j := 1) (by rw [mo_ll_0]; omega) (by rw [mo_ch_0_1]; exact c_60_3)))
    · refine vx_iinc (v := 2) (ls2 := [(3, .inl 2), (2, .inl 0), (1, .inl 0), (0, vx_r 54)]) dX9_wordOf_63 rfl (by decide) (by decide) rfl ?_
      refine vx_goto (tgt := 15) dX9_wordOf_66 (by decide) ?_
      exact mo_w0_2 hd hp hq hpq hq3 hyes hno m0 (by rw [mo_ch_0_1]; exact c_60_3)
set_option maxRecDepth 20000 in
set_option maxHeartbeats 2000000 in
theorem mo_w0_0 {d : Nat} (hd : 4 ≤ d) {ad : Nat → Nat} {μ : vx_mem} {p q : Nat} (hp : μ 54 11 = nI p) (hq : μ 54 10 = nI q) (hpq : p ≤ q) (hq3 : q ≤ 300) {Post : vx_P} {ini : Bool} (hyes : ¬ sp_isw (μ 55) p q 0 = 0 → Post (some (.inl 0)) ad 82 vx_lay μ) (hno : sp_isw (μ 55) p q 0 = 0 → vx_J RX9 cX9_wordOf 4 (some (.int)) ini d 0 0 Post ad 0 0 82 vx_lay μ 4 [(2, .inl 6), (1, .inl 1), (0, vx_r 54)] []) : vx_J RX9 cX9_wordOf 4 (some (.int)) ini d 0 0 Post ad 0 0 82 vx_lay μ 15 [(3, .inl 0), (2, .inl 0), (1, .inl 0), (0, vx_r 54)] [] := by
  refine vx_ldcS (i := 6) dX9_wordOf_15 rfl ?_
  refine vx_iload_n dX9_wordOf_17 rfl ?_
  refine vx_iload_n dX9_wordOf_18 rfl ?_
  refine vx_iadd dX9_wordOf_19 ?_
  refine vx_eq (st2 := [.inl 0, vx_r 1006]) rfl rfl (by rfl) ?_
  refine vx_callK (i := 6) (vs := [.inl 0]) (st := []) (r0 := (some (.inl 104))) (μ0 := μ) dX9_wordOf_20 ((c_J0_charAt_5068e (d - 1) (by omega) ad 82 vx_lay μ 6 (by decide) 0 (by decide)).to (congrArg (fun z => some (Sum.inl z)) (mo_chr 0 (by omega))) rfl) wd_930 wd_446 wd_55 hy_J0_charAt_5068e wd_444 wd_445 (by decide) rfl (by omega) (Nat.le_of_ble_eq_true rfl) (Nat.le_of_ble_eq_true rfl) (Nat.le_refl 0) (Nat.le_refl 0) ?_
  refine vx_eq (μ2 := μ) (ls2 := [(3, .inl 0), (2, .inl 0), (1, .inl 0), (0, vx_r 54)]) (st2 := [.inl 104]) rfl rfl rfl ?_
  refine vx_bipush (v := 32) dX9_wordOf_23 (by decide) ?_
  refine vx_icmp_eq (tgt := 69) dX9_wordOf_25 (by decide) (fun h => absurd h (by decide)) (fun _ => ?_)
  refine vx_aload_n dX9_wordOf_28 rfl ?_
  refine vx_getI (ci := 9) (T := TX9) (n := 56) (j := 11) (a := 54) (v := (nI p)) dX9_wordOf_29 rfl lay_X9 (by decide) wd_747 (by decide) ly_54 rfl hp ?_
  refine vx_iload_n dX9_wordOf_32 rfl ?_
  refine vx_iadd dX9_wordOf_33 ?_
  refine vx_eq (st2 := [.inl (nI p)]) rfl rfl (by rw [show (0 : Int32) = nI 0 from rfl, nI_add]; rfl) ?_
  refine vx_aload_n dX9_wordOf_34 rfl ?_
  refine vx_getI (ci := 9) (T := TX9) (n := 56) (j := 10) (a := 54) (v := (nI q)) dX9_wordOf_35 rfl lay_X9 (by decide) wd_746 (by decide) ly_54 rfl hq ?_
  refine vx_icmp_ge (tgt := 69) dX9_wordOf_38 (by decide) (fun c_38_4 => ?_) (fun c_38_4 => ?_)
  · refine vx_ldcS (i := 6) dX9_wordOf_69 rfl ?_
    refine vx_iload_n dX9_wordOf_71 rfl ?_
    refine vx_iload_n dX9_wordOf_72 rfl ?_
    refine vx_iadd dX9_wordOf_73 ?_
    refine vx_eq (st2 := [.inl 0, vx_r 1006]) rfl rfl (by rfl) ?_
    refine vx_callK (i := 6) (vs := [.inl 0]) (st := []) (r0 := (some (.inl 104))) (μ0 := μ) dX9_wordOf_74 ((c_J0_charAt_5068e (d - 1) (by omega) ad 82 vx_lay μ 6 (by decide) 0 (by decide)).to (congrArg (fun z => some (Sum.inl z)) (mo_chr 0 (by omega))) rfl) wd_930 wd_446 wd_55 hy_J0_charAt_5068e wd_444 wd_445 (by decide) rfl (by omega) (Nat.le_of_ble_eq_true rfl) (Nat.le_of_ble_eq_true rfl) (Nat.le_refl 0) (Nat.le_refl 0) ?_
    refine vx_eq (μ2 := μ) (ls2 := [(3, .inl 0), (2, .inl 0), (1, .inl 0), (0, vx_r 54)]) (st2 := [.inl 104]) rfl rfl rfl ?_
    refine vx_bipush (v := 32) dX9_wordOf_77 (by decide) ?_
    refine vx_icmp_ne (tgt := 97) dX9_wordOf_79 (by decide) (fun _ => ?_) (fun h => absurd h (by decide))
    refine vx_keep (ls2 := [(2, .inl 0), (1, .inl 0), (0, vx_r 54)]) ⟨rfl, rfl, rfl, trivial⟩ ?_
    exact mo_s0 hd hp hq hpq hq3 (hno (mo_isw_len (by rw [mo_ll_0]; have h9 := c_38_4; rw [nI_leI (by omega) (by omega)] at h9; omega)))
  · refine vx_aload_n dX9_wordOf_41 rfl ?_
    refine vx_getR (ci := 9) (T := TX9) (n := 56) (j := 1) (a := 54) (r := 55) dX9_wordOf_42 rfl lay_X9 (by decide) wd_737 (by decide) ly_54 rfl ?_
    refine vx_aload_n dX9_wordOf_45 rfl ?_
    refine vx_getI (ci := 9) (T := TX9) (n := 56) (j := 11) (a := 54) (v := (nI p)) dX9_wordOf_46 rfl lay_X9 (by decide) wd_747 (by decide) ly_54 rfl hp ?_
    refine vx_iload_n dX9_wordOf_49 rfl ?_
    refine vx_iadd dX9_wordOf_50 ?_
    refine vx_eq (st2 := [.inl (nI p), vx_r 55]) rfl rfl (by rw [show (0 : Int32) = nI 0 from rfl, nI_add]; rfl) ?_
    refine vx_iald (a := 55) (n := 300) (v := (μ 55 p)) dX9_wordOf_51 (by decide) ly_55 (vp_in_nI (by have h9 := c_38_4; rw [nI_leI (by omega) (by omega)] at h9; omega) (by omega)) (by rw [nI_clamp (by omega)] <;> rfl) ?_
    refine vx_ldcS (i := 6) dX9_wordOf_52 rfl ?_
    refine vx_iload_n dX9_wordOf_54 rfl ?_
    refine vx_iload_n dX9_wordOf_55 rfl ?_
    refine vx_iadd dX9_wordOf_56 ?_
    refine vx_eq (st2 := [.inl 0, vx_r 1006, .inl (μ 55 p)]) rfl rfl (by rfl) ?_
    refine vx_callK (i := 6) (vs := [.inl 0]) (st := [.inl (μ 55 p)]) (r0 := (some (.inl 104))) (μ0 := μ) dX9_wordOf_57 ((c_J0_charAt_5068e (d - 1) (by omega) ad 82 vx_lay μ 6 (by decide) 0 (by decide)).to (congrArg (fun z => some (Sum.inl z)) (mo_chr 0 (by omega))) rfl) wd_930 wd_446 wd_55 hy_J0_charAt_5068e wd_444 wd_445 (by decide) rfl (by omega) (Nat.le_of_ble_eq_true rfl) (Nat.le_of_ble_eq_true rfl) (Nat.le_refl 0) (Nat.le_refl 0) ?_
    refine vx_eq (μ2 := μ) (ls2 := [(3, .inl 0), (2, .inl 0), (1, .inl 0), (0, vx_r 54)]) (st2 := [.inl 104, .inl (μ 55 p)]) rfl rfl rfl ?_
    refine vx_icmp_ne (tgt := 69) dX9_wordOf_60 (by decide) (fun c_60_4 => ?_) (fun c_60_4 => ?_)
    · refine vx_ldcS (i := 6) dX9_wordOf_69 rfl ?_
      refine vx_iload_n dX9_wordOf_71 rfl ?_
      refine vx_iload_n dX9_wordOf_72 rfl ?_
      refine vx_iadd dX9_wordOf_73 ?_
      refine vx_eq (st2 := [.inl 0, vx_r 1006]) rfl rfl (by rfl) ?_
      refine vx_callK (i := 6) (vs := [.inl 0]) (st := []) (r0 := (some (.inl 104))) (μ0 := μ) dX9_wordOf_74 ((c_J0_charAt_5068e (d - 1) (by omega) ad 82 vx_lay μ 6 (by decide) 0 (by decide)).to (congrArg (fun z => some (Sum.inl z)) (mo_chr 0 (by omega))) rfl) wd_930 wd_446 wd_55 hy_J0_charAt_5068e wd_444 wd_445 (by decide) rfl (by omega) (Nat.le_of_ble_eq_true rfl) (Nat.le_of_ble_eq_true rfl) (Nat.le_refl 0) (Nat.le_refl 0) ?_
      refine vx_eq (μ2 := μ) (ls2 := [(3, .inl 0), (2, .inl 0), (1, .inl 0), (0, vx_r 54)]) (st2 := [.inl 104]) rfl rfl rfl ?_
      refine vx_bipush (v := 32) dX9_wordOf_77 (by decide) ?_
      refine vx_icmp_ne (tgt := 97) dX9_wordOf_79 (by decide) (fun _ => ?_) (fun h => absurd h (by decide))
      refine vx_keep (ls2 := [(2, .inl 0), (1, .inl 0), (0, vx_r 54)]) ⟨rfl, rfl, rfl, trivial⟩ ?_
      exact mo_s0 hd hp hq hpq hq3 (hno (mo_isw_ne (j := 0) (by rw [mo_ll_0]; omega) (by rw [mo_ch_0_0]; exact c_60_4)))
    · refine vx_iinc (v := 1) (ls2 := [(3, .inl 1), (2, .inl 0), (1, .inl 0), (0, vx_r 54)]) dX9_wordOf_63 rfl (by decide) (by decide) rfl ?_
      refine vx_goto (tgt := 15) dX9_wordOf_66 (by decide) ?_
      exact mo_w0_1 hd hp hq hpq hq3 hyes hno (by rw [mo_ch_0_0]; exact c_60_4)
set_option maxRecDepth 20000 in
set_option maxHeartbeats 2000000 in
theorem mo_s1 {d : Nat} (hd : 4 ≤ d) {ad : Nat → Nat} {μ : vx_mem} {p q : Nat} (hp : μ 54 11 = nI p) (hq : μ 54 10 = nI q) (hpq : p ≤ q) (hq3 : q ≤ 300) {Post : vx_P} {ini : Bool} (hno : vx_J RX9 cX9_wordOf 4 (some (.int)) ini d 0 0 Post ad 0 0 82 vx_lay μ 4 [(2, .inl 11), (1, .inl 2), (0, vx_r 54)] []) : vx_J RX9 cX9_wordOf 4 (some (.int)) ini d 0 0 Post ad 0 0 82 vx_lay μ 97 [(2, .inl 6), (1, .inl 1), (0, vx_r 54)] [] := by
  refine vx_ldcS (i := 6) dX9_wordOf_97 rfl ?_
  refine vx_iload_n dX9_wordOf_99 rfl ?_
  refine vx_callK (i := 6) (vs := [.inl 6]) (st := []) (r0 := (some (.inl 114))) (μ0 := μ) dX9_wordOf_100 ((c_J0_charAt_5068e (d - 1) (by omega) ad 82 vx_lay μ 6 (by decide) 6 (by decide)).to (congrArg (fun z => some (Sum.inl z)) (mo_chr 6 (by omega))) rfl) wd_930 wd_446 wd_55 hy_J0_charAt_5068e wd_444 wd_445 (by decide) rfl (by omega) (Nat.le_of_ble_eq_true rfl) (Nat.le_of_ble_eq_true rfl) (Nat.le_refl 0) (Nat.le_refl 0) ?_
  refine vx_eq (μ2 := μ) (ls2 := [(2, .inl 6), (1, .inl 1), (0, vx_r 54)]) (st2 := [.inl 114]) rfl rfl rfl ?_
  refine vx_bipush (v := 32) dX9_wordOf_103 (by decide) ?_
  refine vx_icmp_eq (tgt := 114) dX9_wordOf_105 (by decide) (fun h => absurd h (by decide)) (fun _ => ?_)
  refine vx_iinc (v := 7) (ls2 := [(2, .inl 7), (1, .inl 1), (0, vx_r 54)]) dX9_wordOf_108 rfl (by decide) (by decide) rfl ?_
  refine vx_goto (tgt := 97) dX9_wordOf_111 (by decide) ?_
  refine vx_ldcS (i := 6) dX9_wordOf_97 rfl ?_
  refine vx_iload_n dX9_wordOf_99 rfl ?_
  refine vx_callK (i := 6) (vs := [.inl 7]) (st := []) (r0 := (some (.inl 97))) (μ0 := μ) dX9_wordOf_100 ((c_J0_charAt_5068e (d - 1) (by omega) ad 82 vx_lay μ 6 (by decide) 7 (by decide)).to (congrArg (fun z => some (Sum.inl z)) (mo_chr 7 (by omega))) rfl) wd_930 wd_446 wd_55 hy_J0_charAt_5068e wd_444 wd_445 (by decide) rfl (by omega) (Nat.le_of_ble_eq_true rfl) (Nat.le_of_ble_eq_true rfl) (Nat.le_refl 0) (Nat.le_refl 0) ?_
  refine vx_eq (μ2 := μ) (ls2 := [(2, .inl 7), (1, .inl 1), (0, vx_r 54)]) (st2 := [.inl 97]) rfl rfl rfl ?_
  refine vx_bipush (v := 32) dX9_wordOf_103 (by decide) ?_
  refine vx_icmp_eq (tgt := 114) dX9_wordOf_105 (by decide) (fun h => absurd h (by decide)) (fun _ => ?_)
  refine vx_iinc (v := 8) (ls2 := [(2, .inl 8), (1, .inl 1), (0, vx_r 54)]) dX9_wordOf_108 rfl (by decide) (by decide) rfl ?_
  refine vx_goto (tgt := 97) dX9_wordOf_111 (by decide) ?_
  refine vx_ldcS (i := 6) dX9_wordOf_97 rfl ?_
  refine vx_iload_n dX9_wordOf_99 rfl ?_
  refine vx_callK (i := 6) (vs := [.inl 8]) (st := []) (r0 := (some (.inl 116))) (μ0 := μ) dX9_wordOf_100 ((c_J0_charAt_5068e (d - 1) (by omega) ad 82 vx_lay μ 6 (by decide) 8 (by decide)).to (congrArg (fun z => some (Sum.inl z)) (mo_chr 8 (by omega))) rfl) wd_930 wd_446 wd_55 hy_J0_charAt_5068e wd_444 wd_445 (by decide) rfl (by omega) (Nat.le_of_ble_eq_true rfl) (Nat.le_of_ble_eq_true rfl) (Nat.le_refl 0) (Nat.le_refl 0) ?_
  refine vx_eq (μ2 := μ) (ls2 := [(2, .inl 8), (1, .inl 1), (0, vx_r 54)]) (st2 := [.inl 116]) rfl rfl rfl ?_
  refine vx_bipush (v := 32) dX9_wordOf_103 (by decide) ?_
  refine vx_icmp_eq (tgt := 114) dX9_wordOf_105 (by decide) (fun h => absurd h (by decide)) (fun _ => ?_)
  refine vx_iinc (v := 9) (ls2 := [(2, .inl 9), (1, .inl 1), (0, vx_r 54)]) dX9_wordOf_108 rfl (by decide) (by decide) rfl ?_
  refine vx_goto (tgt := 97) dX9_wordOf_111 (by decide) ?_
  refine vx_ldcS (i := 6) dX9_wordOf_97 rfl ?_
  refine vx_iload_n dX9_wordOf_99 rfl ?_
  refine vx_callK (i := 6) (vs := [.inl 9]) (st := []) (r0 := (some (.inl 101))) (μ0 := μ) dX9_wordOf_100 ((c_J0_charAt_5068e (d - 1) (by omega) ad 82 vx_lay μ 6 (by decide) 9 (by decide)).to (congrArg (fun z => some (Sum.inl z)) (mo_chr 9 (by omega))) rfl) wd_930 wd_446 wd_55 hy_J0_charAt_5068e wd_444 wd_445 (by decide) rfl (by omega) (Nat.le_of_ble_eq_true rfl) (Nat.le_of_ble_eq_true rfl) (Nat.le_refl 0) (Nat.le_refl 0) ?_
  refine vx_eq (μ2 := μ) (ls2 := [(2, .inl 9), (1, .inl 1), (0, vx_r 54)]) (st2 := [.inl 101]) rfl rfl rfl ?_
  refine vx_bipush (v := 32) dX9_wordOf_103 (by decide) ?_
  refine vx_icmp_eq (tgt := 114) dX9_wordOf_105 (by decide) (fun h => absurd h (by decide)) (fun _ => ?_)
  refine vx_iinc (v := 10) (ls2 := [(2, .inl 10), (1, .inl 1), (0, vx_r 54)]) dX9_wordOf_108 rfl (by decide) (by decide) rfl ?_
  refine vx_goto (tgt := 97) dX9_wordOf_111 (by decide) ?_
  refine vx_ldcS (i := 6) dX9_wordOf_97 rfl ?_
  refine vx_iload_n dX9_wordOf_99 rfl ?_
  refine vx_callK (i := 6) (vs := [.inl 10]) (st := []) (r0 := (some (.inl 32))) (μ0 := μ) dX9_wordOf_100 ((c_J0_charAt_5068e (d - 1) (by omega) ad 82 vx_lay μ 6 (by decide) 10 (by decide)).to (congrArg (fun z => some (Sum.inl z)) (mo_chr 10 (by omega))) rfl) wd_930 wd_446 wd_55 hy_J0_charAt_5068e wd_444 wd_445 (by decide) rfl (by omega) (Nat.le_of_ble_eq_true rfl) (Nat.le_of_ble_eq_true rfl) (Nat.le_refl 0) (Nat.le_refl 0) ?_
  refine vx_eq (μ2 := μ) (ls2 := [(2, .inl 10), (1, .inl 1), (0, vx_r 54)]) (st2 := [.inl 32]) rfl rfl rfl ?_
  refine vx_bipush (v := 32) dX9_wordOf_103 (by decide) ?_
  refine vx_icmp_eq (tgt := 114) dX9_wordOf_105 (by decide) (fun _ => ?_) (fun h => absurd h (by decide))
  refine vx_iinc (v := 11) (ls2 := [(2, .inl 11), (1, .inl 1), (0, vx_r 54)]) dX9_wordOf_114 rfl (by decide) (by decide) rfl ?_
  refine vx_iinc (v := 2) (ls2 := [(1, .inl 2), (2, .inl 11), (0, vx_r 54)]) dX9_wordOf_117 rfl (by decide) (by decide) rfl ?_
  refine vx_goto (tgt := 4) dX9_wordOf_120 (by decide) ?_
  refine vx_keep (ls2 := [(2, .inl 11), (1, .inl 2), (0, vx_r 54)]) ⟨rfl, rfl, rfl, trivial⟩ ?_
  exact hno
set_option maxRecDepth 20000 in
set_option maxHeartbeats 2000000 in
theorem mo_w1_4 {d : Nat} (hd : 4 ≤ d) {ad : Nat → Nat} {μ : vx_mem} {p q : Nat} (hp : μ 54 11 = nI p) (hq : μ 54 10 = nI q) (hpq : p ≤ q) (hq3 : q ≤ 300) {Post : vx_P} {ini : Bool} (hyes : ¬ sp_isw (μ 55) p q 1 = 0 → Post (some (.inl 1)) ad 82 vx_lay μ) (hno : sp_isw (μ 55) p q 1 = 0 → vx_J RX9 cX9_wordOf 4 (some (.int)) ini d 0 0 Post ad 0 0 82 vx_lay μ 4 [(2, .inl 11), (1, .inl 2), (0, vx_r 54)] []) (m0 : μ 55 (p + 0) = sp_chr 1 0) (m1 : μ 55 (p + 1) = sp_chr 1 1) (m2 : μ 55 (p + 2) = sp_chr 1 2) (m3 : μ 55 (p + 3) = sp_chr 1 3) : vx_J RX9 cX9_wordOf 4 (some (.int)) ini d 0 0 Post ad 0 0 82 vx_lay μ 15 [(3, .inl 4), (2, .inl 6), (1, .inl 1), (0, vx_r 54)] [] := by
  refine vx_ldcS (i := 6) dX9_wordOf_15 rfl ?_
  refine vx_iload_n dX9_wordOf_17 rfl ?_
  refine vx_iload_n dX9_wordOf_18 rfl ?_
  refine vx_iadd dX9_wordOf_19 ?_
  refine vx_eq (st2 := [.inl 10, vx_r 1006]) rfl rfl (by rfl) ?_
  refine vx_callK (i := 6) (vs := [.inl 10]) (st := []) (r0 := (some (.inl 32))) (μ0 := μ) dX9_wordOf_20 ((c_J0_charAt_5068e (d - 1) (by omega) ad 82 vx_lay μ 6 (by decide) 10 (by decide)).to (congrArg (fun z => some (Sum.inl z)) (mo_chr 10 (by omega))) rfl) wd_930 wd_446 wd_55 hy_J0_charAt_5068e wd_444 wd_445 (by decide) rfl (by omega) (Nat.le_of_ble_eq_true rfl) (Nat.le_of_ble_eq_true rfl) (Nat.le_refl 0) (Nat.le_refl 0) ?_
  refine vx_eq (μ2 := μ) (ls2 := [(3, .inl 4), (2, .inl 6), (1, .inl 1), (0, vx_r 54)]) (st2 := [.inl 32]) rfl rfl rfl ?_
  refine vx_bipush (v := 32) dX9_wordOf_23 (by decide) ?_
  refine vx_icmp_eq (tgt := 69) dX9_wordOf_25 (by decide) (fun _ => ?_) (fun h => absurd h (by decide))
  refine vx_ldcS (i := 6) dX9_wordOf_69 rfl ?_
  refine vx_iload_n dX9_wordOf_71 rfl ?_
  refine vx_iload_n dX9_wordOf_72 rfl ?_
  refine vx_iadd dX9_wordOf_73 ?_
  refine vx_eq (st2 := [.inl 10, vx_r 1006]) rfl rfl (by rfl) ?_
  refine vx_callK (i := 6) (vs := [.inl 10]) (st := []) (r0 := (some (.inl 32))) (μ0 := μ) dX9_wordOf_74 ((c_J0_charAt_5068e (d - 1) (by omega) ad 82 vx_lay μ 6 (by decide) 10 (by decide)).to (congrArg (fun z => some (Sum.inl z)) (mo_chr 10 (by omega))) rfl) wd_930 wd_446 wd_55 hy_J0_charAt_5068e wd_444 wd_445 (by decide) rfl (by omega) (Nat.le_of_ble_eq_true rfl) (Nat.le_of_ble_eq_true rfl) (Nat.le_refl 0) (Nat.le_refl 0) ?_
  refine vx_eq (μ2 := μ) (ls2 := [(3, .inl 4), (2, .inl 6), (1, .inl 1), (0, vx_r 54)]) (st2 := [.inl 32]) rfl rfl rfl ?_
  refine vx_bipush (v := 32) dX9_wordOf_77 (by decide) ?_
  refine vx_icmp_ne (tgt := 97) dX9_wordOf_79 (by decide) (fun h => absurd h (by decide)) (fun _ => ?_)
  refine vx_aload_n dX9_wordOf_82 rfl ?_
  refine vx_getI (ci := 9) (T := TX9) (n := 56) (j := 11) (a := 54) (v := (nI p)) dX9_wordOf_83 rfl lay_X9 (by decide) wd_747 (by decide) ly_54 rfl hp ?_
  refine vx_iload_n dX9_wordOf_86 rfl ?_
  refine vx_iadd dX9_wordOf_87 ?_
  refine vx_eq (st2 := [.inl (nI (p + 4))]) rfl rfl (by rw [show (4 : Int32) = nI 4 from rfl, nI_add]) ?_
  refine vx_aload_n dX9_wordOf_88 rfl ?_
  refine vx_getI (ci := 9) (T := TX9) (n := 56) (j := 10) (a := 54) (v := (nI q)) dX9_wordOf_89 rfl lay_X9 (by decide) wd_746 (by decide) ly_54 rfl hq ?_
  refine vx_icmp_ne (tgt := 97) dX9_wordOf_92 (by decide) (fun c_92_1 => ?_) (fun c_92_1 => ?_)
  · refine vx_keep (ls2 := [(2, .inl 6), (1, .inl 1), (0, vx_r 54)]) ⟨rfl, rfl, rfl, trivial⟩ ?_
    exact mo_s1 hd hp hq hpq hq3 (hno (mo_isw_len (by rw [mo_ll_1]; have h9 := c_92_1; rw [nI_eq (by omega) (by omega)] at h9; omega)))
  · have hl : q - p = 4 := by have h9 := c_92_1; rw [nI_eq (by omega) (by omega)] at h9; omega
    have hP := hyes (mo_isw_yes (by rw [mo_ll_1]; exact hl) (fun k hk => by
      rw [mo_ll_1] at hk
      rcases (show k = 0 ∨ k = 1 ∨ k = 2 ∨ k = 3 by omega) with rfl | rfl | rfl | rfl
      · exact m0
      · exact m1
      · exact m2
      · exact m3))
    refine vx_iload_n dX9_wordOf_95 rfl ?_
    exact vx_ret (ty := .int) dX9_wordOf_96 rfl rfl (Nat.le_refl 0) (Nat.le_refl 0) (hP)
set_option maxRecDepth 20000 in
set_option maxHeartbeats 2000000 in
theorem mo_w1_3 {d : Nat} (hd : 4 ≤ d) {ad : Nat → Nat} {μ : vx_mem} {p q : Nat} (hp : μ 54 11 = nI p) (hq : μ 54 10 = nI q) (hpq : p ≤ q) (hq3 : q ≤ 300) {Post : vx_P} {ini : Bool} (hyes : ¬ sp_isw (μ 55) p q 1 = 0 → Post (some (.inl 1)) ad 82 vx_lay μ) (hno : sp_isw (μ 55) p q 1 = 0 → vx_J RX9 cX9_wordOf 4 (some (.int)) ini d 0 0 Post ad 0 0 82 vx_lay μ 4 [(2, .inl 11), (1, .inl 2), (0, vx_r 54)] []) (m0 : μ 55 (p + 0) = sp_chr 1 0) (m1 : μ 55 (p + 1) = sp_chr 1 1) (m2 : μ 55 (p + 2) = sp_chr 1 2) : vx_J RX9 cX9_wordOf 4 (some (.int)) ini d 0 0 Post ad 0 0 82 vx_lay μ 15 [(3, .inl 3), (2, .inl 6), (1, .inl 1), (0, vx_r 54)] [] := by
  refine vx_ldcS (i := 6) dX9_wordOf_15 rfl ?_
  refine vx_iload_n dX9_wordOf_17 rfl ?_
  refine vx_iload_n dX9_wordOf_18 rfl ?_
  refine vx_iadd dX9_wordOf_19 ?_
  refine vx_eq (st2 := [.inl 9, vx_r 1006]) rfl rfl (by rfl) ?_
  refine vx_callK (i := 6) (vs := [.inl 9]) (st := []) (r0 := (some (.inl 101))) (μ0 := μ) dX9_wordOf_20 ((c_J0_charAt_5068e (d - 1) (by omega) ad 82 vx_lay μ 6 (by decide) 9 (by decide)).to (congrArg (fun z => some (Sum.inl z)) (mo_chr 9 (by omega))) rfl) wd_930 wd_446 wd_55 hy_J0_charAt_5068e wd_444 wd_445 (by decide) rfl (by omega) (Nat.le_of_ble_eq_true rfl) (Nat.le_of_ble_eq_true rfl) (Nat.le_refl 0) (Nat.le_refl 0) ?_
  refine vx_eq (μ2 := μ) (ls2 := [(3, .inl 3), (2, .inl 6), (1, .inl 1), (0, vx_r 54)]) (st2 := [.inl 101]) rfl rfl rfl ?_
  refine vx_bipush (v := 32) dX9_wordOf_23 (by decide) ?_
  refine vx_icmp_eq (tgt := 69) dX9_wordOf_25 (by decide) (fun h => absurd h (by decide)) (fun _ => ?_)
  refine vx_aload_n dX9_wordOf_28 rfl ?_
  refine vx_getI (ci := 9) (T := TX9) (n := 56) (j := 11) (a := 54) (v := (nI p)) dX9_wordOf_29 rfl lay_X9 (by decide) wd_747 (by decide) ly_54 rfl hp ?_
  refine vx_iload_n dX9_wordOf_32 rfl ?_
  refine vx_iadd dX9_wordOf_33 ?_
  refine vx_eq (st2 := [.inl (nI (p + 3))]) rfl rfl (by rw [show (3 : Int32) = nI 3 from rfl, nI_add]) ?_
  refine vx_aload_n dX9_wordOf_34 rfl ?_
  refine vx_getI (ci := 9) (T := TX9) (n := 56) (j := 10) (a := 54) (v := (nI q)) dX9_wordOf_35 rfl lay_X9 (by decide) wd_746 (by decide) ly_54 rfl hq ?_
  refine vx_icmp_ge (tgt := 69) dX9_wordOf_38 (by decide) (fun c_38_5 => ?_) (fun c_38_5 => ?_)
  · refine vx_ldcS (i := 6) dX9_wordOf_69 rfl ?_
    refine vx_iload_n dX9_wordOf_71 rfl ?_
    refine vx_iload_n dX9_wordOf_72 rfl ?_
    refine vx_iadd dX9_wordOf_73 ?_
    refine vx_eq (st2 := [.inl 9, vx_r 1006]) rfl rfl (by rfl) ?_
    refine vx_callK (i := 6) (vs := [.inl 9]) (st := []) (r0 := (some (.inl 101))) (μ0 := μ) dX9_wordOf_74 ((c_J0_charAt_5068e (d - 1) (by omega) ad 82 vx_lay μ 6 (by decide) 9 (by decide)).to (congrArg (fun z => some (Sum.inl z)) (mo_chr 9 (by omega))) rfl) wd_930 wd_446 wd_55 hy_J0_charAt_5068e wd_444 wd_445 (by decide) rfl (by omega) (Nat.le_of_ble_eq_true rfl) (Nat.le_of_ble_eq_true rfl) (Nat.le_refl 0) (Nat.le_refl 0) ?_
    refine vx_eq (μ2 := μ) (ls2 := [(3, .inl 3), (2, .inl 6), (1, .inl 1), (0, vx_r 54)]) (st2 := [.inl 101]) rfl rfl rfl ?_
    refine vx_bipush (v := 32) dX9_wordOf_77 (by decide) ?_
    refine vx_icmp_ne (tgt := 97) dX9_wordOf_79 (by decide) (fun _ => ?_) (fun h => absurd h (by decide))
    refine vx_keep (ls2 := [(2, .inl 6), (1, .inl 1), (0, vx_r 54)]) ⟨rfl, rfl, rfl, trivial⟩ ?_
    exact mo_s1 hd hp hq hpq hq3 (hno (mo_isw_len (by rw [mo_ll_1]; have h9 := c_38_5; rw [nI_leI (by omega) (by omega)] at h9; omega)))
  · refine vx_aload_n dX9_wordOf_41 rfl ?_
    refine vx_getR (ci := 9) (T := TX9) (n := 56) (j := 1) (a := 54) (r := 55) dX9_wordOf_42 rfl lay_X9 (by decide) wd_737 (by decide) ly_54 rfl ?_
    refine vx_aload_n dX9_wordOf_45 rfl ?_
    refine vx_getI (ci := 9) (T := TX9) (n := 56) (j := 11) (a := 54) (v := (nI p)) dX9_wordOf_46 rfl lay_X9 (by decide) wd_747 (by decide) ly_54 rfl hp ?_
    refine vx_iload_n dX9_wordOf_49 rfl ?_
    refine vx_iadd dX9_wordOf_50 ?_
    refine vx_eq (st2 := [.inl (nI (p + 3)), vx_r 55]) rfl rfl (by rw [show (3 : Int32) = nI 3 from rfl, nI_add]) ?_
    refine vx_iald (a := 55) (n := 300) (v := (μ 55 (p + 3))) dX9_wordOf_51 (by decide) ly_55 (vp_in_nI (by have h9 := c_38_5; rw [nI_leI (by omega) (by omega)] at h9; omega) (by omega)) (by rw [nI_clamp (by omega)] <;> rfl) ?_
    refine vx_ldcS (i := 6) dX9_wordOf_52 rfl ?_
    refine vx_iload_n dX9_wordOf_54 rfl ?_
    refine vx_iload_n dX9_wordOf_55 rfl ?_
    refine vx_iadd dX9_wordOf_56 ?_
    refine vx_eq (st2 := [.inl 9, vx_r 1006, .inl (μ 55 (p + 3))]) rfl rfl (by rfl) ?_
    refine vx_callK (i := 6) (vs := [.inl 9]) (st := [.inl (μ 55 (p + 3))]) (r0 := (some (.inl 101))) (μ0 := μ) dX9_wordOf_57 ((c_J0_charAt_5068e (d - 1) (by omega) ad 82 vx_lay μ 6 (by decide) 9 (by decide)).to (congrArg (fun z => some (Sum.inl z)) (mo_chr 9 (by omega))) rfl) wd_930 wd_446 wd_55 hy_J0_charAt_5068e wd_444 wd_445 (by decide) rfl (by omega) (Nat.le_of_ble_eq_true rfl) (Nat.le_of_ble_eq_true rfl) (Nat.le_refl 0) (Nat.le_refl 0) ?_
    refine vx_eq (μ2 := μ) (ls2 := [(3, .inl 3), (2, .inl 6), (1, .inl 1), (0, vx_r 54)]) (st2 := [.inl 101, .inl (μ 55 (p + 3))]) rfl rfl rfl ?_
    refine vx_icmp_ne (tgt := 69) dX9_wordOf_60 (by decide) (fun c_60_5 => ?_) (fun c_60_5 => ?_)
    · refine vx_ldcS (i := 6) dX9_wordOf_69 rfl ?_
      refine vx_iload_n dX9_wordOf_71 rfl ?_
      refine vx_iload_n dX9_wordOf_72 rfl ?_
      refine vx_iadd dX9_wordOf_73 ?_
      refine vx_eq (st2 := [.inl 9, vx_r 1006]) rfl rfl (by rfl) ?_
      refine vx_callK (i := 6) (vs := [.inl 9]) (st := []) (r0 := (some (.inl 101))) (μ0 := μ) dX9_wordOf_74 ((c_J0_charAt_5068e (d - 1) (by omega) ad 82 vx_lay μ 6 (by decide) 9 (by decide)).to (congrArg (fun z => some (Sum.inl z)) (mo_chr 9 (by omega))) rfl) wd_930 wd_446 wd_55 hy_J0_charAt_5068e wd_444 wd_445 (by decide) rfl (by omega) (Nat.le_of_ble_eq_true rfl) (Nat.le_of_ble_eq_true rfl) (Nat.le_refl 0) (Nat.le_refl 0) ?_
      refine vx_eq (μ2 := μ) (ls2 := [(3, .inl 3), (2, .inl 6), (1, .inl 1), (0, vx_r 54)]) (st2 := [.inl 101]) rfl rfl rfl ?_
      refine vx_bipush (v := 32) dX9_wordOf_77 (by decide) ?_
      refine vx_icmp_ne (tgt := 97) dX9_wordOf_79 (by decide) (fun _ => ?_) (fun h => absurd h (by decide))
      refine vx_keep (ls2 := [(2, .inl 6), (1, .inl 1), (0, vx_r 54)]) ⟨rfl, rfl, rfl, trivial⟩ ?_
      exact mo_s1 hd hp hq hpq hq3 (hno (mo_isw_ne (j := 3) (by rw [mo_ll_1]; omega) (by rw [mo_ch_1_3]; exact c_60_5)))
    · refine vx_iinc (v := 4) (ls2 := [(3, .inl 4), (2, .inl 6), (1, .inl 1), (0, vx_r 54)]) dX9_wordOf_63 rfl (by decide) (by decide) rfl ?_
      refine vx_goto (tgt := 15) dX9_wordOf_66 (by decide) ?_
      exact mo_w1_4 hd hp hq hpq hq3 hyes hno m0 m1 m2 (by rw [mo_ch_1_3]; exact c_60_5)
set_option maxRecDepth 20000 in
set_option maxHeartbeats 2000000 in
theorem mo_w1_2 {d : Nat} (hd : 4 ≤ d) {ad : Nat → Nat} {μ : vx_mem} {p q : Nat} (hp : μ 54 11 = nI p) (hq : μ 54 10 = nI q) (hpq : p ≤ q) (hq3 : q ≤ 300) {Post : vx_P} {ini : Bool} (hyes : ¬ sp_isw (μ 55) p q 1 = 0 → Post (some (.inl 1)) ad 82 vx_lay μ) (hno : sp_isw (μ 55) p q 1 = 0 → vx_J RX9 cX9_wordOf 4 (some (.int)) ini d 0 0 Post ad 0 0 82 vx_lay μ 4 [(2, .inl 11), (1, .inl 2), (0, vx_r 54)] []) (m0 : μ 55 (p + 0) = sp_chr 1 0) (m1 : μ 55 (p + 1) = sp_chr 1 1) : vx_J RX9 cX9_wordOf 4 (some (.int)) ini d 0 0 Post ad 0 0 82 vx_lay μ 15 [(3, .inl 2), (2, .inl 6), (1, .inl 1), (0, vx_r 54)] [] := by
  refine vx_ldcS (i := 6) dX9_wordOf_15 rfl ?_
  refine vx_iload_n dX9_wordOf_17 rfl ?_
  refine vx_iload_n dX9_wordOf_18 rfl ?_
  refine vx_iadd dX9_wordOf_19 ?_
  refine vx_eq (st2 := [.inl 8, vx_r 1006]) rfl rfl (by rfl) ?_
  refine vx_callK (i := 6) (vs := [.inl 8]) (st := []) (r0 := (some (.inl 116))) (μ0 := μ) dX9_wordOf_20 ((c_J0_charAt_5068e (d - 1) (by omega) ad 82 vx_lay μ 6 (by decide) 8 (by decide)).to (congrArg (fun z => some (Sum.inl z)) (mo_chr 8 (by omega))) rfl) wd_930 wd_446 wd_55 hy_J0_charAt_5068e wd_444 wd_445 (by decide) rfl (by omega) (Nat.le_of_ble_eq_true rfl) (Nat.le_of_ble_eq_true rfl) (Nat.le_refl 0) (Nat.le_refl 0) ?_
  refine vx_eq (μ2 := μ) (ls2 := [(3, .inl 2), (2, .inl 6), (1, .inl 1), (0, vx_r 54)]) (st2 := [.inl 116]) rfl rfl rfl ?_
  refine vx_bipush (v := 32) dX9_wordOf_23 (by decide) ?_
  refine vx_icmp_eq (tgt := 69) dX9_wordOf_25 (by decide) (fun h => absurd h (by decide)) (fun _ => ?_)
  refine vx_aload_n dX9_wordOf_28 rfl ?_
  refine vx_getI (ci := 9) (T := TX9) (n := 56) (j := 11) (a := 54) (v := (nI p)) dX9_wordOf_29 rfl lay_X9 (by decide) wd_747 (by decide) ly_54 rfl hp ?_
  refine vx_iload_n dX9_wordOf_32 rfl ?_
  refine vx_iadd dX9_wordOf_33 ?_
  refine vx_eq (st2 := [.inl (nI (p + 2))]) rfl rfl (by rw [show (2 : Int32) = nI 2 from rfl, nI_add]) ?_
  refine vx_aload_n dX9_wordOf_34 rfl ?_
  refine vx_getI (ci := 9) (T := TX9) (n := 56) (j := 10) (a := 54) (v := (nI q)) dX9_wordOf_35 rfl lay_X9 (by decide) wd_746 (by decide) ly_54 rfl hq ?_
  refine vx_icmp_ge (tgt := 69) dX9_wordOf_38 (by decide) (fun c_38_6 => ?_) (fun c_38_6 => ?_)
  · refine vx_ldcS (i := 6) dX9_wordOf_69 rfl ?_
    refine vx_iload_n dX9_wordOf_71 rfl ?_
    refine vx_iload_n dX9_wordOf_72 rfl ?_
    refine vx_iadd dX9_wordOf_73 ?_
    refine vx_eq (st2 := [.inl 8, vx_r 1006]) rfl rfl (by rfl) ?_
    refine vx_callK (i := 6) (vs := [.inl 8]) (st := []) (r0 := (some (.inl 116))) (μ0 := μ) dX9_wordOf_74 ((c_J0_charAt_5068e (d - 1) (by omega) ad 82 vx_lay μ 6 (by decide) 8 (by decide)).to (congrArg (fun z => some (Sum.inl z)) (mo_chr 8 (by omega))) rfl) wd_930 wd_446 wd_55 hy_J0_charAt_5068e wd_444 wd_445 (by decide) rfl (by omega) (Nat.le_of_ble_eq_true rfl) (Nat.le_of_ble_eq_true rfl) (Nat.le_refl 0) (Nat.le_refl 0) ?_
    refine vx_eq (μ2 := μ) (ls2 := [(3, .inl 2), (2, .inl 6), (1, .inl 1), (0, vx_r 54)]) (st2 := [.inl 116]) rfl rfl rfl ?_
    refine vx_bipush (v := 32) dX9_wordOf_77 (by decide) ?_
    refine vx_icmp_ne (tgt := 97) dX9_wordOf_79 (by decide) (fun _ => ?_) (fun h => absurd h (by decide))
    refine vx_keep (ls2 := [(2, .inl 6), (1, .inl 1), (0, vx_r 54)]) ⟨rfl, rfl, rfl, trivial⟩ ?_
    exact mo_s1 hd hp hq hpq hq3 (hno (mo_isw_len (by rw [mo_ll_1]; have h9 := c_38_6; rw [nI_leI (by omega) (by omega)] at h9; omega)))
  · refine vx_aload_n dX9_wordOf_41 rfl ?_
    refine vx_getR (ci := 9) (T := TX9) (n := 56) (j := 1) (a := 54) (r := 55) dX9_wordOf_42 rfl lay_X9 (by decide) wd_737 (by decide) ly_54 rfl ?_
    refine vx_aload_n dX9_wordOf_45 rfl ?_
    refine vx_getI (ci := 9) (T := TX9) (n := 56) (j := 11) (a := 54) (v := (nI p)) dX9_wordOf_46 rfl lay_X9 (by decide) wd_747 (by decide) ly_54 rfl hp ?_
    refine vx_iload_n dX9_wordOf_49 rfl ?_
    refine vx_iadd dX9_wordOf_50 ?_
    refine vx_eq (st2 := [.inl (nI (p + 2)), vx_r 55]) rfl rfl (by rw [show (2 : Int32) = nI 2 from rfl, nI_add]) ?_
    refine vx_iald (a := 55) (n := 300) (v := (μ 55 (p + 2))) dX9_wordOf_51 (by decide) ly_55 (vp_in_nI (by have h9 := c_38_6; rw [nI_leI (by omega) (by omega)] at h9; omega) (by omega)) (by rw [nI_clamp (by omega)] <;> rfl) ?_
    refine vx_ldcS (i := 6) dX9_wordOf_52 rfl ?_
    refine vx_iload_n dX9_wordOf_54 rfl ?_
    refine vx_iload_n dX9_wordOf_55 rfl ?_
    refine vx_iadd dX9_wordOf_56 ?_
    refine vx_eq (st2 := [.inl 8, vx_r 1006, .inl (μ 55 (p + 2))]) rfl rfl (by rfl) ?_
    refine vx_callK (i := 6) (vs := [.inl 8]) (st := [.inl (μ 55 (p + 2))]) (r0 := (some (.inl 116))) (μ0 := μ) dX9_wordOf_57 ((c_J0_charAt_5068e (d - 1) (by omega) ad 82 vx_lay μ 6 (by decide) 8 (by decide)).to (congrArg (fun z => some (Sum.inl z)) (mo_chr 8 (by omega))) rfl) wd_930 wd_446 wd_55 hy_J0_charAt_5068e wd_444 wd_445 (by decide) rfl (by omega) (Nat.le_of_ble_eq_true rfl) (Nat.le_of_ble_eq_true rfl) (Nat.le_refl 0) (Nat.le_refl 0) ?_
    refine vx_eq (μ2 := μ) (ls2 := [(3, .inl 2), (2, .inl 6), (1, .inl 1), (0, vx_r 54)]) (st2 := [.inl 116, .inl (μ 55 (p + 2))]) rfl rfl rfl ?_
    refine vx_icmp_ne (tgt := 69) dX9_wordOf_60 (by decide) (fun c_60_6 => ?_) (fun c_60_6 => ?_)
    · refine vx_ldcS (i := 6) dX9_wordOf_69 rfl ?_
      refine vx_iload_n dX9_wordOf_71 rfl ?_
      refine vx_iload_n dX9_wordOf_72 rfl ?_
      refine vx_iadd dX9_wordOf_73 ?_
      refine vx_eq (st2 := [.inl 8, vx_r 1006]) rfl rfl (by rfl) ?_
      refine vx_callK (i := 6) (vs := [.inl 8]) (st := []) (r0 := (some (.inl 116))) (μ0 := μ) dX9_wordOf_74 ((c_J0_charAt_5068e (d - 1) (by omega) ad 82 vx_lay μ 6 (by decide) 8 (by decide)).to (congrArg (fun z => some (Sum.inl z)) (mo_chr 8 (by omega))) rfl) wd_930 wd_446 wd_55 hy_J0_charAt_5068e wd_444 wd_445 (by decide) rfl (by omega) (Nat.le_of_ble_eq_true rfl) (Nat.le_of_ble_eq_true rfl) (Nat.le_refl 0) (Nat.le_refl 0) ?_
      refine vx_eq (μ2 := μ) (ls2 := [(3, .inl 2), (2, .inl 6), (1, .inl 1), (0, vx_r 54)]) (st2 := [.inl 116]) rfl rfl rfl ?_
      refine vx_bipush (v := 32) dX9_wordOf_77 (by decide) ?_
      refine vx_icmp_ne (tgt := 97) dX9_wordOf_79 (by decide) (fun _ => ?_) (fun h => absurd h (by decide))
      refine vx_keep (ls2 := [(2, .inl 6), (1, .inl 1), (0, vx_r 54)]) ⟨rfl, rfl, rfl, trivial⟩ ?_
      exact mo_s1 hd hp hq hpq hq3 (hno (mo_isw_ne (j := 2) (by rw [mo_ll_1]; omega) (by rw [mo_ch_1_2]; exact c_60_6)))
    · refine vx_iinc (v := 3) (ls2 := [(3, .inl 3), (2, .inl 6), (1, .inl 1), (0, vx_r 54)]) dX9_wordOf_63 rfl (by decide) (by decide) rfl ?_
      refine vx_goto (tgt := 15) dX9_wordOf_66 (by decide) ?_
      exact mo_w1_3 hd hp hq hpq hq3 hyes hno m0 m1 (by rw [mo_ch_1_2]; exact c_60_6)
set_option maxRecDepth 20000 in
set_option maxHeartbeats 2000000 in
theorem mo_w1_1 {d : Nat} (hd : 4 ≤ d) {ad : Nat → Nat} {μ : vx_mem} {p q : Nat} (hp : μ 54 11 = nI p) (hq : μ 54 10 = nI q) (hpq : p ≤ q) (hq3 : q ≤ 300) {Post : vx_P} {ini : Bool} (hyes : ¬ sp_isw (μ 55) p q 1 = 0 → Post (some (.inl 1)) ad 82 vx_lay μ) (hno : sp_isw (μ 55) p q 1 = 0 → vx_J RX9 cX9_wordOf 4 (some (.int)) ini d 0 0 Post ad 0 0 82 vx_lay μ 4 [(2, .inl 11), (1, .inl 2), (0, vx_r 54)] []) (m0 : μ 55 (p + 0) = sp_chr 1 0) : vx_J RX9 cX9_wordOf 4 (some (.int)) ini d 0 0 Post ad 0 0 82 vx_lay μ 15 [(3, .inl 1), (2, .inl 6), (1, .inl 1), (0, vx_r 54)] [] := by
  refine vx_ldcS (i := 6) dX9_wordOf_15 rfl ?_
  refine vx_iload_n dX9_wordOf_17 rfl ?_
  refine vx_iload_n dX9_wordOf_18 rfl ?_
  refine vx_iadd dX9_wordOf_19 ?_
  refine vx_eq (st2 := [.inl 7, vx_r 1006]) rfl rfl (by rfl) ?_
  refine vx_callK (i := 6) (vs := [.inl 7]) (st := []) (r0 := (some (.inl 97))) (μ0 := μ) dX9_wordOf_20 ((c_J0_charAt_5068e (d - 1) (by omega) ad 82 vx_lay μ 6 (by decide) 7 (by decide)).to (congrArg (fun z => some (Sum.inl z)) (mo_chr 7 (by omega))) rfl) wd_930 wd_446 wd_55 hy_J0_charAt_5068e wd_444 wd_445 (by decide) rfl (by omega) (Nat.le_of_ble_eq_true rfl) (Nat.le_of_ble_eq_true rfl) (Nat.le_refl 0) (Nat.le_refl 0) ?_
  refine vx_eq (μ2 := μ) (ls2 := [(3, .inl 1), (2, .inl 6), (1, .inl 1), (0, vx_r 54)]) (st2 := [.inl 97]) rfl rfl rfl ?_
  refine vx_bipush (v := 32) dX9_wordOf_23 (by decide) ?_
  refine vx_icmp_eq (tgt := 69) dX9_wordOf_25 (by decide) (fun h => absurd h (by decide)) (fun _ => ?_)
  refine vx_aload_n dX9_wordOf_28 rfl ?_
  refine vx_getI (ci := 9) (T := TX9) (n := 56) (j := 11) (a := 54) (v := (nI p)) dX9_wordOf_29 rfl lay_X9 (by decide) wd_747 (by decide) ly_54 rfl hp ?_
  refine vx_iload_n dX9_wordOf_32 rfl ?_
  refine vx_iadd dX9_wordOf_33 ?_
  refine vx_eq (st2 := [.inl (nI (p + 1))]) rfl rfl (by rw [show (1 : Int32) = nI 1 from rfl, nI_add]) ?_
  refine vx_aload_n dX9_wordOf_34 rfl ?_
  refine vx_getI (ci := 9) (T := TX9) (n := 56) (j := 10) (a := 54) (v := (nI q)) dX9_wordOf_35 rfl lay_X9 (by decide) wd_746 (by decide) ly_54 rfl hq ?_
  refine vx_icmp_ge (tgt := 69) dX9_wordOf_38 (by decide) (fun c_38_7 => ?_) (fun c_38_7 => ?_)
  · refine vx_ldcS (i := 6) dX9_wordOf_69 rfl ?_
    refine vx_iload_n dX9_wordOf_71 rfl ?_
    refine vx_iload_n dX9_wordOf_72 rfl ?_
    refine vx_iadd dX9_wordOf_73 ?_
    refine vx_eq (st2 := [.inl 7, vx_r 1006]) rfl rfl (by rfl) ?_
    refine vx_callK (i := 6) (vs := [.inl 7]) (st := []) (r0 := (some (.inl 97))) (μ0 := μ) dX9_wordOf_74 ((c_J0_charAt_5068e (d - 1) (by omega) ad 82 vx_lay μ 6 (by decide) 7 (by decide)).to (congrArg (fun z => some (Sum.inl z)) (mo_chr 7 (by omega))) rfl) wd_930 wd_446 wd_55 hy_J0_charAt_5068e wd_444 wd_445 (by decide) rfl (by omega) (Nat.le_of_ble_eq_true rfl) (Nat.le_of_ble_eq_true rfl) (Nat.le_refl 0) (Nat.le_refl 0) ?_
    refine vx_eq (μ2 := μ) (ls2 := [(3, .inl 1), (2, .inl 6), (1, .inl 1), (0, vx_r 54)]) (st2 := [.inl 97]) rfl rfl rfl ?_
    refine vx_bipush (v := 32) dX9_wordOf_77 (by decide) ?_
    refine vx_icmp_ne (tgt := 97) dX9_wordOf_79 (by decide) (fun _ => ?_) (fun h => absurd h (by decide))
    refine vx_keep (ls2 := [(2, .inl 6), (1, .inl 1), (0, vx_r 54)]) ⟨rfl, rfl, rfl, trivial⟩ ?_
    exact mo_s1 hd hp hq hpq hq3 (hno (mo_isw_len (by rw [mo_ll_1]; have h9 := c_38_7; rw [nI_leI (by omega) (by omega)] at h9; omega)))
  · refine vx_aload_n dX9_wordOf_41 rfl ?_
    refine vx_getR (ci := 9) (T := TX9) (n := 56) (j := 1) (a := 54) (r := 55) dX9_wordOf_42 rfl lay_X9 (by decide) wd_737 (by decide) ly_54 rfl ?_
    refine vx_aload_n dX9_wordOf_45 rfl ?_
    refine vx_getI (ci := 9) (T := TX9) (n := 56) (j := 11) (a := 54) (v := (nI p)) dX9_wordOf_46 rfl lay_X9 (by decide) wd_747 (by decide) ly_54 rfl hp ?_
    refine vx_iload_n dX9_wordOf_49 rfl ?_
    refine vx_iadd dX9_wordOf_50 ?_
    refine vx_eq (st2 := [.inl (nI (p + 1)), vx_r 55]) rfl rfl (by rw [show (1 : Int32) = nI 1 from rfl, nI_add]) ?_
    refine vx_iald (a := 55) (n := 300) (v := (μ 55 (p + 1))) dX9_wordOf_51 (by decide) ly_55 (vp_in_nI (by have h9 := c_38_7; rw [nI_leI (by omega) (by omega)] at h9; omega) (by omega)) (by rw [nI_clamp (by omega)] <;> rfl) ?_
    refine vx_ldcS (i := 6) dX9_wordOf_52 rfl ?_
    refine vx_iload_n dX9_wordOf_54 rfl ?_
    refine vx_iload_n dX9_wordOf_55 rfl ?_
    refine vx_iadd dX9_wordOf_56 ?_
    refine vx_eq (st2 := [.inl 7, vx_r 1006, .inl (μ 55 (p + 1))]) rfl rfl (by rfl) ?_
    refine vx_callK (i := 6) (vs := [.inl 7]) (st := [.inl (μ 55 (p + 1))]) (r0 := (some (.inl 97))) (μ0 := μ) dX9_wordOf_57 ((c_J0_charAt_5068e (d - 1) (by omega) ad 82 vx_lay μ 6 (by decide) 7 (by decide)).to (congrArg (fun z => some (Sum.inl z)) (mo_chr 7 (by omega))) rfl) wd_930 wd_446 wd_55 hy_J0_charAt_5068e wd_444 wd_445 (by decide) rfl (by omega) (Nat.le_of_ble_eq_true rfl) (Nat.le_of_ble_eq_true rfl) (Nat.le_refl 0) (Nat.le_refl 0) ?_
    refine vx_eq (μ2 := μ) (ls2 := [(3, .inl 1), (2, .inl 6), (1, .inl 1), (0, vx_r 54)]) (st2 := [.inl 97, .inl (μ 55 (p + 1))]) rfl rfl rfl ?_
    refine vx_icmp_ne (tgt := 69) dX9_wordOf_60 (by decide) (fun c_60_7 => ?_) (fun c_60_7 => ?_)
    · refine vx_ldcS (i := 6) dX9_wordOf_69 rfl ?_
      refine vx_iload_n dX9_wordOf_71 rfl ?_
      refine vx_iload_n dX9_wordOf_72 rfl ?_
      refine vx_iadd dX9_wordOf_73 ?_
      refine vx_eq (st2 := [.inl 7, vx_r 1006]) rfl rfl (by rfl) ?_
      refine vx_callK (i := 6) (vs := [.inl 7]) (st := []) (r0 := (some (.inl 97))) (μ0 := μ) dX9_wordOf_74 ((c_J0_charAt_5068e (d - 1) (by omega) ad 82 vx_lay μ 6 (by decide) 7 (by decide)).to (congrArg (fun z => some (Sum.inl z)) (mo_chr 7 (by omega))) rfl) wd_930 wd_446 wd_55 hy_J0_charAt_5068e wd_444 wd_445 (by decide) rfl (by omega) (Nat.le_of_ble_eq_true rfl) (Nat.le_of_ble_eq_true rfl) (Nat.le_refl 0) (Nat.le_refl 0) ?_
      refine vx_eq (μ2 := μ) (ls2 := [(3, .inl 1), (2, .inl 6), (1, .inl 1), (0, vx_r 54)]) (st2 := [.inl 97]) rfl rfl rfl ?_
      refine vx_bipush (v := 32) dX9_wordOf_77 (by decide) ?_
      refine vx_icmp_ne (tgt := 97) dX9_wordOf_79 (by decide) (fun _ => ?_) (fun h => absurd h (by decide))
      refine vx_keep (ls2 := [(2, .inl 6), (1, .inl 1), (0, vx_r 54)]) ⟨rfl, rfl, rfl, trivial⟩ ?_
      exact mo_s1 hd hp hq hpq hq3 (hno (mo_isw_ne (j := 1) (by rw [mo_ll_1]; omega) (by rw [mo_ch_1_1]; exact c_60_7)))
    · refine vx_iinc (v := 2) (ls2 := [(3, .inl 2), (2, .inl 6), (1, .inl 1), (0, vx_r 54)]) dX9_wordOf_63 rfl (by decide) (by decide) rfl ?_
      refine vx_goto (tgt := 15) dX9_wordOf_66 (by decide) ?_
      exact mo_w1_2 hd hp hq hpq hq3 hyes hno m0 (by rw [mo_ch_1_1]; exact c_60_7)
set_option maxRecDepth 20000 in
set_option maxHeartbeats 2000000 in
theorem mo_w1_0 {d : Nat} (hd : 4 ≤ d) {ad : Nat → Nat} {μ : vx_mem} {p q : Nat} (hp : μ 54 11 = nI p) (hq : μ 54 10 = nI q) (hpq : p ≤ q) (hq3 : q ≤ 300) {Post : vx_P} {ini : Bool} (hyes : ¬ sp_isw (μ 55) p q 1 = 0 → Post (some (.inl 1)) ad 82 vx_lay μ) (hno : sp_isw (μ 55) p q 1 = 0 → vx_J RX9 cX9_wordOf 4 (some (.int)) ini d 0 0 Post ad 0 0 82 vx_lay μ 4 [(2, .inl 11), (1, .inl 2), (0, vx_r 54)] []) : vx_J RX9 cX9_wordOf 4 (some (.int)) ini d 0 0 Post ad 0 0 82 vx_lay μ 15 [(3, .inl 0), (2, .inl 6), (1, .inl 1), (0, vx_r 54)] [] := by
  refine vx_ldcS (i := 6) dX9_wordOf_15 rfl ?_
  refine vx_iload_n dX9_wordOf_17 rfl ?_
  refine vx_iload_n dX9_wordOf_18 rfl ?_
  refine vx_iadd dX9_wordOf_19 ?_
  refine vx_eq (st2 := [.inl 6, vx_r 1006]) rfl rfl (by rfl) ?_
  refine vx_callK (i := 6) (vs := [.inl 6]) (st := []) (r0 := (some (.inl 114))) (μ0 := μ) dX9_wordOf_20 ((c_J0_charAt_5068e (d - 1) (by omega) ad 82 vx_lay μ 6 (by decide) 6 (by decide)).to (congrArg (fun z => some (Sum.inl z)) (mo_chr 6 (by omega))) rfl) wd_930 wd_446 wd_55 hy_J0_charAt_5068e wd_444 wd_445 (by decide) rfl (by omega) (Nat.le_of_ble_eq_true rfl) (Nat.le_of_ble_eq_true rfl) (Nat.le_refl 0) (Nat.le_refl 0) ?_
  refine vx_eq (μ2 := μ) (ls2 := [(3, .inl 0), (2, .inl 6), (1, .inl 1), (0, vx_r 54)]) (st2 := [.inl 114]) rfl rfl rfl ?_
  refine vx_bipush (v := 32) dX9_wordOf_23 (by decide) ?_
  refine vx_icmp_eq (tgt := 69) dX9_wordOf_25 (by decide) (fun h => absurd h (by decide)) (fun _ => ?_)
  refine vx_aload_n dX9_wordOf_28 rfl ?_
  refine vx_getI (ci := 9) (T := TX9) (n := 56) (j := 11) (a := 54) (v := (nI p)) dX9_wordOf_29 rfl lay_X9 (by decide) wd_747 (by decide) ly_54 rfl hp ?_
  refine vx_iload_n dX9_wordOf_32 rfl ?_
  refine vx_iadd dX9_wordOf_33 ?_
  refine vx_eq (st2 := [.inl (nI p)]) rfl rfl (by rw [show (0 : Int32) = nI 0 from rfl, nI_add]; rfl) ?_
  refine vx_aload_n dX9_wordOf_34 rfl ?_
  refine vx_getI (ci := 9) (T := TX9) (n := 56) (j := 10) (a := 54) (v := (nI q)) dX9_wordOf_35 rfl lay_X9 (by decide) wd_746 (by decide) ly_54 rfl hq ?_
  refine vx_icmp_ge (tgt := 69) dX9_wordOf_38 (by decide) (fun c_38_8 => ?_) (fun c_38_8 => ?_)
  · refine vx_ldcS (i := 6) dX9_wordOf_69 rfl ?_
    refine vx_iload_n dX9_wordOf_71 rfl ?_
    refine vx_iload_n dX9_wordOf_72 rfl ?_
    refine vx_iadd dX9_wordOf_73 ?_
    refine vx_eq (st2 := [.inl 6, vx_r 1006]) rfl rfl (by rfl) ?_
    refine vx_callK (i := 6) (vs := [.inl 6]) (st := []) (r0 := (some (.inl 114))) (μ0 := μ) dX9_wordOf_74 ((c_J0_charAt_5068e (d - 1) (by omega) ad 82 vx_lay μ 6 (by decide) 6 (by decide)).to (congrArg (fun z => some (Sum.inl z)) (mo_chr 6 (by omega))) rfl) wd_930 wd_446 wd_55 hy_J0_charAt_5068e wd_444 wd_445 (by decide) rfl (by omega) (Nat.le_of_ble_eq_true rfl) (Nat.le_of_ble_eq_true rfl) (Nat.le_refl 0) (Nat.le_refl 0) ?_
    refine vx_eq (μ2 := μ) (ls2 := [(3, .inl 0), (2, .inl 6), (1, .inl 1), (0, vx_r 54)]) (st2 := [.inl 114]) rfl rfl rfl ?_
    refine vx_bipush (v := 32) dX9_wordOf_77 (by decide) ?_
    refine vx_icmp_ne (tgt := 97) dX9_wordOf_79 (by decide) (fun _ => ?_) (fun h => absurd h (by decide))
    refine vx_keep (ls2 := [(2, .inl 6), (1, .inl 1), (0, vx_r 54)]) ⟨rfl, rfl, rfl, trivial⟩ ?_
    exact mo_s1 hd hp hq hpq hq3 (hno (mo_isw_len (by rw [mo_ll_1]; have h9 := c_38_8; rw [nI_leI (by omega) (by omega)] at h9; omega)))
  · refine vx_aload_n dX9_wordOf_41 rfl ?_
    refine vx_getR (ci := 9) (T := TX9) (n := 56) (j := 1) (a := 54) (r := 55) dX9_wordOf_42 rfl lay_X9 (by decide) wd_737 (by decide) ly_54 rfl ?_
    refine vx_aload_n dX9_wordOf_45 rfl ?_
    refine vx_getI (ci := 9) (T := TX9) (n := 56) (j := 11) (a := 54) (v := (nI p)) dX9_wordOf_46 rfl lay_X9 (by decide) wd_747 (by decide) ly_54 rfl hp ?_
    refine vx_iload_n dX9_wordOf_49 rfl ?_
    refine vx_iadd dX9_wordOf_50 ?_
    refine vx_eq (st2 := [.inl (nI p), vx_r 55]) rfl rfl (by rw [show (0 : Int32) = nI 0 from rfl, nI_add]; rfl) ?_
    refine vx_iald (a := 55) (n := 300) (v := (μ 55 p)) dX9_wordOf_51 (by decide) ly_55 (vp_in_nI (by have h9 := c_38_8; rw [nI_leI (by omega) (by omega)] at h9; omega) (by omega)) (by rw [nI_clamp (by omega)] <;> rfl) ?_
    refine vx_ldcS (i := 6) dX9_wordOf_52 rfl ?_
    refine vx_iload_n dX9_wordOf_54 rfl ?_
    refine vx_iload_n dX9_wordOf_55 rfl ?_
    refine vx_iadd dX9_wordOf_56 ?_
    refine vx_eq (st2 := [.inl 6, vx_r 1006, .inl (μ 55 p)]) rfl rfl (by rfl) ?_
    refine vx_callK (i := 6) (vs := [.inl 6]) (st := [.inl (μ 55 p)]) (r0 := (some (.inl 114))) (μ0 := μ) dX9_wordOf_57 ((c_J0_charAt_5068e (d - 1) (by omega) ad 82 vx_lay μ 6 (by decide) 6 (by decide)).to (congrArg (fun z => some (Sum.inl z)) (mo_chr 6 (by omega))) rfl) wd_930 wd_446 wd_55 hy_J0_charAt_5068e wd_444 wd_445 (by decide) rfl (by omega) (Nat.le_of_ble_eq_true rfl) (Nat.le_of_ble_eq_true rfl) (Nat.le_refl 0) (Nat.le_refl 0) ?_
    refine vx_eq (μ2 := μ) (ls2 := [(3, .inl 0), (2, .inl 6), (1, .inl 1), (0, vx_r 54)]) (st2 := [.inl 114, .inl (μ 55 p)]) rfl rfl rfl ?_
    refine vx_icmp_ne (tgt := 69) dX9_wordOf_60 (by decide) (fun c_60_8 => ?_) (fun c_60_8 => ?_)
    · refine vx_ldcS (i := 6) dX9_wordOf_69 rfl ?_
      refine vx_iload_n dX9_wordOf_71 rfl ?_
      refine vx_iload_n dX9_wordOf_72 rfl ?_
      refine vx_iadd dX9_wordOf_73 ?_
      refine vx_eq (st2 := [.inl 6, vx_r 1006]) rfl rfl (by rfl) ?_
      refine vx_callK (i := 6) (vs := [.inl 6]) (st := []) (r0 := (some (.inl 114))) (μ0 := μ) dX9_wordOf_74 ((c_J0_charAt_5068e (d - 1) (by omega) ad 82 vx_lay μ 6 (by decide) 6 (by decide)).to (congrArg (fun z => some (Sum.inl z)) (mo_chr 6 (by omega))) rfl) wd_930 wd_446 wd_55 hy_J0_charAt_5068e wd_444 wd_445 (by decide) rfl (by omega) (Nat.le_of_ble_eq_true rfl) (Nat.le_of_ble_eq_true rfl) (Nat.le_refl 0) (Nat.le_refl 0) ?_
      refine vx_eq (μ2 := μ) (ls2 := [(3, .inl 0), (2, .inl 6), (1, .inl 1), (0, vx_r 54)]) (st2 := [.inl 114]) rfl rfl rfl ?_
      refine vx_bipush (v := 32) dX9_wordOf_77 (by decide) ?_
      refine vx_icmp_ne (tgt := 97) dX9_wordOf_79 (by decide) (fun _ => ?_) (fun h => absurd h (by decide))
      refine vx_keep (ls2 := [(2, .inl 6), (1, .inl 1), (0, vx_r 54)]) ⟨rfl, rfl, rfl, trivial⟩ ?_
      exact mo_s1 hd hp hq hpq hq3 (hno (mo_isw_ne (j := 0) (by rw [mo_ll_1]; omega) (by rw [mo_ch_1_0]; exact c_60_8)))
    · refine vx_iinc (v := 1) (ls2 := [(3, .inl 1), (2, .inl 6), (1, .inl 1), (0, vx_r 54)]) dX9_wordOf_63 rfl (by decide) (by decide) rfl ?_
      refine vx_goto (tgt := 15) dX9_wordOf_66 (by decide) ?_
      exact mo_w1_1 hd hp hq hpq hq3 hyes hno (by rw [mo_ch_1_0]; exact c_60_8)
set_option maxRecDepth 20000 in
set_option maxHeartbeats 2000000 in
theorem mo_s2 {d : Nat} (hd : 4 ≤ d) {ad : Nat → Nat} {μ : vx_mem} {p q : Nat} (hp : μ 54 11 = nI p) (hq : μ 54 10 = nI q) (hpq : p ≤ q) (hq3 : q ≤ 300) {Post : vx_P} {ini : Bool} (hno : vx_J RX9 cX9_wordOf 4 (some (.int)) ini d 0 0 Post ad 0 0 82 vx_lay μ 4 [(2, .inl 19), (1, .inl 3), (0, vx_r 54)] []) : vx_J RX9 cX9_wordOf 4 (some (.int)) ini d 0 0 Post ad 0 0 82 vx_lay μ 97 [(2, .inl 11), (1, .inl 2), (0, vx_r 54)] [] := by
  refine vx_ldcS (i := 6) dX9_wordOf_97 rfl ?_
  refine vx_iload_n dX9_wordOf_99 rfl ?_
  refine vx_callK (i := 6) (vs := [.inl 11]) (st := []) (r0 := (some (.inl 115))) (μ0 := μ) dX9_wordOf_100 ((c_J0_charAt_5068e (d - 1) (by omega) ad 82 vx_lay μ 6 (by decide) 11 (by decide)).to (congrArg (fun z => some (Sum.inl z)) (mo_chr 11 (by omega))) rfl) wd_930 wd_446 wd_55 hy_J0_charAt_5068e wd_444 wd_445 (by decide) rfl (by omega) (Nat.le_of_ble_eq_true rfl) (Nat.le_of_ble_eq_true rfl) (Nat.le_refl 0) (Nat.le_refl 0) ?_
  refine vx_eq (μ2 := μ) (ls2 := [(2, .inl 11), (1, .inl 2), (0, vx_r 54)]) (st2 := [.inl 115]) rfl rfl rfl ?_
  refine vx_bipush (v := 32) dX9_wordOf_103 (by decide) ?_
  refine vx_icmp_eq (tgt := 114) dX9_wordOf_105 (by decide) (fun h => absurd h (by decide)) (fun _ => ?_)
  refine vx_iinc (v := 12) (ls2 := [(2, .inl 12), (1, .inl 2), (0, vx_r 54)]) dX9_wordOf_108 rfl (by decide) (by decide) rfl ?_
  refine vx_goto (tgt := 97) dX9_wordOf_111 (by decide) ?_
  refine vx_ldcS (i := 6) dX9_wordOf_97 rfl ?_
  refine vx_iload_n dX9_wordOf_99 rfl ?_
  refine vx_callK (i := 6) (vs := [.inl 12]) (st := []) (r0 := (some (.inl 104))) (μ0 := μ) dX9_wordOf_100 ((c_J0_charAt_5068e (d - 1) (by omega) ad 82 vx_lay μ 6 (by decide) 12 (by decide)).to (congrArg (fun z => some (Sum.inl z)) (mo_chr 12 (by omega))) rfl) wd_930 wd_446 wd_55 hy_J0_charAt_5068e wd_444 wd_445 (by decide) rfl (by omega) (Nat.le_of_ble_eq_true rfl) (Nat.le_of_ble_eq_true rfl) (Nat.le_refl 0) (Nat.le_refl 0) ?_
  refine vx_eq (μ2 := μ) (ls2 := [(2, .inl 12), (1, .inl 2), (0, vx_r 54)]) (st2 := [.inl 104]) rfl rfl rfl ?_
  refine vx_bipush (v := 32) dX9_wordOf_103 (by decide) ?_
  refine vx_icmp_eq (tgt := 114) dX9_wordOf_105 (by decide) (fun h => absurd h (by decide)) (fun _ => ?_)
  refine vx_iinc (v := 13) (ls2 := [(2, .inl 13), (1, .inl 2), (0, vx_r 54)]) dX9_wordOf_108 rfl (by decide) (by decide) rfl ?_
  refine vx_goto (tgt := 97) dX9_wordOf_111 (by decide) ?_
  refine vx_ldcS (i := 6) dX9_wordOf_97 rfl ?_
  refine vx_iload_n dX9_wordOf_99 rfl ?_
  refine vx_callK (i := 6) (vs := [.inl 13]) (st := []) (r0 := (some (.inl 101))) (μ0 := μ) dX9_wordOf_100 ((c_J0_charAt_5068e (d - 1) (by omega) ad 82 vx_lay μ 6 (by decide) 13 (by decide)).to (congrArg (fun z => some (Sum.inl z)) (mo_chr 13 (by omega))) rfl) wd_930 wd_446 wd_55 hy_J0_charAt_5068e wd_444 wd_445 (by decide) rfl (by omega) (Nat.le_of_ble_eq_true rfl) (Nat.le_of_ble_eq_true rfl) (Nat.le_refl 0) (Nat.le_refl 0) ?_
  refine vx_eq (μ2 := μ) (ls2 := [(2, .inl 13), (1, .inl 2), (0, vx_r 54)]) (st2 := [.inl 101]) rfl rfl rfl ?_
  refine vx_bipush (v := 32) dX9_wordOf_103 (by decide) ?_
  refine vx_icmp_eq (tgt := 114) dX9_wordOf_105 (by decide) (fun h => absurd h (by decide)) (fun _ => ?_)
  refine vx_iinc (v := 14) (ls2 := [(2, .inl 14), (1, .inl 2), (0, vx_r 54)]) dX9_wordOf_108 rfl (by decide) (by decide) rfl ?_
  refine vx_goto (tgt := 97) dX9_wordOf_111 (by decide) ?_
  refine vx_ldcS (i := 6) dX9_wordOf_97 rfl ?_
  refine vx_iload_n dX9_wordOf_99 rfl ?_
  refine vx_callK (i := 6) (vs := [.inl 14]) (st := []) (r0 := (some (.inl 97))) (μ0 := μ) dX9_wordOf_100 ((c_J0_charAt_5068e (d - 1) (by omega) ad 82 vx_lay μ 6 (by decide) 14 (by decide)).to (congrArg (fun z => some (Sum.inl z)) (mo_chr 14 (by omega))) rfl) wd_930 wd_446 wd_55 hy_J0_charAt_5068e wd_444 wd_445 (by decide) rfl (by omega) (Nat.le_of_ble_eq_true rfl) (Nat.le_of_ble_eq_true rfl) (Nat.le_refl 0) (Nat.le_refl 0) ?_
  refine vx_eq (μ2 := μ) (ls2 := [(2, .inl 14), (1, .inl 2), (0, vx_r 54)]) (st2 := [.inl 97]) rfl rfl rfl ?_
  refine vx_bipush (v := 32) dX9_wordOf_103 (by decide) ?_
  refine vx_icmp_eq (tgt := 114) dX9_wordOf_105 (by decide) (fun h => absurd h (by decide)) (fun _ => ?_)
  refine vx_iinc (v := 15) (ls2 := [(2, .inl 15), (1, .inl 2), (0, vx_r 54)]) dX9_wordOf_108 rfl (by decide) (by decide) rfl ?_
  refine vx_goto (tgt := 97) dX9_wordOf_111 (by decide) ?_
  refine vx_ldcS (i := 6) dX9_wordOf_97 rfl ?_
  refine vx_iload_n dX9_wordOf_99 rfl ?_
  refine vx_callK (i := 6) (vs := [.inl 15]) (st := []) (r0 := (some (.inl 118))) (μ0 := μ) dX9_wordOf_100 ((c_J0_charAt_5068e (d - 1) (by omega) ad 82 vx_lay μ 6 (by decide) 15 (by decide)).to (congrArg (fun z => some (Sum.inl z)) (mo_chr 15 (by omega))) rfl) wd_930 wd_446 wd_55 hy_J0_charAt_5068e wd_444 wd_445 (by decide) rfl (by omega) (Nat.le_of_ble_eq_true rfl) (Nat.le_of_ble_eq_true rfl) (Nat.le_refl 0) (Nat.le_refl 0) ?_
  refine vx_eq (μ2 := μ) (ls2 := [(2, .inl 15), (1, .inl 2), (0, vx_r 54)]) (st2 := [.inl 118]) rfl rfl rfl ?_
  refine vx_bipush (v := 32) dX9_wordOf_103 (by decide) ?_
  refine vx_icmp_eq (tgt := 114) dX9_wordOf_105 (by decide) (fun h => absurd h (by decide)) (fun _ => ?_)
  refine vx_iinc (v := 16) (ls2 := [(2, .inl 16), (1, .inl 2), (0, vx_r 54)]) dX9_wordOf_108 rfl (by decide) (by decide) rfl ?_
  refine vx_goto (tgt := 97) dX9_wordOf_111 (by decide) ?_
  refine vx_ldcS (i := 6) dX9_wordOf_97 rfl ?_
  refine vx_iload_n dX9_wordOf_99 rfl ?_
  refine vx_callK (i := 6) (vs := [.inl 16]) (st := []) (r0 := (some (.inl 101))) (μ0 := μ) dX9_wordOf_100 ((c_J0_charAt_5068e (d - 1) (by omega) ad 82 vx_lay μ 6 (by decide) 16 (by decide)).to (congrArg (fun z => some (Sum.inl z)) (mo_chr 16 (by omega))) rfl) wd_930 wd_446 wd_55 hy_J0_charAt_5068e wd_444 wd_445 (by decide) rfl (by omega) (Nat.le_of_ble_eq_true rfl) (Nat.le_of_ble_eq_true rfl) (Nat.le_refl 0) (Nat.le_refl 0) ?_
  refine vx_eq (μ2 := μ) (ls2 := [(2, .inl 16), (1, .inl 2), (0, vx_r 54)]) (st2 := [.inl 101]) rfl rfl rfl ?_
  refine vx_bipush (v := 32) dX9_wordOf_103 (by decide) ?_
  refine vx_icmp_eq (tgt := 114) dX9_wordOf_105 (by decide) (fun h => absurd h (by decide)) (fun _ => ?_)
  refine vx_iinc (v := 17) (ls2 := [(2, .inl 17), (1, .inl 2), (0, vx_r 54)]) dX9_wordOf_108 rfl (by decide) (by decide) rfl ?_
  refine vx_goto (tgt := 97) dX9_wordOf_111 (by decide) ?_
  refine vx_ldcS (i := 6) dX9_wordOf_97 rfl ?_
  refine vx_iload_n dX9_wordOf_99 rfl ?_
  refine vx_callK (i := 6) (vs := [.inl 17]) (st := []) (r0 := (some (.inl 115))) (μ0 := μ) dX9_wordOf_100 ((c_J0_charAt_5068e (d - 1) (by omega) ad 82 vx_lay μ 6 (by decide) 17 (by decide)).to (congrArg (fun z => some (Sum.inl z)) (mo_chr 17 (by omega))) rfl) wd_930 wd_446 wd_55 hy_J0_charAt_5068e wd_444 wd_445 (by decide) rfl (by omega) (Nat.le_of_ble_eq_true rfl) (Nat.le_of_ble_eq_true rfl) (Nat.le_refl 0) (Nat.le_refl 0) ?_
  refine vx_eq (μ2 := μ) (ls2 := [(2, .inl 17), (1, .inl 2), (0, vx_r 54)]) (st2 := [.inl 115]) rfl rfl rfl ?_
  refine vx_bipush (v := 32) dX9_wordOf_103 (by decide) ?_
  refine vx_icmp_eq (tgt := 114) dX9_wordOf_105 (by decide) (fun h => absurd h (by decide)) (fun _ => ?_)
  refine vx_iinc (v := 18) (ls2 := [(2, .inl 18), (1, .inl 2), (0, vx_r 54)]) dX9_wordOf_108 rfl (by decide) (by decide) rfl ?_
  refine vx_goto (tgt := 97) dX9_wordOf_111 (by decide) ?_
  refine vx_ldcS (i := 6) dX9_wordOf_97 rfl ?_
  refine vx_iload_n dX9_wordOf_99 rfl ?_
  refine vx_callK (i := 6) (vs := [.inl 18]) (st := []) (r0 := (some (.inl 32))) (μ0 := μ) dX9_wordOf_100 ((c_J0_charAt_5068e (d - 1) (by omega) ad 82 vx_lay μ 6 (by decide) 18 (by decide)).to (congrArg (fun z => some (Sum.inl z)) (mo_chr 18 (by omega))) rfl) wd_930 wd_446 wd_55 hy_J0_charAt_5068e wd_444 wd_445 (by decide) rfl (by omega) (Nat.le_of_ble_eq_true rfl) (Nat.le_of_ble_eq_true rfl) (Nat.le_refl 0) (Nat.le_refl 0) ?_
  refine vx_eq (μ2 := μ) (ls2 := [(2, .inl 18), (1, .inl 2), (0, vx_r 54)]) (st2 := [.inl 32]) rfl rfl rfl ?_
  refine vx_bipush (v := 32) dX9_wordOf_103 (by decide) ?_
  refine vx_icmp_eq (tgt := 114) dX9_wordOf_105 (by decide) (fun _ => ?_) (fun h => absurd h (by decide))
  refine vx_iinc (v := 19) (ls2 := [(2, .inl 19), (1, .inl 2), (0, vx_r 54)]) dX9_wordOf_114 rfl (by decide) (by decide) rfl ?_
  refine vx_iinc (v := 3) (ls2 := [(1, .inl 3), (2, .inl 19), (0, vx_r 54)]) dX9_wordOf_117 rfl (by decide) (by decide) rfl ?_
  refine vx_goto (tgt := 4) dX9_wordOf_120 (by decide) ?_
  refine vx_keep (ls2 := [(2, .inl 19), (1, .inl 3), (0, vx_r 54)]) ⟨rfl, rfl, rfl, trivial⟩ ?_
  exact hno
set_option maxRecDepth 20000 in
set_option maxHeartbeats 2000000 in
theorem mo_w2_7 {d : Nat} (hd : 4 ≤ d) {ad : Nat → Nat} {μ : vx_mem} {p q : Nat} (hp : μ 54 11 = nI p) (hq : μ 54 10 = nI q) (hpq : p ≤ q) (hq3 : q ≤ 300) {Post : vx_P} {ini : Bool} (hyes : ¬ sp_isw (μ 55) p q 2 = 0 → Post (some (.inl 2)) ad 82 vx_lay μ) (hno : sp_isw (μ 55) p q 2 = 0 → vx_J RX9 cX9_wordOf 4 (some (.int)) ini d 0 0 Post ad 0 0 82 vx_lay μ 4 [(2, .inl 19), (1, .inl 3), (0, vx_r 54)] []) (m0 : μ 55 (p + 0) = sp_chr 2 0) (m1 : μ 55 (p + 1) = sp_chr 2 1) (m2 : μ 55 (p + 2) = sp_chr 2 2) (m3 : μ 55 (p + 3) = sp_chr 2 3) (m4 : μ 55 (p + 4) = sp_chr 2 4) (m5 : μ 55 (p + 5) = sp_chr 2 5) (m6 : μ 55 (p + 6) = sp_chr 2 6) : vx_J RX9 cX9_wordOf 4 (some (.int)) ini d 0 0 Post ad 0 0 82 vx_lay μ 15 [(3, .inl 7), (2, .inl 11), (1, .inl 2), (0, vx_r 54)] [] := by
  refine vx_ldcS (i := 6) dX9_wordOf_15 rfl ?_
  refine vx_iload_n dX9_wordOf_17 rfl ?_
  refine vx_iload_n dX9_wordOf_18 rfl ?_
  refine vx_iadd dX9_wordOf_19 ?_
  refine vx_eq (st2 := [.inl 18, vx_r 1006]) rfl rfl (by rfl) ?_
  refine vx_callK (i := 6) (vs := [.inl 18]) (st := []) (r0 := (some (.inl 32))) (μ0 := μ) dX9_wordOf_20 ((c_J0_charAt_5068e (d - 1) (by omega) ad 82 vx_lay μ 6 (by decide) 18 (by decide)).to (congrArg (fun z => some (Sum.inl z)) (mo_chr 18 (by omega))) rfl) wd_930 wd_446 wd_55 hy_J0_charAt_5068e wd_444 wd_445 (by decide) rfl (by omega) (Nat.le_of_ble_eq_true rfl) (Nat.le_of_ble_eq_true rfl) (Nat.le_refl 0) (Nat.le_refl 0) ?_
  refine vx_eq (μ2 := μ) (ls2 := [(3, .inl 7), (2, .inl 11), (1, .inl 2), (0, vx_r 54)]) (st2 := [.inl 32]) rfl rfl rfl ?_
  refine vx_bipush (v := 32) dX9_wordOf_23 (by decide) ?_
  refine vx_icmp_eq (tgt := 69) dX9_wordOf_25 (by decide) (fun _ => ?_) (fun h => absurd h (by decide))
  refine vx_ldcS (i := 6) dX9_wordOf_69 rfl ?_
  refine vx_iload_n dX9_wordOf_71 rfl ?_
  refine vx_iload_n dX9_wordOf_72 rfl ?_
  refine vx_iadd dX9_wordOf_73 ?_
  refine vx_eq (st2 := [.inl 18, vx_r 1006]) rfl rfl (by rfl) ?_
  refine vx_callK (i := 6) (vs := [.inl 18]) (st := []) (r0 := (some (.inl 32))) (μ0 := μ) dX9_wordOf_74 ((c_J0_charAt_5068e (d - 1) (by omega) ad 82 vx_lay μ 6 (by decide) 18 (by decide)).to (congrArg (fun z => some (Sum.inl z)) (mo_chr 18 (by omega))) rfl) wd_930 wd_446 wd_55 hy_J0_charAt_5068e wd_444 wd_445 (by decide) rfl (by omega) (Nat.le_of_ble_eq_true rfl) (Nat.le_of_ble_eq_true rfl) (Nat.le_refl 0) (Nat.le_refl 0) ?_
  refine vx_eq (μ2 := μ) (ls2 := [(3, .inl 7), (2, .inl 11), (1, .inl 2), (0, vx_r 54)]) (st2 := [.inl 32]) rfl rfl rfl ?_
  refine vx_bipush (v := 32) dX9_wordOf_77 (by decide) ?_
  refine vx_icmp_ne (tgt := 97) dX9_wordOf_79 (by decide) (fun h => absurd h (by decide)) (fun _ => ?_)
  refine vx_aload_n dX9_wordOf_82 rfl ?_
  refine vx_getI (ci := 9) (T := TX9) (n := 56) (j := 11) (a := 54) (v := (nI p)) dX9_wordOf_83 rfl lay_X9 (by decide) wd_747 (by decide) ly_54 rfl hp ?_
  refine vx_iload_n dX9_wordOf_86 rfl ?_
  refine vx_iadd dX9_wordOf_87 ?_
  refine vx_eq (st2 := [.inl (nI (p + 7))]) rfl rfl (by rw [show (7 : Int32) = nI 7 from rfl, nI_add]) ?_
  refine vx_aload_n dX9_wordOf_88 rfl ?_
  refine vx_getI (ci := 9) (T := TX9) (n := 56) (j := 10) (a := 54) (v := (nI q)) dX9_wordOf_89 rfl lay_X9 (by decide) wd_746 (by decide) ly_54 rfl hq ?_
  refine vx_icmp_ne (tgt := 97) dX9_wordOf_92 (by decide) (fun c_92_2 => ?_) (fun c_92_2 => ?_)
  · refine vx_keep (ls2 := [(2, .inl 11), (1, .inl 2), (0, vx_r 54)]) ⟨rfl, rfl, rfl, trivial⟩ ?_
    exact mo_s2 hd hp hq hpq hq3 (hno (mo_isw_len (by rw [mo_ll_2]; have h9 := c_92_2; rw [nI_eq (by omega) (by omega)] at h9; omega)))
  · have hl : q - p = 7 := by have h9 := c_92_2; rw [nI_eq (by omega) (by omega)] at h9; omega
    have hP := hyes (mo_isw_yes (by rw [mo_ll_2]; exact hl) (fun k hk => by
      rw [mo_ll_2] at hk
      rcases (show k = 0 ∨ k = 1 ∨ k = 2 ∨ k = 3 ∨ k = 4 ∨ k = 5 ∨ k = 6 by omega) with rfl | rfl | rfl | rfl | rfl | rfl | rfl
      · exact m0
      · exact m1
      · exact m2
      · exact m3
      · exact m4
      · exact m5
      · exact m6))
    refine vx_iload_n dX9_wordOf_95 rfl ?_
    exact vx_ret (ty := .int) dX9_wordOf_96 rfl rfl (Nat.le_refl 0) (Nat.le_refl 0) (hP)
set_option maxRecDepth 20000 in
set_option maxHeartbeats 2000000 in
theorem mo_w2_6 {d : Nat} (hd : 4 ≤ d) {ad : Nat → Nat} {μ : vx_mem} {p q : Nat} (hp : μ 54 11 = nI p) (hq : μ 54 10 = nI q) (hpq : p ≤ q) (hq3 : q ≤ 300) {Post : vx_P} {ini : Bool} (hyes : ¬ sp_isw (μ 55) p q 2 = 0 → Post (some (.inl 2)) ad 82 vx_lay μ) (hno : sp_isw (μ 55) p q 2 = 0 → vx_J RX9 cX9_wordOf 4 (some (.int)) ini d 0 0 Post ad 0 0 82 vx_lay μ 4 [(2, .inl 19), (1, .inl 3), (0, vx_r 54)] []) (m0 : μ 55 (p + 0) = sp_chr 2 0) (m1 : μ 55 (p + 1) = sp_chr 2 1) (m2 : μ 55 (p + 2) = sp_chr 2 2) (m3 : μ 55 (p + 3) = sp_chr 2 3) (m4 : μ 55 (p + 4) = sp_chr 2 4) (m5 : μ 55 (p + 5) = sp_chr 2 5) : vx_J RX9 cX9_wordOf 4 (some (.int)) ini d 0 0 Post ad 0 0 82 vx_lay μ 15 [(3, .inl 6), (2, .inl 11), (1, .inl 2), (0, vx_r 54)] [] := by
  refine vx_ldcS (i := 6) dX9_wordOf_15 rfl ?_
  refine vx_iload_n dX9_wordOf_17 rfl ?_
  refine vx_iload_n dX9_wordOf_18 rfl ?_
  refine vx_iadd dX9_wordOf_19 ?_
  refine vx_eq (st2 := [.inl 17, vx_r 1006]) rfl rfl (by rfl) ?_
  refine vx_callK (i := 6) (vs := [.inl 17]) (st := []) (r0 := (some (.inl 115))) (μ0 := μ) dX9_wordOf_20 ((c_J0_charAt_5068e (d - 1) (by omega) ad 82 vx_lay μ 6 (by decide) 17 (by decide)).to (congrArg (fun z => some (Sum.inl z)) (mo_chr 17 (by omega))) rfl) wd_930 wd_446 wd_55 hy_J0_charAt_5068e wd_444 wd_445 (by decide) rfl (by omega) (Nat.le_of_ble_eq_true rfl) (Nat.le_of_ble_eq_true rfl) (Nat.le_refl 0) (Nat.le_refl 0) ?_
  refine vx_eq (μ2 := μ) (ls2 := [(3, .inl 6), (2, .inl 11), (1, .inl 2), (0, vx_r 54)]) (st2 := [.inl 115]) rfl rfl rfl ?_
  refine vx_bipush (v := 32) dX9_wordOf_23 (by decide) ?_
  refine vx_icmp_eq (tgt := 69) dX9_wordOf_25 (by decide) (fun h => absurd h (by decide)) (fun _ => ?_)
  refine vx_aload_n dX9_wordOf_28 rfl ?_
  refine vx_getI (ci := 9) (T := TX9) (n := 56) (j := 11) (a := 54) (v := (nI p)) dX9_wordOf_29 rfl lay_X9 (by decide) wd_747 (by decide) ly_54 rfl hp ?_
  refine vx_iload_n dX9_wordOf_32 rfl ?_
  refine vx_iadd dX9_wordOf_33 ?_
  refine vx_eq (st2 := [.inl (nI (p + 6))]) rfl rfl (by rw [show (6 : Int32) = nI 6 from rfl, nI_add]) ?_
  refine vx_aload_n dX9_wordOf_34 rfl ?_
  refine vx_getI (ci := 9) (T := TX9) (n := 56) (j := 10) (a := 54) (v := (nI q)) dX9_wordOf_35 rfl lay_X9 (by decide) wd_746 (by decide) ly_54 rfl hq ?_
  refine vx_icmp_ge (tgt := 69) dX9_wordOf_38 (by decide) (fun c_38_9 => ?_) (fun c_38_9 => ?_)
  · refine vx_ldcS (i := 6) dX9_wordOf_69 rfl ?_
    refine vx_iload_n dX9_wordOf_71 rfl ?_
    refine vx_iload_n dX9_wordOf_72 rfl ?_
    refine vx_iadd dX9_wordOf_73 ?_
    refine vx_eq (st2 := [.inl 17, vx_r 1006]) rfl rfl (by rfl) ?_
    refine vx_callK (i := 6) (vs := [.inl 17]) (st := []) (r0 := (some (.inl 115))) (μ0 := μ) dX9_wordOf_74 ((c_J0_charAt_5068e (d - 1) (by omega) ad 82 vx_lay μ 6 (by decide) 17 (by decide)).to (congrArg (fun z => some (Sum.inl z)) (mo_chr 17 (by omega))) rfl) wd_930 wd_446 wd_55 hy_J0_charAt_5068e wd_444 wd_445 (by decide) rfl (by omega) (Nat.le_of_ble_eq_true rfl) (Nat.le_of_ble_eq_true rfl) (Nat.le_refl 0) (Nat.le_refl 0) ?_
    refine vx_eq (μ2 := μ) (ls2 := [(3, .inl 6), (2, .inl 11), (1, .inl 2), (0, vx_r 54)]) (st2 := [.inl 115]) rfl rfl rfl ?_
    refine vx_bipush (v := 32) dX9_wordOf_77 (by decide) ?_
    refine vx_icmp_ne (tgt := 97) dX9_wordOf_79 (by decide) (fun _ => ?_) (fun h => absurd h (by decide))
    refine vx_keep (ls2 := [(2, .inl 11), (1, .inl 2), (0, vx_r 54)]) ⟨rfl, rfl, rfl, trivial⟩ ?_
    exact mo_s2 hd hp hq hpq hq3 (hno (mo_isw_len (by rw [mo_ll_2]; have h9 := c_38_9; rw [nI_leI (by omega) (by omega)] at h9; omega)))
  · refine vx_aload_n dX9_wordOf_41 rfl ?_
    refine vx_getR (ci := 9) (T := TX9) (n := 56) (j := 1) (a := 54) (r := 55) dX9_wordOf_42 rfl lay_X9 (by decide) wd_737 (by decide) ly_54 rfl ?_
    refine vx_aload_n dX9_wordOf_45 rfl ?_
    refine vx_getI (ci := 9) (T := TX9) (n := 56) (j := 11) (a := 54) (v := (nI p)) dX9_wordOf_46 rfl lay_X9 (by decide) wd_747 (by decide) ly_54 rfl hp ?_
    refine vx_iload_n dX9_wordOf_49 rfl ?_
    refine vx_iadd dX9_wordOf_50 ?_
    refine vx_eq (st2 := [.inl (nI (p + 6)), vx_r 55]) rfl rfl (by rw [show (6 : Int32) = nI 6 from rfl, nI_add]) ?_
    refine vx_iald (a := 55) (n := 300) (v := (μ 55 (p + 6))) dX9_wordOf_51 (by decide) ly_55 (vp_in_nI (by have h9 := c_38_9; rw [nI_leI (by omega) (by omega)] at h9; omega) (by omega)) (by rw [nI_clamp (by omega)] <;> rfl) ?_
    refine vx_ldcS (i := 6) dX9_wordOf_52 rfl ?_
    refine vx_iload_n dX9_wordOf_54 rfl ?_
    refine vx_iload_n dX9_wordOf_55 rfl ?_
    refine vx_iadd dX9_wordOf_56 ?_
    refine vx_eq (st2 := [.inl 17, vx_r 1006, .inl (μ 55 (p + 6))]) rfl rfl (by rfl) ?_
    refine vx_callK (i := 6) (vs := [.inl 17]) (st := [.inl (μ 55 (p + 6))]) (r0 := (some (.inl 115))) (μ0 := μ) dX9_wordOf_57 ((c_J0_charAt_5068e (d - 1) (by omega) ad 82 vx_lay μ 6 (by decide) 17 (by decide)).to (congrArg (fun z => some (Sum.inl z)) (mo_chr 17 (by omega))) rfl) wd_930 wd_446 wd_55 hy_J0_charAt_5068e wd_444 wd_445 (by decide) rfl (by omega) (Nat.le_of_ble_eq_true rfl) (Nat.le_of_ble_eq_true rfl) (Nat.le_refl 0) (Nat.le_refl 0) ?_
    refine vx_eq (μ2 := μ) (ls2 := [(3, .inl 6), (2, .inl 11), (1, .inl 2), (0, vx_r 54)]) (st2 := [.inl 115, .inl (μ 55 (p + 6))]) rfl rfl rfl ?_
    refine vx_icmp_ne (tgt := 69) dX9_wordOf_60 (by decide) (fun c_60_9 => ?_) (fun c_60_9 => ?_)
    · refine vx_ldcS (i := 6) dX9_wordOf_69 rfl ?_
      refine vx_iload_n dX9_wordOf_71 rfl ?_
      refine vx_iload_n dX9_wordOf_72 rfl ?_
      refine vx_iadd dX9_wordOf_73 ?_
      refine vx_eq (st2 := [.inl 17, vx_r 1006]) rfl rfl (by rfl) ?_
      refine vx_callK (i := 6) (vs := [.inl 17]) (st := []) (r0 := (some (.inl 115))) (μ0 := μ) dX9_wordOf_74 ((c_J0_charAt_5068e (d - 1) (by omega) ad 82 vx_lay μ 6 (by decide) 17 (by decide)).to (congrArg (fun z => some (Sum.inl z)) (mo_chr 17 (by omega))) rfl) wd_930 wd_446 wd_55 hy_J0_charAt_5068e wd_444 wd_445 (by decide) rfl (by omega) (Nat.le_of_ble_eq_true rfl) (Nat.le_of_ble_eq_true rfl) (Nat.le_refl 0) (Nat.le_refl 0) ?_
      refine vx_eq (μ2 := μ) (ls2 := [(3, .inl 6), (2, .inl 11), (1, .inl 2), (0, vx_r 54)]) (st2 := [.inl 115]) rfl rfl rfl ?_
      refine vx_bipush (v := 32) dX9_wordOf_77 (by decide) ?_
      refine vx_icmp_ne (tgt := 97) dX9_wordOf_79 (by decide) (fun _ => ?_) (fun h => absurd h (by decide))
      refine vx_keep (ls2 := [(2, .inl 11), (1, .inl 2), (0, vx_r 54)]) ⟨rfl, rfl, rfl, trivial⟩ ?_
      exact mo_s2 hd hp hq hpq hq3 (hno (mo_isw_ne (j := 6) (by rw [mo_ll_2]; omega) (by rw [mo_ch_2_6]; exact c_60_9)))
    · refine vx_iinc (v := 7) (ls2 := [(3, .inl 7), (2, .inl 11), (1, .inl 2), (0, vx_r 54)]) dX9_wordOf_63 rfl (by decide) (by decide) rfl ?_
      refine vx_goto (tgt := 15) dX9_wordOf_66 (by decide) ?_
      exact mo_w2_7 hd hp hq hpq hq3 hyes hno m0 m1 m2 m3 m4 m5 (by rw [mo_ch_2_6]; exact c_60_9)
set_option maxRecDepth 20000 in
set_option maxHeartbeats 2000000 in
theorem mo_w2_5 {d : Nat} (hd : 4 ≤ d) {ad : Nat → Nat} {μ : vx_mem} {p q : Nat} (hp : μ 54 11 = nI p) (hq : μ 54 10 = nI q) (hpq : p ≤ q) (hq3 : q ≤ 300) {Post : vx_P} {ini : Bool} (hyes : ¬ sp_isw (μ 55) p q 2 = 0 → Post (some (.inl 2)) ad 82 vx_lay μ) (hno : sp_isw (μ 55) p q 2 = 0 → vx_J RX9 cX9_wordOf 4 (some (.int)) ini d 0 0 Post ad 0 0 82 vx_lay μ 4 [(2, .inl 19), (1, .inl 3), (0, vx_r 54)] []) (m0 : μ 55 (p + 0) = sp_chr 2 0) (m1 : μ 55 (p + 1) = sp_chr 2 1) (m2 : μ 55 (p + 2) = sp_chr 2 2) (m3 : μ 55 (p + 3) = sp_chr 2 3) (m4 : μ 55 (p + 4) = sp_chr 2 4) : vx_J RX9 cX9_wordOf 4 (some (.int)) ini d 0 0 Post ad 0 0 82 vx_lay μ 15 [(3, .inl 5), (2, .inl 11), (1, .inl 2), (0, vx_r 54)] [] := by
  refine vx_ldcS (i := 6) dX9_wordOf_15 rfl ?_
  refine vx_iload_n dX9_wordOf_17 rfl ?_
  refine vx_iload_n dX9_wordOf_18 rfl ?_
  refine vx_iadd dX9_wordOf_19 ?_
  refine vx_eq (st2 := [.inl 16, vx_r 1006]) rfl rfl (by rfl) ?_
  refine vx_callK (i := 6) (vs := [.inl 16]) (st := []) (r0 := (some (.inl 101))) (μ0 := μ) dX9_wordOf_20 ((c_J0_charAt_5068e (d - 1) (by omega) ad 82 vx_lay μ 6 (by decide) 16 (by decide)).to (congrArg (fun z => some (Sum.inl z)) (mo_chr 16 (by omega))) rfl) wd_930 wd_446 wd_55 hy_J0_charAt_5068e wd_444 wd_445 (by decide) rfl (by omega) (Nat.le_of_ble_eq_true rfl) (Nat.le_of_ble_eq_true rfl) (Nat.le_refl 0) (Nat.le_refl 0) ?_
  refine vx_eq (μ2 := μ) (ls2 := [(3, .inl 5), (2, .inl 11), (1, .inl 2), (0, vx_r 54)]) (st2 := [.inl 101]) rfl rfl rfl ?_
  refine vx_bipush (v := 32) dX9_wordOf_23 (by decide) ?_
  refine vx_icmp_eq (tgt := 69) dX9_wordOf_25 (by decide) (fun h => absurd h (by decide)) (fun _ => ?_)
  refine vx_aload_n dX9_wordOf_28 rfl ?_
  refine vx_getI (ci := 9) (T := TX9) (n := 56) (j := 11) (a := 54) (v := (nI p)) dX9_wordOf_29 rfl lay_X9 (by decide) wd_747 (by decide) ly_54 rfl hp ?_
  refine vx_iload_n dX9_wordOf_32 rfl ?_
  refine vx_iadd dX9_wordOf_33 ?_
  refine vx_eq (st2 := [.inl (nI (p + 5))]) rfl rfl (by rw [show (5 : Int32) = nI 5 from rfl, nI_add]) ?_
  refine vx_aload_n dX9_wordOf_34 rfl ?_
  refine vx_getI (ci := 9) (T := TX9) (n := 56) (j := 10) (a := 54) (v := (nI q)) dX9_wordOf_35 rfl lay_X9 (by decide) wd_746 (by decide) ly_54 rfl hq ?_
  refine vx_icmp_ge (tgt := 69) dX9_wordOf_38 (by decide) (fun c_38_10 => ?_) (fun c_38_10 => ?_)
  · refine vx_ldcS (i := 6) dX9_wordOf_69 rfl ?_
    refine vx_iload_n dX9_wordOf_71 rfl ?_
    refine vx_iload_n dX9_wordOf_72 rfl ?_
    refine vx_iadd dX9_wordOf_73 ?_
    refine vx_eq (st2 := [.inl 16, vx_r 1006]) rfl rfl (by rfl) ?_
    refine vx_callK (i := 6) (vs := [.inl 16]) (st := []) (r0 := (some (.inl 101))) (μ0 := μ) dX9_wordOf_74 ((c_J0_charAt_5068e (d - 1) (by omega) ad 82 vx_lay μ 6 (by decide) 16 (by decide)).to (congrArg (fun z => some (Sum.inl z)) (mo_chr 16 (by omega))) rfl) wd_930 wd_446 wd_55 hy_J0_charAt_5068e wd_444 wd_445 (by decide) rfl (by omega) (Nat.le_of_ble_eq_true rfl) (Nat.le_of_ble_eq_true rfl) (Nat.le_refl 0) (Nat.le_refl 0) ?_
    refine vx_eq (μ2 := μ) (ls2 := [(3, .inl 5), (2, .inl 11), (1, .inl 2), (0, vx_r 54)]) (st2 := [.inl 101]) rfl rfl rfl ?_
    refine vx_bipush (v := 32) dX9_wordOf_77 (by decide) ?_
    refine vx_icmp_ne (tgt := 97) dX9_wordOf_79 (by decide) (fun _ => ?_) (fun h => absurd h (by decide))
    refine vx_keep (ls2 := [(2, .inl 11), (1, .inl 2), (0, vx_r 54)]) ⟨rfl, rfl, rfl, trivial⟩ ?_
    exact mo_s2 hd hp hq hpq hq3 (hno (mo_isw_len (by rw [mo_ll_2]; have h9 := c_38_10; rw [nI_leI (by omega) (by omega)] at h9; omega)))
  · refine vx_aload_n dX9_wordOf_41 rfl ?_
    refine vx_getR (ci := 9) (T := TX9) (n := 56) (j := 1) (a := 54) (r := 55) dX9_wordOf_42 rfl lay_X9 (by decide) wd_737 (by decide) ly_54 rfl ?_
    refine vx_aload_n dX9_wordOf_45 rfl ?_
    refine vx_getI (ci := 9) (T := TX9) (n := 56) (j := 11) (a := 54) (v := (nI p)) dX9_wordOf_46 rfl lay_X9 (by decide) wd_747 (by decide) ly_54 rfl hp ?_
    refine vx_iload_n dX9_wordOf_49 rfl ?_
    refine vx_iadd dX9_wordOf_50 ?_
    refine vx_eq (st2 := [.inl (nI (p + 5)), vx_r 55]) rfl rfl (by rw [show (5 : Int32) = nI 5 from rfl, nI_add]) ?_
    refine vx_iald (a := 55) (n := 300) (v := (μ 55 (p + 5))) dX9_wordOf_51 (by decide) ly_55 (vp_in_nI (by have h9 := c_38_10; rw [nI_leI (by omega) (by omega)] at h9; omega) (by omega)) (by rw [nI_clamp (by omega)] <;> rfl) ?_
    refine vx_ldcS (i := 6) dX9_wordOf_52 rfl ?_
    refine vx_iload_n dX9_wordOf_54 rfl ?_
    refine vx_iload_n dX9_wordOf_55 rfl ?_
    refine vx_iadd dX9_wordOf_56 ?_
    refine vx_eq (st2 := [.inl 16, vx_r 1006, .inl (μ 55 (p + 5))]) rfl rfl (by rfl) ?_
    refine vx_callK (i := 6) (vs := [.inl 16]) (st := [.inl (μ 55 (p + 5))]) (r0 := (some (.inl 101))) (μ0 := μ) dX9_wordOf_57 ((c_J0_charAt_5068e (d - 1) (by omega) ad 82 vx_lay μ 6 (by decide) 16 (by decide)).to (congrArg (fun z => some (Sum.inl z)) (mo_chr 16 (by omega))) rfl) wd_930 wd_446 wd_55 hy_J0_charAt_5068e wd_444 wd_445 (by decide) rfl (by omega) (Nat.le_of_ble_eq_true rfl) (Nat.le_of_ble_eq_true rfl) (Nat.le_refl 0) (Nat.le_refl 0) ?_
    refine vx_eq (μ2 := μ) (ls2 := [(3, .inl 5), (2, .inl 11), (1, .inl 2), (0, vx_r 54)]) (st2 := [.inl 101, .inl (μ 55 (p + 5))]) rfl rfl rfl ?_
    refine vx_icmp_ne (tgt := 69) dX9_wordOf_60 (by decide) (fun c_60_10 => ?_) (fun c_60_10 => ?_)
    · refine vx_ldcS (i := 6) dX9_wordOf_69 rfl ?_
      refine vx_iload_n dX9_wordOf_71 rfl ?_
      refine vx_iload_n dX9_wordOf_72 rfl ?_
      refine vx_iadd dX9_wordOf_73 ?_
      refine vx_eq (st2 := [.inl 16, vx_r 1006]) rfl rfl (by rfl) ?_
      refine vx_callK (i := 6) (vs := [.inl 16]) (st := []) (r0 := (some (.inl 101))) (μ0 := μ) dX9_wordOf_74 ((c_J0_charAt_5068e (d - 1) (by omega) ad 82 vx_lay μ 6 (by decide) 16 (by decide)).to (congrArg (fun z => some (Sum.inl z)) (mo_chr 16 (by omega))) rfl) wd_930 wd_446 wd_55 hy_J0_charAt_5068e wd_444 wd_445 (by decide) rfl (by omega) (Nat.le_of_ble_eq_true rfl) (Nat.le_of_ble_eq_true rfl) (Nat.le_refl 0) (Nat.le_refl 0) ?_
      refine vx_eq (μ2 := μ) (ls2 := [(3, .inl 5), (2, .inl 11), (1, .inl 2), (0, vx_r 54)]) (st2 := [.inl 101]) rfl rfl rfl ?_
      refine vx_bipush (v := 32) dX9_wordOf_77 (by decide) ?_
      refine vx_icmp_ne (tgt := 97) dX9_wordOf_79 (by decide) (fun _ => ?_) (fun h => absurd h (by decide))
      refine vx_keep (ls2 := [(2, .inl 11), (1, .inl 2), (0, vx_r 54)]) ⟨rfl, rfl, rfl, trivial⟩ ?_
      exact mo_s2 hd hp hq hpq hq3 (hno (mo_isw_ne (j := 5) (by rw [mo_ll_2]; omega) (by rw [mo_ch_2_5]; exact c_60_10)))
    · refine vx_iinc (v := 6) (ls2 := [(3, .inl 6), (2, .inl 11), (1, .inl 2), (0, vx_r 54)]) dX9_wordOf_63 rfl (by decide) (by decide) rfl ?_
      refine vx_goto (tgt := 15) dX9_wordOf_66 (by decide) ?_
      exact mo_w2_6 hd hp hq hpq hq3 hyes hno m0 m1 m2 m3 m4 (by rw [mo_ch_2_5]; exact c_60_10)
set_option maxRecDepth 20000 in
set_option maxHeartbeats 2000000 in
theorem mo_w2_4 {d : Nat} (hd : 4 ≤ d) {ad : Nat → Nat} {μ : vx_mem} {p q : Nat} (hp : μ 54 11 = nI p) (hq : μ 54 10 = nI q) (hpq : p ≤ q) (hq3 : q ≤ 300) {Post : vx_P} {ini : Bool} (hyes : ¬ sp_isw (μ 55) p q 2 = 0 → Post (some (.inl 2)) ad 82 vx_lay μ) (hno : sp_isw (μ 55) p q 2 = 0 → vx_J RX9 cX9_wordOf 4 (some (.int)) ini d 0 0 Post ad 0 0 82 vx_lay μ 4 [(2, .inl 19), (1, .inl 3), (0, vx_r 54)] []) (m0 : μ 55 (p + 0) = sp_chr 2 0) (m1 : μ 55 (p + 1) = sp_chr 2 1) (m2 : μ 55 (p + 2) = sp_chr 2 2) (m3 : μ 55 (p + 3) = sp_chr 2 3) : vx_J RX9 cX9_wordOf 4 (some (.int)) ini d 0 0 Post ad 0 0 82 vx_lay μ 15 [(3, .inl 4), (2, .inl 11), (1, .inl 2), (0, vx_r 54)] [] := by
  refine vx_ldcS (i := 6) dX9_wordOf_15 rfl ?_
  refine vx_iload_n dX9_wordOf_17 rfl ?_
  refine vx_iload_n dX9_wordOf_18 rfl ?_
  refine vx_iadd dX9_wordOf_19 ?_
  refine vx_eq (st2 := [.inl 15, vx_r 1006]) rfl rfl (by rfl) ?_
  refine vx_callK (i := 6) (vs := [.inl 15]) (st := []) (r0 := (some (.inl 118))) (μ0 := μ) dX9_wordOf_20 ((c_J0_charAt_5068e (d - 1) (by omega) ad 82 vx_lay μ 6 (by decide) 15 (by decide)).to (congrArg (fun z => some (Sum.inl z)) (mo_chr 15 (by omega))) rfl) wd_930 wd_446 wd_55 hy_J0_charAt_5068e wd_444 wd_445 (by decide) rfl (by omega) (Nat.le_of_ble_eq_true rfl) (Nat.le_of_ble_eq_true rfl) (Nat.le_refl 0) (Nat.le_refl 0) ?_
  refine vx_eq (μ2 := μ) (ls2 := [(3, .inl 4), (2, .inl 11), (1, .inl 2), (0, vx_r 54)]) (st2 := [.inl 118]) rfl rfl rfl ?_
  refine vx_bipush (v := 32) dX9_wordOf_23 (by decide) ?_
  refine vx_icmp_eq (tgt := 69) dX9_wordOf_25 (by decide) (fun h => absurd h (by decide)) (fun _ => ?_)
  refine vx_aload_n dX9_wordOf_28 rfl ?_
  refine vx_getI (ci := 9) (T := TX9) (n := 56) (j := 11) (a := 54) (v := (nI p)) dX9_wordOf_29 rfl lay_X9 (by decide) wd_747 (by decide) ly_54 rfl hp ?_
  refine vx_iload_n dX9_wordOf_32 rfl ?_
  refine vx_iadd dX9_wordOf_33 ?_
  refine vx_eq (st2 := [.inl (nI (p + 4))]) rfl rfl (by rw [show (4 : Int32) = nI 4 from rfl, nI_add]) ?_
  refine vx_aload_n dX9_wordOf_34 rfl ?_
  refine vx_getI (ci := 9) (T := TX9) (n := 56) (j := 10) (a := 54) (v := (nI q)) dX9_wordOf_35 rfl lay_X9 (by decide) wd_746 (by decide) ly_54 rfl hq ?_
  refine vx_icmp_ge (tgt := 69) dX9_wordOf_38 (by decide) (fun c_38_11 => ?_) (fun c_38_11 => ?_)
  · refine vx_ldcS (i := 6) dX9_wordOf_69 rfl ?_
    refine vx_iload_n dX9_wordOf_71 rfl ?_
    refine vx_iload_n dX9_wordOf_72 rfl ?_
    refine vx_iadd dX9_wordOf_73 ?_
    refine vx_eq (st2 := [.inl 15, vx_r 1006]) rfl rfl (by rfl) ?_
    refine vx_callK (i := 6) (vs := [.inl 15]) (st := []) (r0 := (some (.inl 118))) (μ0 := μ) dX9_wordOf_74 ((c_J0_charAt_5068e (d - 1) (by omega) ad 82 vx_lay μ 6 (by decide) 15 (by decide)).to (congrArg (fun z => some (Sum.inl z)) (mo_chr 15 (by omega))) rfl) wd_930 wd_446 wd_55 hy_J0_charAt_5068e wd_444 wd_445 (by decide) rfl (by omega) (Nat.le_of_ble_eq_true rfl) (Nat.le_of_ble_eq_true rfl) (Nat.le_refl 0) (Nat.le_refl 0) ?_
    refine vx_eq (μ2 := μ) (ls2 := [(3, .inl 4), (2, .inl 11), (1, .inl 2), (0, vx_r 54)]) (st2 := [.inl 118]) rfl rfl rfl ?_
    refine vx_bipush (v := 32) dX9_wordOf_77 (by decide) ?_
    refine vx_icmp_ne (tgt := 97) dX9_wordOf_79 (by decide) (fun _ => ?_) (fun h => absurd h (by decide))
    refine vx_keep (ls2 := [(2, .inl 11), (1, .inl 2), (0, vx_r 54)]) ⟨rfl, rfl, rfl, trivial⟩ ?_
    exact mo_s2 hd hp hq hpq hq3 (hno (mo_isw_len (by rw [mo_ll_2]; have h9 := c_38_11; rw [nI_leI (by omega) (by omega)] at h9; omega)))
  · refine vx_aload_n dX9_wordOf_41 rfl ?_
    refine vx_getR (ci := 9) (T := TX9) (n := 56) (j := 1) (a := 54) (r := 55) dX9_wordOf_42 rfl lay_X9 (by decide) wd_737 (by decide) ly_54 rfl ?_
    refine vx_aload_n dX9_wordOf_45 rfl ?_
    refine vx_getI (ci := 9) (T := TX9) (n := 56) (j := 11) (a := 54) (v := (nI p)) dX9_wordOf_46 rfl lay_X9 (by decide) wd_747 (by decide) ly_54 rfl hp ?_
    refine vx_iload_n dX9_wordOf_49 rfl ?_
    refine vx_iadd dX9_wordOf_50 ?_
    refine vx_eq (st2 := [.inl (nI (p + 4)), vx_r 55]) rfl rfl (by rw [show (4 : Int32) = nI 4 from rfl, nI_add]) ?_
    refine vx_iald (a := 55) (n := 300) (v := (μ 55 (p + 4))) dX9_wordOf_51 (by decide) ly_55 (vp_in_nI (by have h9 := c_38_11; rw [nI_leI (by omega) (by omega)] at h9; omega) (by omega)) (by rw [nI_clamp (by omega)] <;> rfl) ?_
    refine vx_ldcS (i := 6) dX9_wordOf_52 rfl ?_
    refine vx_iload_n dX9_wordOf_54 rfl ?_
    refine vx_iload_n dX9_wordOf_55 rfl ?_
    refine vx_iadd dX9_wordOf_56 ?_
    refine vx_eq (st2 := [.inl 15, vx_r 1006, .inl (μ 55 (p + 4))]) rfl rfl (by rfl) ?_
    refine vx_callK (i := 6) (vs := [.inl 15]) (st := [.inl (μ 55 (p + 4))]) (r0 := (some (.inl 118))) (μ0 := μ) dX9_wordOf_57 ((c_J0_charAt_5068e (d - 1) (by omega) ad 82 vx_lay μ 6 (by decide) 15 (by decide)).to (congrArg (fun z => some (Sum.inl z)) (mo_chr 15 (by omega))) rfl) wd_930 wd_446 wd_55 hy_J0_charAt_5068e wd_444 wd_445 (by decide) rfl (by omega) (Nat.le_of_ble_eq_true rfl) (Nat.le_of_ble_eq_true rfl) (Nat.le_refl 0) (Nat.le_refl 0) ?_
    refine vx_eq (μ2 := μ) (ls2 := [(3, .inl 4), (2, .inl 11), (1, .inl 2), (0, vx_r 54)]) (st2 := [.inl 118, .inl (μ 55 (p + 4))]) rfl rfl rfl ?_
    refine vx_icmp_ne (tgt := 69) dX9_wordOf_60 (by decide) (fun c_60_11 => ?_) (fun c_60_11 => ?_)
    · refine vx_ldcS (i := 6) dX9_wordOf_69 rfl ?_
      refine vx_iload_n dX9_wordOf_71 rfl ?_
      refine vx_iload_n dX9_wordOf_72 rfl ?_
      refine vx_iadd dX9_wordOf_73 ?_
      refine vx_eq (st2 := [.inl 15, vx_r 1006]) rfl rfl (by rfl) ?_
      refine vx_callK (i := 6) (vs := [.inl 15]) (st := []) (r0 := (some (.inl 118))) (μ0 := μ) dX9_wordOf_74 ((c_J0_charAt_5068e (d - 1) (by omega) ad 82 vx_lay μ 6 (by decide) 15 (by decide)).to (congrArg (fun z => some (Sum.inl z)) (mo_chr 15 (by omega))) rfl) wd_930 wd_446 wd_55 hy_J0_charAt_5068e wd_444 wd_445 (by decide) rfl (by omega) (Nat.le_of_ble_eq_true rfl) (Nat.le_of_ble_eq_true rfl) (Nat.le_refl 0) (Nat.le_refl 0) ?_
      refine vx_eq (μ2 := μ) (ls2 := [(3, .inl 4), (2, .inl 11), (1, .inl 2), (0, vx_r 54)]) (st2 := [.inl 118]) rfl rfl rfl ?_
      refine vx_bipush (v := 32) dX9_wordOf_77 (by decide) ?_
      refine vx_icmp_ne (tgt := 97) dX9_wordOf_79 (by decide) (fun _ => ?_) (fun h => absurd h (by decide))
      refine vx_keep (ls2 := [(2, .inl 11), (1, .inl 2), (0, vx_r 54)]) ⟨rfl, rfl, rfl, trivial⟩ ?_
      exact mo_s2 hd hp hq hpq hq3 (hno (mo_isw_ne (j := 4) (by rw [mo_ll_2]; omega) (by rw [mo_ch_2_4]; exact c_60_11)))
    · refine vx_iinc (v := 5) (ls2 := [(3, .inl 5), (2, .inl 11), (1, .inl 2), (0, vx_r 54)]) dX9_wordOf_63 rfl (by decide) (by decide) rfl ?_
      refine vx_goto (tgt := 15) dX9_wordOf_66 (by decide) ?_
      exact mo_w2_5 hd hp hq hpq hq3 hyes hno m0 m1 m2 m3 (by rw [mo_ch_2_4]; exact c_60_11)
set_option maxRecDepth 20000 in
set_option maxHeartbeats 2000000 in
theorem mo_w2_3 {d : Nat} (hd : 4 ≤ d) {ad : Nat → Nat} {μ : vx_mem} {p q : Nat} (hp : μ 54 11 = nI p) (hq : μ 54 10 = nI q) (hpq : p ≤ q) (hq3 : q ≤ 300) {Post : vx_P} {ini : Bool} (hyes : ¬ sp_isw (μ 55) p q 2 = 0 → Post (some (.inl 2)) ad 82 vx_lay μ) (hno : sp_isw (μ 55) p q 2 = 0 → vx_J RX9 cX9_wordOf 4 (some (.int)) ini d 0 0 Post ad 0 0 82 vx_lay μ 4 [(2, .inl 19), (1, .inl 3), (0, vx_r 54)] []) (m0 : μ 55 (p + 0) = sp_chr 2 0) (m1 : μ 55 (p + 1) = sp_chr 2 1) (m2 : μ 55 (p + 2) = sp_chr 2 2) : vx_J RX9 cX9_wordOf 4 (some (.int)) ini d 0 0 Post ad 0 0 82 vx_lay μ 15 [(3, .inl 3), (2, .inl 11), (1, .inl 2), (0, vx_r 54)] [] := by
  refine vx_ldcS (i := 6) dX9_wordOf_15 rfl ?_
  refine vx_iload_n dX9_wordOf_17 rfl ?_
  refine vx_iload_n dX9_wordOf_18 rfl ?_
  refine vx_iadd dX9_wordOf_19 ?_
  refine vx_eq (st2 := [.inl 14, vx_r 1006]) rfl rfl (by rfl) ?_
  refine vx_callK (i := 6) (vs := [.inl 14]) (st := []) (r0 := (some (.inl 97))) (μ0 := μ) dX9_wordOf_20 ((c_J0_charAt_5068e (d - 1) (by omega) ad 82 vx_lay μ 6 (by decide) 14 (by decide)).to (congrArg (fun z => some (Sum.inl z)) (mo_chr 14 (by omega))) rfl) wd_930 wd_446 wd_55 hy_J0_charAt_5068e wd_444 wd_445 (by decide) rfl (by omega) (Nat.le_of_ble_eq_true rfl) (Nat.le_of_ble_eq_true rfl) (Nat.le_refl 0) (Nat.le_refl 0) ?_
  refine vx_eq (μ2 := μ) (ls2 := [(3, .inl 3), (2, .inl 11), (1, .inl 2), (0, vx_r 54)]) (st2 := [.inl 97]) rfl rfl rfl ?_
  refine vx_bipush (v := 32) dX9_wordOf_23 (by decide) ?_
  refine vx_icmp_eq (tgt := 69) dX9_wordOf_25 (by decide) (fun h => absurd h (by decide)) (fun _ => ?_)
  refine vx_aload_n dX9_wordOf_28 rfl ?_
  refine vx_getI (ci := 9) (T := TX9) (n := 56) (j := 11) (a := 54) (v := (nI p)) dX9_wordOf_29 rfl lay_X9 (by decide) wd_747 (by decide) ly_54 rfl hp ?_
  refine vx_iload_n dX9_wordOf_32 rfl ?_
  refine vx_iadd dX9_wordOf_33 ?_
  refine vx_eq (st2 := [.inl (nI (p + 3))]) rfl rfl (by rw [show (3 : Int32) = nI 3 from rfl, nI_add]) ?_
  refine vx_aload_n dX9_wordOf_34 rfl ?_
  refine vx_getI (ci := 9) (T := TX9) (n := 56) (j := 10) (a := 54) (v := (nI q)) dX9_wordOf_35 rfl lay_X9 (by decide) wd_746 (by decide) ly_54 rfl hq ?_
  refine vx_icmp_ge (tgt := 69) dX9_wordOf_38 (by decide) (fun c_38_12 => ?_) (fun c_38_12 => ?_)
  · refine vx_ldcS (i := 6) dX9_wordOf_69 rfl ?_
    refine vx_iload_n dX9_wordOf_71 rfl ?_
    refine vx_iload_n dX9_wordOf_72 rfl ?_
    refine vx_iadd dX9_wordOf_73 ?_
    refine vx_eq (st2 := [.inl 14, vx_r 1006]) rfl rfl (by rfl) ?_
    refine vx_callK (i := 6) (vs := [.inl 14]) (st := []) (r0 := (some (.inl 97))) (μ0 := μ) dX9_wordOf_74 ((c_J0_charAt_5068e (d - 1) (by omega) ad 82 vx_lay μ 6 (by decide) 14 (by decide)).to (congrArg (fun z => some (Sum.inl z)) (mo_chr 14 (by omega))) rfl) wd_930 wd_446 wd_55 hy_J0_charAt_5068e wd_444 wd_445 (by decide) rfl (by omega) (Nat.le_of_ble_eq_true rfl) (Nat.le_of_ble_eq_true rfl) (Nat.le_refl 0) (Nat.le_refl 0) ?_
    refine vx_eq (μ2 := μ) (ls2 := [(3, .inl 3), (2, .inl 11), (1, .inl 2), (0, vx_r 54)]) (st2 := [.inl 97]) rfl rfl rfl ?_
    refine vx_bipush (v := 32) dX9_wordOf_77 (by decide) ?_
    refine vx_icmp_ne (tgt := 97) dX9_wordOf_79 (by decide) (fun _ => ?_) (fun h => absurd h (by decide))
    refine vx_keep (ls2 := [(2, .inl 11), (1, .inl 2), (0, vx_r 54)]) ⟨rfl, rfl, rfl, trivial⟩ ?_
    exact mo_s2 hd hp hq hpq hq3 (hno (mo_isw_len (by rw [mo_ll_2]; have h9 := c_38_12; rw [nI_leI (by omega) (by omega)] at h9; omega)))
  · refine vx_aload_n dX9_wordOf_41 rfl ?_
    refine vx_getR (ci := 9) (T := TX9) (n := 56) (j := 1) (a := 54) (r := 55) dX9_wordOf_42 rfl lay_X9 (by decide) wd_737 (by decide) ly_54 rfl ?_
    refine vx_aload_n dX9_wordOf_45 rfl ?_
    refine vx_getI (ci := 9) (T := TX9) (n := 56) (j := 11) (a := 54) (v := (nI p)) dX9_wordOf_46 rfl lay_X9 (by decide) wd_747 (by decide) ly_54 rfl hp ?_
    refine vx_iload_n dX9_wordOf_49 rfl ?_
    refine vx_iadd dX9_wordOf_50 ?_
    refine vx_eq (st2 := [.inl (nI (p + 3)), vx_r 55]) rfl rfl (by rw [show (3 : Int32) = nI 3 from rfl, nI_add]) ?_
    refine vx_iald (a := 55) (n := 300) (v := (μ 55 (p + 3))) dX9_wordOf_51 (by decide) ly_55 (vp_in_nI (by have h9 := c_38_12; rw [nI_leI (by omega) (by omega)] at h9; omega) (by omega)) (by rw [nI_clamp (by omega)] <;> rfl) ?_
    refine vx_ldcS (i := 6) dX9_wordOf_52 rfl ?_
    refine vx_iload_n dX9_wordOf_54 rfl ?_
    refine vx_iload_n dX9_wordOf_55 rfl ?_
    refine vx_iadd dX9_wordOf_56 ?_
    refine vx_eq (st2 := [.inl 14, vx_r 1006, .inl (μ 55 (p + 3))]) rfl rfl (by rfl) ?_
    refine vx_callK (i := 6) (vs := [.inl 14]) (st := [.inl (μ 55 (p + 3))]) (r0 := (some (.inl 97))) (μ0 := μ) dX9_wordOf_57 ((c_J0_charAt_5068e (d - 1) (by omega) ad 82 vx_lay μ 6 (by decide) 14 (by decide)).to (congrArg (fun z => some (Sum.inl z)) (mo_chr 14 (by omega))) rfl) wd_930 wd_446 wd_55 hy_J0_charAt_5068e wd_444 wd_445 (by decide) rfl (by omega) (Nat.le_of_ble_eq_true rfl) (Nat.le_of_ble_eq_true rfl) (Nat.le_refl 0) (Nat.le_refl 0) ?_
    refine vx_eq (μ2 := μ) (ls2 := [(3, .inl 3), (2, .inl 11), (1, .inl 2), (0, vx_r 54)]) (st2 := [.inl 97, .inl (μ 55 (p + 3))]) rfl rfl rfl ?_
    refine vx_icmp_ne (tgt := 69) dX9_wordOf_60 (by decide) (fun c_60_12 => ?_) (fun c_60_12 => ?_)
    · refine vx_ldcS (i := 6) dX9_wordOf_69 rfl ?_
      refine vx_iload_n dX9_wordOf_71 rfl ?_
      refine vx_iload_n dX9_wordOf_72 rfl ?_
      refine vx_iadd dX9_wordOf_73 ?_
      refine vx_eq (st2 := [.inl 14, vx_r 1006]) rfl rfl (by rfl) ?_
      refine vx_callK (i := 6) (vs := [.inl 14]) (st := []) (r0 := (some (.inl 97))) (μ0 := μ) dX9_wordOf_74 ((c_J0_charAt_5068e (d - 1) (by omega) ad 82 vx_lay μ 6 (by decide) 14 (by decide)).to (congrArg (fun z => some (Sum.inl z)) (mo_chr 14 (by omega))) rfl) wd_930 wd_446 wd_55 hy_J0_charAt_5068e wd_444 wd_445 (by decide) rfl (by omega) (Nat.le_of_ble_eq_true rfl) (Nat.le_of_ble_eq_true rfl) (Nat.le_refl 0) (Nat.le_refl 0) ?_
      refine vx_eq (μ2 := μ) (ls2 := [(3, .inl 3), (2, .inl 11), (1, .inl 2), (0, vx_r 54)]) (st2 := [.inl 97]) rfl rfl rfl ?_
      refine vx_bipush (v := 32) dX9_wordOf_77 (by decide) ?_
      refine vx_icmp_ne (tgt := 97) dX9_wordOf_79 (by decide) (fun _ => ?_) (fun h => absurd h (by decide))
      refine vx_keep (ls2 := [(2, .inl 11), (1, .inl 2), (0, vx_r 54)]) ⟨rfl, rfl, rfl, trivial⟩ ?_
      exact mo_s2 hd hp hq hpq hq3 (hno (mo_isw_ne (j := 3) (by rw [mo_ll_2]; omega) (by rw [mo_ch_2_3]; exact c_60_12)))
    · refine vx_iinc (v := 4) (ls2 := [(3, .inl 4), (2, .inl 11), (1, .inl 2), (0, vx_r 54)]) dX9_wordOf_63 rfl (by decide) (by decide) rfl ?_
      refine vx_goto (tgt := 15) dX9_wordOf_66 (by decide) ?_
      exact mo_w2_4 hd hp hq hpq hq3 hyes hno m0 m1 m2 (by rw [mo_ch_2_3]; exact c_60_12)
set_option maxRecDepth 20000 in
set_option maxHeartbeats 2000000 in
theorem mo_w2_2 {d : Nat} (hd : 4 ≤ d) {ad : Nat → Nat} {μ : vx_mem} {p q : Nat} (hp : μ 54 11 = nI p) (hq : μ 54 10 = nI q) (hpq : p ≤ q) (hq3 : q ≤ 300) {Post : vx_P} {ini : Bool} (hyes : ¬ sp_isw (μ 55) p q 2 = 0 → Post (some (.inl 2)) ad 82 vx_lay μ) (hno : sp_isw (μ 55) p q 2 = 0 → vx_J RX9 cX9_wordOf 4 (some (.int)) ini d 0 0 Post ad 0 0 82 vx_lay μ 4 [(2, .inl 19), (1, .inl 3), (0, vx_r 54)] []) (m0 : μ 55 (p + 0) = sp_chr 2 0) (m1 : μ 55 (p + 1) = sp_chr 2 1) : vx_J RX9 cX9_wordOf 4 (some (.int)) ini d 0 0 Post ad 0 0 82 vx_lay μ 15 [(3, .inl 2), (2, .inl 11), (1, .inl 2), (0, vx_r 54)] [] := by
  refine vx_ldcS (i := 6) dX9_wordOf_15 rfl ?_
  refine vx_iload_n dX9_wordOf_17 rfl ?_
  refine vx_iload_n dX9_wordOf_18 rfl ?_
  refine vx_iadd dX9_wordOf_19 ?_
  refine vx_eq (st2 := [.inl 13, vx_r 1006]) rfl rfl (by rfl) ?_
  refine vx_callK (i := 6) (vs := [.inl 13]) (st := []) (r0 := (some (.inl 101))) (μ0 := μ) dX9_wordOf_20 ((c_J0_charAt_5068e (d - 1) (by omega) ad 82 vx_lay μ 6 (by decide) 13 (by decide)).to (congrArg (fun z => some (Sum.inl z)) (mo_chr 13 (by omega))) rfl) wd_930 wd_446 wd_55 hy_J0_charAt_5068e wd_444 wd_445 (by decide) rfl (by omega) (Nat.le_of_ble_eq_true rfl) (Nat.le_of_ble_eq_true rfl) (Nat.le_refl 0) (Nat.le_refl 0) ?_
  refine vx_eq (μ2 := μ) (ls2 := [(3, .inl 2), (2, .inl 11), (1, .inl 2), (0, vx_r 54)]) (st2 := [.inl 101]) rfl rfl rfl ?_
  refine vx_bipush (v := 32) dX9_wordOf_23 (by decide) ?_
  refine vx_icmp_eq (tgt := 69) dX9_wordOf_25 (by decide) (fun h => absurd h (by decide)) (fun _ => ?_)
  refine vx_aload_n dX9_wordOf_28 rfl ?_
  refine vx_getI (ci := 9) (T := TX9) (n := 56) (j := 11) (a := 54) (v := (nI p)) dX9_wordOf_29 rfl lay_X9 (by decide) wd_747 (by decide) ly_54 rfl hp ?_
  refine vx_iload_n dX9_wordOf_32 rfl ?_
  refine vx_iadd dX9_wordOf_33 ?_
  refine vx_eq (st2 := [.inl (nI (p + 2))]) rfl rfl (by rw [show (2 : Int32) = nI 2 from rfl, nI_add]) ?_
  refine vx_aload_n dX9_wordOf_34 rfl ?_
  refine vx_getI (ci := 9) (T := TX9) (n := 56) (j := 10) (a := 54) (v := (nI q)) dX9_wordOf_35 rfl lay_X9 (by decide) wd_746 (by decide) ly_54 rfl hq ?_
  refine vx_icmp_ge (tgt := 69) dX9_wordOf_38 (by decide) (fun c_38_13 => ?_) (fun c_38_13 => ?_)
  · refine vx_ldcS (i := 6) dX9_wordOf_69 rfl ?_
    refine vx_iload_n dX9_wordOf_71 rfl ?_
    refine vx_iload_n dX9_wordOf_72 rfl ?_
    refine vx_iadd dX9_wordOf_73 ?_
    refine vx_eq (st2 := [.inl 13, vx_r 1006]) rfl rfl (by rfl) ?_
    refine vx_callK (i := 6) (vs := [.inl 13]) (st := []) (r0 := (some (.inl 101))) (μ0 := μ) dX9_wordOf_74 ((c_J0_charAt_5068e (d - 1) (by omega) ad 82 vx_lay μ 6 (by decide) 13 (by decide)).to (congrArg (fun z => some (Sum.inl z)) (mo_chr 13 (by omega))) rfl) wd_930 wd_446 wd_55 hy_J0_charAt_5068e wd_444 wd_445 (by decide) rfl (by omega) (Nat.le_of_ble_eq_true rfl) (Nat.le_of_ble_eq_true rfl) (Nat.le_refl 0) (Nat.le_refl 0) ?_
    refine vx_eq (μ2 := μ) (ls2 := [(3, .inl 2), (2, .inl 11), (1, .inl 2), (0, vx_r 54)]) (st2 := [.inl 101]) rfl rfl rfl ?_
    refine vx_bipush (v := 32) dX9_wordOf_77 (by decide) ?_
    refine vx_icmp_ne (tgt := 97) dX9_wordOf_79 (by decide) (fun _ => ?_) (fun h => absurd h (by decide))
    refine vx_keep (ls2 := [(2, .inl 11), (1, .inl 2), (0, vx_r 54)]) ⟨rfl, rfl, rfl, trivial⟩ ?_
    exact mo_s2 hd hp hq hpq hq3 (hno (mo_isw_len (by rw [mo_ll_2]; have h9 := c_38_13; rw [nI_leI (by omega) (by omega)] at h9; omega)))
  · refine vx_aload_n dX9_wordOf_41 rfl ?_
    refine vx_getR (ci := 9) (T := TX9) (n := 56) (j := 1) (a := 54) (r := 55) dX9_wordOf_42 rfl lay_X9 (by decide) wd_737 (by decide) ly_54 rfl ?_
    refine vx_aload_n dX9_wordOf_45 rfl ?_
    refine vx_getI (ci := 9) (T := TX9) (n := 56) (j := 11) (a := 54) (v := (nI p)) dX9_wordOf_46 rfl lay_X9 (by decide) wd_747 (by decide) ly_54 rfl hp ?_
    refine vx_iload_n dX9_wordOf_49 rfl ?_
    refine vx_iadd dX9_wordOf_50 ?_
    refine vx_eq (st2 := [.inl (nI (p + 2)), vx_r 55]) rfl rfl (by rw [show (2 : Int32) = nI 2 from rfl, nI_add]) ?_
    refine vx_iald (a := 55) (n := 300) (v := (μ 55 (p + 2))) dX9_wordOf_51 (by decide) ly_55 (vp_in_nI (by have h9 := c_38_13; rw [nI_leI (by omega) (by omega)] at h9; omega) (by omega)) (by rw [nI_clamp (by omega)] <;> rfl) ?_
    refine vx_ldcS (i := 6) dX9_wordOf_52 rfl ?_
    refine vx_iload_n dX9_wordOf_54 rfl ?_
    refine vx_iload_n dX9_wordOf_55 rfl ?_
    refine vx_iadd dX9_wordOf_56 ?_
    refine vx_eq (st2 := [.inl 13, vx_r 1006, .inl (μ 55 (p + 2))]) rfl rfl (by rfl) ?_
    refine vx_callK (i := 6) (vs := [.inl 13]) (st := [.inl (μ 55 (p + 2))]) (r0 := (some (.inl 101))) (μ0 := μ) dX9_wordOf_57 ((c_J0_charAt_5068e (d - 1) (by omega) ad 82 vx_lay μ 6 (by decide) 13 (by decide)).to (congrArg (fun z => some (Sum.inl z)) (mo_chr 13 (by omega))) rfl) wd_930 wd_446 wd_55 hy_J0_charAt_5068e wd_444 wd_445 (by decide) rfl (by omega) (Nat.le_of_ble_eq_true rfl) (Nat.le_of_ble_eq_true rfl) (Nat.le_refl 0) (Nat.le_refl 0) ?_
    refine vx_eq (μ2 := μ) (ls2 := [(3, .inl 2), (2, .inl 11), (1, .inl 2), (0, vx_r 54)]) (st2 := [.inl 101, .inl (μ 55 (p + 2))]) rfl rfl rfl ?_
    refine vx_icmp_ne (tgt := 69) dX9_wordOf_60 (by decide) (fun c_60_13 => ?_) (fun c_60_13 => ?_)
    · refine vx_ldcS (i := 6) dX9_wordOf_69 rfl ?_
      refine vx_iload_n dX9_wordOf_71 rfl ?_
      refine vx_iload_n dX9_wordOf_72 rfl ?_
      refine vx_iadd dX9_wordOf_73 ?_
      refine vx_eq (st2 := [.inl 13, vx_r 1006]) rfl rfl (by rfl) ?_
      refine vx_callK (i := 6) (vs := [.inl 13]) (st := []) (r0 := (some (.inl 101))) (μ0 := μ) dX9_wordOf_74 ((c_J0_charAt_5068e (d - 1) (by omega) ad 82 vx_lay μ 6 (by decide) 13 (by decide)).to (congrArg (fun z => some (Sum.inl z)) (mo_chr 13 (by omega))) rfl) wd_930 wd_446 wd_55 hy_J0_charAt_5068e wd_444 wd_445 (by decide) rfl (by omega) (Nat.le_of_ble_eq_true rfl) (Nat.le_of_ble_eq_true rfl) (Nat.le_refl 0) (Nat.le_refl 0) ?_
      refine vx_eq (μ2 := μ) (ls2 := [(3, .inl 2), (2, .inl 11), (1, .inl 2), (0, vx_r 54)]) (st2 := [.inl 101]) rfl rfl rfl ?_
      refine vx_bipush (v := 32) dX9_wordOf_77 (by decide) ?_
      refine vx_icmp_ne (tgt := 97) dX9_wordOf_79 (by decide) (fun _ => ?_) (fun h => absurd h (by decide))
      refine vx_keep (ls2 := [(2, .inl 11), (1, .inl 2), (0, vx_r 54)]) ⟨rfl, rfl, rfl, trivial⟩ ?_
      exact mo_s2 hd hp hq hpq hq3 (hno (mo_isw_ne (j := 2) (by rw [mo_ll_2]; omega) (by rw [mo_ch_2_2]; exact c_60_13)))
    · refine vx_iinc (v := 3) (ls2 := [(3, .inl 3), (2, .inl 11), (1, .inl 2), (0, vx_r 54)]) dX9_wordOf_63 rfl (by decide) (by decide) rfl ?_
      refine vx_goto (tgt := 15) dX9_wordOf_66 (by decide) ?_
      exact mo_w2_3 hd hp hq hpq hq3 hyes hno m0 m1 (by rw [mo_ch_2_2]; exact c_60_13)
set_option maxRecDepth 20000 in
set_option maxHeartbeats 2000000 in
theorem mo_w2_1 {d : Nat} (hd : 4 ≤ d) {ad : Nat → Nat} {μ : vx_mem} {p q : Nat} (hp : μ 54 11 = nI p) (hq : μ 54 10 = nI q) (hpq : p ≤ q) (hq3 : q ≤ 300) {Post : vx_P} {ini : Bool} (hyes : ¬ sp_isw (μ 55) p q 2 = 0 → Post (some (.inl 2)) ad 82 vx_lay μ) (hno : sp_isw (μ 55) p q 2 = 0 → vx_J RX9 cX9_wordOf 4 (some (.int)) ini d 0 0 Post ad 0 0 82 vx_lay μ 4 [(2, .inl 19), (1, .inl 3), (0, vx_r 54)] []) (m0 : μ 55 (p + 0) = sp_chr 2 0) : vx_J RX9 cX9_wordOf 4 (some (.int)) ini d 0 0 Post ad 0 0 82 vx_lay μ 15 [(3, .inl 1), (2, .inl 11), (1, .inl 2), (0, vx_r 54)] [] := by
  refine vx_ldcS (i := 6) dX9_wordOf_15 rfl ?_
  refine vx_iload_n dX9_wordOf_17 rfl ?_
  refine vx_iload_n dX9_wordOf_18 rfl ?_
  refine vx_iadd dX9_wordOf_19 ?_
  refine vx_eq (st2 := [.inl 12, vx_r 1006]) rfl rfl (by rfl) ?_
  refine vx_callK (i := 6) (vs := [.inl 12]) (st := []) (r0 := (some (.inl 104))) (μ0 := μ) dX9_wordOf_20 ((c_J0_charAt_5068e (d - 1) (by omega) ad 82 vx_lay μ 6 (by decide) 12 (by decide)).to (congrArg (fun z => some (Sum.inl z)) (mo_chr 12 (by omega))) rfl) wd_930 wd_446 wd_55 hy_J0_charAt_5068e wd_444 wd_445 (by decide) rfl (by omega) (Nat.le_of_ble_eq_true rfl) (Nat.le_of_ble_eq_true rfl) (Nat.le_refl 0) (Nat.le_refl 0) ?_
  refine vx_eq (μ2 := μ) (ls2 := [(3, .inl 1), (2, .inl 11), (1, .inl 2), (0, vx_r 54)]) (st2 := [.inl 104]) rfl rfl rfl ?_
  refine vx_bipush (v := 32) dX9_wordOf_23 (by decide) ?_
  refine vx_icmp_eq (tgt := 69) dX9_wordOf_25 (by decide) (fun h => absurd h (by decide)) (fun _ => ?_)
  refine vx_aload_n dX9_wordOf_28 rfl ?_
  refine vx_getI (ci := 9) (T := TX9) (n := 56) (j := 11) (a := 54) (v := (nI p)) dX9_wordOf_29 rfl lay_X9 (by decide) wd_747 (by decide) ly_54 rfl hp ?_
  refine vx_iload_n dX9_wordOf_32 rfl ?_
  refine vx_iadd dX9_wordOf_33 ?_
  refine vx_eq (st2 := [.inl (nI (p + 1))]) rfl rfl (by rw [show (1 : Int32) = nI 1 from rfl, nI_add]) ?_
  refine vx_aload_n dX9_wordOf_34 rfl ?_
  refine vx_getI (ci := 9) (T := TX9) (n := 56) (j := 10) (a := 54) (v := (nI q)) dX9_wordOf_35 rfl lay_X9 (by decide) wd_746 (by decide) ly_54 rfl hq ?_
  refine vx_icmp_ge (tgt := 69) dX9_wordOf_38 (by decide) (fun c_38_14 => ?_) (fun c_38_14 => ?_)
  · refine vx_ldcS (i := 6) dX9_wordOf_69 rfl ?_
    refine vx_iload_n dX9_wordOf_71 rfl ?_
    refine vx_iload_n dX9_wordOf_72 rfl ?_
    refine vx_iadd dX9_wordOf_73 ?_
    refine vx_eq (st2 := [.inl 12, vx_r 1006]) rfl rfl (by rfl) ?_
    refine vx_callK (i := 6) (vs := [.inl 12]) (st := []) (r0 := (some (.inl 104))) (μ0 := μ) dX9_wordOf_74 ((c_J0_charAt_5068e (d - 1) (by omega) ad 82 vx_lay μ 6 (by decide) 12 (by decide)).to (congrArg (fun z => some (Sum.inl z)) (mo_chr 12 (by omega))) rfl) wd_930 wd_446 wd_55 hy_J0_charAt_5068e wd_444 wd_445 (by decide) rfl (by omega) (Nat.le_of_ble_eq_true rfl) (Nat.le_of_ble_eq_true rfl) (Nat.le_refl 0) (Nat.le_refl 0) ?_
    refine vx_eq (μ2 := μ) (ls2 := [(3, .inl 1), (2, .inl 11), (1, .inl 2), (0, vx_r 54)]) (st2 := [.inl 104]) rfl rfl rfl ?_
    refine vx_bipush (v := 32) dX9_wordOf_77 (by decide) ?_
    refine vx_icmp_ne (tgt := 97) dX9_wordOf_79 (by decide) (fun _ => ?_) (fun h => absurd h (by decide))
    refine vx_keep (ls2 := [(2, .inl 11), (1, .inl 2), (0, vx_r 54)]) ⟨rfl, rfl, rfl, trivial⟩ ?_
    exact mo_s2 hd hp hq hpq hq3 (hno (mo_isw_len (by rw [mo_ll_2]; have h9 := c_38_14; rw [nI_leI (by omega) (by omega)] at h9; omega)))
  · refine vx_aload_n dX9_wordOf_41 rfl ?_
    refine vx_getR (ci := 9) (T := TX9) (n := 56) (j := 1) (a := 54) (r := 55) dX9_wordOf_42 rfl lay_X9 (by decide) wd_737 (by decide) ly_54 rfl ?_
    refine vx_aload_n dX9_wordOf_45 rfl ?_
    refine vx_getI (ci := 9) (T := TX9) (n := 56) (j := 11) (a := 54) (v := (nI p)) dX9_wordOf_46 rfl lay_X9 (by decide) wd_747 (by decide) ly_54 rfl hp ?_
    refine vx_iload_n dX9_wordOf_49 rfl ?_
    refine vx_iadd dX9_wordOf_50 ?_
    refine vx_eq (st2 := [.inl (nI (p + 1)), vx_r 55]) rfl rfl (by rw [show (1 : Int32) = nI 1 from rfl, nI_add]) ?_
    refine vx_iald (a := 55) (n := 300) (v := (μ 55 (p + 1))) dX9_wordOf_51 (by decide) ly_55 (vp_in_nI (by have h9 := c_38_14; rw [nI_leI (by omega) (by omega)] at h9; omega) (by omega)) (by rw [nI_clamp (by omega)] <;> rfl) ?_
    refine vx_ldcS (i := 6) dX9_wordOf_52 rfl ?_
    refine vx_iload_n dX9_wordOf_54 rfl ?_
    refine vx_iload_n dX9_wordOf_55 rfl ?_
    refine vx_iadd dX9_wordOf_56 ?_
    refine vx_eq (st2 := [.inl 12, vx_r 1006, .inl (μ 55 (p + 1))]) rfl rfl (by rfl) ?_
    refine vx_callK (i := 6) (vs := [.inl 12]) (st := [.inl (μ 55 (p + 1))]) (r0 := (some (.inl 104))) (μ0 := μ) dX9_wordOf_57 ((c_J0_charAt_5068e (d - 1) (by omega) ad 82 vx_lay μ 6 (by decide) 12 (by decide)).to (congrArg (fun z => some (Sum.inl z)) (mo_chr 12 (by omega))) rfl) wd_930 wd_446 wd_55 hy_J0_charAt_5068e wd_444 wd_445 (by decide) rfl (by omega) (Nat.le_of_ble_eq_true rfl) (Nat.le_of_ble_eq_true rfl) (Nat.le_refl 0) (Nat.le_refl 0) ?_
    refine vx_eq (μ2 := μ) (ls2 := [(3, .inl 1), (2, .inl 11), (1, .inl 2), (0, vx_r 54)]) (st2 := [.inl 104, .inl (μ 55 (p + 1))]) rfl rfl rfl ?_
    refine vx_icmp_ne (tgt := 69) dX9_wordOf_60 (by decide) (fun c_60_14 => ?_) (fun c_60_14 => ?_)
    · refine vx_ldcS (i := 6) dX9_wordOf_69 rfl ?_
      refine vx_iload_n dX9_wordOf_71 rfl ?_
      refine vx_iload_n dX9_wordOf_72 rfl ?_
      refine vx_iadd dX9_wordOf_73 ?_
      refine vx_eq (st2 := [.inl 12, vx_r 1006]) rfl rfl (by rfl) ?_
      refine vx_callK (i := 6) (vs := [.inl 12]) (st := []) (r0 := (some (.inl 104))) (μ0 := μ) dX9_wordOf_74 ((c_J0_charAt_5068e (d - 1) (by omega) ad 82 vx_lay μ 6 (by decide) 12 (by decide)).to (congrArg (fun z => some (Sum.inl z)) (mo_chr 12 (by omega))) rfl) wd_930 wd_446 wd_55 hy_J0_charAt_5068e wd_444 wd_445 (by decide) rfl (by omega) (Nat.le_of_ble_eq_true rfl) (Nat.le_of_ble_eq_true rfl) (Nat.le_refl 0) (Nat.le_refl 0) ?_
      refine vx_eq (μ2 := μ) (ls2 := [(3, .inl 1), (2, .inl 11), (1, .inl 2), (0, vx_r 54)]) (st2 := [.inl 104]) rfl rfl rfl ?_
      refine vx_bipush (v := 32) dX9_wordOf_77 (by decide) ?_
      refine vx_icmp_ne (tgt := 97) dX9_wordOf_79 (by decide) (fun _ => ?_) (fun h => absurd h (by decide))
      refine vx_keep (ls2 := [(2, .inl 11), (1, .inl 2), (0, vx_r 54)]) ⟨rfl, rfl, rfl, trivial⟩ ?_
      exact mo_s2 hd hp hq hpq hq3 (hno (mo_isw_ne (j := 1) (by rw [mo_ll_2]; omega) (by rw [mo_ch_2_1]; exact c_60_14)))
    · refine vx_iinc (v := 2) (ls2 := [(3, .inl 2), (2, .inl 11), (1, .inl 2), (0, vx_r 54)]) dX9_wordOf_63 rfl (by decide) (by decide) rfl ?_
      refine vx_goto (tgt := 15) dX9_wordOf_66 (by decide) ?_
      exact mo_w2_2 hd hp hq hpq hq3 hyes hno m0 (by rw [mo_ch_2_1]; exact c_60_14)
set_option maxRecDepth 20000 in
set_option maxHeartbeats 2000000 in
theorem mo_w2_0 {d : Nat} (hd : 4 ≤ d) {ad : Nat → Nat} {μ : vx_mem} {p q : Nat} (hp : μ 54 11 = nI p) (hq : μ 54 10 = nI q) (hpq : p ≤ q) (hq3 : q ≤ 300) {Post : vx_P} {ini : Bool} (hyes : ¬ sp_isw (μ 55) p q 2 = 0 → Post (some (.inl 2)) ad 82 vx_lay μ) (hno : sp_isw (μ 55) p q 2 = 0 → vx_J RX9 cX9_wordOf 4 (some (.int)) ini d 0 0 Post ad 0 0 82 vx_lay μ 4 [(2, .inl 19), (1, .inl 3), (0, vx_r 54)] []) : vx_J RX9 cX9_wordOf 4 (some (.int)) ini d 0 0 Post ad 0 0 82 vx_lay μ 15 [(3, .inl 0), (2, .inl 11), (1, .inl 2), (0, vx_r 54)] [] := by
  refine vx_ldcS (i := 6) dX9_wordOf_15 rfl ?_
  refine vx_iload_n dX9_wordOf_17 rfl ?_
  refine vx_iload_n dX9_wordOf_18 rfl ?_
  refine vx_iadd dX9_wordOf_19 ?_
  refine vx_eq (st2 := [.inl 11, vx_r 1006]) rfl rfl (by rfl) ?_
  refine vx_callK (i := 6) (vs := [.inl 11]) (st := []) (r0 := (some (.inl 115))) (μ0 := μ) dX9_wordOf_20 ((c_J0_charAt_5068e (d - 1) (by omega) ad 82 vx_lay μ 6 (by decide) 11 (by decide)).to (congrArg (fun z => some (Sum.inl z)) (mo_chr 11 (by omega))) rfl) wd_930 wd_446 wd_55 hy_J0_charAt_5068e wd_444 wd_445 (by decide) rfl (by omega) (Nat.le_of_ble_eq_true rfl) (Nat.le_of_ble_eq_true rfl) (Nat.le_refl 0) (Nat.le_refl 0) ?_
  refine vx_eq (μ2 := μ) (ls2 := [(3, .inl 0), (2, .inl 11), (1, .inl 2), (0, vx_r 54)]) (st2 := [.inl 115]) rfl rfl rfl ?_
  refine vx_bipush (v := 32) dX9_wordOf_23 (by decide) ?_
  refine vx_icmp_eq (tgt := 69) dX9_wordOf_25 (by decide) (fun h => absurd h (by decide)) (fun _ => ?_)
  refine vx_aload_n dX9_wordOf_28 rfl ?_
  refine vx_getI (ci := 9) (T := TX9) (n := 56) (j := 11) (a := 54) (v := (nI p)) dX9_wordOf_29 rfl lay_X9 (by decide) wd_747 (by decide) ly_54 rfl hp ?_
  refine vx_iload_n dX9_wordOf_32 rfl ?_
  refine vx_iadd dX9_wordOf_33 ?_
  refine vx_eq (st2 := [.inl (nI p)]) rfl rfl (by rw [show (0 : Int32) = nI 0 from rfl, nI_add]; rfl) ?_
  refine vx_aload_n dX9_wordOf_34 rfl ?_
  refine vx_getI (ci := 9) (T := TX9) (n := 56) (j := 10) (a := 54) (v := (nI q)) dX9_wordOf_35 rfl lay_X9 (by decide) wd_746 (by decide) ly_54 rfl hq ?_
  refine vx_icmp_ge (tgt := 69) dX9_wordOf_38 (by decide) (fun c_38_15 => ?_) (fun c_38_15 => ?_)
  · refine vx_ldcS (i := 6) dX9_wordOf_69 rfl ?_
    refine vx_iload_n dX9_wordOf_71 rfl ?_
    refine vx_iload_n dX9_wordOf_72 rfl ?_
    refine vx_iadd dX9_wordOf_73 ?_
    refine vx_eq (st2 := [.inl 11, vx_r 1006]) rfl rfl (by rfl) ?_
    refine vx_callK (i := 6) (vs := [.inl 11]) (st := []) (r0 := (some (.inl 115))) (μ0 := μ) dX9_wordOf_74 ((c_J0_charAt_5068e (d - 1) (by omega) ad 82 vx_lay μ 6 (by decide) 11 (by decide)).to (congrArg (fun z => some (Sum.inl z)) (mo_chr 11 (by omega))) rfl) wd_930 wd_446 wd_55 hy_J0_charAt_5068e wd_444 wd_445 (by decide) rfl (by omega) (Nat.le_of_ble_eq_true rfl) (Nat.le_of_ble_eq_true rfl) (Nat.le_refl 0) (Nat.le_refl 0) ?_
    refine vx_eq (μ2 := μ) (ls2 := [(3, .inl 0), (2, .inl 11), (1, .inl 2), (0, vx_r 54)]) (st2 := [.inl 115]) rfl rfl rfl ?_
    refine vx_bipush (v := 32) dX9_wordOf_77 (by decide) ?_
    refine vx_icmp_ne (tgt := 97) dX9_wordOf_79 (by decide) (fun _ => ?_) (fun h => absurd h (by decide))
    refine vx_keep (ls2 := [(2, .inl 11), (1, .inl 2), (0, vx_r 54)]) ⟨rfl, rfl, rfl, trivial⟩ ?_
    exact mo_s2 hd hp hq hpq hq3 (hno (mo_isw_len (by rw [mo_ll_2]; have h9 := c_38_15; rw [nI_leI (by omega) (by omega)] at h9; omega)))
  · refine vx_aload_n dX9_wordOf_41 rfl ?_
    refine vx_getR (ci := 9) (T := TX9) (n := 56) (j := 1) (a := 54) (r := 55) dX9_wordOf_42 rfl lay_X9 (by decide) wd_737 (by decide) ly_54 rfl ?_
    refine vx_aload_n dX9_wordOf_45 rfl ?_
    refine vx_getI (ci := 9) (T := TX9) (n := 56) (j := 11) (a := 54) (v := (nI p)) dX9_wordOf_46 rfl lay_X9 (by decide) wd_747 (by decide) ly_54 rfl hp ?_
    refine vx_iload_n dX9_wordOf_49 rfl ?_
    refine vx_iadd dX9_wordOf_50 ?_
    refine vx_eq (st2 := [.inl (nI p), vx_r 55]) rfl rfl (by rw [show (0 : Int32) = nI 0 from rfl, nI_add]; rfl) ?_
    refine vx_iald (a := 55) (n := 300) (v := (μ 55 p)) dX9_wordOf_51 (by decide) ly_55 (vp_in_nI (by have h9 := c_38_15; rw [nI_leI (by omega) (by omega)] at h9; omega) (by omega)) (by rw [nI_clamp (by omega)] <;> rfl) ?_
    refine vx_ldcS (i := 6) dX9_wordOf_52 rfl ?_
    refine vx_iload_n dX9_wordOf_54 rfl ?_
    refine vx_iload_n dX9_wordOf_55 rfl ?_
    refine vx_iadd dX9_wordOf_56 ?_
    refine vx_eq (st2 := [.inl 11, vx_r 1006, .inl (μ 55 p)]) rfl rfl (by rfl) ?_
    refine vx_callK (i := 6) (vs := [.inl 11]) (st := [.inl (μ 55 p)]) (r0 := (some (.inl 115))) (μ0 := μ) dX9_wordOf_57 ((c_J0_charAt_5068e (d - 1) (by omega) ad 82 vx_lay μ 6 (by decide) 11 (by decide)).to (congrArg (fun z => some (Sum.inl z)) (mo_chr 11 (by omega))) rfl) wd_930 wd_446 wd_55 hy_J0_charAt_5068e wd_444 wd_445 (by decide) rfl (by omega) (Nat.le_of_ble_eq_true rfl) (Nat.le_of_ble_eq_true rfl) (Nat.le_refl 0) (Nat.le_refl 0) ?_
    refine vx_eq (μ2 := μ) (ls2 := [(3, .inl 0), (2, .inl 11), (1, .inl 2), (0, vx_r 54)]) (st2 := [.inl 115, .inl (μ 55 p)]) rfl rfl rfl ?_
    refine vx_icmp_ne (tgt := 69) dX9_wordOf_60 (by decide) (fun c_60_15 => ?_) (fun c_60_15 => ?_)
    · refine vx_ldcS (i := 6) dX9_wordOf_69 rfl ?_
      refine vx_iload_n dX9_wordOf_71 rfl ?_
      refine vx_iload_n dX9_wordOf_72 rfl ?_
      refine vx_iadd dX9_wordOf_73 ?_
      refine vx_eq (st2 := [.inl 11, vx_r 1006]) rfl rfl (by rfl) ?_
      refine vx_callK (i := 6) (vs := [.inl 11]) (st := []) (r0 := (some (.inl 115))) (μ0 := μ) dX9_wordOf_74 ((c_J0_charAt_5068e (d - 1) (by omega) ad 82 vx_lay μ 6 (by decide) 11 (by decide)).to (congrArg (fun z => some (Sum.inl z)) (mo_chr 11 (by omega))) rfl) wd_930 wd_446 wd_55 hy_J0_charAt_5068e wd_444 wd_445 (by decide) rfl (by omega) (Nat.le_of_ble_eq_true rfl) (Nat.le_of_ble_eq_true rfl) (Nat.le_refl 0) (Nat.le_refl 0) ?_
      refine vx_eq (μ2 := μ) (ls2 := [(3, .inl 0), (2, .inl 11), (1, .inl 2), (0, vx_r 54)]) (st2 := [.inl 115]) rfl rfl rfl ?_
      refine vx_bipush (v := 32) dX9_wordOf_77 (by decide) ?_
      refine vx_icmp_ne (tgt := 97) dX9_wordOf_79 (by decide) (fun _ => ?_) (fun h => absurd h (by decide))
      refine vx_keep (ls2 := [(2, .inl 11), (1, .inl 2), (0, vx_r 54)]) ⟨rfl, rfl, rfl, trivial⟩ ?_
      exact mo_s2 hd hp hq hpq hq3 (hno (mo_isw_ne (j := 0) (by rw [mo_ll_2]; omega) (by rw [mo_ch_2_0]; exact c_60_15)))
    · refine vx_iinc (v := 1) (ls2 := [(3, .inl 1), (2, .inl 11), (1, .inl 2), (0, vx_r 54)]) dX9_wordOf_63 rfl (by decide) (by decide) rfl ?_
      refine vx_goto (tgt := 15) dX9_wordOf_66 (by decide) ?_
      exact mo_w2_1 hd hp hq hpq hq3 hyes hno (by rw [mo_ch_2_0]; exact c_60_15)
set_option maxRecDepth 20000 in
set_option maxHeartbeats 2000000 in
theorem mo_s3 {d : Nat} (hd : 4 ≤ d) {ad : Nat → Nat} {μ : vx_mem} {p q : Nat} (hp : μ 54 11 = nI p) (hq : μ 54 10 = nI q) (hpq : p ≤ q) (hq3 : q ≤ 300) {Post : vx_P} {ini : Bool} (hno : vx_J RX9 cX9_wordOf 4 (some (.int)) ini d 0 0 Post ad 0 0 82 vx_lay μ 4 [(2, .inl 24), (1, .inl 4), (0, vx_r 54)] []) : vx_J RX9 cX9_wordOf 4 (some (.int)) ini d 0 0 Post ad 0 0 82 vx_lay μ 97 [(2, .inl 19), (1, .inl 3), (0, vx_r 54)] [] := by
  refine vx_ldcS (i := 6) dX9_wordOf_97 rfl ?_
  refine vx_iload_n dX9_wordOf_99 rfl ?_
  refine vx_callK (i := 6) (vs := [.inl 19]) (st := []) (r0 := (some (.inl 108))) (μ0 := μ) dX9_wordOf_100 ((c_J0_charAt_5068e (d - 1) (by omega) ad 82 vx_lay μ 6 (by decide) 19 (by decide)).to (congrArg (fun z => some (Sum.inl z)) (mo_chr 19 (by omega))) rfl) wd_930 wd_446 wd_55 hy_J0_charAt_5068e wd_444 wd_445 (by decide) rfl (by omega) (Nat.le_of_ble_eq_true rfl) (Nat.le_of_ble_eq_true rfl) (Nat.le_refl 0) (Nat.le_refl 0) ?_
  refine vx_eq (μ2 := μ) (ls2 := [(2, .inl 19), (1, .inl 3), (0, vx_r 54)]) (st2 := [.inl 108]) rfl rfl rfl ?_
  refine vx_bipush (v := 32) dX9_wordOf_103 (by decide) ?_
  refine vx_icmp_eq (tgt := 114) dX9_wordOf_105 (by decide) (fun h => absurd h (by decide)) (fun _ => ?_)
  refine vx_iinc (v := 20) (ls2 := [(2, .inl 20), (1, .inl 3), (0, vx_r 54)]) dX9_wordOf_108 rfl (by decide) (by decide) rfl ?_
  refine vx_goto (tgt := 97) dX9_wordOf_111 (by decide) ?_
  refine vx_ldcS (i := 6) dX9_wordOf_97 rfl ?_
  refine vx_iload_n dX9_wordOf_99 rfl ?_
  refine vx_callK (i := 6) (vs := [.inl 20]) (st := []) (r0 := (some (.inl 97))) (μ0 := μ) dX9_wordOf_100 ((c_J0_charAt_5068e (d - 1) (by omega) ad 82 vx_lay μ 6 (by decide) 20 (by decide)).to (congrArg (fun z => some (Sum.inl z)) (mo_chr 20 (by omega))) rfl) wd_930 wd_446 wd_55 hy_J0_charAt_5068e wd_444 wd_445 (by decide) rfl (by omega) (Nat.le_of_ble_eq_true rfl) (Nat.le_of_ble_eq_true rfl) (Nat.le_refl 0) (Nat.le_refl 0) ?_
  refine vx_eq (μ2 := μ) (ls2 := [(2, .inl 20), (1, .inl 3), (0, vx_r 54)]) (st2 := [.inl 97]) rfl rfl rfl ?_
  refine vx_bipush (v := 32) dX9_wordOf_103 (by decide) ?_
  refine vx_icmp_eq (tgt := 114) dX9_wordOf_105 (by decide) (fun h => absurd h (by decide)) (fun _ => ?_)
  refine vx_iinc (v := 21) (ls2 := [(2, .inl 21), (1, .inl 3), (0, vx_r 54)]) dX9_wordOf_108 rfl (by decide) (by decide) rfl ?_
  refine vx_goto (tgt := 97) dX9_wordOf_111 (by decide) ?_
  refine vx_ldcS (i := 6) dX9_wordOf_97 rfl ?_
  refine vx_iload_n dX9_wordOf_99 rfl ?_
  refine vx_callK (i := 6) (vs := [.inl 21]) (st := []) (r0 := (some (.inl 116))) (μ0 := μ) dX9_wordOf_100 ((c_J0_charAt_5068e (d - 1) (by omega) ad 82 vx_lay μ 6 (by decide) 21 (by decide)).to (congrArg (fun z => some (Sum.inl z)) (mo_chr 21 (by omega))) rfl) wd_930 wd_446 wd_55 hy_J0_charAt_5068e wd_444 wd_445 (by decide) rfl (by omega) (Nat.le_of_ble_eq_true rfl) (Nat.le_of_ble_eq_true rfl) (Nat.le_refl 0) (Nat.le_refl 0) ?_
  refine vx_eq (μ2 := μ) (ls2 := [(2, .inl 21), (1, .inl 3), (0, vx_r 54)]) (st2 := [.inl 116]) rfl rfl rfl ?_
  refine vx_bipush (v := 32) dX9_wordOf_103 (by decide) ?_
  refine vx_icmp_eq (tgt := 114) dX9_wordOf_105 (by decide) (fun h => absurd h (by decide)) (fun _ => ?_)
  refine vx_iinc (v := 22) (ls2 := [(2, .inl 22), (1, .inl 3), (0, vx_r 54)]) dX9_wordOf_108 rfl (by decide) (by decide) rfl ?_
  refine vx_goto (tgt := 97) dX9_wordOf_111 (by decide) ?_
  refine vx_ldcS (i := 6) dX9_wordOf_97 rfl ?_
  refine vx_iload_n dX9_wordOf_99 rfl ?_
  refine vx_callK (i := 6) (vs := [.inl 22]) (st := []) (r0 := (some (.inl 101))) (μ0 := μ) dX9_wordOf_100 ((c_J0_charAt_5068e (d - 1) (by omega) ad 82 vx_lay μ 6 (by decide) 22 (by decide)).to (congrArg (fun z => some (Sum.inl z)) (mo_chr 22 (by omega))) rfl) wd_930 wd_446 wd_55 hy_J0_charAt_5068e wd_444 wd_445 (by decide) rfl (by omega) (Nat.le_of_ble_eq_true rfl) (Nat.le_of_ble_eq_true rfl) (Nat.le_refl 0) (Nat.le_refl 0) ?_
  refine vx_eq (μ2 := μ) (ls2 := [(2, .inl 22), (1, .inl 3), (0, vx_r 54)]) (st2 := [.inl 101]) rfl rfl rfl ?_
  refine vx_bipush (v := 32) dX9_wordOf_103 (by decide) ?_
  refine vx_icmp_eq (tgt := 114) dX9_wordOf_105 (by decide) (fun h => absurd h (by decide)) (fun _ => ?_)
  refine vx_iinc (v := 23) (ls2 := [(2, .inl 23), (1, .inl 3), (0, vx_r 54)]) dX9_wordOf_108 rfl (by decide) (by decide) rfl ?_
  refine vx_goto (tgt := 97) dX9_wordOf_111 (by decide) ?_
  refine vx_ldcS (i := 6) dX9_wordOf_97 rfl ?_
  refine vx_iload_n dX9_wordOf_99 rfl ?_
  refine vx_callK (i := 6) (vs := [.inl 23]) (st := []) (r0 := (some (.inl 32))) (μ0 := μ) dX9_wordOf_100 ((c_J0_charAt_5068e (d - 1) (by omega) ad 82 vx_lay μ 6 (by decide) 23 (by decide)).to (congrArg (fun z => some (Sum.inl z)) (mo_chr 23 (by omega))) rfl) wd_930 wd_446 wd_55 hy_J0_charAt_5068e wd_444 wd_445 (by decide) rfl (by omega) (Nat.le_of_ble_eq_true rfl) (Nat.le_of_ble_eq_true rfl) (Nat.le_refl 0) (Nat.le_refl 0) ?_
  refine vx_eq (μ2 := μ) (ls2 := [(2, .inl 23), (1, .inl 3), (0, vx_r 54)]) (st2 := [.inl 32]) rfl rfl rfl ?_
  refine vx_bipush (v := 32) dX9_wordOf_103 (by decide) ?_
  refine vx_icmp_eq (tgt := 114) dX9_wordOf_105 (by decide) (fun _ => ?_) (fun h => absurd h (by decide))
  refine vx_iinc (v := 24) (ls2 := [(2, .inl 24), (1, .inl 3), (0, vx_r 54)]) dX9_wordOf_114 rfl (by decide) (by decide) rfl ?_
  refine vx_iinc (v := 4) (ls2 := [(1, .inl 4), (2, .inl 24), (0, vx_r 54)]) dX9_wordOf_117 rfl (by decide) (by decide) rfl ?_
  refine vx_goto (tgt := 4) dX9_wordOf_120 (by decide) ?_
  refine vx_keep (ls2 := [(2, .inl 24), (1, .inl 4), (0, vx_r 54)]) ⟨rfl, rfl, rfl, trivial⟩ ?_
  exact hno
set_option maxRecDepth 20000 in
set_option maxHeartbeats 2000000 in
theorem mo_w3_4 {d : Nat} (hd : 4 ≤ d) {ad : Nat → Nat} {μ : vx_mem} {p q : Nat} (hp : μ 54 11 = nI p) (hq : μ 54 10 = nI q) (hpq : p ≤ q) (hq3 : q ≤ 300) {Post : vx_P} {ini : Bool} (hyes : ¬ sp_isw (μ 55) p q 3 = 0 → Post (some (.inl 3)) ad 82 vx_lay μ) (hno : sp_isw (μ 55) p q 3 = 0 → vx_J RX9 cX9_wordOf 4 (some (.int)) ini d 0 0 Post ad 0 0 82 vx_lay μ 4 [(2, .inl 24), (1, .inl 4), (0, vx_r 54)] []) (m0 : μ 55 (p + 0) = sp_chr 3 0) (m1 : μ 55 (p + 1) = sp_chr 3 1) (m2 : μ 55 (p + 2) = sp_chr 3 2) (m3 : μ 55 (p + 3) = sp_chr 3 3) : vx_J RX9 cX9_wordOf 4 (some (.int)) ini d 0 0 Post ad 0 0 82 vx_lay μ 15 [(3, .inl 4), (2, .inl 19), (1, .inl 3), (0, vx_r 54)] [] := by
  refine vx_ldcS (i := 6) dX9_wordOf_15 rfl ?_
  refine vx_iload_n dX9_wordOf_17 rfl ?_
  refine vx_iload_n dX9_wordOf_18 rfl ?_
  refine vx_iadd dX9_wordOf_19 ?_
  refine vx_eq (st2 := [.inl 23, vx_r 1006]) rfl rfl (by rfl) ?_
  refine vx_callK (i := 6) (vs := [.inl 23]) (st := []) (r0 := (some (.inl 32))) (μ0 := μ) dX9_wordOf_20 ((c_J0_charAt_5068e (d - 1) (by omega) ad 82 vx_lay μ 6 (by decide) 23 (by decide)).to (congrArg (fun z => some (Sum.inl z)) (mo_chr 23 (by omega))) rfl) wd_930 wd_446 wd_55 hy_J0_charAt_5068e wd_444 wd_445 (by decide) rfl (by omega) (Nat.le_of_ble_eq_true rfl) (Nat.le_of_ble_eq_true rfl) (Nat.le_refl 0) (Nat.le_refl 0) ?_
  refine vx_eq (μ2 := μ) (ls2 := [(3, .inl 4), (2, .inl 19), (1, .inl 3), (0, vx_r 54)]) (st2 := [.inl 32]) rfl rfl rfl ?_
  refine vx_bipush (v := 32) dX9_wordOf_23 (by decide) ?_
  refine vx_icmp_eq (tgt := 69) dX9_wordOf_25 (by decide) (fun _ => ?_) (fun h => absurd h (by decide))
  refine vx_ldcS (i := 6) dX9_wordOf_69 rfl ?_
  refine vx_iload_n dX9_wordOf_71 rfl ?_
  refine vx_iload_n dX9_wordOf_72 rfl ?_
  refine vx_iadd dX9_wordOf_73 ?_
  refine vx_eq (st2 := [.inl 23, vx_r 1006]) rfl rfl (by rfl) ?_
  refine vx_callK (i := 6) (vs := [.inl 23]) (st := []) (r0 := (some (.inl 32))) (μ0 := μ) dX9_wordOf_74 ((c_J0_charAt_5068e (d - 1) (by omega) ad 82 vx_lay μ 6 (by decide) 23 (by decide)).to (congrArg (fun z => some (Sum.inl z)) (mo_chr 23 (by omega))) rfl) wd_930 wd_446 wd_55 hy_J0_charAt_5068e wd_444 wd_445 (by decide) rfl (by omega) (Nat.le_of_ble_eq_true rfl) (Nat.le_of_ble_eq_true rfl) (Nat.le_refl 0) (Nat.le_refl 0) ?_
  refine vx_eq (μ2 := μ) (ls2 := [(3, .inl 4), (2, .inl 19), (1, .inl 3), (0, vx_r 54)]) (st2 := [.inl 32]) rfl rfl rfl ?_
  refine vx_bipush (v := 32) dX9_wordOf_77 (by decide) ?_
  refine vx_icmp_ne (tgt := 97) dX9_wordOf_79 (by decide) (fun h => absurd h (by decide)) (fun _ => ?_)
  refine vx_aload_n dX9_wordOf_82 rfl ?_
  refine vx_getI (ci := 9) (T := TX9) (n := 56) (j := 11) (a := 54) (v := (nI p)) dX9_wordOf_83 rfl lay_X9 (by decide) wd_747 (by decide) ly_54 rfl hp ?_
  refine vx_iload_n dX9_wordOf_86 rfl ?_
  refine vx_iadd dX9_wordOf_87 ?_
  refine vx_eq (st2 := [.inl (nI (p + 4))]) rfl rfl (by rw [show (4 : Int32) = nI 4 from rfl, nI_add]) ?_
  refine vx_aload_n dX9_wordOf_88 rfl ?_
  refine vx_getI (ci := 9) (T := TX9) (n := 56) (j := 10) (a := 54) (v := (nI q)) dX9_wordOf_89 rfl lay_X9 (by decide) wd_746 (by decide) ly_54 rfl hq ?_
  refine vx_icmp_ne (tgt := 97) dX9_wordOf_92 (by decide) (fun c_92_3 => ?_) (fun c_92_3 => ?_)
  · refine vx_keep (ls2 := [(2, .inl 19), (1, .inl 3), (0, vx_r 54)]) ⟨rfl, rfl, rfl, trivial⟩ ?_
    exact mo_s3 hd hp hq hpq hq3 (hno (mo_isw_len (by rw [mo_ll_3]; have h9 := c_92_3; rw [nI_eq (by omega) (by omega)] at h9; omega)))
  · have hl : q - p = 4 := by have h9 := c_92_3; rw [nI_eq (by omega) (by omega)] at h9; omega
    have hP := hyes (mo_isw_yes (by rw [mo_ll_3]; exact hl) (fun k hk => by
      rw [mo_ll_3] at hk
      rcases (show k = 0 ∨ k = 1 ∨ k = 2 ∨ k = 3 by omega) with rfl | rfl | rfl | rfl
      · exact m0
      · exact m1
      · exact m2
      · exact m3))
    refine vx_iload_n dX9_wordOf_95 rfl ?_
    exact vx_ret (ty := .int) dX9_wordOf_96 rfl rfl (Nat.le_refl 0) (Nat.le_refl 0) (hP)
set_option maxRecDepth 20000 in
set_option maxHeartbeats 2000000 in
theorem mo_w3_3 {d : Nat} (hd : 4 ≤ d) {ad : Nat → Nat} {μ : vx_mem} {p q : Nat} (hp : μ 54 11 = nI p) (hq : μ 54 10 = nI q) (hpq : p ≤ q) (hq3 : q ≤ 300) {Post : vx_P} {ini : Bool} (hyes : ¬ sp_isw (μ 55) p q 3 = 0 → Post (some (.inl 3)) ad 82 vx_lay μ) (hno : sp_isw (μ 55) p q 3 = 0 → vx_J RX9 cX9_wordOf 4 (some (.int)) ini d 0 0 Post ad 0 0 82 vx_lay μ 4 [(2, .inl 24), (1, .inl 4), (0, vx_r 54)] []) (m0 : μ 55 (p + 0) = sp_chr 3 0) (m1 : μ 55 (p + 1) = sp_chr 3 1) (m2 : μ 55 (p + 2) = sp_chr 3 2) : vx_J RX9 cX9_wordOf 4 (some (.int)) ini d 0 0 Post ad 0 0 82 vx_lay μ 15 [(3, .inl 3), (2, .inl 19), (1, .inl 3), (0, vx_r 54)] [] := by
  refine vx_ldcS (i := 6) dX9_wordOf_15 rfl ?_
  refine vx_iload_n dX9_wordOf_17 rfl ?_
  refine vx_iload_n dX9_wordOf_18 rfl ?_
  refine vx_iadd dX9_wordOf_19 ?_
  refine vx_eq (st2 := [.inl 22, vx_r 1006]) rfl rfl (by rfl) ?_
  refine vx_callK (i := 6) (vs := [.inl 22]) (st := []) (r0 := (some (.inl 101))) (μ0 := μ) dX9_wordOf_20 ((c_J0_charAt_5068e (d - 1) (by omega) ad 82 vx_lay μ 6 (by decide) 22 (by decide)).to (congrArg (fun z => some (Sum.inl z)) (mo_chr 22 (by omega))) rfl) wd_930 wd_446 wd_55 hy_J0_charAt_5068e wd_444 wd_445 (by decide) rfl (by omega) (Nat.le_of_ble_eq_true rfl) (Nat.le_of_ble_eq_true rfl) (Nat.le_refl 0) (Nat.le_refl 0) ?_
  refine vx_eq (μ2 := μ) (ls2 := [(3, .inl 3), (2, .inl 19), (1, .inl 3), (0, vx_r 54)]) (st2 := [.inl 101]) rfl rfl rfl ?_
  refine vx_bipush (v := 32) dX9_wordOf_23 (by decide) ?_
  refine vx_icmp_eq (tgt := 69) dX9_wordOf_25 (by decide) (fun h => absurd h (by decide)) (fun _ => ?_)
  refine vx_aload_n dX9_wordOf_28 rfl ?_
  refine vx_getI (ci := 9) (T := TX9) (n := 56) (j := 11) (a := 54) (v := (nI p)) dX9_wordOf_29 rfl lay_X9 (by decide) wd_747 (by decide) ly_54 rfl hp ?_
  refine vx_iload_n dX9_wordOf_32 rfl ?_
  refine vx_iadd dX9_wordOf_33 ?_
  refine vx_eq (st2 := [.inl (nI (p + 3))]) rfl rfl (by rw [show (3 : Int32) = nI 3 from rfl, nI_add]) ?_
  refine vx_aload_n dX9_wordOf_34 rfl ?_
  refine vx_getI (ci := 9) (T := TX9) (n := 56) (j := 10) (a := 54) (v := (nI q)) dX9_wordOf_35 rfl lay_X9 (by decide) wd_746 (by decide) ly_54 rfl hq ?_
  refine vx_icmp_ge (tgt := 69) dX9_wordOf_38 (by decide) (fun c_38_16 => ?_) (fun c_38_16 => ?_)
  · refine vx_ldcS (i := 6) dX9_wordOf_69 rfl ?_
    refine vx_iload_n dX9_wordOf_71 rfl ?_
    refine vx_iload_n dX9_wordOf_72 rfl ?_
    refine vx_iadd dX9_wordOf_73 ?_
    refine vx_eq (st2 := [.inl 22, vx_r 1006]) rfl rfl (by rfl) ?_
    refine vx_callK (i := 6) (vs := [.inl 22]) (st := []) (r0 := (some (.inl 101))) (μ0 := μ) dX9_wordOf_74 ((c_J0_charAt_5068e (d - 1) (by omega) ad 82 vx_lay μ 6 (by decide) 22 (by decide)).to (congrArg (fun z => some (Sum.inl z)) (mo_chr 22 (by omega))) rfl) wd_930 wd_446 wd_55 hy_J0_charAt_5068e wd_444 wd_445 (by decide) rfl (by omega) (Nat.le_of_ble_eq_true rfl) (Nat.le_of_ble_eq_true rfl) (Nat.le_refl 0) (Nat.le_refl 0) ?_
    refine vx_eq (μ2 := μ) (ls2 := [(3, .inl 3), (2, .inl 19), (1, .inl 3), (0, vx_r 54)]) (st2 := [.inl 101]) rfl rfl rfl ?_
    refine vx_bipush (v := 32) dX9_wordOf_77 (by decide) ?_
    refine vx_icmp_ne (tgt := 97) dX9_wordOf_79 (by decide) (fun _ => ?_) (fun h => absurd h (by decide))
    refine vx_keep (ls2 := [(2, .inl 19), (1, .inl 3), (0, vx_r 54)]) ⟨rfl, rfl, rfl, trivial⟩ ?_
    exact mo_s3 hd hp hq hpq hq3 (hno (mo_isw_len (by rw [mo_ll_3]; have h9 := c_38_16; rw [nI_leI (by omega) (by omega)] at h9; omega)))
  · refine vx_aload_n dX9_wordOf_41 rfl ?_
    refine vx_getR (ci := 9) (T := TX9) (n := 56) (j := 1) (a := 54) (r := 55) dX9_wordOf_42 rfl lay_X9 (by decide) wd_737 (by decide) ly_54 rfl ?_
    refine vx_aload_n dX9_wordOf_45 rfl ?_
    refine vx_getI (ci := 9) (T := TX9) (n := 56) (j := 11) (a := 54) (v := (nI p)) dX9_wordOf_46 rfl lay_X9 (by decide) wd_747 (by decide) ly_54 rfl hp ?_
    refine vx_iload_n dX9_wordOf_49 rfl ?_
    refine vx_iadd dX9_wordOf_50 ?_
    refine vx_eq (st2 := [.inl (nI (p + 3)), vx_r 55]) rfl rfl (by rw [show (3 : Int32) = nI 3 from rfl, nI_add]) ?_
    refine vx_iald (a := 55) (n := 300) (v := (μ 55 (p + 3))) dX9_wordOf_51 (by decide) ly_55 (vp_in_nI (by have h9 := c_38_16; rw [nI_leI (by omega) (by omega)] at h9; omega) (by omega)) (by rw [nI_clamp (by omega)] <;> rfl) ?_
    refine vx_ldcS (i := 6) dX9_wordOf_52 rfl ?_
    refine vx_iload_n dX9_wordOf_54 rfl ?_
    refine vx_iload_n dX9_wordOf_55 rfl ?_
    refine vx_iadd dX9_wordOf_56 ?_
    refine vx_eq (st2 := [.inl 22, vx_r 1006, .inl (μ 55 (p + 3))]) rfl rfl (by rfl) ?_
    refine vx_callK (i := 6) (vs := [.inl 22]) (st := [.inl (μ 55 (p + 3))]) (r0 := (some (.inl 101))) (μ0 := μ) dX9_wordOf_57 ((c_J0_charAt_5068e (d - 1) (by omega) ad 82 vx_lay μ 6 (by decide) 22 (by decide)).to (congrArg (fun z => some (Sum.inl z)) (mo_chr 22 (by omega))) rfl) wd_930 wd_446 wd_55 hy_J0_charAt_5068e wd_444 wd_445 (by decide) rfl (by omega) (Nat.le_of_ble_eq_true rfl) (Nat.le_of_ble_eq_true rfl) (Nat.le_refl 0) (Nat.le_refl 0) ?_
    refine vx_eq (μ2 := μ) (ls2 := [(3, .inl 3), (2, .inl 19), (1, .inl 3), (0, vx_r 54)]) (st2 := [.inl 101, .inl (μ 55 (p + 3))]) rfl rfl rfl ?_
    refine vx_icmp_ne (tgt := 69) dX9_wordOf_60 (by decide) (fun c_60_16 => ?_) (fun c_60_16 => ?_)
    · refine vx_ldcS (i := 6) dX9_wordOf_69 rfl ?_
      refine vx_iload_n dX9_wordOf_71 rfl ?_
      refine vx_iload_n dX9_wordOf_72 rfl ?_
      refine vx_iadd dX9_wordOf_73 ?_
      refine vx_eq (st2 := [.inl 22, vx_r 1006]) rfl rfl (by rfl) ?_
      refine vx_callK (i := 6) (vs := [.inl 22]) (st := []) (r0 := (some (.inl 101))) (μ0 := μ) dX9_wordOf_74 ((c_J0_charAt_5068e (d - 1) (by omega) ad 82 vx_lay μ 6 (by decide) 22 (by decide)).to (congrArg (fun z => some (Sum.inl z)) (mo_chr 22 (by omega))) rfl) wd_930 wd_446 wd_55 hy_J0_charAt_5068e wd_444 wd_445 (by decide) rfl (by omega) (Nat.le_of_ble_eq_true rfl) (Nat.le_of_ble_eq_true rfl) (Nat.le_refl 0) (Nat.le_refl 0) ?_
      refine vx_eq (μ2 := μ) (ls2 := [(3, .inl 3), (2, .inl 19), (1, .inl 3), (0, vx_r 54)]) (st2 := [.inl 101]) rfl rfl rfl ?_
      refine vx_bipush (v := 32) dX9_wordOf_77 (by decide) ?_
      refine vx_icmp_ne (tgt := 97) dX9_wordOf_79 (by decide) (fun _ => ?_) (fun h => absurd h (by decide))
      refine vx_keep (ls2 := [(2, .inl 19), (1, .inl 3), (0, vx_r 54)]) ⟨rfl, rfl, rfl, trivial⟩ ?_
      exact mo_s3 hd hp hq hpq hq3 (hno (mo_isw_ne (j := 3) (by rw [mo_ll_3]; omega) (by rw [mo_ch_3_3]; exact c_60_16)))
    · refine vx_iinc (v := 4) (ls2 := [(3, .inl 4), (2, .inl 19), (1, .inl 3), (0, vx_r 54)]) dX9_wordOf_63 rfl (by decide) (by decide) rfl ?_
      refine vx_goto (tgt := 15) dX9_wordOf_66 (by decide) ?_
      exact mo_w3_4 hd hp hq hpq hq3 hyes hno m0 m1 m2 (by rw [mo_ch_3_3]; exact c_60_16)
set_option maxRecDepth 20000 in
set_option maxHeartbeats 2000000 in
theorem mo_w3_2 {d : Nat} (hd : 4 ≤ d) {ad : Nat → Nat} {μ : vx_mem} {p q : Nat} (hp : μ 54 11 = nI p) (hq : μ 54 10 = nI q) (hpq : p ≤ q) (hq3 : q ≤ 300) {Post : vx_P} {ini : Bool} (hyes : ¬ sp_isw (μ 55) p q 3 = 0 → Post (some (.inl 3)) ad 82 vx_lay μ) (hno : sp_isw (μ 55) p q 3 = 0 → vx_J RX9 cX9_wordOf 4 (some (.int)) ini d 0 0 Post ad 0 0 82 vx_lay μ 4 [(2, .inl 24), (1, .inl 4), (0, vx_r 54)] []) (m0 : μ 55 (p + 0) = sp_chr 3 0) (m1 : μ 55 (p + 1) = sp_chr 3 1) : vx_J RX9 cX9_wordOf 4 (some (.int)) ini d 0 0 Post ad 0 0 82 vx_lay μ 15 [(3, .inl 2), (2, .inl 19), (1, .inl 3), (0, vx_r 54)] [] := by
  refine vx_ldcS (i := 6) dX9_wordOf_15 rfl ?_
  refine vx_iload_n dX9_wordOf_17 rfl ?_
  refine vx_iload_n dX9_wordOf_18 rfl ?_
  refine vx_iadd dX9_wordOf_19 ?_
  refine vx_eq (st2 := [.inl 21, vx_r 1006]) rfl rfl (by rfl) ?_
  refine vx_callK (i := 6) (vs := [.inl 21]) (st := []) (r0 := (some (.inl 116))) (μ0 := μ) dX9_wordOf_20 ((c_J0_charAt_5068e (d - 1) (by omega) ad 82 vx_lay μ 6 (by decide) 21 (by decide)).to (congrArg (fun z => some (Sum.inl z)) (mo_chr 21 (by omega))) rfl) wd_930 wd_446 wd_55 hy_J0_charAt_5068e wd_444 wd_445 (by decide) rfl (by omega) (Nat.le_of_ble_eq_true rfl) (Nat.le_of_ble_eq_true rfl) (Nat.le_refl 0) (Nat.le_refl 0) ?_
  refine vx_eq (μ2 := μ) (ls2 := [(3, .inl 2), (2, .inl 19), (1, .inl 3), (0, vx_r 54)]) (st2 := [.inl 116]) rfl rfl rfl ?_
  refine vx_bipush (v := 32) dX9_wordOf_23 (by decide) ?_
  refine vx_icmp_eq (tgt := 69) dX9_wordOf_25 (by decide) (fun h => absurd h (by decide)) (fun _ => ?_)
  refine vx_aload_n dX9_wordOf_28 rfl ?_
  refine vx_getI (ci := 9) (T := TX9) (n := 56) (j := 11) (a := 54) (v := (nI p)) dX9_wordOf_29 rfl lay_X9 (by decide) wd_747 (by decide) ly_54 rfl hp ?_
  refine vx_iload_n dX9_wordOf_32 rfl ?_
  refine vx_iadd dX9_wordOf_33 ?_
  refine vx_eq (st2 := [.inl (nI (p + 2))]) rfl rfl (by rw [show (2 : Int32) = nI 2 from rfl, nI_add]) ?_
  refine vx_aload_n dX9_wordOf_34 rfl ?_
  refine vx_getI (ci := 9) (T := TX9) (n := 56) (j := 10) (a := 54) (v := (nI q)) dX9_wordOf_35 rfl lay_X9 (by decide) wd_746 (by decide) ly_54 rfl hq ?_
  refine vx_icmp_ge (tgt := 69) dX9_wordOf_38 (by decide) (fun c_38_17 => ?_) (fun c_38_17 => ?_)
  · refine vx_ldcS (i := 6) dX9_wordOf_69 rfl ?_
    refine vx_iload_n dX9_wordOf_71 rfl ?_
    refine vx_iload_n dX9_wordOf_72 rfl ?_
    refine vx_iadd dX9_wordOf_73 ?_
    refine vx_eq (st2 := [.inl 21, vx_r 1006]) rfl rfl (by rfl) ?_
    refine vx_callK (i := 6) (vs := [.inl 21]) (st := []) (r0 := (some (.inl 116))) (μ0 := μ) dX9_wordOf_74 ((c_J0_charAt_5068e (d - 1) (by omega) ad 82 vx_lay μ 6 (by decide) 21 (by decide)).to (congrArg (fun z => some (Sum.inl z)) (mo_chr 21 (by omega))) rfl) wd_930 wd_446 wd_55 hy_J0_charAt_5068e wd_444 wd_445 (by decide) rfl (by omega) (Nat.le_of_ble_eq_true rfl) (Nat.le_of_ble_eq_true rfl) (Nat.le_refl 0) (Nat.le_refl 0) ?_
    refine vx_eq (μ2 := μ) (ls2 := [(3, .inl 2), (2, .inl 19), (1, .inl 3), (0, vx_r 54)]) (st2 := [.inl 116]) rfl rfl rfl ?_
    refine vx_bipush (v := 32) dX9_wordOf_77 (by decide) ?_
    refine vx_icmp_ne (tgt := 97) dX9_wordOf_79 (by decide) (fun _ => ?_) (fun h => absurd h (by decide))
    refine vx_keep (ls2 := [(2, .inl 19), (1, .inl 3), (0, vx_r 54)]) ⟨rfl, rfl, rfl, trivial⟩ ?_
    exact mo_s3 hd hp hq hpq hq3 (hno (mo_isw_len (by rw [mo_ll_3]; have h9 := c_38_17; rw [nI_leI (by omega) (by omega)] at h9; omega)))
  · refine vx_aload_n dX9_wordOf_41 rfl ?_
    refine vx_getR (ci := 9) (T := TX9) (n := 56) (j := 1) (a := 54) (r := 55) dX9_wordOf_42 rfl lay_X9 (by decide) wd_737 (by decide) ly_54 rfl ?_
    refine vx_aload_n dX9_wordOf_45 rfl ?_
    refine vx_getI (ci := 9) (T := TX9) (n := 56) (j := 11) (a := 54) (v := (nI p)) dX9_wordOf_46 rfl lay_X9 (by decide) wd_747 (by decide) ly_54 rfl hp ?_
    refine vx_iload_n dX9_wordOf_49 rfl ?_
    refine vx_iadd dX9_wordOf_50 ?_
    refine vx_eq (st2 := [.inl (nI (p + 2)), vx_r 55]) rfl rfl (by rw [show (2 : Int32) = nI 2 from rfl, nI_add]) ?_
    refine vx_iald (a := 55) (n := 300) (v := (μ 55 (p + 2))) dX9_wordOf_51 (by decide) ly_55 (vp_in_nI (by have h9 := c_38_17; rw [nI_leI (by omega) (by omega)] at h9; omega) (by omega)) (by rw [nI_clamp (by omega)] <;> rfl) ?_
    refine vx_ldcS (i := 6) dX9_wordOf_52 rfl ?_
    refine vx_iload_n dX9_wordOf_54 rfl ?_
    refine vx_iload_n dX9_wordOf_55 rfl ?_
    refine vx_iadd dX9_wordOf_56 ?_
    refine vx_eq (st2 := [.inl 21, vx_r 1006, .inl (μ 55 (p + 2))]) rfl rfl (by rfl) ?_
    refine vx_callK (i := 6) (vs := [.inl 21]) (st := [.inl (μ 55 (p + 2))]) (r0 := (some (.inl 116))) (μ0 := μ) dX9_wordOf_57 ((c_J0_charAt_5068e (d - 1) (by omega) ad 82 vx_lay μ 6 (by decide) 21 (by decide)).to (congrArg (fun z => some (Sum.inl z)) (mo_chr 21 (by omega))) rfl) wd_930 wd_446 wd_55 hy_J0_charAt_5068e wd_444 wd_445 (by decide) rfl (by omega) (Nat.le_of_ble_eq_true rfl) (Nat.le_of_ble_eq_true rfl) (Nat.le_refl 0) (Nat.le_refl 0) ?_
    refine vx_eq (μ2 := μ) (ls2 := [(3, .inl 2), (2, .inl 19), (1, .inl 3), (0, vx_r 54)]) (st2 := [.inl 116, .inl (μ 55 (p + 2))]) rfl rfl rfl ?_
    refine vx_icmp_ne (tgt := 69) dX9_wordOf_60 (by decide) (fun c_60_17 => ?_) (fun c_60_17 => ?_)
    · refine vx_ldcS (i := 6) dX9_wordOf_69 rfl ?_
      refine vx_iload_n dX9_wordOf_71 rfl ?_
      refine vx_iload_n dX9_wordOf_72 rfl ?_
      refine vx_iadd dX9_wordOf_73 ?_
      refine vx_eq (st2 := [.inl 21, vx_r 1006]) rfl rfl (by rfl) ?_
      refine vx_callK (i := 6) (vs := [.inl 21]) (st := []) (r0 := (some (.inl 116))) (μ0 := μ) dX9_wordOf_74 ((c_J0_charAt_5068e (d - 1) (by omega) ad 82 vx_lay μ 6 (by decide) 21 (by decide)).to (congrArg (fun z => some (Sum.inl z)) (mo_chr 21 (by omega))) rfl) wd_930 wd_446 wd_55 hy_J0_charAt_5068e wd_444 wd_445 (by decide) rfl (by omega) (Nat.le_of_ble_eq_true rfl) (Nat.le_of_ble_eq_true rfl) (Nat.le_refl 0) (Nat.le_refl 0) ?_
      refine vx_eq (μ2 := μ) (ls2 := [(3, .inl 2), (2, .inl 19), (1, .inl 3), (0, vx_r 54)]) (st2 := [.inl 116]) rfl rfl rfl ?_
      refine vx_bipush (v := 32) dX9_wordOf_77 (by decide) ?_
      refine vx_icmp_ne (tgt := 97) dX9_wordOf_79 (by decide) (fun _ => ?_) (fun h => absurd h (by decide))
      refine vx_keep (ls2 := [(2, .inl 19), (1, .inl 3), (0, vx_r 54)]) ⟨rfl, rfl, rfl, trivial⟩ ?_
      exact mo_s3 hd hp hq hpq hq3 (hno (mo_isw_ne (j := 2) (by rw [mo_ll_3]; omega) (by rw [mo_ch_3_2]; exact c_60_17)))
    · refine vx_iinc (v := 3) (ls2 := [(3, .inl 3), (2, .inl 19), (1, .inl 3), (0, vx_r 54)]) dX9_wordOf_63 rfl (by decide) (by decide) rfl ?_
      refine vx_goto (tgt := 15) dX9_wordOf_66 (by decide) ?_
      exact mo_w3_3 hd hp hq hpq hq3 hyes hno m0 m1 (by rw [mo_ch_3_2]; exact c_60_17)
set_option maxRecDepth 20000 in
set_option maxHeartbeats 2000000 in
theorem mo_w3_1 {d : Nat} (hd : 4 ≤ d) {ad : Nat → Nat} {μ : vx_mem} {p q : Nat} (hp : μ 54 11 = nI p) (hq : μ 54 10 = nI q) (hpq : p ≤ q) (hq3 : q ≤ 300) {Post : vx_P} {ini : Bool} (hyes : ¬ sp_isw (μ 55) p q 3 = 0 → Post (some (.inl 3)) ad 82 vx_lay μ) (hno : sp_isw (μ 55) p q 3 = 0 → vx_J RX9 cX9_wordOf 4 (some (.int)) ini d 0 0 Post ad 0 0 82 vx_lay μ 4 [(2, .inl 24), (1, .inl 4), (0, vx_r 54)] []) (m0 : μ 55 (p + 0) = sp_chr 3 0) : vx_J RX9 cX9_wordOf 4 (some (.int)) ini d 0 0 Post ad 0 0 82 vx_lay μ 15 [(3, .inl 1), (2, .inl 19), (1, .inl 3), (0, vx_r 54)] [] := by
  refine vx_ldcS (i := 6) dX9_wordOf_15 rfl ?_
  refine vx_iload_n dX9_wordOf_17 rfl ?_
  refine vx_iload_n dX9_wordOf_18 rfl ?_
  refine vx_iadd dX9_wordOf_19 ?_
  refine vx_eq (st2 := [.inl 20, vx_r 1006]) rfl rfl (by rfl) ?_
  refine vx_callK (i := 6) (vs := [.inl 20]) (st := []) (r0 := (some (.inl 97))) (μ0 := μ) dX9_wordOf_20 ((c_J0_charAt_5068e (d - 1) (by omega) ad 82 vx_lay μ 6 (by decide) 20 (by decide)).to (congrArg (fun z => some (Sum.inl z)) (mo_chr 20 (by omega))) rfl) wd_930 wd_446 wd_55 hy_J0_charAt_5068e wd_444 wd_445 (by decide) rfl (by omega) (Nat.le_of_ble_eq_true rfl) (Nat.le_of_ble_eq_true rfl) (Nat.le_refl 0) (Nat.le_refl 0) ?_
  refine vx_eq (μ2 := μ) (ls2 := [(3, .inl 1), (2, .inl 19), (1, .inl 3), (0, vx_r 54)]) (st2 := [.inl 97]) rfl rfl rfl ?_
  refine vx_bipush (v := 32) dX9_wordOf_23 (by decide) ?_
  refine vx_icmp_eq (tgt := 69) dX9_wordOf_25 (by decide) (fun h => absurd h (by decide)) (fun _ => ?_)
  refine vx_aload_n dX9_wordOf_28 rfl ?_
  refine vx_getI (ci := 9) (T := TX9) (n := 56) (j := 11) (a := 54) (v := (nI p)) dX9_wordOf_29 rfl lay_X9 (by decide) wd_747 (by decide) ly_54 rfl hp ?_
  refine vx_iload_n dX9_wordOf_32 rfl ?_
  refine vx_iadd dX9_wordOf_33 ?_
  refine vx_eq (st2 := [.inl (nI (p + 1))]) rfl rfl (by rw [show (1 : Int32) = nI 1 from rfl, nI_add]) ?_
  refine vx_aload_n dX9_wordOf_34 rfl ?_
  refine vx_getI (ci := 9) (T := TX9) (n := 56) (j := 10) (a := 54) (v := (nI q)) dX9_wordOf_35 rfl lay_X9 (by decide) wd_746 (by decide) ly_54 rfl hq ?_
  refine vx_icmp_ge (tgt := 69) dX9_wordOf_38 (by decide) (fun c_38_18 => ?_) (fun c_38_18 => ?_)
  · refine vx_ldcS (i := 6) dX9_wordOf_69 rfl ?_
    refine vx_iload_n dX9_wordOf_71 rfl ?_
    refine vx_iload_n dX9_wordOf_72 rfl ?_
    refine vx_iadd dX9_wordOf_73 ?_
    refine vx_eq (st2 := [.inl 20, vx_r 1006]) rfl rfl (by rfl) ?_
    refine vx_callK (i := 6) (vs := [.inl 20]) (st := []) (r0 := (some (.inl 97))) (μ0 := μ) dX9_wordOf_74 ((c_J0_charAt_5068e (d - 1) (by omega) ad 82 vx_lay μ 6 (by decide) 20 (by decide)).to (congrArg (fun z => some (Sum.inl z)) (mo_chr 20 (by omega))) rfl) wd_930 wd_446 wd_55 hy_J0_charAt_5068e wd_444 wd_445 (by decide) rfl (by omega) (Nat.le_of_ble_eq_true rfl) (Nat.le_of_ble_eq_true rfl) (Nat.le_refl 0) (Nat.le_refl 0) ?_
    refine vx_eq (μ2 := μ) (ls2 := [(3, .inl 1), (2, .inl 19), (1, .inl 3), (0, vx_r 54)]) (st2 := [.inl 97]) rfl rfl rfl ?_
    refine vx_bipush (v := 32) dX9_wordOf_77 (by decide) ?_
    refine vx_icmp_ne (tgt := 97) dX9_wordOf_79 (by decide) (fun _ => ?_) (fun h => absurd h (by decide))
    refine vx_keep (ls2 := [(2, .inl 19), (1, .inl 3), (0, vx_r 54)]) ⟨rfl, rfl, rfl, trivial⟩ ?_
    exact mo_s3 hd hp hq hpq hq3 (hno (mo_isw_len (by rw [mo_ll_3]; have h9 := c_38_18; rw [nI_leI (by omega) (by omega)] at h9; omega)))
  · refine vx_aload_n dX9_wordOf_41 rfl ?_
    refine vx_getR (ci := 9) (T := TX9) (n := 56) (j := 1) (a := 54) (r := 55) dX9_wordOf_42 rfl lay_X9 (by decide) wd_737 (by decide) ly_54 rfl ?_
    refine vx_aload_n dX9_wordOf_45 rfl ?_
    refine vx_getI (ci := 9) (T := TX9) (n := 56) (j := 11) (a := 54) (v := (nI p)) dX9_wordOf_46 rfl lay_X9 (by decide) wd_747 (by decide) ly_54 rfl hp ?_
    refine vx_iload_n dX9_wordOf_49 rfl ?_
    refine vx_iadd dX9_wordOf_50 ?_
    refine vx_eq (st2 := [.inl (nI (p + 1)), vx_r 55]) rfl rfl (by rw [show (1 : Int32) = nI 1 from rfl, nI_add]) ?_
    refine vx_iald (a := 55) (n := 300) (v := (μ 55 (p + 1))) dX9_wordOf_51 (by decide) ly_55 (vp_in_nI (by have h9 := c_38_18; rw [nI_leI (by omega) (by omega)] at h9; omega) (by omega)) (by rw [nI_clamp (by omega)] <;> rfl) ?_
    refine vx_ldcS (i := 6) dX9_wordOf_52 rfl ?_
    refine vx_iload_n dX9_wordOf_54 rfl ?_
    refine vx_iload_n dX9_wordOf_55 rfl ?_
    refine vx_iadd dX9_wordOf_56 ?_
    refine vx_eq (st2 := [.inl 20, vx_r 1006, .inl (μ 55 (p + 1))]) rfl rfl (by rfl) ?_
    refine vx_callK (i := 6) (vs := [.inl 20]) (st := [.inl (μ 55 (p + 1))]) (r0 := (some (.inl 97))) (μ0 := μ) dX9_wordOf_57 ((c_J0_charAt_5068e (d - 1) (by omega) ad 82 vx_lay μ 6 (by decide) 20 (by decide)).to (congrArg (fun z => some (Sum.inl z)) (mo_chr 20 (by omega))) rfl) wd_930 wd_446 wd_55 hy_J0_charAt_5068e wd_444 wd_445 (by decide) rfl (by omega) (Nat.le_of_ble_eq_true rfl) (Nat.le_of_ble_eq_true rfl) (Nat.le_refl 0) (Nat.le_refl 0) ?_
    refine vx_eq (μ2 := μ) (ls2 := [(3, .inl 1), (2, .inl 19), (1, .inl 3), (0, vx_r 54)]) (st2 := [.inl 97, .inl (μ 55 (p + 1))]) rfl rfl rfl ?_
    refine vx_icmp_ne (tgt := 69) dX9_wordOf_60 (by decide) (fun c_60_18 => ?_) (fun c_60_18 => ?_)
    · refine vx_ldcS (i := 6) dX9_wordOf_69 rfl ?_
      refine vx_iload_n dX9_wordOf_71 rfl ?_
      refine vx_iload_n dX9_wordOf_72 rfl ?_
      refine vx_iadd dX9_wordOf_73 ?_
      refine vx_eq (st2 := [.inl 20, vx_r 1006]) rfl rfl (by rfl) ?_
      refine vx_callK (i := 6) (vs := [.inl 20]) (st := []) (r0 := (some (.inl 97))) (μ0 := μ) dX9_wordOf_74 ((c_J0_charAt_5068e (d - 1) (by omega) ad 82 vx_lay μ 6 (by decide) 20 (by decide)).to (congrArg (fun z => some (Sum.inl z)) (mo_chr 20 (by omega))) rfl) wd_930 wd_446 wd_55 hy_J0_charAt_5068e wd_444 wd_445 (by decide) rfl (by omega) (Nat.le_of_ble_eq_true rfl) (Nat.le_of_ble_eq_true rfl) (Nat.le_refl 0) (Nat.le_refl 0) ?_
      refine vx_eq (μ2 := μ) (ls2 := [(3, .inl 1), (2, .inl 19), (1, .inl 3), (0, vx_r 54)]) (st2 := [.inl 97]) rfl rfl rfl ?_
      refine vx_bipush (v := 32) dX9_wordOf_77 (by decide) ?_
      refine vx_icmp_ne (tgt := 97) dX9_wordOf_79 (by decide) (fun _ => ?_) (fun h => absurd h (by decide))
      refine vx_keep (ls2 := [(2, .inl 19), (1, .inl 3), (0, vx_r 54)]) ⟨rfl, rfl, rfl, trivial⟩ ?_
      exact mo_s3 hd hp hq hpq hq3 (hno (mo_isw_ne (j := 1) (by rw [mo_ll_3]; omega) (by rw [mo_ch_3_1]; exact c_60_18)))
    · refine vx_iinc (v := 2) (ls2 := [(3, .inl 2), (2, .inl 19), (1, .inl 3), (0, vx_r 54)]) dX9_wordOf_63 rfl (by decide) (by decide) rfl ?_
      refine vx_goto (tgt := 15) dX9_wordOf_66 (by decide) ?_
      exact mo_w3_2 hd hp hq hpq hq3 hyes hno m0 (by rw [mo_ch_3_1]; exact c_60_18)
set_option maxRecDepth 20000 in
set_option maxHeartbeats 2000000 in
theorem mo_w3_0 {d : Nat} (hd : 4 ≤ d) {ad : Nat → Nat} {μ : vx_mem} {p q : Nat} (hp : μ 54 11 = nI p) (hq : μ 54 10 = nI q) (hpq : p ≤ q) (hq3 : q ≤ 300) {Post : vx_P} {ini : Bool} (hyes : ¬ sp_isw (μ 55) p q 3 = 0 → Post (some (.inl 3)) ad 82 vx_lay μ) (hno : sp_isw (μ 55) p q 3 = 0 → vx_J RX9 cX9_wordOf 4 (some (.int)) ini d 0 0 Post ad 0 0 82 vx_lay μ 4 [(2, .inl 24), (1, .inl 4), (0, vx_r 54)] []) : vx_J RX9 cX9_wordOf 4 (some (.int)) ini d 0 0 Post ad 0 0 82 vx_lay μ 15 [(3, .inl 0), (2, .inl 19), (1, .inl 3), (0, vx_r 54)] [] := by
  refine vx_ldcS (i := 6) dX9_wordOf_15 rfl ?_
  refine vx_iload_n dX9_wordOf_17 rfl ?_
  refine vx_iload_n dX9_wordOf_18 rfl ?_
  refine vx_iadd dX9_wordOf_19 ?_
  refine vx_eq (st2 := [.inl 19, vx_r 1006]) rfl rfl (by rfl) ?_
  refine vx_callK (i := 6) (vs := [.inl 19]) (st := []) (r0 := (some (.inl 108))) (μ0 := μ) dX9_wordOf_20 ((c_J0_charAt_5068e (d - 1) (by omega) ad 82 vx_lay μ 6 (by decide) 19 (by decide)).to (congrArg (fun z => some (Sum.inl z)) (mo_chr 19 (by omega))) rfl) wd_930 wd_446 wd_55 hy_J0_charAt_5068e wd_444 wd_445 (by decide) rfl (by omega) (Nat.le_of_ble_eq_true rfl) (Nat.le_of_ble_eq_true rfl) (Nat.le_refl 0) (Nat.le_refl 0) ?_
  refine vx_eq (μ2 := μ) (ls2 := [(3, .inl 0), (2, .inl 19), (1, .inl 3), (0, vx_r 54)]) (st2 := [.inl 108]) rfl rfl rfl ?_
  refine vx_bipush (v := 32) dX9_wordOf_23 (by decide) ?_
  refine vx_icmp_eq (tgt := 69) dX9_wordOf_25 (by decide) (fun h => absurd h (by decide)) (fun _ => ?_)
  refine vx_aload_n dX9_wordOf_28 rfl ?_
  refine vx_getI (ci := 9) (T := TX9) (n := 56) (j := 11) (a := 54) (v := (nI p)) dX9_wordOf_29 rfl lay_X9 (by decide) wd_747 (by decide) ly_54 rfl hp ?_
  refine vx_iload_n dX9_wordOf_32 rfl ?_
  refine vx_iadd dX9_wordOf_33 ?_
  refine vx_eq (st2 := [.inl (nI p)]) rfl rfl (by rw [show (0 : Int32) = nI 0 from rfl, nI_add]; rfl) ?_
  refine vx_aload_n dX9_wordOf_34 rfl ?_
  refine vx_getI (ci := 9) (T := TX9) (n := 56) (j := 10) (a := 54) (v := (nI q)) dX9_wordOf_35 rfl lay_X9 (by decide) wd_746 (by decide) ly_54 rfl hq ?_
  refine vx_icmp_ge (tgt := 69) dX9_wordOf_38 (by decide) (fun c_38_19 => ?_) (fun c_38_19 => ?_)
  · refine vx_ldcS (i := 6) dX9_wordOf_69 rfl ?_
    refine vx_iload_n dX9_wordOf_71 rfl ?_
    refine vx_iload_n dX9_wordOf_72 rfl ?_
    refine vx_iadd dX9_wordOf_73 ?_
    refine vx_eq (st2 := [.inl 19, vx_r 1006]) rfl rfl (by rfl) ?_
    refine vx_callK (i := 6) (vs := [.inl 19]) (st := []) (r0 := (some (.inl 108))) (μ0 := μ) dX9_wordOf_74 ((c_J0_charAt_5068e (d - 1) (by omega) ad 82 vx_lay μ 6 (by decide) 19 (by decide)).to (congrArg (fun z => some (Sum.inl z)) (mo_chr 19 (by omega))) rfl) wd_930 wd_446 wd_55 hy_J0_charAt_5068e wd_444 wd_445 (by decide) rfl (by omega) (Nat.le_of_ble_eq_true rfl) (Nat.le_of_ble_eq_true rfl) (Nat.le_refl 0) (Nat.le_refl 0) ?_
    refine vx_eq (μ2 := μ) (ls2 := [(3, .inl 0), (2, .inl 19), (1, .inl 3), (0, vx_r 54)]) (st2 := [.inl 108]) rfl rfl rfl ?_
    refine vx_bipush (v := 32) dX9_wordOf_77 (by decide) ?_
    refine vx_icmp_ne (tgt := 97) dX9_wordOf_79 (by decide) (fun _ => ?_) (fun h => absurd h (by decide))
    refine vx_keep (ls2 := [(2, .inl 19), (1, .inl 3), (0, vx_r 54)]) ⟨rfl, rfl, rfl, trivial⟩ ?_
    exact mo_s3 hd hp hq hpq hq3 (hno (mo_isw_len (by rw [mo_ll_3]; have h9 := c_38_19; rw [nI_leI (by omega) (by omega)] at h9; omega)))
  · refine vx_aload_n dX9_wordOf_41 rfl ?_
    refine vx_getR (ci := 9) (T := TX9) (n := 56) (j := 1) (a := 54) (r := 55) dX9_wordOf_42 rfl lay_X9 (by decide) wd_737 (by decide) ly_54 rfl ?_
    refine vx_aload_n dX9_wordOf_45 rfl ?_
    refine vx_getI (ci := 9) (T := TX9) (n := 56) (j := 11) (a := 54) (v := (nI p)) dX9_wordOf_46 rfl lay_X9 (by decide) wd_747 (by decide) ly_54 rfl hp ?_
    refine vx_iload_n dX9_wordOf_49 rfl ?_
    refine vx_iadd dX9_wordOf_50 ?_
    refine vx_eq (st2 := [.inl (nI p), vx_r 55]) rfl rfl (by rw [show (0 : Int32) = nI 0 from rfl, nI_add]; rfl) ?_
    refine vx_iald (a := 55) (n := 300) (v := (μ 55 p)) dX9_wordOf_51 (by decide) ly_55 (vp_in_nI (by have h9 := c_38_19; rw [nI_leI (by omega) (by omega)] at h9; omega) (by omega)) (by rw [nI_clamp (by omega)] <;> rfl) ?_
    refine vx_ldcS (i := 6) dX9_wordOf_52 rfl ?_
    refine vx_iload_n dX9_wordOf_54 rfl ?_
    refine vx_iload_n dX9_wordOf_55 rfl ?_
    refine vx_iadd dX9_wordOf_56 ?_
    refine vx_eq (st2 := [.inl 19, vx_r 1006, .inl (μ 55 p)]) rfl rfl (by rfl) ?_
    refine vx_callK (i := 6) (vs := [.inl 19]) (st := [.inl (μ 55 p)]) (r0 := (some (.inl 108))) (μ0 := μ) dX9_wordOf_57 ((c_J0_charAt_5068e (d - 1) (by omega) ad 82 vx_lay μ 6 (by decide) 19 (by decide)).to (congrArg (fun z => some (Sum.inl z)) (mo_chr 19 (by omega))) rfl) wd_930 wd_446 wd_55 hy_J0_charAt_5068e wd_444 wd_445 (by decide) rfl (by omega) (Nat.le_of_ble_eq_true rfl) (Nat.le_of_ble_eq_true rfl) (Nat.le_refl 0) (Nat.le_refl 0) ?_
    refine vx_eq (μ2 := μ) (ls2 := [(3, .inl 0), (2, .inl 19), (1, .inl 3), (0, vx_r 54)]) (st2 := [.inl 108, .inl (μ 55 p)]) rfl rfl rfl ?_
    refine vx_icmp_ne (tgt := 69) dX9_wordOf_60 (by decide) (fun c_60_19 => ?_) (fun c_60_19 => ?_)
    · refine vx_ldcS (i := 6) dX9_wordOf_69 rfl ?_
      refine vx_iload_n dX9_wordOf_71 rfl ?_
      refine vx_iload_n dX9_wordOf_72 rfl ?_
      refine vx_iadd dX9_wordOf_73 ?_
      refine vx_eq (st2 := [.inl 19, vx_r 1006]) rfl rfl (by rfl) ?_
      refine vx_callK (i := 6) (vs := [.inl 19]) (st := []) (r0 := (some (.inl 108))) (μ0 := μ) dX9_wordOf_74 ((c_J0_charAt_5068e (d - 1) (by omega) ad 82 vx_lay μ 6 (by decide) 19 (by decide)).to (congrArg (fun z => some (Sum.inl z)) (mo_chr 19 (by omega))) rfl) wd_930 wd_446 wd_55 hy_J0_charAt_5068e wd_444 wd_445 (by decide) rfl (by omega) (Nat.le_of_ble_eq_true rfl) (Nat.le_of_ble_eq_true rfl) (Nat.le_refl 0) (Nat.le_refl 0) ?_
      refine vx_eq (μ2 := μ) (ls2 := [(3, .inl 0), (2, .inl 19), (1, .inl 3), (0, vx_r 54)]) (st2 := [.inl 108]) rfl rfl rfl ?_
      refine vx_bipush (v := 32) dX9_wordOf_77 (by decide) ?_
      refine vx_icmp_ne (tgt := 97) dX9_wordOf_79 (by decide) (fun _ => ?_) (fun h => absurd h (by decide))
      refine vx_keep (ls2 := [(2, .inl 19), (1, .inl 3), (0, vx_r 54)]) ⟨rfl, rfl, rfl, trivial⟩ ?_
      exact mo_s3 hd hp hq hpq hq3 (hno (mo_isw_ne (j := 0) (by rw [mo_ll_3]; omega) (by rw [mo_ch_3_0]; exact c_60_19)))
    · refine vx_iinc (v := 1) (ls2 := [(3, .inl 1), (2, .inl 19), (1, .inl 3), (0, vx_r 54)]) dX9_wordOf_63 rfl (by decide) (by decide) rfl ?_
      refine vx_goto (tgt := 15) dX9_wordOf_66 (by decide) ?_
      exact mo_w3_1 hd hp hq hpq hq3 hyes hno (by rw [mo_ch_3_0]; exact c_60_19)
set_option maxRecDepth 20000 in
set_option maxHeartbeats 2000000 in
theorem mo_s4 {d : Nat} (hd : 4 ≤ d) {ad : Nat → Nat} {μ : vx_mem} {p q : Nat} (hp : μ 54 11 = nI p) (hq : μ 54 10 = nI q) (hpq : p ≤ q) (hq3 : q ≤ 300) {Post : vx_P} {ini : Bool} (hno : vx_J RX9 cX9_wordOf 4 (some (.int)) ini d 0 0 Post ad 0 0 82 vx_lay μ 4 [(2, .inl 30), (1, .inl 5), (0, vx_r 54)] []) : vx_J RX9 cX9_wordOf 4 (some (.int)) ini d 0 0 Post ad 0 0 82 vx_lay μ 97 [(2, .inl 24), (1, .inl 4), (0, vx_r 54)] [] := by
  refine vx_ldcS (i := 6) dX9_wordOf_97 rfl ?_
  refine vx_iload_n dX9_wordOf_99 rfl ?_
  refine vx_callK (i := 6) (vs := [.inl 24]) (st := []) (r0 := (some (.inl 102))) (μ0 := μ) dX9_wordOf_100 ((c_J0_charAt_5068e (d - 1) (by omega) ad 82 vx_lay μ 6 (by decide) 24 (by decide)).to (congrArg (fun z => some (Sum.inl z)) (mo_chr 24 (by omega))) rfl) wd_930 wd_446 wd_55 hy_J0_charAt_5068e wd_444 wd_445 (by decide) rfl (by omega) (Nat.le_of_ble_eq_true rfl) (Nat.le_of_ble_eq_true rfl) (Nat.le_refl 0) (Nat.le_refl 0) ?_
  refine vx_eq (μ2 := μ) (ls2 := [(2, .inl 24), (1, .inl 4), (0, vx_r 54)]) (st2 := [.inl 102]) rfl rfl rfl ?_
  refine vx_bipush (v := 32) dX9_wordOf_103 (by decide) ?_
  refine vx_icmp_eq (tgt := 114) dX9_wordOf_105 (by decide) (fun h => absurd h (by decide)) (fun _ => ?_)
  refine vx_iinc (v := 25) (ls2 := [(2, .inl 25), (1, .inl 4), (0, vx_r 54)]) dX9_wordOf_108 rfl (by decide) (by decide) rfl ?_
  refine vx_goto (tgt := 97) dX9_wordOf_111 (by decide) ?_
  refine vx_ldcS (i := 6) dX9_wordOf_97 rfl ?_
  refine vx_iload_n dX9_wordOf_99 rfl ?_
  refine vx_callK (i := 6) (vs := [.inl 25]) (st := []) (r0 := (some (.inl 105))) (μ0 := μ) dX9_wordOf_100 ((c_J0_charAt_5068e (d - 1) (by omega) ad 82 vx_lay μ 6 (by decide) 25 (by decide)).to (congrArg (fun z => some (Sum.inl z)) (mo_chr 25 (by omega))) rfl) wd_930 wd_446 wd_55 hy_J0_charAt_5068e wd_444 wd_445 (by decide) rfl (by omega) (Nat.le_of_ble_eq_true rfl) (Nat.le_of_ble_eq_true rfl) (Nat.le_refl 0) (Nat.le_refl 0) ?_
  refine vx_eq (μ2 := μ) (ls2 := [(2, .inl 25), (1, .inl 4), (0, vx_r 54)]) (st2 := [.inl 105]) rfl rfl rfl ?_
  refine vx_bipush (v := 32) dX9_wordOf_103 (by decide) ?_
  refine vx_icmp_eq (tgt := 114) dX9_wordOf_105 (by decide) (fun h => absurd h (by decide)) (fun _ => ?_)
  refine vx_iinc (v := 26) (ls2 := [(2, .inl 26), (1, .inl 4), (0, vx_r 54)]) dX9_wordOf_108 rfl (by decide) (by decide) rfl ?_
  refine vx_goto (tgt := 97) dX9_wordOf_111 (by decide) ?_
  refine vx_ldcS (i := 6) dX9_wordOf_97 rfl ?_
  refine vx_iload_n dX9_wordOf_99 rfl ?_
  refine vx_callK (i := 6) (vs := [.inl 26]) (st := []) (r0 := (some (.inl 114))) (μ0 := μ) dX9_wordOf_100 ((c_J0_charAt_5068e (d - 1) (by omega) ad 82 vx_lay μ 6 (by decide) 26 (by decide)).to (congrArg (fun z => some (Sum.inl z)) (mo_chr 26 (by omega))) rfl) wd_930 wd_446 wd_55 hy_J0_charAt_5068e wd_444 wd_445 (by decide) rfl (by omega) (Nat.le_of_ble_eq_true rfl) (Nat.le_of_ble_eq_true rfl) (Nat.le_refl 0) (Nat.le_refl 0) ?_
  refine vx_eq (μ2 := μ) (ls2 := [(2, .inl 26), (1, .inl 4), (0, vx_r 54)]) (st2 := [.inl 114]) rfl rfl rfl ?_
  refine vx_bipush (v := 32) dX9_wordOf_103 (by decide) ?_
  refine vx_icmp_eq (tgt := 114) dX9_wordOf_105 (by decide) (fun h => absurd h (by decide)) (fun _ => ?_)
  refine vx_iinc (v := 27) (ls2 := [(2, .inl 27), (1, .inl 4), (0, vx_r 54)]) dX9_wordOf_108 rfl (by decide) (by decide) rfl ?_
  refine vx_goto (tgt := 97) dX9_wordOf_111 (by decide) ?_
  refine vx_ldcS (i := 6) dX9_wordOf_97 rfl ?_
  refine vx_iload_n dX9_wordOf_99 rfl ?_
  refine vx_callK (i := 6) (vs := [.inl 27]) (st := []) (r0 := (some (.inl 115))) (μ0 := μ) dX9_wordOf_100 ((c_J0_charAt_5068e (d - 1) (by omega) ad 82 vx_lay μ 6 (by decide) 27 (by decide)).to (congrArg (fun z => some (Sum.inl z)) (mo_chr 27 (by omega))) rfl) wd_930 wd_446 wd_55 hy_J0_charAt_5068e wd_444 wd_445 (by decide) rfl (by omega) (Nat.le_of_ble_eq_true rfl) (Nat.le_of_ble_eq_true rfl) (Nat.le_refl 0) (Nat.le_refl 0) ?_
  refine vx_eq (μ2 := μ) (ls2 := [(2, .inl 27), (1, .inl 4), (0, vx_r 54)]) (st2 := [.inl 115]) rfl rfl rfl ?_
  refine vx_bipush (v := 32) dX9_wordOf_103 (by decide) ?_
  refine vx_icmp_eq (tgt := 114) dX9_wordOf_105 (by decide) (fun h => absurd h (by decide)) (fun _ => ?_)
  refine vx_iinc (v := 28) (ls2 := [(2, .inl 28), (1, .inl 4), (0, vx_r 54)]) dX9_wordOf_108 rfl (by decide) (by decide) rfl ?_
  refine vx_goto (tgt := 97) dX9_wordOf_111 (by decide) ?_
  refine vx_ldcS (i := 6) dX9_wordOf_97 rfl ?_
  refine vx_iload_n dX9_wordOf_99 rfl ?_
  refine vx_callK (i := 6) (vs := [.inl 28]) (st := []) (r0 := (some (.inl 116))) (μ0 := μ) dX9_wordOf_100 ((c_J0_charAt_5068e (d - 1) (by omega) ad 82 vx_lay μ 6 (by decide) 28 (by decide)).to (congrArg (fun z => some (Sum.inl z)) (mo_chr 28 (by omega))) rfl) wd_930 wd_446 wd_55 hy_J0_charAt_5068e wd_444 wd_445 (by decide) rfl (by omega) (Nat.le_of_ble_eq_true rfl) (Nat.le_of_ble_eq_true rfl) (Nat.le_refl 0) (Nat.le_refl 0) ?_
  refine vx_eq (μ2 := μ) (ls2 := [(2, .inl 28), (1, .inl 4), (0, vx_r 54)]) (st2 := [.inl 116]) rfl rfl rfl ?_
  refine vx_bipush (v := 32) dX9_wordOf_103 (by decide) ?_
  refine vx_icmp_eq (tgt := 114) dX9_wordOf_105 (by decide) (fun h => absurd h (by decide)) (fun _ => ?_)
  refine vx_iinc (v := 29) (ls2 := [(2, .inl 29), (1, .inl 4), (0, vx_r 54)]) dX9_wordOf_108 rfl (by decide) (by decide) rfl ?_
  refine vx_goto (tgt := 97) dX9_wordOf_111 (by decide) ?_
  refine vx_ldcS (i := 6) dX9_wordOf_97 rfl ?_
  refine vx_iload_n dX9_wordOf_99 rfl ?_
  refine vx_callK (i := 6) (vs := [.inl 29]) (st := []) (r0 := (some (.inl 32))) (μ0 := μ) dX9_wordOf_100 ((c_J0_charAt_5068e (d - 1) (by omega) ad 82 vx_lay μ 6 (by decide) 29 (by decide)).to (congrArg (fun z => some (Sum.inl z)) (mo_chr 29 (by omega))) rfl) wd_930 wd_446 wd_55 hy_J0_charAt_5068e wd_444 wd_445 (by decide) rfl (by omega) (Nat.le_of_ble_eq_true rfl) (Nat.le_of_ble_eq_true rfl) (Nat.le_refl 0) (Nat.le_refl 0) ?_
  refine vx_eq (μ2 := μ) (ls2 := [(2, .inl 29), (1, .inl 4), (0, vx_r 54)]) (st2 := [.inl 32]) rfl rfl rfl ?_
  refine vx_bipush (v := 32) dX9_wordOf_103 (by decide) ?_
  refine vx_icmp_eq (tgt := 114) dX9_wordOf_105 (by decide) (fun _ => ?_) (fun h => absurd h (by decide))
  refine vx_iinc (v := 30) (ls2 := [(2, .inl 30), (1, .inl 4), (0, vx_r 54)]) dX9_wordOf_114 rfl (by decide) (by decide) rfl ?_
  refine vx_iinc (v := 5) (ls2 := [(1, .inl 5), (2, .inl 30), (0, vx_r 54)]) dX9_wordOf_117 rfl (by decide) (by decide) rfl ?_
  refine vx_goto (tgt := 4) dX9_wordOf_120 (by decide) ?_
  refine vx_keep (ls2 := [(2, .inl 30), (1, .inl 5), (0, vx_r 54)]) ⟨rfl, rfl, rfl, trivial⟩ ?_
  exact hno
set_option maxRecDepth 20000 in
set_option maxHeartbeats 2000000 in
theorem mo_w4_5 {d : Nat} (hd : 4 ≤ d) {ad : Nat → Nat} {μ : vx_mem} {p q : Nat} (hp : μ 54 11 = nI p) (hq : μ 54 10 = nI q) (hpq : p ≤ q) (hq3 : q ≤ 300) {Post : vx_P} {ini : Bool} (hyes : ¬ sp_isw (μ 55) p q 4 = 0 → Post (some (.inl 4)) ad 82 vx_lay μ) (hno : sp_isw (μ 55) p q 4 = 0 → vx_J RX9 cX9_wordOf 4 (some (.int)) ini d 0 0 Post ad 0 0 82 vx_lay μ 4 [(2, .inl 30), (1, .inl 5), (0, vx_r 54)] []) (m0 : μ 55 (p + 0) = sp_chr 4 0) (m1 : μ 55 (p + 1) = sp_chr 4 1) (m2 : μ 55 (p + 2) = sp_chr 4 2) (m3 : μ 55 (p + 3) = sp_chr 4 3) (m4 : μ 55 (p + 4) = sp_chr 4 4) : vx_J RX9 cX9_wordOf 4 (some (.int)) ini d 0 0 Post ad 0 0 82 vx_lay μ 15 [(3, .inl 5), (2, .inl 24), (1, .inl 4), (0, vx_r 54)] [] := by
  refine vx_ldcS (i := 6) dX9_wordOf_15 rfl ?_
  refine vx_iload_n dX9_wordOf_17 rfl ?_
  refine vx_iload_n dX9_wordOf_18 rfl ?_
  refine vx_iadd dX9_wordOf_19 ?_
  refine vx_eq (st2 := [.inl 29, vx_r 1006]) rfl rfl (by rfl) ?_
  refine vx_callK (i := 6) (vs := [.inl 29]) (st := []) (r0 := (some (.inl 32))) (μ0 := μ) dX9_wordOf_20 ((c_J0_charAt_5068e (d - 1) (by omega) ad 82 vx_lay μ 6 (by decide) 29 (by decide)).to (congrArg (fun z => some (Sum.inl z)) (mo_chr 29 (by omega))) rfl) wd_930 wd_446 wd_55 hy_J0_charAt_5068e wd_444 wd_445 (by decide) rfl (by omega) (Nat.le_of_ble_eq_true rfl) (Nat.le_of_ble_eq_true rfl) (Nat.le_refl 0) (Nat.le_refl 0) ?_
  refine vx_eq (μ2 := μ) (ls2 := [(3, .inl 5), (2, .inl 24), (1, .inl 4), (0, vx_r 54)]) (st2 := [.inl 32]) rfl rfl rfl ?_
  refine vx_bipush (v := 32) dX9_wordOf_23 (by decide) ?_
  refine vx_icmp_eq (tgt := 69) dX9_wordOf_25 (by decide) (fun _ => ?_) (fun h => absurd h (by decide))
  refine vx_ldcS (i := 6) dX9_wordOf_69 rfl ?_
  refine vx_iload_n dX9_wordOf_71 rfl ?_
  refine vx_iload_n dX9_wordOf_72 rfl ?_
  refine vx_iadd dX9_wordOf_73 ?_
  refine vx_eq (st2 := [.inl 29, vx_r 1006]) rfl rfl (by rfl) ?_
  refine vx_callK (i := 6) (vs := [.inl 29]) (st := []) (r0 := (some (.inl 32))) (μ0 := μ) dX9_wordOf_74 ((c_J0_charAt_5068e (d - 1) (by omega) ad 82 vx_lay μ 6 (by decide) 29 (by decide)).to (congrArg (fun z => some (Sum.inl z)) (mo_chr 29 (by omega))) rfl) wd_930 wd_446 wd_55 hy_J0_charAt_5068e wd_444 wd_445 (by decide) rfl (by omega) (Nat.le_of_ble_eq_true rfl) (Nat.le_of_ble_eq_true rfl) (Nat.le_refl 0) (Nat.le_refl 0) ?_
  refine vx_eq (μ2 := μ) (ls2 := [(3, .inl 5), (2, .inl 24), (1, .inl 4), (0, vx_r 54)]) (st2 := [.inl 32]) rfl rfl rfl ?_
  refine vx_bipush (v := 32) dX9_wordOf_77 (by decide) ?_
  refine vx_icmp_ne (tgt := 97) dX9_wordOf_79 (by decide) (fun h => absurd h (by decide)) (fun _ => ?_)
  refine vx_aload_n dX9_wordOf_82 rfl ?_
  refine vx_getI (ci := 9) (T := TX9) (n := 56) (j := 11) (a := 54) (v := (nI p)) dX9_wordOf_83 rfl lay_X9 (by decide) wd_747 (by decide) ly_54 rfl hp ?_
  refine vx_iload_n dX9_wordOf_86 rfl ?_
  refine vx_iadd dX9_wordOf_87 ?_
  refine vx_eq (st2 := [.inl (nI (p + 5))]) rfl rfl (by rw [show (5 : Int32) = nI 5 from rfl, nI_add]) ?_
  refine vx_aload_n dX9_wordOf_88 rfl ?_
  refine vx_getI (ci := 9) (T := TX9) (n := 56) (j := 10) (a := 54) (v := (nI q)) dX9_wordOf_89 rfl lay_X9 (by decide) wd_746 (by decide) ly_54 rfl hq ?_
  refine vx_icmp_ne (tgt := 97) dX9_wordOf_92 (by decide) (fun c_92_4 => ?_) (fun c_92_4 => ?_)
  · refine vx_keep (ls2 := [(2, .inl 24), (1, .inl 4), (0, vx_r 54)]) ⟨rfl, rfl, rfl, trivial⟩ ?_
    exact mo_s4 hd hp hq hpq hq3 (hno (mo_isw_len (by rw [mo_ll_4]; have h9 := c_92_4; rw [nI_eq (by omega) (by omega)] at h9; omega)))
  · have hl : q - p = 5 := by have h9 := c_92_4; rw [nI_eq (by omega) (by omega)] at h9; omega
    have hP := hyes (mo_isw_yes (by rw [mo_ll_4]; exact hl) (fun k hk => by
      rw [mo_ll_4] at hk
      rcases (show k = 0 ∨ k = 1 ∨ k = 2 ∨ k = 3 ∨ k = 4 by omega) with rfl | rfl | rfl | rfl | rfl
      · exact m0
      · exact m1
      · exact m2
      · exact m3
      · exact m4))
    refine vx_iload_n dX9_wordOf_95 rfl ?_
    exact vx_ret (ty := .int) dX9_wordOf_96 rfl rfl (Nat.le_refl 0) (Nat.le_refl 0) (hP)
set_option maxRecDepth 20000 in
set_option maxHeartbeats 2000000 in
theorem mo_w4_4 {d : Nat} (hd : 4 ≤ d) {ad : Nat → Nat} {μ : vx_mem} {p q : Nat} (hp : μ 54 11 = nI p) (hq : μ 54 10 = nI q) (hpq : p ≤ q) (hq3 : q ≤ 300) {Post : vx_P} {ini : Bool} (hyes : ¬ sp_isw (μ 55) p q 4 = 0 → Post (some (.inl 4)) ad 82 vx_lay μ) (hno : sp_isw (μ 55) p q 4 = 0 → vx_J RX9 cX9_wordOf 4 (some (.int)) ini d 0 0 Post ad 0 0 82 vx_lay μ 4 [(2, .inl 30), (1, .inl 5), (0, vx_r 54)] []) (m0 : μ 55 (p + 0) = sp_chr 4 0) (m1 : μ 55 (p + 1) = sp_chr 4 1) (m2 : μ 55 (p + 2) = sp_chr 4 2) (m3 : μ 55 (p + 3) = sp_chr 4 3) : vx_J RX9 cX9_wordOf 4 (some (.int)) ini d 0 0 Post ad 0 0 82 vx_lay μ 15 [(3, .inl 4), (2, .inl 24), (1, .inl 4), (0, vx_r 54)] [] := by
  refine vx_ldcS (i := 6) dX9_wordOf_15 rfl ?_
  refine vx_iload_n dX9_wordOf_17 rfl ?_
  refine vx_iload_n dX9_wordOf_18 rfl ?_
  refine vx_iadd dX9_wordOf_19 ?_
  refine vx_eq (st2 := [.inl 28, vx_r 1006]) rfl rfl (by rfl) ?_
  refine vx_callK (i := 6) (vs := [.inl 28]) (st := []) (r0 := (some (.inl 116))) (μ0 := μ) dX9_wordOf_20 ((c_J0_charAt_5068e (d - 1) (by omega) ad 82 vx_lay μ 6 (by decide) 28 (by decide)).to (congrArg (fun z => some (Sum.inl z)) (mo_chr 28 (by omega))) rfl) wd_930 wd_446 wd_55 hy_J0_charAt_5068e wd_444 wd_445 (by decide) rfl (by omega) (Nat.le_of_ble_eq_true rfl) (Nat.le_of_ble_eq_true rfl) (Nat.le_refl 0) (Nat.le_refl 0) ?_
  refine vx_eq (μ2 := μ) (ls2 := [(3, .inl 4), (2, .inl 24), (1, .inl 4), (0, vx_r 54)]) (st2 := [.inl 116]) rfl rfl rfl ?_
  refine vx_bipush (v := 32) dX9_wordOf_23 (by decide) ?_
  refine vx_icmp_eq (tgt := 69) dX9_wordOf_25 (by decide) (fun h => absurd h (by decide)) (fun _ => ?_)
  refine vx_aload_n dX9_wordOf_28 rfl ?_
  refine vx_getI (ci := 9) (T := TX9) (n := 56) (j := 11) (a := 54) (v := (nI p)) dX9_wordOf_29 rfl lay_X9 (by decide) wd_747 (by decide) ly_54 rfl hp ?_
  refine vx_iload_n dX9_wordOf_32 rfl ?_
  refine vx_iadd dX9_wordOf_33 ?_
  refine vx_eq (st2 := [.inl (nI (p + 4))]) rfl rfl (by rw [show (4 : Int32) = nI 4 from rfl, nI_add]) ?_
  refine vx_aload_n dX9_wordOf_34 rfl ?_
  refine vx_getI (ci := 9) (T := TX9) (n := 56) (j := 10) (a := 54) (v := (nI q)) dX9_wordOf_35 rfl lay_X9 (by decide) wd_746 (by decide) ly_54 rfl hq ?_
  refine vx_icmp_ge (tgt := 69) dX9_wordOf_38 (by decide) (fun c_38_20 => ?_) (fun c_38_20 => ?_)
  · refine vx_ldcS (i := 6) dX9_wordOf_69 rfl ?_
    refine vx_iload_n dX9_wordOf_71 rfl ?_
    refine vx_iload_n dX9_wordOf_72 rfl ?_
    refine vx_iadd dX9_wordOf_73 ?_
    refine vx_eq (st2 := [.inl 28, vx_r 1006]) rfl rfl (by rfl) ?_
    refine vx_callK (i := 6) (vs := [.inl 28]) (st := []) (r0 := (some (.inl 116))) (μ0 := μ) dX9_wordOf_74 ((c_J0_charAt_5068e (d - 1) (by omega) ad 82 vx_lay μ 6 (by decide) 28 (by decide)).to (congrArg (fun z => some (Sum.inl z)) (mo_chr 28 (by omega))) rfl) wd_930 wd_446 wd_55 hy_J0_charAt_5068e wd_444 wd_445 (by decide) rfl (by omega) (Nat.le_of_ble_eq_true rfl) (Nat.le_of_ble_eq_true rfl) (Nat.le_refl 0) (Nat.le_refl 0) ?_
    refine vx_eq (μ2 := μ) (ls2 := [(3, .inl 4), (2, .inl 24), (1, .inl 4), (0, vx_r 54)]) (st2 := [.inl 116]) rfl rfl rfl ?_
    refine vx_bipush (v := 32) dX9_wordOf_77 (by decide) ?_
    refine vx_icmp_ne (tgt := 97) dX9_wordOf_79 (by decide) (fun _ => ?_) (fun h => absurd h (by decide))
    refine vx_keep (ls2 := [(2, .inl 24), (1, .inl 4), (0, vx_r 54)]) ⟨rfl, rfl, rfl, trivial⟩ ?_
    exact mo_s4 hd hp hq hpq hq3 (hno (mo_isw_len (by rw [mo_ll_4]; have h9 := c_38_20; rw [nI_leI (by omega) (by omega)] at h9; omega)))
  · refine vx_aload_n dX9_wordOf_41 rfl ?_
    refine vx_getR (ci := 9) (T := TX9) (n := 56) (j := 1) (a := 54) (r := 55) dX9_wordOf_42 rfl lay_X9 (by decide) wd_737 (by decide) ly_54 rfl ?_
    refine vx_aload_n dX9_wordOf_45 rfl ?_
    refine vx_getI (ci := 9) (T := TX9) (n := 56) (j := 11) (a := 54) (v := (nI p)) dX9_wordOf_46 rfl lay_X9 (by decide) wd_747 (by decide) ly_54 rfl hp ?_
    refine vx_iload_n dX9_wordOf_49 rfl ?_
    refine vx_iadd dX9_wordOf_50 ?_
    refine vx_eq (st2 := [.inl (nI (p + 4)), vx_r 55]) rfl rfl (by rw [show (4 : Int32) = nI 4 from rfl, nI_add]) ?_
    refine vx_iald (a := 55) (n := 300) (v := (μ 55 (p + 4))) dX9_wordOf_51 (by decide) ly_55 (vp_in_nI (by have h9 := c_38_20; rw [nI_leI (by omega) (by omega)] at h9; omega) (by omega)) (by rw [nI_clamp (by omega)] <;> rfl) ?_
    refine vx_ldcS (i := 6) dX9_wordOf_52 rfl ?_
    refine vx_iload_n dX9_wordOf_54 rfl ?_
    refine vx_iload_n dX9_wordOf_55 rfl ?_
    refine vx_iadd dX9_wordOf_56 ?_
    refine vx_eq (st2 := [.inl 28, vx_r 1006, .inl (μ 55 (p + 4))]) rfl rfl (by rfl) ?_
    refine vx_callK (i := 6) (vs := [.inl 28]) (st := [.inl (μ 55 (p + 4))]) (r0 := (some (.inl 116))) (μ0 := μ) dX9_wordOf_57 ((c_J0_charAt_5068e (d - 1) (by omega) ad 82 vx_lay μ 6 (by decide) 28 (by decide)).to (congrArg (fun z => some (Sum.inl z)) (mo_chr 28 (by omega))) rfl) wd_930 wd_446 wd_55 hy_J0_charAt_5068e wd_444 wd_445 (by decide) rfl (by omega) (Nat.le_of_ble_eq_true rfl) (Nat.le_of_ble_eq_true rfl) (Nat.le_refl 0) (Nat.le_refl 0) ?_
    refine vx_eq (μ2 := μ) (ls2 := [(3, .inl 4), (2, .inl 24), (1, .inl 4), (0, vx_r 54)]) (st2 := [.inl 116, .inl (μ 55 (p + 4))]) rfl rfl rfl ?_
    refine vx_icmp_ne (tgt := 69) dX9_wordOf_60 (by decide) (fun c_60_20 => ?_) (fun c_60_20 => ?_)
    · refine vx_ldcS (i := 6) dX9_wordOf_69 rfl ?_
      refine vx_iload_n dX9_wordOf_71 rfl ?_
      refine vx_iload_n dX9_wordOf_72 rfl ?_
      refine vx_iadd dX9_wordOf_73 ?_
      refine vx_eq (st2 := [.inl 28, vx_r 1006]) rfl rfl (by rfl) ?_
      refine vx_callK (i := 6) (vs := [.inl 28]) (st := []) (r0 := (some (.inl 116))) (μ0 := μ) dX9_wordOf_74 ((c_J0_charAt_5068e (d - 1) (by omega) ad 82 vx_lay μ 6 (by decide) 28 (by decide)).to (congrArg (fun z => some (Sum.inl z)) (mo_chr 28 (by omega))) rfl) wd_930 wd_446 wd_55 hy_J0_charAt_5068e wd_444 wd_445 (by decide) rfl (by omega) (Nat.le_of_ble_eq_true rfl) (Nat.le_of_ble_eq_true rfl) (Nat.le_refl 0) (Nat.le_refl 0) ?_
      refine vx_eq (μ2 := μ) (ls2 := [(3, .inl 4), (2, .inl 24), (1, .inl 4), (0, vx_r 54)]) (st2 := [.inl 116]) rfl rfl rfl ?_
      refine vx_bipush (v := 32) dX9_wordOf_77 (by decide) ?_
      refine vx_icmp_ne (tgt := 97) dX9_wordOf_79 (by decide) (fun _ => ?_) (fun h => absurd h (by decide))
      refine vx_keep (ls2 := [(2, .inl 24), (1, .inl 4), (0, vx_r 54)]) ⟨rfl, rfl, rfl, trivial⟩ ?_
      exact mo_s4 hd hp hq hpq hq3 (hno (mo_isw_ne (j := 4) (by rw [mo_ll_4]; omega) (by rw [mo_ch_4_4]; exact c_60_20)))
    · refine vx_iinc (v := 5) (ls2 := [(3, .inl 5), (2, .inl 24), (1, .inl 4), (0, vx_r 54)]) dX9_wordOf_63 rfl (by decide) (by decide) rfl ?_
      refine vx_goto (tgt := 15) dX9_wordOf_66 (by decide) ?_
      exact mo_w4_5 hd hp hq hpq hq3 hyes hno m0 m1 m2 m3 (by rw [mo_ch_4_4]; exact c_60_20)
set_option maxRecDepth 20000 in
set_option maxHeartbeats 2000000 in
theorem mo_w4_3 {d : Nat} (hd : 4 ≤ d) {ad : Nat → Nat} {μ : vx_mem} {p q : Nat} (hp : μ 54 11 = nI p) (hq : μ 54 10 = nI q) (hpq : p ≤ q) (hq3 : q ≤ 300) {Post : vx_P} {ini : Bool} (hyes : ¬ sp_isw (μ 55) p q 4 = 0 → Post (some (.inl 4)) ad 82 vx_lay μ) (hno : sp_isw (μ 55) p q 4 = 0 → vx_J RX9 cX9_wordOf 4 (some (.int)) ini d 0 0 Post ad 0 0 82 vx_lay μ 4 [(2, .inl 30), (1, .inl 5), (0, vx_r 54)] []) (m0 : μ 55 (p + 0) = sp_chr 4 0) (m1 : μ 55 (p + 1) = sp_chr 4 1) (m2 : μ 55 (p + 2) = sp_chr 4 2) : vx_J RX9 cX9_wordOf 4 (some (.int)) ini d 0 0 Post ad 0 0 82 vx_lay μ 15 [(3, .inl 3), (2, .inl 24), (1, .inl 4), (0, vx_r 54)] [] := by
  refine vx_ldcS (i := 6) dX9_wordOf_15 rfl ?_
  refine vx_iload_n dX9_wordOf_17 rfl ?_
  refine vx_iload_n dX9_wordOf_18 rfl ?_
  refine vx_iadd dX9_wordOf_19 ?_
  refine vx_eq (st2 := [.inl 27, vx_r 1006]) rfl rfl (by rfl) ?_
  refine vx_callK (i := 6) (vs := [.inl 27]) (st := []) (r0 := (some (.inl 115))) (μ0 := μ) dX9_wordOf_20 ((c_J0_charAt_5068e (d - 1) (by omega) ad 82 vx_lay μ 6 (by decide) 27 (by decide)).to (congrArg (fun z => some (Sum.inl z)) (mo_chr 27 (by omega))) rfl) wd_930 wd_446 wd_55 hy_J0_charAt_5068e wd_444 wd_445 (by decide) rfl (by omega) (Nat.le_of_ble_eq_true rfl) (Nat.le_of_ble_eq_true rfl) (Nat.le_refl 0) (Nat.le_refl 0) ?_
  refine vx_eq (μ2 := μ) (ls2 := [(3, .inl 3), (2, .inl 24), (1, .inl 4), (0, vx_r 54)]) (st2 := [.inl 115]) rfl rfl rfl ?_
  refine vx_bipush (v := 32) dX9_wordOf_23 (by decide) ?_
  refine vx_icmp_eq (tgt := 69) dX9_wordOf_25 (by decide) (fun h => absurd h (by decide)) (fun _ => ?_)
  refine vx_aload_n dX9_wordOf_28 rfl ?_
  refine vx_getI (ci := 9) (T := TX9) (n := 56) (j := 11) (a := 54) (v := (nI p)) dX9_wordOf_29 rfl lay_X9 (by decide) wd_747 (by decide) ly_54 rfl hp ?_
  refine vx_iload_n dX9_wordOf_32 rfl ?_
  refine vx_iadd dX9_wordOf_33 ?_
  refine vx_eq (st2 := [.inl (nI (p + 3))]) rfl rfl (by rw [show (3 : Int32) = nI 3 from rfl, nI_add]) ?_
  refine vx_aload_n dX9_wordOf_34 rfl ?_
  refine vx_getI (ci := 9) (T := TX9) (n := 56) (j := 10) (a := 54) (v := (nI q)) dX9_wordOf_35 rfl lay_X9 (by decide) wd_746 (by decide) ly_54 rfl hq ?_
  refine vx_icmp_ge (tgt := 69) dX9_wordOf_38 (by decide) (fun c_38_21 => ?_) (fun c_38_21 => ?_)
  · refine vx_ldcS (i := 6) dX9_wordOf_69 rfl ?_
    refine vx_iload_n dX9_wordOf_71 rfl ?_
    refine vx_iload_n dX9_wordOf_72 rfl ?_
    refine vx_iadd dX9_wordOf_73 ?_
    refine vx_eq (st2 := [.inl 27, vx_r 1006]) rfl rfl (by rfl) ?_
    refine vx_callK (i := 6) (vs := [.inl 27]) (st := []) (r0 := (some (.inl 115))) (μ0 := μ) dX9_wordOf_74 ((c_J0_charAt_5068e (d - 1) (by omega) ad 82 vx_lay μ 6 (by decide) 27 (by decide)).to (congrArg (fun z => some (Sum.inl z)) (mo_chr 27 (by omega))) rfl) wd_930 wd_446 wd_55 hy_J0_charAt_5068e wd_444 wd_445 (by decide) rfl (by omega) (Nat.le_of_ble_eq_true rfl) (Nat.le_of_ble_eq_true rfl) (Nat.le_refl 0) (Nat.le_refl 0) ?_
    refine vx_eq (μ2 := μ) (ls2 := [(3, .inl 3), (2, .inl 24), (1, .inl 4), (0, vx_r 54)]) (st2 := [.inl 115]) rfl rfl rfl ?_
    refine vx_bipush (v := 32) dX9_wordOf_77 (by decide) ?_
    refine vx_icmp_ne (tgt := 97) dX9_wordOf_79 (by decide) (fun _ => ?_) (fun h => absurd h (by decide))
    refine vx_keep (ls2 := [(2, .inl 24), (1, .inl 4), (0, vx_r 54)]) ⟨rfl, rfl, rfl, trivial⟩ ?_
    exact mo_s4 hd hp hq hpq hq3 (hno (mo_isw_len (by rw [mo_ll_4]; have h9 := c_38_21; rw [nI_leI (by omega) (by omega)] at h9; omega)))
  · refine vx_aload_n dX9_wordOf_41 rfl ?_
    refine vx_getR (ci := 9) (T := TX9) (n := 56) (j := 1) (a := 54) (r := 55) dX9_wordOf_42 rfl lay_X9 (by decide) wd_737 (by decide) ly_54 rfl ?_
    refine vx_aload_n dX9_wordOf_45 rfl ?_
    refine vx_getI (ci := 9) (T := TX9) (n := 56) (j := 11) (a := 54) (v := (nI p)) dX9_wordOf_46 rfl lay_X9 (by decide) wd_747 (by decide) ly_54 rfl hp ?_
    refine vx_iload_n dX9_wordOf_49 rfl ?_
    refine vx_iadd dX9_wordOf_50 ?_
    refine vx_eq (st2 := [.inl (nI (p + 3)), vx_r 55]) rfl rfl (by rw [show (3 : Int32) = nI 3 from rfl, nI_add]) ?_
    refine vx_iald (a := 55) (n := 300) (v := (μ 55 (p + 3))) dX9_wordOf_51 (by decide) ly_55 (vp_in_nI (by have h9 := c_38_21; rw [nI_leI (by omega) (by omega)] at h9; omega) (by omega)) (by rw [nI_clamp (by omega)] <;> rfl) ?_
    refine vx_ldcS (i := 6) dX9_wordOf_52 rfl ?_
    refine vx_iload_n dX9_wordOf_54 rfl ?_
    refine vx_iload_n dX9_wordOf_55 rfl ?_
    refine vx_iadd dX9_wordOf_56 ?_
    refine vx_eq (st2 := [.inl 27, vx_r 1006, .inl (μ 55 (p + 3))]) rfl rfl (by rfl) ?_
    refine vx_callK (i := 6) (vs := [.inl 27]) (st := [.inl (μ 55 (p + 3))]) (r0 := (some (.inl 115))) (μ0 := μ) dX9_wordOf_57 ((c_J0_charAt_5068e (d - 1) (by omega) ad 82 vx_lay μ 6 (by decide) 27 (by decide)).to (congrArg (fun z => some (Sum.inl z)) (mo_chr 27 (by omega))) rfl) wd_930 wd_446 wd_55 hy_J0_charAt_5068e wd_444 wd_445 (by decide) rfl (by omega) (Nat.le_of_ble_eq_true rfl) (Nat.le_of_ble_eq_true rfl) (Nat.le_refl 0) (Nat.le_refl 0) ?_
    refine vx_eq (μ2 := μ) (ls2 := [(3, .inl 3), (2, .inl 24), (1, .inl 4), (0, vx_r 54)]) (st2 := [.inl 115, .inl (μ 55 (p + 3))]) rfl rfl rfl ?_
    refine vx_icmp_ne (tgt := 69) dX9_wordOf_60 (by decide) (fun c_60_21 => ?_) (fun c_60_21 => ?_)
    · refine vx_ldcS (i := 6) dX9_wordOf_69 rfl ?_
      refine vx_iload_n dX9_wordOf_71 rfl ?_
      refine vx_iload_n dX9_wordOf_72 rfl ?_
      refine vx_iadd dX9_wordOf_73 ?_
      refine vx_eq (st2 := [.inl 27, vx_r 1006]) rfl rfl (by rfl) ?_
      refine vx_callK (i := 6) (vs := [.inl 27]) (st := []) (r0 := (some (.inl 115))) (μ0 := μ) dX9_wordOf_74 ((c_J0_charAt_5068e (d - 1) (by omega) ad 82 vx_lay μ 6 (by decide) 27 (by decide)).to (congrArg (fun z => some (Sum.inl z)) (mo_chr 27 (by omega))) rfl) wd_930 wd_446 wd_55 hy_J0_charAt_5068e wd_444 wd_445 (by decide) rfl (by omega) (Nat.le_of_ble_eq_true rfl) (Nat.le_of_ble_eq_true rfl) (Nat.le_refl 0) (Nat.le_refl 0) ?_
      refine vx_eq (μ2 := μ) (ls2 := [(3, .inl 3), (2, .inl 24), (1, .inl 4), (0, vx_r 54)]) (st2 := [.inl 115]) rfl rfl rfl ?_
      refine vx_bipush (v := 32) dX9_wordOf_77 (by decide) ?_
      refine vx_icmp_ne (tgt := 97) dX9_wordOf_79 (by decide) (fun _ => ?_) (fun h => absurd h (by decide))
      refine vx_keep (ls2 := [(2, .inl 24), (1, .inl 4), (0, vx_r 54)]) ⟨rfl, rfl, rfl, trivial⟩ ?_
      exact mo_s4 hd hp hq hpq hq3 (hno (mo_isw_ne (j := 3) (by rw [mo_ll_4]; omega) (by rw [mo_ch_4_3]; exact c_60_21)))
    · refine vx_iinc (v := 4) (ls2 := [(3, .inl 4), (2, .inl 24), (1, .inl 4), (0, vx_r 54)]) dX9_wordOf_63 rfl (by decide) (by decide) rfl ?_
      refine vx_goto (tgt := 15) dX9_wordOf_66 (by decide) ?_
      exact mo_w4_4 hd hp hq hpq hq3 hyes hno m0 m1 m2 (by rw [mo_ch_4_3]; exact c_60_21)
set_option maxRecDepth 20000 in
set_option maxHeartbeats 2000000 in
theorem mo_w4_2 {d : Nat} (hd : 4 ≤ d) {ad : Nat → Nat} {μ : vx_mem} {p q : Nat} (hp : μ 54 11 = nI p) (hq : μ 54 10 = nI q) (hpq : p ≤ q) (hq3 : q ≤ 300) {Post : vx_P} {ini : Bool} (hyes : ¬ sp_isw (μ 55) p q 4 = 0 → Post (some (.inl 4)) ad 82 vx_lay μ) (hno : sp_isw (μ 55) p q 4 = 0 → vx_J RX9 cX9_wordOf 4 (some (.int)) ini d 0 0 Post ad 0 0 82 vx_lay μ 4 [(2, .inl 30), (1, .inl 5), (0, vx_r 54)] []) (m0 : μ 55 (p + 0) = sp_chr 4 0) (m1 : μ 55 (p + 1) = sp_chr 4 1) : vx_J RX9 cX9_wordOf 4 (some (.int)) ini d 0 0 Post ad 0 0 82 vx_lay μ 15 [(3, .inl 2), (2, .inl 24), (1, .inl 4), (0, vx_r 54)] [] := by
  refine vx_ldcS (i := 6) dX9_wordOf_15 rfl ?_
  refine vx_iload_n dX9_wordOf_17 rfl ?_
  refine vx_iload_n dX9_wordOf_18 rfl ?_
  refine vx_iadd dX9_wordOf_19 ?_
  refine vx_eq (st2 := [.inl 26, vx_r 1006]) rfl rfl (by rfl) ?_
  refine vx_callK (i := 6) (vs := [.inl 26]) (st := []) (r0 := (some (.inl 114))) (μ0 := μ) dX9_wordOf_20 ((c_J0_charAt_5068e (d - 1) (by omega) ad 82 vx_lay μ 6 (by decide) 26 (by decide)).to (congrArg (fun z => some (Sum.inl z)) (mo_chr 26 (by omega))) rfl) wd_930 wd_446 wd_55 hy_J0_charAt_5068e wd_444 wd_445 (by decide) rfl (by omega) (Nat.le_of_ble_eq_true rfl) (Nat.le_of_ble_eq_true rfl) (Nat.le_refl 0) (Nat.le_refl 0) ?_
  refine vx_eq (μ2 := μ) (ls2 := [(3, .inl 2), (2, .inl 24), (1, .inl 4), (0, vx_r 54)]) (st2 := [.inl 114]) rfl rfl rfl ?_
  refine vx_bipush (v := 32) dX9_wordOf_23 (by decide) ?_
  refine vx_icmp_eq (tgt := 69) dX9_wordOf_25 (by decide) (fun h => absurd h (by decide)) (fun _ => ?_)
  refine vx_aload_n dX9_wordOf_28 rfl ?_
  refine vx_getI (ci := 9) (T := TX9) (n := 56) (j := 11) (a := 54) (v := (nI p)) dX9_wordOf_29 rfl lay_X9 (by decide) wd_747 (by decide) ly_54 rfl hp ?_
  refine vx_iload_n dX9_wordOf_32 rfl ?_
  refine vx_iadd dX9_wordOf_33 ?_
  refine vx_eq (st2 := [.inl (nI (p + 2))]) rfl rfl (by rw [show (2 : Int32) = nI 2 from rfl, nI_add]) ?_
  refine vx_aload_n dX9_wordOf_34 rfl ?_
  refine vx_getI (ci := 9) (T := TX9) (n := 56) (j := 10) (a := 54) (v := (nI q)) dX9_wordOf_35 rfl lay_X9 (by decide) wd_746 (by decide) ly_54 rfl hq ?_
  refine vx_icmp_ge (tgt := 69) dX9_wordOf_38 (by decide) (fun c_38_22 => ?_) (fun c_38_22 => ?_)
  · refine vx_ldcS (i := 6) dX9_wordOf_69 rfl ?_
    refine vx_iload_n dX9_wordOf_71 rfl ?_
    refine vx_iload_n dX9_wordOf_72 rfl ?_
    refine vx_iadd dX9_wordOf_73 ?_
    refine vx_eq (st2 := [.inl 26, vx_r 1006]) rfl rfl (by rfl) ?_
    refine vx_callK (i := 6) (vs := [.inl 26]) (st := []) (r0 := (some (.inl 114))) (μ0 := μ) dX9_wordOf_74 ((c_J0_charAt_5068e (d - 1) (by omega) ad 82 vx_lay μ 6 (by decide) 26 (by decide)).to (congrArg (fun z => some (Sum.inl z)) (mo_chr 26 (by omega))) rfl) wd_930 wd_446 wd_55 hy_J0_charAt_5068e wd_444 wd_445 (by decide) rfl (by omega) (Nat.le_of_ble_eq_true rfl) (Nat.le_of_ble_eq_true rfl) (Nat.le_refl 0) (Nat.le_refl 0) ?_
    refine vx_eq (μ2 := μ) (ls2 := [(3, .inl 2), (2, .inl 24), (1, .inl 4), (0, vx_r 54)]) (st2 := [.inl 114]) rfl rfl rfl ?_
    refine vx_bipush (v := 32) dX9_wordOf_77 (by decide) ?_
    refine vx_icmp_ne (tgt := 97) dX9_wordOf_79 (by decide) (fun _ => ?_) (fun h => absurd h (by decide))
    refine vx_keep (ls2 := [(2, .inl 24), (1, .inl 4), (0, vx_r 54)]) ⟨rfl, rfl, rfl, trivial⟩ ?_
    exact mo_s4 hd hp hq hpq hq3 (hno (mo_isw_len (by rw [mo_ll_4]; have h9 := c_38_22; rw [nI_leI (by omega) (by omega)] at h9; omega)))
  · refine vx_aload_n dX9_wordOf_41 rfl ?_
    refine vx_getR (ci := 9) (T := TX9) (n := 56) (j := 1) (a := 54) (r := 55) dX9_wordOf_42 rfl lay_X9 (by decide) wd_737 (by decide) ly_54 rfl ?_
    refine vx_aload_n dX9_wordOf_45 rfl ?_
    refine vx_getI (ci := 9) (T := TX9) (n := 56) (j := 11) (a := 54) (v := (nI p)) dX9_wordOf_46 rfl lay_X9 (by decide) wd_747 (by decide) ly_54 rfl hp ?_
    refine vx_iload_n dX9_wordOf_49 rfl ?_
    refine vx_iadd dX9_wordOf_50 ?_
    refine vx_eq (st2 := [.inl (nI (p + 2)), vx_r 55]) rfl rfl (by rw [show (2 : Int32) = nI 2 from rfl, nI_add]) ?_
    refine vx_iald (a := 55) (n := 300) (v := (μ 55 (p + 2))) dX9_wordOf_51 (by decide) ly_55 (vp_in_nI (by have h9 := c_38_22; rw [nI_leI (by omega) (by omega)] at h9; omega) (by omega)) (by rw [nI_clamp (by omega)] <;> rfl) ?_
    refine vx_ldcS (i := 6) dX9_wordOf_52 rfl ?_
    refine vx_iload_n dX9_wordOf_54 rfl ?_
    refine vx_iload_n dX9_wordOf_55 rfl ?_
    refine vx_iadd dX9_wordOf_56 ?_
    refine vx_eq (st2 := [.inl 26, vx_r 1006, .inl (μ 55 (p + 2))]) rfl rfl (by rfl) ?_
    refine vx_callK (i := 6) (vs := [.inl 26]) (st := [.inl (μ 55 (p + 2))]) (r0 := (some (.inl 114))) (μ0 := μ) dX9_wordOf_57 ((c_J0_charAt_5068e (d - 1) (by omega) ad 82 vx_lay μ 6 (by decide) 26 (by decide)).to (congrArg (fun z => some (Sum.inl z)) (mo_chr 26 (by omega))) rfl) wd_930 wd_446 wd_55 hy_J0_charAt_5068e wd_444 wd_445 (by decide) rfl (by omega) (Nat.le_of_ble_eq_true rfl) (Nat.le_of_ble_eq_true rfl) (Nat.le_refl 0) (Nat.le_refl 0) ?_
    refine vx_eq (μ2 := μ) (ls2 := [(3, .inl 2), (2, .inl 24), (1, .inl 4), (0, vx_r 54)]) (st2 := [.inl 114, .inl (μ 55 (p + 2))]) rfl rfl rfl ?_
    refine vx_icmp_ne (tgt := 69) dX9_wordOf_60 (by decide) (fun c_60_22 => ?_) (fun c_60_22 => ?_)
    · refine vx_ldcS (i := 6) dX9_wordOf_69 rfl ?_
      refine vx_iload_n dX9_wordOf_71 rfl ?_
      refine vx_iload_n dX9_wordOf_72 rfl ?_
      refine vx_iadd dX9_wordOf_73 ?_
      refine vx_eq (st2 := [.inl 26, vx_r 1006]) rfl rfl (by rfl) ?_
      refine vx_callK (i := 6) (vs := [.inl 26]) (st := []) (r0 := (some (.inl 114))) (μ0 := μ) dX9_wordOf_74 ((c_J0_charAt_5068e (d - 1) (by omega) ad 82 vx_lay μ 6 (by decide) 26 (by decide)).to (congrArg (fun z => some (Sum.inl z)) (mo_chr 26 (by omega))) rfl) wd_930 wd_446 wd_55 hy_J0_charAt_5068e wd_444 wd_445 (by decide) rfl (by omega) (Nat.le_of_ble_eq_true rfl) (Nat.le_of_ble_eq_true rfl) (Nat.le_refl 0) (Nat.le_refl 0) ?_
      refine vx_eq (μ2 := μ) (ls2 := [(3, .inl 2), (2, .inl 24), (1, .inl 4), (0, vx_r 54)]) (st2 := [.inl 114]) rfl rfl rfl ?_
      refine vx_bipush (v := 32) dX9_wordOf_77 (by decide) ?_
      refine vx_icmp_ne (tgt := 97) dX9_wordOf_79 (by decide) (fun _ => ?_) (fun h => absurd h (by decide))
      refine vx_keep (ls2 := [(2, .inl 24), (1, .inl 4), (0, vx_r 54)]) ⟨rfl, rfl, rfl, trivial⟩ ?_
      exact mo_s4 hd hp hq hpq hq3 (hno (mo_isw_ne (j := 2) (by rw [mo_ll_4]; omega) (by rw [mo_ch_4_2]; exact c_60_22)))
    · refine vx_iinc (v := 3) (ls2 := [(3, .inl 3), (2, .inl 24), (1, .inl 4), (0, vx_r 54)]) dX9_wordOf_63 rfl (by decide) (by decide) rfl ?_
      refine vx_goto (tgt := 15) dX9_wordOf_66 (by decide) ?_
      exact mo_w4_3 hd hp hq hpq hq3 hyes hno m0 m1 (by rw [mo_ch_4_2]; exact c_60_22)
set_option maxRecDepth 20000 in
set_option maxHeartbeats 2000000 in
theorem mo_w4_1 {d : Nat} (hd : 4 ≤ d) {ad : Nat → Nat} {μ : vx_mem} {p q : Nat} (hp : μ 54 11 = nI p) (hq : μ 54 10 = nI q) (hpq : p ≤ q) (hq3 : q ≤ 300) {Post : vx_P} {ini : Bool} (hyes : ¬ sp_isw (μ 55) p q 4 = 0 → Post (some (.inl 4)) ad 82 vx_lay μ) (hno : sp_isw (μ 55) p q 4 = 0 → vx_J RX9 cX9_wordOf 4 (some (.int)) ini d 0 0 Post ad 0 0 82 vx_lay μ 4 [(2, .inl 30), (1, .inl 5), (0, vx_r 54)] []) (m0 : μ 55 (p + 0) = sp_chr 4 0) : vx_J RX9 cX9_wordOf 4 (some (.int)) ini d 0 0 Post ad 0 0 82 vx_lay μ 15 [(3, .inl 1), (2, .inl 24), (1, .inl 4), (0, vx_r 54)] [] := by
  refine vx_ldcS (i := 6) dX9_wordOf_15 rfl ?_
  refine vx_iload_n dX9_wordOf_17 rfl ?_
  refine vx_iload_n dX9_wordOf_18 rfl ?_
  refine vx_iadd dX9_wordOf_19 ?_
  refine vx_eq (st2 := [.inl 25, vx_r 1006]) rfl rfl (by rfl) ?_
  refine vx_callK (i := 6) (vs := [.inl 25]) (st := []) (r0 := (some (.inl 105))) (μ0 := μ) dX9_wordOf_20 ((c_J0_charAt_5068e (d - 1) (by omega) ad 82 vx_lay μ 6 (by decide) 25 (by decide)).to (congrArg (fun z => some (Sum.inl z)) (mo_chr 25 (by omega))) rfl) wd_930 wd_446 wd_55 hy_J0_charAt_5068e wd_444 wd_445 (by decide) rfl (by omega) (Nat.le_of_ble_eq_true rfl) (Nat.le_of_ble_eq_true rfl) (Nat.le_refl 0) (Nat.le_refl 0) ?_
  refine vx_eq (μ2 := μ) (ls2 := [(3, .inl 1), (2, .inl 24), (1, .inl 4), (0, vx_r 54)]) (st2 := [.inl 105]) rfl rfl rfl ?_
  refine vx_bipush (v := 32) dX9_wordOf_23 (by decide) ?_
  refine vx_icmp_eq (tgt := 69) dX9_wordOf_25 (by decide) (fun h => absurd h (by decide)) (fun _ => ?_)
  refine vx_aload_n dX9_wordOf_28 rfl ?_
  refine vx_getI (ci := 9) (T := TX9) (n := 56) (j := 11) (a := 54) (v := (nI p)) dX9_wordOf_29 rfl lay_X9 (by decide) wd_747 (by decide) ly_54 rfl hp ?_
  refine vx_iload_n dX9_wordOf_32 rfl ?_
  refine vx_iadd dX9_wordOf_33 ?_
  refine vx_eq (st2 := [.inl (nI (p + 1))]) rfl rfl (by rw [show (1 : Int32) = nI 1 from rfl, nI_add]) ?_
  refine vx_aload_n dX9_wordOf_34 rfl ?_
  refine vx_getI (ci := 9) (T := TX9) (n := 56) (j := 10) (a := 54) (v := (nI q)) dX9_wordOf_35 rfl lay_X9 (by decide) wd_746 (by decide) ly_54 rfl hq ?_
  refine vx_icmp_ge (tgt := 69) dX9_wordOf_38 (by decide) (fun c_38_23 => ?_) (fun c_38_23 => ?_)
  · refine vx_ldcS (i := 6) dX9_wordOf_69 rfl ?_
    refine vx_iload_n dX9_wordOf_71 rfl ?_
    refine vx_iload_n dX9_wordOf_72 rfl ?_
    refine vx_iadd dX9_wordOf_73 ?_
    refine vx_eq (st2 := [.inl 25, vx_r 1006]) rfl rfl (by rfl) ?_
    refine vx_callK (i := 6) (vs := [.inl 25]) (st := []) (r0 := (some (.inl 105))) (μ0 := μ) dX9_wordOf_74 ((c_J0_charAt_5068e (d - 1) (by omega) ad 82 vx_lay μ 6 (by decide) 25 (by decide)).to (congrArg (fun z => some (Sum.inl z)) (mo_chr 25 (by omega))) rfl) wd_930 wd_446 wd_55 hy_J0_charAt_5068e wd_444 wd_445 (by decide) rfl (by omega) (Nat.le_of_ble_eq_true rfl) (Nat.le_of_ble_eq_true rfl) (Nat.le_refl 0) (Nat.le_refl 0) ?_
    refine vx_eq (μ2 := μ) (ls2 := [(3, .inl 1), (2, .inl 24), (1, .inl 4), (0, vx_r 54)]) (st2 := [.inl 105]) rfl rfl rfl ?_
    refine vx_bipush (v := 32) dX9_wordOf_77 (by decide) ?_
    refine vx_icmp_ne (tgt := 97) dX9_wordOf_79 (by decide) (fun _ => ?_) (fun h => absurd h (by decide))
    refine vx_keep (ls2 := [(2, .inl 24), (1, .inl 4), (0, vx_r 54)]) ⟨rfl, rfl, rfl, trivial⟩ ?_
    exact mo_s4 hd hp hq hpq hq3 (hno (mo_isw_len (by rw [mo_ll_4]; have h9 := c_38_23; rw [nI_leI (by omega) (by omega)] at h9; omega)))
  · refine vx_aload_n dX9_wordOf_41 rfl ?_
    refine vx_getR (ci := 9) (T := TX9) (n := 56) (j := 1) (a := 54) (r := 55) dX9_wordOf_42 rfl lay_X9 (by decide) wd_737 (by decide) ly_54 rfl ?_
    refine vx_aload_n dX9_wordOf_45 rfl ?_
    refine vx_getI (ci := 9) (T := TX9) (n := 56) (j := 11) (a := 54) (v := (nI p)) dX9_wordOf_46 rfl lay_X9 (by decide) wd_747 (by decide) ly_54 rfl hp ?_
    refine vx_iload_n dX9_wordOf_49 rfl ?_
    refine vx_iadd dX9_wordOf_50 ?_
    refine vx_eq (st2 := [.inl (nI (p + 1)), vx_r 55]) rfl rfl (by rw [show (1 : Int32) = nI 1 from rfl, nI_add]) ?_
    refine vx_iald (a := 55) (n := 300) (v := (μ 55 (p + 1))) dX9_wordOf_51 (by decide) ly_55 (vp_in_nI (by have h9 := c_38_23; rw [nI_leI (by omega) (by omega)] at h9; omega) (by omega)) (by rw [nI_clamp (by omega)] <;> rfl) ?_
    refine vx_ldcS (i := 6) dX9_wordOf_52 rfl ?_
    refine vx_iload_n dX9_wordOf_54 rfl ?_
    refine vx_iload_n dX9_wordOf_55 rfl ?_
    refine vx_iadd dX9_wordOf_56 ?_
    refine vx_eq (st2 := [.inl 25, vx_r 1006, .inl (μ 55 (p + 1))]) rfl rfl (by rfl) ?_
    refine vx_callK (i := 6) (vs := [.inl 25]) (st := [.inl (μ 55 (p + 1))]) (r0 := (some (.inl 105))) (μ0 := μ) dX9_wordOf_57 ((c_J0_charAt_5068e (d - 1) (by omega) ad 82 vx_lay μ 6 (by decide) 25 (by decide)).to (congrArg (fun z => some (Sum.inl z)) (mo_chr 25 (by omega))) rfl) wd_930 wd_446 wd_55 hy_J0_charAt_5068e wd_444 wd_445 (by decide) rfl (by omega) (Nat.le_of_ble_eq_true rfl) (Nat.le_of_ble_eq_true rfl) (Nat.le_refl 0) (Nat.le_refl 0) ?_
    refine vx_eq (μ2 := μ) (ls2 := [(3, .inl 1), (2, .inl 24), (1, .inl 4), (0, vx_r 54)]) (st2 := [.inl 105, .inl (μ 55 (p + 1))]) rfl rfl rfl ?_
    refine vx_icmp_ne (tgt := 69) dX9_wordOf_60 (by decide) (fun c_60_23 => ?_) (fun c_60_23 => ?_)
    · refine vx_ldcS (i := 6) dX9_wordOf_69 rfl ?_
      refine vx_iload_n dX9_wordOf_71 rfl ?_
      refine vx_iload_n dX9_wordOf_72 rfl ?_
      refine vx_iadd dX9_wordOf_73 ?_
      refine vx_eq (st2 := [.inl 25, vx_r 1006]) rfl rfl (by rfl) ?_
      refine vx_callK (i := 6) (vs := [.inl 25]) (st := []) (r0 := (some (.inl 105))) (μ0 := μ) dX9_wordOf_74 ((c_J0_charAt_5068e (d - 1) (by omega) ad 82 vx_lay μ 6 (by decide) 25 (by decide)).to (congrArg (fun z => some (Sum.inl z)) (mo_chr 25 (by omega))) rfl) wd_930 wd_446 wd_55 hy_J0_charAt_5068e wd_444 wd_445 (by decide) rfl (by omega) (Nat.le_of_ble_eq_true rfl) (Nat.le_of_ble_eq_true rfl) (Nat.le_refl 0) (Nat.le_refl 0) ?_
      refine vx_eq (μ2 := μ) (ls2 := [(3, .inl 1), (2, .inl 24), (1, .inl 4), (0, vx_r 54)]) (st2 := [.inl 105]) rfl rfl rfl ?_
      refine vx_bipush (v := 32) dX9_wordOf_77 (by decide) ?_
      refine vx_icmp_ne (tgt := 97) dX9_wordOf_79 (by decide) (fun _ => ?_) (fun h => absurd h (by decide))
      refine vx_keep (ls2 := [(2, .inl 24), (1, .inl 4), (0, vx_r 54)]) ⟨rfl, rfl, rfl, trivial⟩ ?_
      exact mo_s4 hd hp hq hpq hq3 (hno (mo_isw_ne (j := 1) (by rw [mo_ll_4]; omega) (by rw [mo_ch_4_1]; exact c_60_23)))
    · refine vx_iinc (v := 2) (ls2 := [(3, .inl 2), (2, .inl 24), (1, .inl 4), (0, vx_r 54)]) dX9_wordOf_63 rfl (by decide) (by decide) rfl ?_
      refine vx_goto (tgt := 15) dX9_wordOf_66 (by decide) ?_
      exact mo_w4_2 hd hp hq hpq hq3 hyes hno m0 (by rw [mo_ch_4_1]; exact c_60_23)
set_option maxRecDepth 20000 in
set_option maxHeartbeats 2000000 in
theorem mo_w4_0 {d : Nat} (hd : 4 ≤ d) {ad : Nat → Nat} {μ : vx_mem} {p q : Nat} (hp : μ 54 11 = nI p) (hq : μ 54 10 = nI q) (hpq : p ≤ q) (hq3 : q ≤ 300) {Post : vx_P} {ini : Bool} (hyes : ¬ sp_isw (μ 55) p q 4 = 0 → Post (some (.inl 4)) ad 82 vx_lay μ) (hno : sp_isw (μ 55) p q 4 = 0 → vx_J RX9 cX9_wordOf 4 (some (.int)) ini d 0 0 Post ad 0 0 82 vx_lay μ 4 [(2, .inl 30), (1, .inl 5), (0, vx_r 54)] []) : vx_J RX9 cX9_wordOf 4 (some (.int)) ini d 0 0 Post ad 0 0 82 vx_lay μ 15 [(3, .inl 0), (2, .inl 24), (1, .inl 4), (0, vx_r 54)] [] := by
  refine vx_ldcS (i := 6) dX9_wordOf_15 rfl ?_
  refine vx_iload_n dX9_wordOf_17 rfl ?_
  refine vx_iload_n dX9_wordOf_18 rfl ?_
  refine vx_iadd dX9_wordOf_19 ?_
  refine vx_eq (st2 := [.inl 24, vx_r 1006]) rfl rfl (by rfl) ?_
  refine vx_callK (i := 6) (vs := [.inl 24]) (st := []) (r0 := (some (.inl 102))) (μ0 := μ) dX9_wordOf_20 ((c_J0_charAt_5068e (d - 1) (by omega) ad 82 vx_lay μ 6 (by decide) 24 (by decide)).to (congrArg (fun z => some (Sum.inl z)) (mo_chr 24 (by omega))) rfl) wd_930 wd_446 wd_55 hy_J0_charAt_5068e wd_444 wd_445 (by decide) rfl (by omega) (Nat.le_of_ble_eq_true rfl) (Nat.le_of_ble_eq_true rfl) (Nat.le_refl 0) (Nat.le_refl 0) ?_
  refine vx_eq (μ2 := μ) (ls2 := [(3, .inl 0), (2, .inl 24), (1, .inl 4), (0, vx_r 54)]) (st2 := [.inl 102]) rfl rfl rfl ?_
  refine vx_bipush (v := 32) dX9_wordOf_23 (by decide) ?_
  refine vx_icmp_eq (tgt := 69) dX9_wordOf_25 (by decide) (fun h => absurd h (by decide)) (fun _ => ?_)
  refine vx_aload_n dX9_wordOf_28 rfl ?_
  refine vx_getI (ci := 9) (T := TX9) (n := 56) (j := 11) (a := 54) (v := (nI p)) dX9_wordOf_29 rfl lay_X9 (by decide) wd_747 (by decide) ly_54 rfl hp ?_
  refine vx_iload_n dX9_wordOf_32 rfl ?_
  refine vx_iadd dX9_wordOf_33 ?_
  refine vx_eq (st2 := [.inl (nI p)]) rfl rfl (by rw [show (0 : Int32) = nI 0 from rfl, nI_add]; rfl) ?_
  refine vx_aload_n dX9_wordOf_34 rfl ?_
  refine vx_getI (ci := 9) (T := TX9) (n := 56) (j := 10) (a := 54) (v := (nI q)) dX9_wordOf_35 rfl lay_X9 (by decide) wd_746 (by decide) ly_54 rfl hq ?_
  refine vx_icmp_ge (tgt := 69) dX9_wordOf_38 (by decide) (fun c_38_24 => ?_) (fun c_38_24 => ?_)
  · refine vx_ldcS (i := 6) dX9_wordOf_69 rfl ?_
    refine vx_iload_n dX9_wordOf_71 rfl ?_
    refine vx_iload_n dX9_wordOf_72 rfl ?_
    refine vx_iadd dX9_wordOf_73 ?_
    refine vx_eq (st2 := [.inl 24, vx_r 1006]) rfl rfl (by rfl) ?_
    refine vx_callK (i := 6) (vs := [.inl 24]) (st := []) (r0 := (some (.inl 102))) (μ0 := μ) dX9_wordOf_74 ((c_J0_charAt_5068e (d - 1) (by omega) ad 82 vx_lay μ 6 (by decide) 24 (by decide)).to (congrArg (fun z => some (Sum.inl z)) (mo_chr 24 (by omega))) rfl) wd_930 wd_446 wd_55 hy_J0_charAt_5068e wd_444 wd_445 (by decide) rfl (by omega) (Nat.le_of_ble_eq_true rfl) (Nat.le_of_ble_eq_true rfl) (Nat.le_refl 0) (Nat.le_refl 0) ?_
    refine vx_eq (μ2 := μ) (ls2 := [(3, .inl 0), (2, .inl 24), (1, .inl 4), (0, vx_r 54)]) (st2 := [.inl 102]) rfl rfl rfl ?_
    refine vx_bipush (v := 32) dX9_wordOf_77 (by decide) ?_
    refine vx_icmp_ne (tgt := 97) dX9_wordOf_79 (by decide) (fun _ => ?_) (fun h => absurd h (by decide))
    refine vx_keep (ls2 := [(2, .inl 24), (1, .inl 4), (0, vx_r 54)]) ⟨rfl, rfl, rfl, trivial⟩ ?_
    exact mo_s4 hd hp hq hpq hq3 (hno (mo_isw_len (by rw [mo_ll_4]; have h9 := c_38_24; rw [nI_leI (by omega) (by omega)] at h9; omega)))
  · refine vx_aload_n dX9_wordOf_41 rfl ?_
    refine vx_getR (ci := 9) (T := TX9) (n := 56) (j := 1) (a := 54) (r := 55) dX9_wordOf_42 rfl lay_X9 (by decide) wd_737 (by decide) ly_54 rfl ?_
    refine vx_aload_n dX9_wordOf_45 rfl ?_
    refine vx_getI (ci := 9) (T := TX9) (n := 56) (j := 11) (a := 54) (v := (nI p)) dX9_wordOf_46 rfl lay_X9 (by decide) wd_747 (by decide) ly_54 rfl hp ?_
    refine vx_iload_n dX9_wordOf_49 rfl ?_
    refine vx_iadd dX9_wordOf_50 ?_
    refine vx_eq (st2 := [.inl (nI p), vx_r 55]) rfl rfl (by rw [show (0 : Int32) = nI 0 from rfl, nI_add]; rfl) ?_
    refine vx_iald (a := 55) (n := 300) (v := (μ 55 p)) dX9_wordOf_51 (by decide) ly_55 (vp_in_nI (by have h9 := c_38_24; rw [nI_leI (by omega) (by omega)] at h9; omega) (by omega)) (by rw [nI_clamp (by omega)] <;> rfl) ?_
    refine vx_ldcS (i := 6) dX9_wordOf_52 rfl ?_
    refine vx_iload_n dX9_wordOf_54 rfl ?_
    refine vx_iload_n dX9_wordOf_55 rfl ?_
    refine vx_iadd dX9_wordOf_56 ?_
    refine vx_eq (st2 := [.inl 24, vx_r 1006, .inl (μ 55 p)]) rfl rfl (by rfl) ?_
    refine vx_callK (i := 6) (vs := [.inl 24]) (st := [.inl (μ 55 p)]) (r0 := (some (.inl 102))) (μ0 := μ) dX9_wordOf_57 ((c_J0_charAt_5068e (d - 1) (by omega) ad 82 vx_lay μ 6 (by decide) 24 (by decide)).to (congrArg (fun z => some (Sum.inl z)) (mo_chr 24 (by omega))) rfl) wd_930 wd_446 wd_55 hy_J0_charAt_5068e wd_444 wd_445 (by decide) rfl (by omega) (Nat.le_of_ble_eq_true rfl) (Nat.le_of_ble_eq_true rfl) (Nat.le_refl 0) (Nat.le_refl 0) ?_
    refine vx_eq (μ2 := μ) (ls2 := [(3, .inl 0), (2, .inl 24), (1, .inl 4), (0, vx_r 54)]) (st2 := [.inl 102, .inl (μ 55 p)]) rfl rfl rfl ?_
    refine vx_icmp_ne (tgt := 69) dX9_wordOf_60 (by decide) (fun c_60_24 => ?_) (fun c_60_24 => ?_)
    · refine vx_ldcS (i := 6) dX9_wordOf_69 rfl ?_
      refine vx_iload_n dX9_wordOf_71 rfl ?_
      refine vx_iload_n dX9_wordOf_72 rfl ?_
      refine vx_iadd dX9_wordOf_73 ?_
      refine vx_eq (st2 := [.inl 24, vx_r 1006]) rfl rfl (by rfl) ?_
      refine vx_callK (i := 6) (vs := [.inl 24]) (st := []) (r0 := (some (.inl 102))) (μ0 := μ) dX9_wordOf_74 ((c_J0_charAt_5068e (d - 1) (by omega) ad 82 vx_lay μ 6 (by decide) 24 (by decide)).to (congrArg (fun z => some (Sum.inl z)) (mo_chr 24 (by omega))) rfl) wd_930 wd_446 wd_55 hy_J0_charAt_5068e wd_444 wd_445 (by decide) rfl (by omega) (Nat.le_of_ble_eq_true rfl) (Nat.le_of_ble_eq_true rfl) (Nat.le_refl 0) (Nat.le_refl 0) ?_
      refine vx_eq (μ2 := μ) (ls2 := [(3, .inl 0), (2, .inl 24), (1, .inl 4), (0, vx_r 54)]) (st2 := [.inl 102]) rfl rfl rfl ?_
      refine vx_bipush (v := 32) dX9_wordOf_77 (by decide) ?_
      refine vx_icmp_ne (tgt := 97) dX9_wordOf_79 (by decide) (fun _ => ?_) (fun h => absurd h (by decide))
      refine vx_keep (ls2 := [(2, .inl 24), (1, .inl 4), (0, vx_r 54)]) ⟨rfl, rfl, rfl, trivial⟩ ?_
      exact mo_s4 hd hp hq hpq hq3 (hno (mo_isw_ne (j := 0) (by rw [mo_ll_4]; omega) (by rw [mo_ch_4_0]; exact c_60_24)))
    · refine vx_iinc (v := 1) (ls2 := [(3, .inl 1), (2, .inl 24), (1, .inl 4), (0, vx_r 54)]) dX9_wordOf_63 rfl (by decide) (by decide) rfl ?_
      refine vx_goto (tgt := 15) dX9_wordOf_66 (by decide) ?_
      exact mo_w4_1 hd hp hq hpq hq3 hyes hno (by rw [mo_ch_4_0]; exact c_60_24)
set_option maxRecDepth 20000 in
set_option maxHeartbeats 2000000 in
theorem mo_s5 {d : Nat} (hd : 4 ≤ d) {ad : Nat → Nat} {μ : vx_mem} {p q : Nat} (hp : μ 54 11 = nI p) (hq : μ 54 10 = nI q) (hpq : p ≤ q) (hq3 : q ≤ 300) {Post : vx_P} {ini : Bool} (hno : vx_J RX9 cX9_wordOf 4 (some (.int)) ini d 0 0 Post ad 0 0 82 vx_lay μ 4 [(2, .inl 35), (1, .inl 6), (0, vx_r 54)] []) : vx_J RX9 cX9_wordOf 4 (some (.int)) ini d 0 0 Post ad 0 0 82 vx_lay μ 97 [(2, .inl 30), (1, .inl 5), (0, vx_r 54)] [] := by
  refine vx_ldcS (i := 6) dX9_wordOf_97 rfl ?_
  refine vx_iload_n dX9_wordOf_99 rfl ?_
  refine vx_callK (i := 6) (vs := [.inl 30]) (st := []) (r0 := (some (.inl 100))) (μ0 := μ) dX9_wordOf_100 ((c_J0_charAt_5068e (d - 1) (by omega) ad 82 vx_lay μ 6 (by decide) 30 (by decide)).to (congrArg (fun z => some (Sum.inl z)) (mo_chr 30 (by omega))) rfl) wd_930 wd_446 wd_55 hy_J0_charAt_5068e wd_444 wd_445 (by decide) rfl (by omega) (Nat.le_of_ble_eq_true rfl) (Nat.le_of_ble_eq_true rfl) (Nat.le_refl 0) (Nat.le_refl 0) ?_
  refine vx_eq (μ2 := μ) (ls2 := [(2, .inl 30), (1, .inl 5), (0, vx_r 54)]) (st2 := [.inl 100]) rfl rfl rfl ?_
  refine vx_bipush (v := 32) dX9_wordOf_103 (by decide) ?_
  refine vx_icmp_eq (tgt := 114) dX9_wordOf_105 (by decide) (fun h => absurd h (by decide)) (fun _ => ?_)
  refine vx_iinc (v := 31) (ls2 := [(2, .inl 31), (1, .inl 5), (0, vx_r 54)]) dX9_wordOf_108 rfl (by decide) (by decide) rfl ?_
  refine vx_goto (tgt := 97) dX9_wordOf_111 (by decide) ?_
  refine vx_ldcS (i := 6) dX9_wordOf_97 rfl ?_
  refine vx_iload_n dX9_wordOf_99 rfl ?_
  refine vx_callK (i := 6) (vs := [.inl 31]) (st := []) (r0 := (some (.inl 97))) (μ0 := μ) dX9_wordOf_100 ((c_J0_charAt_5068e (d - 1) (by omega) ad 82 vx_lay μ 6 (by decide) 31 (by decide)).to (congrArg (fun z => some (Sum.inl z)) (mo_chr 31 (by omega))) rfl) wd_930 wd_446 wd_55 hy_J0_charAt_5068e wd_444 wd_445 (by decide) rfl (by omega) (Nat.le_of_ble_eq_true rfl) (Nat.le_of_ble_eq_true rfl) (Nat.le_refl 0) (Nat.le_refl 0) ?_
  refine vx_eq (μ2 := μ) (ls2 := [(2, .inl 31), (1, .inl 5), (0, vx_r 54)]) (st2 := [.inl 97]) rfl rfl rfl ?_
  refine vx_bipush (v := 32) dX9_wordOf_103 (by decide) ?_
  refine vx_icmp_eq (tgt := 114) dX9_wordOf_105 (by decide) (fun h => absurd h (by decide)) (fun _ => ?_)
  refine vx_iinc (v := 32) (ls2 := [(2, .inl 32), (1, .inl 5), (0, vx_r 54)]) dX9_wordOf_108 rfl (by decide) (by decide) rfl ?_
  refine vx_goto (tgt := 97) dX9_wordOf_111 (by decide) ?_
  refine vx_ldcS (i := 6) dX9_wordOf_97 rfl ?_
  refine vx_iload_n dX9_wordOf_99 rfl ?_
  refine vx_callK (i := 6) (vs := [.inl 32]) (st := []) (r0 := (some (.inl 109))) (μ0 := μ) dX9_wordOf_100 ((c_J0_charAt_5068e (d - 1) (by omega) ad 82 vx_lay μ 6 (by decide) 32 (by decide)).to (congrArg (fun z => some (Sum.inl z)) (mo_chr 32 (by omega))) rfl) wd_930 wd_446 wd_55 hy_J0_charAt_5068e wd_444 wd_445 (by decide) rfl (by omega) (Nat.le_of_ble_eq_true rfl) (Nat.le_of_ble_eq_true rfl) (Nat.le_refl 0) (Nat.le_refl 0) ?_
  refine vx_eq (μ2 := μ) (ls2 := [(2, .inl 32), (1, .inl 5), (0, vx_r 54)]) (st2 := [.inl 109]) rfl rfl rfl ?_
  refine vx_bipush (v := 32) dX9_wordOf_103 (by decide) ?_
  refine vx_icmp_eq (tgt := 114) dX9_wordOf_105 (by decide) (fun h => absurd h (by decide)) (fun _ => ?_)
  refine vx_iinc (v := 33) (ls2 := [(2, .inl 33), (1, .inl 5), (0, vx_r 54)]) dX9_wordOf_108 rfl (by decide) (by decide) rfl ?_
  refine vx_goto (tgt := 97) dX9_wordOf_111 (by decide) ?_
  refine vx_ldcS (i := 6) dX9_wordOf_97 rfl ?_
  refine vx_iload_n dX9_wordOf_99 rfl ?_
  refine vx_callK (i := 6) (vs := [.inl 33]) (st := []) (r0 := (some (.inl 112))) (μ0 := μ) dX9_wordOf_100 ((c_J0_charAt_5068e (d - 1) (by omega) ad 82 vx_lay μ 6 (by decide) 33 (by decide)).to (congrArg (fun z => some (Sum.inl z)) (mo_chr 33 (by omega))) rfl) wd_930 wd_446 wd_55 hy_J0_charAt_5068e wd_444 wd_445 (by decide) rfl (by omega) (Nat.le_of_ble_eq_true rfl) (Nat.le_of_ble_eq_true rfl) (Nat.le_refl 0) (Nat.le_refl 0) ?_
  refine vx_eq (μ2 := μ) (ls2 := [(2, .inl 33), (1, .inl 5), (0, vx_r 54)]) (st2 := [.inl 112]) rfl rfl rfl ?_
  refine vx_bipush (v := 32) dX9_wordOf_103 (by decide) ?_
  refine vx_icmp_eq (tgt := 114) dX9_wordOf_105 (by decide) (fun h => absurd h (by decide)) (fun _ => ?_)
  refine vx_iinc (v := 34) (ls2 := [(2, .inl 34), (1, .inl 5), (0, vx_r 54)]) dX9_wordOf_108 rfl (by decide) (by decide) rfl ?_
  refine vx_goto (tgt := 97) dX9_wordOf_111 (by decide) ?_
  refine vx_ldcS (i := 6) dX9_wordOf_97 rfl ?_
  refine vx_iload_n dX9_wordOf_99 rfl ?_
  refine vx_callK (i := 6) (vs := [.inl 34]) (st := []) (r0 := (some (.inl 32))) (μ0 := μ) dX9_wordOf_100 ((c_J0_charAt_5068e (d - 1) (by omega) ad 82 vx_lay μ 6 (by decide) 34 (by decide)).to (congrArg (fun z => some (Sum.inl z)) (mo_chr 34 (by omega))) rfl) wd_930 wd_446 wd_55 hy_J0_charAt_5068e wd_444 wd_445 (by decide) rfl (by omega) (Nat.le_of_ble_eq_true rfl) (Nat.le_of_ble_eq_true rfl) (Nat.le_refl 0) (Nat.le_refl 0) ?_
  refine vx_eq (μ2 := μ) (ls2 := [(2, .inl 34), (1, .inl 5), (0, vx_r 54)]) (st2 := [.inl 32]) rfl rfl rfl ?_
  refine vx_bipush (v := 32) dX9_wordOf_103 (by decide) ?_
  refine vx_icmp_eq (tgt := 114) dX9_wordOf_105 (by decide) (fun _ => ?_) (fun h => absurd h (by decide))
  refine vx_iinc (v := 35) (ls2 := [(2, .inl 35), (1, .inl 5), (0, vx_r 54)]) dX9_wordOf_114 rfl (by decide) (by decide) rfl ?_
  refine vx_iinc (v := 6) (ls2 := [(1, .inl 6), (2, .inl 35), (0, vx_r 54)]) dX9_wordOf_117 rfl (by decide) (by decide) rfl ?_
  refine vx_goto (tgt := 4) dX9_wordOf_120 (by decide) ?_
  refine vx_keep (ls2 := [(2, .inl 35), (1, .inl 6), (0, vx_r 54)]) ⟨rfl, rfl, rfl, trivial⟩ ?_
  exact hno
set_option maxRecDepth 20000 in
set_option maxHeartbeats 2000000 in
theorem mo_w5_4 {d : Nat} (hd : 4 ≤ d) {ad : Nat → Nat} {μ : vx_mem} {p q : Nat} (hp : μ 54 11 = nI p) (hq : μ 54 10 = nI q) (hpq : p ≤ q) (hq3 : q ≤ 300) {Post : vx_P} {ini : Bool} (hyes : ¬ sp_isw (μ 55) p q 5 = 0 → Post (some (.inl 5)) ad 82 vx_lay μ) (hno : sp_isw (μ 55) p q 5 = 0 → vx_J RX9 cX9_wordOf 4 (some (.int)) ini d 0 0 Post ad 0 0 82 vx_lay μ 4 [(2, .inl 35), (1, .inl 6), (0, vx_r 54)] []) (m0 : μ 55 (p + 0) = sp_chr 5 0) (m1 : μ 55 (p + 1) = sp_chr 5 1) (m2 : μ 55 (p + 2) = sp_chr 5 2) (m3 : μ 55 (p + 3) = sp_chr 5 3) : vx_J RX9 cX9_wordOf 4 (some (.int)) ini d 0 0 Post ad 0 0 82 vx_lay μ 15 [(3, .inl 4), (2, .inl 30), (1, .inl 5), (0, vx_r 54)] [] := by
  refine vx_ldcS (i := 6) dX9_wordOf_15 rfl ?_
  refine vx_iload_n dX9_wordOf_17 rfl ?_
  refine vx_iload_n dX9_wordOf_18 rfl ?_
  refine vx_iadd dX9_wordOf_19 ?_
  refine vx_eq (st2 := [.inl 34, vx_r 1006]) rfl rfl (by rfl) ?_
  refine vx_callK (i := 6) (vs := [.inl 34]) (st := []) (r0 := (some (.inl 32))) (μ0 := μ) dX9_wordOf_20 ((c_J0_charAt_5068e (d - 1) (by omega) ad 82 vx_lay μ 6 (by decide) 34 (by decide)).to (congrArg (fun z => some (Sum.inl z)) (mo_chr 34 (by omega))) rfl) wd_930 wd_446 wd_55 hy_J0_charAt_5068e wd_444 wd_445 (by decide) rfl (by omega) (Nat.le_of_ble_eq_true rfl) (Nat.le_of_ble_eq_true rfl) (Nat.le_refl 0) (Nat.le_refl 0) ?_
  refine vx_eq (μ2 := μ) (ls2 := [(3, .inl 4), (2, .inl 30), (1, .inl 5), (0, vx_r 54)]) (st2 := [.inl 32]) rfl rfl rfl ?_
  refine vx_bipush (v := 32) dX9_wordOf_23 (by decide) ?_
  refine vx_icmp_eq (tgt := 69) dX9_wordOf_25 (by decide) (fun _ => ?_) (fun h => absurd h (by decide))
  refine vx_ldcS (i := 6) dX9_wordOf_69 rfl ?_
  refine vx_iload_n dX9_wordOf_71 rfl ?_
  refine vx_iload_n dX9_wordOf_72 rfl ?_
  refine vx_iadd dX9_wordOf_73 ?_
  refine vx_eq (st2 := [.inl 34, vx_r 1006]) rfl rfl (by rfl) ?_
  refine vx_callK (i := 6) (vs := [.inl 34]) (st := []) (r0 := (some (.inl 32))) (μ0 := μ) dX9_wordOf_74 ((c_J0_charAt_5068e (d - 1) (by omega) ad 82 vx_lay μ 6 (by decide) 34 (by decide)).to (congrArg (fun z => some (Sum.inl z)) (mo_chr 34 (by omega))) rfl) wd_930 wd_446 wd_55 hy_J0_charAt_5068e wd_444 wd_445 (by decide) rfl (by omega) (Nat.le_of_ble_eq_true rfl) (Nat.le_of_ble_eq_true rfl) (Nat.le_refl 0) (Nat.le_refl 0) ?_
  refine vx_eq (μ2 := μ) (ls2 := [(3, .inl 4), (2, .inl 30), (1, .inl 5), (0, vx_r 54)]) (st2 := [.inl 32]) rfl rfl rfl ?_
  refine vx_bipush (v := 32) dX9_wordOf_77 (by decide) ?_
  refine vx_icmp_ne (tgt := 97) dX9_wordOf_79 (by decide) (fun h => absurd h (by decide)) (fun _ => ?_)
  refine vx_aload_n dX9_wordOf_82 rfl ?_
  refine vx_getI (ci := 9) (T := TX9) (n := 56) (j := 11) (a := 54) (v := (nI p)) dX9_wordOf_83 rfl lay_X9 (by decide) wd_747 (by decide) ly_54 rfl hp ?_
  refine vx_iload_n dX9_wordOf_86 rfl ?_
  refine vx_iadd dX9_wordOf_87 ?_
  refine vx_eq (st2 := [.inl (nI (p + 4))]) rfl rfl (by rw [show (4 : Int32) = nI 4 from rfl, nI_add]) ?_
  refine vx_aload_n dX9_wordOf_88 rfl ?_
  refine vx_getI (ci := 9) (T := TX9) (n := 56) (j := 10) (a := 54) (v := (nI q)) dX9_wordOf_89 rfl lay_X9 (by decide) wd_746 (by decide) ly_54 rfl hq ?_
  refine vx_icmp_ne (tgt := 97) dX9_wordOf_92 (by decide) (fun c_92_5 => ?_) (fun c_92_5 => ?_)
  · refine vx_keep (ls2 := [(2, .inl 30), (1, .inl 5), (0, vx_r 54)]) ⟨rfl, rfl, rfl, trivial⟩ ?_
    exact mo_s5 hd hp hq hpq hq3 (hno (mo_isw_len (by rw [mo_ll_5]; have h9 := c_92_5; rw [nI_eq (by omega) (by omega)] at h9; omega)))
  · have hl : q - p = 4 := by have h9 := c_92_5; rw [nI_eq (by omega) (by omega)] at h9; omega
    have hP := hyes (mo_isw_yes (by rw [mo_ll_5]; exact hl) (fun k hk => by
      rw [mo_ll_5] at hk
      rcases (show k = 0 ∨ k = 1 ∨ k = 2 ∨ k = 3 by omega) with rfl | rfl | rfl | rfl
      · exact m0
      · exact m1
      · exact m2
      · exact m3))
    refine vx_iload_n dX9_wordOf_95 rfl ?_
    exact vx_ret (ty := .int) dX9_wordOf_96 rfl rfl (Nat.le_refl 0) (Nat.le_refl 0) (hP)
set_option maxRecDepth 20000 in
set_option maxHeartbeats 2000000 in
theorem mo_w5_3 {d : Nat} (hd : 4 ≤ d) {ad : Nat → Nat} {μ : vx_mem} {p q : Nat} (hp : μ 54 11 = nI p) (hq : μ 54 10 = nI q) (hpq : p ≤ q) (hq3 : q ≤ 300) {Post : vx_P} {ini : Bool} (hyes : ¬ sp_isw (μ 55) p q 5 = 0 → Post (some (.inl 5)) ad 82 vx_lay μ) (hno : sp_isw (μ 55) p q 5 = 0 → vx_J RX9 cX9_wordOf 4 (some (.int)) ini d 0 0 Post ad 0 0 82 vx_lay μ 4 [(2, .inl 35), (1, .inl 6), (0, vx_r 54)] []) (m0 : μ 55 (p + 0) = sp_chr 5 0) (m1 : μ 55 (p + 1) = sp_chr 5 1) (m2 : μ 55 (p + 2) = sp_chr 5 2) : vx_J RX9 cX9_wordOf 4 (some (.int)) ini d 0 0 Post ad 0 0 82 vx_lay μ 15 [(3, .inl 3), (2, .inl 30), (1, .inl 5), (0, vx_r 54)] [] := by
  refine vx_ldcS (i := 6) dX9_wordOf_15 rfl ?_
  refine vx_iload_n dX9_wordOf_17 rfl ?_
  refine vx_iload_n dX9_wordOf_18 rfl ?_
  refine vx_iadd dX9_wordOf_19 ?_
  refine vx_eq (st2 := [.inl 33, vx_r 1006]) rfl rfl (by rfl) ?_
  refine vx_callK (i := 6) (vs := [.inl 33]) (st := []) (r0 := (some (.inl 112))) (μ0 := μ) dX9_wordOf_20 ((c_J0_charAt_5068e (d - 1) (by omega) ad 82 vx_lay μ 6 (by decide) 33 (by decide)).to (congrArg (fun z => some (Sum.inl z)) (mo_chr 33 (by omega))) rfl) wd_930 wd_446 wd_55 hy_J0_charAt_5068e wd_444 wd_445 (by decide) rfl (by omega) (Nat.le_of_ble_eq_true rfl) (Nat.le_of_ble_eq_true rfl) (Nat.le_refl 0) (Nat.le_refl 0) ?_
  refine vx_eq (μ2 := μ) (ls2 := [(3, .inl 3), (2, .inl 30), (1, .inl 5), (0, vx_r 54)]) (st2 := [.inl 112]) rfl rfl rfl ?_
  refine vx_bipush (v := 32) dX9_wordOf_23 (by decide) ?_
  refine vx_icmp_eq (tgt := 69) dX9_wordOf_25 (by decide) (fun h => absurd h (by decide)) (fun _ => ?_)
  refine vx_aload_n dX9_wordOf_28 rfl ?_
  refine vx_getI (ci := 9) (T := TX9) (n := 56) (j := 11) (a := 54) (v := (nI p)) dX9_wordOf_29 rfl lay_X9 (by decide) wd_747 (by decide) ly_54 rfl hp ?_
  refine vx_iload_n dX9_wordOf_32 rfl ?_
  refine vx_iadd dX9_wordOf_33 ?_
  refine vx_eq (st2 := [.inl (nI (p + 3))]) rfl rfl (by rw [show (3 : Int32) = nI 3 from rfl, nI_add]) ?_
  refine vx_aload_n dX9_wordOf_34 rfl ?_
  refine vx_getI (ci := 9) (T := TX9) (n := 56) (j := 10) (a := 54) (v := (nI q)) dX9_wordOf_35 rfl lay_X9 (by decide) wd_746 (by decide) ly_54 rfl hq ?_
  refine vx_icmp_ge (tgt := 69) dX9_wordOf_38 (by decide) (fun c_38_25 => ?_) (fun c_38_25 => ?_)
  · refine vx_ldcS (i := 6) dX9_wordOf_69 rfl ?_
    refine vx_iload_n dX9_wordOf_71 rfl ?_
    refine vx_iload_n dX9_wordOf_72 rfl ?_
    refine vx_iadd dX9_wordOf_73 ?_
    refine vx_eq (st2 := [.inl 33, vx_r 1006]) rfl rfl (by rfl) ?_
    refine vx_callK (i := 6) (vs := [.inl 33]) (st := []) (r0 := (some (.inl 112))) (μ0 := μ) dX9_wordOf_74 ((c_J0_charAt_5068e (d - 1) (by omega) ad 82 vx_lay μ 6 (by decide) 33 (by decide)).to (congrArg (fun z => some (Sum.inl z)) (mo_chr 33 (by omega))) rfl) wd_930 wd_446 wd_55 hy_J0_charAt_5068e wd_444 wd_445 (by decide) rfl (by omega) (Nat.le_of_ble_eq_true rfl) (Nat.le_of_ble_eq_true rfl) (Nat.le_refl 0) (Nat.le_refl 0) ?_
    refine vx_eq (μ2 := μ) (ls2 := [(3, .inl 3), (2, .inl 30), (1, .inl 5), (0, vx_r 54)]) (st2 := [.inl 112]) rfl rfl rfl ?_
    refine vx_bipush (v := 32) dX9_wordOf_77 (by decide) ?_
    refine vx_icmp_ne (tgt := 97) dX9_wordOf_79 (by decide) (fun _ => ?_) (fun h => absurd h (by decide))
    refine vx_keep (ls2 := [(2, .inl 30), (1, .inl 5), (0, vx_r 54)]) ⟨rfl, rfl, rfl, trivial⟩ ?_
    exact mo_s5 hd hp hq hpq hq3 (hno (mo_isw_len (by rw [mo_ll_5]; have h9 := c_38_25; rw [nI_leI (by omega) (by omega)] at h9; omega)))
  · refine vx_aload_n dX9_wordOf_41 rfl ?_
    refine vx_getR (ci := 9) (T := TX9) (n := 56) (j := 1) (a := 54) (r := 55) dX9_wordOf_42 rfl lay_X9 (by decide) wd_737 (by decide) ly_54 rfl ?_
    refine vx_aload_n dX9_wordOf_45 rfl ?_
    refine vx_getI (ci := 9) (T := TX9) (n := 56) (j := 11) (a := 54) (v := (nI p)) dX9_wordOf_46 rfl lay_X9 (by decide) wd_747 (by decide) ly_54 rfl hp ?_
    refine vx_iload_n dX9_wordOf_49 rfl ?_
    refine vx_iadd dX9_wordOf_50 ?_
    refine vx_eq (st2 := [.inl (nI (p + 3)), vx_r 55]) rfl rfl (by rw [show (3 : Int32) = nI 3 from rfl, nI_add]) ?_
    refine vx_iald (a := 55) (n := 300) (v := (μ 55 (p + 3))) dX9_wordOf_51 (by decide) ly_55 (vp_in_nI (by have h9 := c_38_25; rw [nI_leI (by omega) (by omega)] at h9; omega) (by omega)) (by rw [nI_clamp (by omega)] <;> rfl) ?_
    refine vx_ldcS (i := 6) dX9_wordOf_52 rfl ?_
    refine vx_iload_n dX9_wordOf_54 rfl ?_
    refine vx_iload_n dX9_wordOf_55 rfl ?_
    refine vx_iadd dX9_wordOf_56 ?_
    refine vx_eq (st2 := [.inl 33, vx_r 1006, .inl (μ 55 (p + 3))]) rfl rfl (by rfl) ?_
    refine vx_callK (i := 6) (vs := [.inl 33]) (st := [.inl (μ 55 (p + 3))]) (r0 := (some (.inl 112))) (μ0 := μ) dX9_wordOf_57 ((c_J0_charAt_5068e (d - 1) (by omega) ad 82 vx_lay μ 6 (by decide) 33 (by decide)).to (congrArg (fun z => some (Sum.inl z)) (mo_chr 33 (by omega))) rfl) wd_930 wd_446 wd_55 hy_J0_charAt_5068e wd_444 wd_445 (by decide) rfl (by omega) (Nat.le_of_ble_eq_true rfl) (Nat.le_of_ble_eq_true rfl) (Nat.le_refl 0) (Nat.le_refl 0) ?_
    refine vx_eq (μ2 := μ) (ls2 := [(3, .inl 3), (2, .inl 30), (1, .inl 5), (0, vx_r 54)]) (st2 := [.inl 112, .inl (μ 55 (p + 3))]) rfl rfl rfl ?_
    refine vx_icmp_ne (tgt := 69) dX9_wordOf_60 (by decide) (fun c_60_25 => ?_) (fun c_60_25 => ?_)
    · refine vx_ldcS (i := 6) dX9_wordOf_69 rfl ?_
      refine vx_iload_n dX9_wordOf_71 rfl ?_
      refine vx_iload_n dX9_wordOf_72 rfl ?_
      refine vx_iadd dX9_wordOf_73 ?_
      refine vx_eq (st2 := [.inl 33, vx_r 1006]) rfl rfl (by rfl) ?_
      refine vx_callK (i := 6) (vs := [.inl 33]) (st := []) (r0 := (some (.inl 112))) (μ0 := μ) dX9_wordOf_74 ((c_J0_charAt_5068e (d - 1) (by omega) ad 82 vx_lay μ 6 (by decide) 33 (by decide)).to (congrArg (fun z => some (Sum.inl z)) (mo_chr 33 (by omega))) rfl) wd_930 wd_446 wd_55 hy_J0_charAt_5068e wd_444 wd_445 (by decide) rfl (by omega) (Nat.le_of_ble_eq_true rfl) (Nat.le_of_ble_eq_true rfl) (Nat.le_refl 0) (Nat.le_refl 0) ?_
      refine vx_eq (μ2 := μ) (ls2 := [(3, .inl 3), (2, .inl 30), (1, .inl 5), (0, vx_r 54)]) (st2 := [.inl 112]) rfl rfl rfl ?_
      refine vx_bipush (v := 32) dX9_wordOf_77 (by decide) ?_
      refine vx_icmp_ne (tgt := 97) dX9_wordOf_79 (by decide) (fun _ => ?_) (fun h => absurd h (by decide))
      refine vx_keep (ls2 := [(2, .inl 30), (1, .inl 5), (0, vx_r 54)]) ⟨rfl, rfl, rfl, trivial⟩ ?_
      exact mo_s5 hd hp hq hpq hq3 (hno (mo_isw_ne (j := 3) (by rw [mo_ll_5]; omega) (by rw [mo_ch_5_3]; exact c_60_25)))
    · refine vx_iinc (v := 4) (ls2 := [(3, .inl 4), (2, .inl 30), (1, .inl 5), (0, vx_r 54)]) dX9_wordOf_63 rfl (by decide) (by decide) rfl ?_
      refine vx_goto (tgt := 15) dX9_wordOf_66 (by decide) ?_
      exact mo_w5_4 hd hp hq hpq hq3 hyes hno m0 m1 m2 (by rw [mo_ch_5_3]; exact c_60_25)
set_option maxRecDepth 20000 in
set_option maxHeartbeats 2000000 in
theorem mo_w5_2 {d : Nat} (hd : 4 ≤ d) {ad : Nat → Nat} {μ : vx_mem} {p q : Nat} (hp : μ 54 11 = nI p) (hq : μ 54 10 = nI q) (hpq : p ≤ q) (hq3 : q ≤ 300) {Post : vx_P} {ini : Bool} (hyes : ¬ sp_isw (μ 55) p q 5 = 0 → Post (some (.inl 5)) ad 82 vx_lay μ) (hno : sp_isw (μ 55) p q 5 = 0 → vx_J RX9 cX9_wordOf 4 (some (.int)) ini d 0 0 Post ad 0 0 82 vx_lay μ 4 [(2, .inl 35), (1, .inl 6), (0, vx_r 54)] []) (m0 : μ 55 (p + 0) = sp_chr 5 0) (m1 : μ 55 (p + 1) = sp_chr 5 1) : vx_J RX9 cX9_wordOf 4 (some (.int)) ini d 0 0 Post ad 0 0 82 vx_lay μ 15 [(3, .inl 2), (2, .inl 30), (1, .inl 5), (0, vx_r 54)] [] := by
  refine vx_ldcS (i := 6) dX9_wordOf_15 rfl ?_
  refine vx_iload_n dX9_wordOf_17 rfl ?_
  refine vx_iload_n dX9_wordOf_18 rfl ?_
  refine vx_iadd dX9_wordOf_19 ?_
  refine vx_eq (st2 := [.inl 32, vx_r 1006]) rfl rfl (by rfl) ?_
  refine vx_callK (i := 6) (vs := [.inl 32]) (st := []) (r0 := (some (.inl 109))) (μ0 := μ) dX9_wordOf_20 ((c_J0_charAt_5068e (d - 1) (by omega) ad 82 vx_lay μ 6 (by decide) 32 (by decide)).to (congrArg (fun z => some (Sum.inl z)) (mo_chr 32 (by omega))) rfl) wd_930 wd_446 wd_55 hy_J0_charAt_5068e wd_444 wd_445 (by decide) rfl (by omega) (Nat.le_of_ble_eq_true rfl) (Nat.le_of_ble_eq_true rfl) (Nat.le_refl 0) (Nat.le_refl 0) ?_
  refine vx_eq (μ2 := μ) (ls2 := [(3, .inl 2), (2, .inl 30), (1, .inl 5), (0, vx_r 54)]) (st2 := [.inl 109]) rfl rfl rfl ?_
  refine vx_bipush (v := 32) dX9_wordOf_23 (by decide) ?_
  refine vx_icmp_eq (tgt := 69) dX9_wordOf_25 (by decide) (fun h => absurd h (by decide)) (fun _ => ?_)
  refine vx_aload_n dX9_wordOf_28 rfl ?_
  refine vx_getI (ci := 9) (T := TX9) (n := 56) (j := 11) (a := 54) (v := (nI p)) dX9_wordOf_29 rfl lay_X9 (by decide) wd_747 (by decide) ly_54 rfl hp ?_
  refine vx_iload_n dX9_wordOf_32 rfl ?_
  refine vx_iadd dX9_wordOf_33 ?_
  refine vx_eq (st2 := [.inl (nI (p + 2))]) rfl rfl (by rw [show (2 : Int32) = nI 2 from rfl, nI_add]) ?_
  refine vx_aload_n dX9_wordOf_34 rfl ?_
  refine vx_getI (ci := 9) (T := TX9) (n := 56) (j := 10) (a := 54) (v := (nI q)) dX9_wordOf_35 rfl lay_X9 (by decide) wd_746 (by decide) ly_54 rfl hq ?_
  refine vx_icmp_ge (tgt := 69) dX9_wordOf_38 (by decide) (fun c_38_26 => ?_) (fun c_38_26 => ?_)
  · refine vx_ldcS (i := 6) dX9_wordOf_69 rfl ?_
    refine vx_iload_n dX9_wordOf_71 rfl ?_
    refine vx_iload_n dX9_wordOf_72 rfl ?_
    refine vx_iadd dX9_wordOf_73 ?_
    refine vx_eq (st2 := [.inl 32, vx_r 1006]) rfl rfl (by rfl) ?_
    refine vx_callK (i := 6) (vs := [.inl 32]) (st := []) (r0 := (some (.inl 109))) (μ0 := μ) dX9_wordOf_74 ((c_J0_charAt_5068e (d - 1) (by omega) ad 82 vx_lay μ 6 (by decide) 32 (by decide)).to (congrArg (fun z => some (Sum.inl z)) (mo_chr 32 (by omega))) rfl) wd_930 wd_446 wd_55 hy_J0_charAt_5068e wd_444 wd_445 (by decide) rfl (by omega) (Nat.le_of_ble_eq_true rfl) (Nat.le_of_ble_eq_true rfl) (Nat.le_refl 0) (Nat.le_refl 0) ?_
    refine vx_eq (μ2 := μ) (ls2 := [(3, .inl 2), (2, .inl 30), (1, .inl 5), (0, vx_r 54)]) (st2 := [.inl 109]) rfl rfl rfl ?_
    refine vx_bipush (v := 32) dX9_wordOf_77 (by decide) ?_
    refine vx_icmp_ne (tgt := 97) dX9_wordOf_79 (by decide) (fun _ => ?_) (fun h => absurd h (by decide))
    refine vx_keep (ls2 := [(2, .inl 30), (1, .inl 5), (0, vx_r 54)]) ⟨rfl, rfl, rfl, trivial⟩ ?_
    exact mo_s5 hd hp hq hpq hq3 (hno (mo_isw_len (by rw [mo_ll_5]; have h9 := c_38_26; rw [nI_leI (by omega) (by omega)] at h9; omega)))
  · refine vx_aload_n dX9_wordOf_41 rfl ?_
    refine vx_getR (ci := 9) (T := TX9) (n := 56) (j := 1) (a := 54) (r := 55) dX9_wordOf_42 rfl lay_X9 (by decide) wd_737 (by decide) ly_54 rfl ?_
    refine vx_aload_n dX9_wordOf_45 rfl ?_
    refine vx_getI (ci := 9) (T := TX9) (n := 56) (j := 11) (a := 54) (v := (nI p)) dX9_wordOf_46 rfl lay_X9 (by decide) wd_747 (by decide) ly_54 rfl hp ?_
    refine vx_iload_n dX9_wordOf_49 rfl ?_
    refine vx_iadd dX9_wordOf_50 ?_
    refine vx_eq (st2 := [.inl (nI (p + 2)), vx_r 55]) rfl rfl (by rw [show (2 : Int32) = nI 2 from rfl, nI_add]) ?_
    refine vx_iald (a := 55) (n := 300) (v := (μ 55 (p + 2))) dX9_wordOf_51 (by decide) ly_55 (vp_in_nI (by have h9 := c_38_26; rw [nI_leI (by omega) (by omega)] at h9; omega) (by omega)) (by rw [nI_clamp (by omega)] <;> rfl) ?_
    refine vx_ldcS (i := 6) dX9_wordOf_52 rfl ?_
    refine vx_iload_n dX9_wordOf_54 rfl ?_
    refine vx_iload_n dX9_wordOf_55 rfl ?_
    refine vx_iadd dX9_wordOf_56 ?_
    refine vx_eq (st2 := [.inl 32, vx_r 1006, .inl (μ 55 (p + 2))]) rfl rfl (by rfl) ?_
    refine vx_callK (i := 6) (vs := [.inl 32]) (st := [.inl (μ 55 (p + 2))]) (r0 := (some (.inl 109))) (μ0 := μ) dX9_wordOf_57 ((c_J0_charAt_5068e (d - 1) (by omega) ad 82 vx_lay μ 6 (by decide) 32 (by decide)).to (congrArg (fun z => some (Sum.inl z)) (mo_chr 32 (by omega))) rfl) wd_930 wd_446 wd_55 hy_J0_charAt_5068e wd_444 wd_445 (by decide) rfl (by omega) (Nat.le_of_ble_eq_true rfl) (Nat.le_of_ble_eq_true rfl) (Nat.le_refl 0) (Nat.le_refl 0) ?_
    refine vx_eq (μ2 := μ) (ls2 := [(3, .inl 2), (2, .inl 30), (1, .inl 5), (0, vx_r 54)]) (st2 := [.inl 109, .inl (μ 55 (p + 2))]) rfl rfl rfl ?_
    refine vx_icmp_ne (tgt := 69) dX9_wordOf_60 (by decide) (fun c_60_26 => ?_) (fun c_60_26 => ?_)
    · refine vx_ldcS (i := 6) dX9_wordOf_69 rfl ?_
      refine vx_iload_n dX9_wordOf_71 rfl ?_
      refine vx_iload_n dX9_wordOf_72 rfl ?_
      refine vx_iadd dX9_wordOf_73 ?_
      refine vx_eq (st2 := [.inl 32, vx_r 1006]) rfl rfl (by rfl) ?_
      refine vx_callK (i := 6) (vs := [.inl 32]) (st := []) (r0 := (some (.inl 109))) (μ0 := μ) dX9_wordOf_74 ((c_J0_charAt_5068e (d - 1) (by omega) ad 82 vx_lay μ 6 (by decide) 32 (by decide)).to (congrArg (fun z => some (Sum.inl z)) (mo_chr 32 (by omega))) rfl) wd_930 wd_446 wd_55 hy_J0_charAt_5068e wd_444 wd_445 (by decide) rfl (by omega) (Nat.le_of_ble_eq_true rfl) (Nat.le_of_ble_eq_true rfl) (Nat.le_refl 0) (Nat.le_refl 0) ?_
      refine vx_eq (μ2 := μ) (ls2 := [(3, .inl 2), (2, .inl 30), (1, .inl 5), (0, vx_r 54)]) (st2 := [.inl 109]) rfl rfl rfl ?_
      refine vx_bipush (v := 32) dX9_wordOf_77 (by decide) ?_
      refine vx_icmp_ne (tgt := 97) dX9_wordOf_79 (by decide) (fun _ => ?_) (fun h => absurd h (by decide))
      refine vx_keep (ls2 := [(2, .inl 30), (1, .inl 5), (0, vx_r 54)]) ⟨rfl, rfl, rfl, trivial⟩ ?_
      exact mo_s5 hd hp hq hpq hq3 (hno (mo_isw_ne (j := 2) (by rw [mo_ll_5]; omega) (by rw [mo_ch_5_2]; exact c_60_26)))
    · refine vx_iinc (v := 3) (ls2 := [(3, .inl 3), (2, .inl 30), (1, .inl 5), (0, vx_r 54)]) dX9_wordOf_63 rfl (by decide) (by decide) rfl ?_
      refine vx_goto (tgt := 15) dX9_wordOf_66 (by decide) ?_
      exact mo_w5_3 hd hp hq hpq hq3 hyes hno m0 m1 (by rw [mo_ch_5_2]; exact c_60_26)
set_option maxRecDepth 20000 in
set_option maxHeartbeats 2000000 in
theorem mo_w5_1 {d : Nat} (hd : 4 ≤ d) {ad : Nat → Nat} {μ : vx_mem} {p q : Nat} (hp : μ 54 11 = nI p) (hq : μ 54 10 = nI q) (hpq : p ≤ q) (hq3 : q ≤ 300) {Post : vx_P} {ini : Bool} (hyes : ¬ sp_isw (μ 55) p q 5 = 0 → Post (some (.inl 5)) ad 82 vx_lay μ) (hno : sp_isw (μ 55) p q 5 = 0 → vx_J RX9 cX9_wordOf 4 (some (.int)) ini d 0 0 Post ad 0 0 82 vx_lay μ 4 [(2, .inl 35), (1, .inl 6), (0, vx_r 54)] []) (m0 : μ 55 (p + 0) = sp_chr 5 0) : vx_J RX9 cX9_wordOf 4 (some (.int)) ini d 0 0 Post ad 0 0 82 vx_lay μ 15 [(3, .inl 1), (2, .inl 30), (1, .inl 5), (0, vx_r 54)] [] := by
  refine vx_ldcS (i := 6) dX9_wordOf_15 rfl ?_
  refine vx_iload_n dX9_wordOf_17 rfl ?_
  refine vx_iload_n dX9_wordOf_18 rfl ?_
  refine vx_iadd dX9_wordOf_19 ?_
  refine vx_eq (st2 := [.inl 31, vx_r 1006]) rfl rfl (by rfl) ?_
  refine vx_callK (i := 6) (vs := [.inl 31]) (st := []) (r0 := (some (.inl 97))) (μ0 := μ) dX9_wordOf_20 ((c_J0_charAt_5068e (d - 1) (by omega) ad 82 vx_lay μ 6 (by decide) 31 (by decide)).to (congrArg (fun z => some (Sum.inl z)) (mo_chr 31 (by omega))) rfl) wd_930 wd_446 wd_55 hy_J0_charAt_5068e wd_444 wd_445 (by decide) rfl (by omega) (Nat.le_of_ble_eq_true rfl) (Nat.le_of_ble_eq_true rfl) (Nat.le_refl 0) (Nat.le_refl 0) ?_
  refine vx_eq (μ2 := μ) (ls2 := [(3, .inl 1), (2, .inl 30), (1, .inl 5), (0, vx_r 54)]) (st2 := [.inl 97]) rfl rfl rfl ?_
  refine vx_bipush (v := 32) dX9_wordOf_23 (by decide) ?_
  refine vx_icmp_eq (tgt := 69) dX9_wordOf_25 (by decide) (fun h => absurd h (by decide)) (fun _ => ?_)
  refine vx_aload_n dX9_wordOf_28 rfl ?_
  refine vx_getI (ci := 9) (T := TX9) (n := 56) (j := 11) (a := 54) (v := (nI p)) dX9_wordOf_29 rfl lay_X9 (by decide) wd_747 (by decide) ly_54 rfl hp ?_
  refine vx_iload_n dX9_wordOf_32 rfl ?_
  refine vx_iadd dX9_wordOf_33 ?_
  refine vx_eq (st2 := [.inl (nI (p + 1))]) rfl rfl (by rw [show (1 : Int32) = nI 1 from rfl, nI_add]) ?_
  refine vx_aload_n dX9_wordOf_34 rfl ?_
  refine vx_getI (ci := 9) (T := TX9) (n := 56) (j := 10) (a := 54) (v := (nI q)) dX9_wordOf_35 rfl lay_X9 (by decide) wd_746 (by decide) ly_54 rfl hq ?_
  refine vx_icmp_ge (tgt := 69) dX9_wordOf_38 (by decide) (fun c_38_27 => ?_) (fun c_38_27 => ?_)
  · refine vx_ldcS (i := 6) dX9_wordOf_69 rfl ?_
    refine vx_iload_n dX9_wordOf_71 rfl ?_
    refine vx_iload_n dX9_wordOf_72 rfl ?_
    refine vx_iadd dX9_wordOf_73 ?_
    refine vx_eq (st2 := [.inl 31, vx_r 1006]) rfl rfl (by rfl) ?_
    refine vx_callK (i := 6) (vs := [.inl 31]) (st := []) (r0 := (some (.inl 97))) (μ0 := μ) dX9_wordOf_74 ((c_J0_charAt_5068e (d - 1) (by omega) ad 82 vx_lay μ 6 (by decide) 31 (by decide)).to (congrArg (fun z => some (Sum.inl z)) (mo_chr 31 (by omega))) rfl) wd_930 wd_446 wd_55 hy_J0_charAt_5068e wd_444 wd_445 (by decide) rfl (by omega) (Nat.le_of_ble_eq_true rfl) (Nat.le_of_ble_eq_true rfl) (Nat.le_refl 0) (Nat.le_refl 0) ?_
    refine vx_eq (μ2 := μ) (ls2 := [(3, .inl 1), (2, .inl 30), (1, .inl 5), (0, vx_r 54)]) (st2 := [.inl 97]) rfl rfl rfl ?_
    refine vx_bipush (v := 32) dX9_wordOf_77 (by decide) ?_
    refine vx_icmp_ne (tgt := 97) dX9_wordOf_79 (by decide) (fun _ => ?_) (fun h => absurd h (by decide))
    refine vx_keep (ls2 := [(2, .inl 30), (1, .inl 5), (0, vx_r 54)]) ⟨rfl, rfl, rfl, trivial⟩ ?_
    exact mo_s5 hd hp hq hpq hq3 (hno (mo_isw_len (by rw [mo_ll_5]; have h9 := c_38_27; rw [nI_leI (by omega) (by omega)] at h9; omega)))
  · refine vx_aload_n dX9_wordOf_41 rfl ?_
    refine vx_getR (ci := 9) (T := TX9) (n := 56) (j := 1) (a := 54) (r := 55) dX9_wordOf_42 rfl lay_X9 (by decide) wd_737 (by decide) ly_54 rfl ?_
    refine vx_aload_n dX9_wordOf_45 rfl ?_
    refine vx_getI (ci := 9) (T := TX9) (n := 56) (j := 11) (a := 54) (v := (nI p)) dX9_wordOf_46 rfl lay_X9 (by decide) wd_747 (by decide) ly_54 rfl hp ?_
    refine vx_iload_n dX9_wordOf_49 rfl ?_
    refine vx_iadd dX9_wordOf_50 ?_
    refine vx_eq (st2 := [.inl (nI (p + 1)), vx_r 55]) rfl rfl (by rw [show (1 : Int32) = nI 1 from rfl, nI_add]) ?_
    refine vx_iald (a := 55) (n := 300) (v := (μ 55 (p + 1))) dX9_wordOf_51 (by decide) ly_55 (vp_in_nI (by have h9 := c_38_27; rw [nI_leI (by omega) (by omega)] at h9; omega) (by omega)) (by rw [nI_clamp (by omega)] <;> rfl) ?_
    refine vx_ldcS (i := 6) dX9_wordOf_52 rfl ?_
    refine vx_iload_n dX9_wordOf_54 rfl ?_
    refine vx_iload_n dX9_wordOf_55 rfl ?_
    refine vx_iadd dX9_wordOf_56 ?_
    refine vx_eq (st2 := [.inl 31, vx_r 1006, .inl (μ 55 (p + 1))]) rfl rfl (by rfl) ?_
    refine vx_callK (i := 6) (vs := [.inl 31]) (st := [.inl (μ 55 (p + 1))]) (r0 := (some (.inl 97))) (μ0 := μ) dX9_wordOf_57 ((c_J0_charAt_5068e (d - 1) (by omega) ad 82 vx_lay μ 6 (by decide) 31 (by decide)).to (congrArg (fun z => some (Sum.inl z)) (mo_chr 31 (by omega))) rfl) wd_930 wd_446 wd_55 hy_J0_charAt_5068e wd_444 wd_445 (by decide) rfl (by omega) (Nat.le_of_ble_eq_true rfl) (Nat.le_of_ble_eq_true rfl) (Nat.le_refl 0) (Nat.le_refl 0) ?_
    refine vx_eq (μ2 := μ) (ls2 := [(3, .inl 1), (2, .inl 30), (1, .inl 5), (0, vx_r 54)]) (st2 := [.inl 97, .inl (μ 55 (p + 1))]) rfl rfl rfl ?_
    refine vx_icmp_ne (tgt := 69) dX9_wordOf_60 (by decide) (fun c_60_27 => ?_) (fun c_60_27 => ?_)
    · refine vx_ldcS (i := 6) dX9_wordOf_69 rfl ?_
      refine vx_iload_n dX9_wordOf_71 rfl ?_
      refine vx_iload_n dX9_wordOf_72 rfl ?_
      refine vx_iadd dX9_wordOf_73 ?_
      refine vx_eq (st2 := [.inl 31, vx_r 1006]) rfl rfl (by rfl) ?_
      refine vx_callK (i := 6) (vs := [.inl 31]) (st := []) (r0 := (some (.inl 97))) (μ0 := μ) dX9_wordOf_74 ((c_J0_charAt_5068e (d - 1) (by omega) ad 82 vx_lay μ 6 (by decide) 31 (by decide)).to (congrArg (fun z => some (Sum.inl z)) (mo_chr 31 (by omega))) rfl) wd_930 wd_446 wd_55 hy_J0_charAt_5068e wd_444 wd_445 (by decide) rfl (by omega) (Nat.le_of_ble_eq_true rfl) (Nat.le_of_ble_eq_true rfl) (Nat.le_refl 0) (Nat.le_refl 0) ?_
      refine vx_eq (μ2 := μ) (ls2 := [(3, .inl 1), (2, .inl 30), (1, .inl 5), (0, vx_r 54)]) (st2 := [.inl 97]) rfl rfl rfl ?_
      refine vx_bipush (v := 32) dX9_wordOf_77 (by decide) ?_
      refine vx_icmp_ne (tgt := 97) dX9_wordOf_79 (by decide) (fun _ => ?_) (fun h => absurd h (by decide))
      refine vx_keep (ls2 := [(2, .inl 30), (1, .inl 5), (0, vx_r 54)]) ⟨rfl, rfl, rfl, trivial⟩ ?_
      exact mo_s5 hd hp hq hpq hq3 (hno (mo_isw_ne (j := 1) (by rw [mo_ll_5]; omega) (by rw [mo_ch_5_1]; exact c_60_27)))
    · refine vx_iinc (v := 2) (ls2 := [(3, .inl 2), (2, .inl 30), (1, .inl 5), (0, vx_r 54)]) dX9_wordOf_63 rfl (by decide) (by decide) rfl ?_
      refine vx_goto (tgt := 15) dX9_wordOf_66 (by decide) ?_
      exact mo_w5_2 hd hp hq hpq hq3 hyes hno m0 (by rw [mo_ch_5_1]; exact c_60_27)
set_option maxRecDepth 20000 in
set_option maxHeartbeats 2000000 in
theorem mo_w5_0 {d : Nat} (hd : 4 ≤ d) {ad : Nat → Nat} {μ : vx_mem} {p q : Nat} (hp : μ 54 11 = nI p) (hq : μ 54 10 = nI q) (hpq : p ≤ q) (hq3 : q ≤ 300) {Post : vx_P} {ini : Bool} (hyes : ¬ sp_isw (μ 55) p q 5 = 0 → Post (some (.inl 5)) ad 82 vx_lay μ) (hno : sp_isw (μ 55) p q 5 = 0 → vx_J RX9 cX9_wordOf 4 (some (.int)) ini d 0 0 Post ad 0 0 82 vx_lay μ 4 [(2, .inl 35), (1, .inl 6), (0, vx_r 54)] []) : vx_J RX9 cX9_wordOf 4 (some (.int)) ini d 0 0 Post ad 0 0 82 vx_lay μ 15 [(3, .inl 0), (2, .inl 30), (1, .inl 5), (0, vx_r 54)] [] := by
  refine vx_ldcS (i := 6) dX9_wordOf_15 rfl ?_
  refine vx_iload_n dX9_wordOf_17 rfl ?_
  refine vx_iload_n dX9_wordOf_18 rfl ?_
  refine vx_iadd dX9_wordOf_19 ?_
  refine vx_eq (st2 := [.inl 30, vx_r 1006]) rfl rfl (by rfl) ?_
  refine vx_callK (i := 6) (vs := [.inl 30]) (st := []) (r0 := (some (.inl 100))) (μ0 := μ) dX9_wordOf_20 ((c_J0_charAt_5068e (d - 1) (by omega) ad 82 vx_lay μ 6 (by decide) 30 (by decide)).to (congrArg (fun z => some (Sum.inl z)) (mo_chr 30 (by omega))) rfl) wd_930 wd_446 wd_55 hy_J0_charAt_5068e wd_444 wd_445 (by decide) rfl (by omega) (Nat.le_of_ble_eq_true rfl) (Nat.le_of_ble_eq_true rfl) (Nat.le_refl 0) (Nat.le_refl 0) ?_
  refine vx_eq (μ2 := μ) (ls2 := [(3, .inl 0), (2, .inl 30), (1, .inl 5), (0, vx_r 54)]) (st2 := [.inl 100]) rfl rfl rfl ?_
  refine vx_bipush (v := 32) dX9_wordOf_23 (by decide) ?_
  refine vx_icmp_eq (tgt := 69) dX9_wordOf_25 (by decide) (fun h => absurd h (by decide)) (fun _ => ?_)
  refine vx_aload_n dX9_wordOf_28 rfl ?_
  refine vx_getI (ci := 9) (T := TX9) (n := 56) (j := 11) (a := 54) (v := (nI p)) dX9_wordOf_29 rfl lay_X9 (by decide) wd_747 (by decide) ly_54 rfl hp ?_
  refine vx_iload_n dX9_wordOf_32 rfl ?_
  refine vx_iadd dX9_wordOf_33 ?_
  refine vx_eq (st2 := [.inl (nI p)]) rfl rfl (by rw [show (0 : Int32) = nI 0 from rfl, nI_add]; rfl) ?_
  refine vx_aload_n dX9_wordOf_34 rfl ?_
  refine vx_getI (ci := 9) (T := TX9) (n := 56) (j := 10) (a := 54) (v := (nI q)) dX9_wordOf_35 rfl lay_X9 (by decide) wd_746 (by decide) ly_54 rfl hq ?_
  refine vx_icmp_ge (tgt := 69) dX9_wordOf_38 (by decide) (fun c_38_28 => ?_) (fun c_38_28 => ?_)
  · refine vx_ldcS (i := 6) dX9_wordOf_69 rfl ?_
    refine vx_iload_n dX9_wordOf_71 rfl ?_
    refine vx_iload_n dX9_wordOf_72 rfl ?_
    refine vx_iadd dX9_wordOf_73 ?_
    refine vx_eq (st2 := [.inl 30, vx_r 1006]) rfl rfl (by rfl) ?_
    refine vx_callK (i := 6) (vs := [.inl 30]) (st := []) (r0 := (some (.inl 100))) (μ0 := μ) dX9_wordOf_74 ((c_J0_charAt_5068e (d - 1) (by omega) ad 82 vx_lay μ 6 (by decide) 30 (by decide)).to (congrArg (fun z => some (Sum.inl z)) (mo_chr 30 (by omega))) rfl) wd_930 wd_446 wd_55 hy_J0_charAt_5068e wd_444 wd_445 (by decide) rfl (by omega) (Nat.le_of_ble_eq_true rfl) (Nat.le_of_ble_eq_true rfl) (Nat.le_refl 0) (Nat.le_refl 0) ?_
    refine vx_eq (μ2 := μ) (ls2 := [(3, .inl 0), (2, .inl 30), (1, .inl 5), (0, vx_r 54)]) (st2 := [.inl 100]) rfl rfl rfl ?_
    refine vx_bipush (v := 32) dX9_wordOf_77 (by decide) ?_
    refine vx_icmp_ne (tgt := 97) dX9_wordOf_79 (by decide) (fun _ => ?_) (fun h => absurd h (by decide))
    refine vx_keep (ls2 := [(2, .inl 30), (1, .inl 5), (0, vx_r 54)]) ⟨rfl, rfl, rfl, trivial⟩ ?_
    exact mo_s5 hd hp hq hpq hq3 (hno (mo_isw_len (by rw [mo_ll_5]; have h9 := c_38_28; rw [nI_leI (by omega) (by omega)] at h9; omega)))
  · refine vx_aload_n dX9_wordOf_41 rfl ?_
    refine vx_getR (ci := 9) (T := TX9) (n := 56) (j := 1) (a := 54) (r := 55) dX9_wordOf_42 rfl lay_X9 (by decide) wd_737 (by decide) ly_54 rfl ?_
    refine vx_aload_n dX9_wordOf_45 rfl ?_
    refine vx_getI (ci := 9) (T := TX9) (n := 56) (j := 11) (a := 54) (v := (nI p)) dX9_wordOf_46 rfl lay_X9 (by decide) wd_747 (by decide) ly_54 rfl hp ?_
    refine vx_iload_n dX9_wordOf_49 rfl ?_
    refine vx_iadd dX9_wordOf_50 ?_
    refine vx_eq (st2 := [.inl (nI p), vx_r 55]) rfl rfl (by rw [show (0 : Int32) = nI 0 from rfl, nI_add]; rfl) ?_
    refine vx_iald (a := 55) (n := 300) (v := (μ 55 p)) dX9_wordOf_51 (by decide) ly_55 (vp_in_nI (by have h9 := c_38_28; rw [nI_leI (by omega) (by omega)] at h9; omega) (by omega)) (by rw [nI_clamp (by omega)] <;> rfl) ?_
    refine vx_ldcS (i := 6) dX9_wordOf_52 rfl ?_
    refine vx_iload_n dX9_wordOf_54 rfl ?_
    refine vx_iload_n dX9_wordOf_55 rfl ?_
    refine vx_iadd dX9_wordOf_56 ?_
    refine vx_eq (st2 := [.inl 30, vx_r 1006, .inl (μ 55 p)]) rfl rfl (by rfl) ?_
    refine vx_callK (i := 6) (vs := [.inl 30]) (st := [.inl (μ 55 p)]) (r0 := (some (.inl 100))) (μ0 := μ) dX9_wordOf_57 ((c_J0_charAt_5068e (d - 1) (by omega) ad 82 vx_lay μ 6 (by decide) 30 (by decide)).to (congrArg (fun z => some (Sum.inl z)) (mo_chr 30 (by omega))) rfl) wd_930 wd_446 wd_55 hy_J0_charAt_5068e wd_444 wd_445 (by decide) rfl (by omega) (Nat.le_of_ble_eq_true rfl) (Nat.le_of_ble_eq_true rfl) (Nat.le_refl 0) (Nat.le_refl 0) ?_
    refine vx_eq (μ2 := μ) (ls2 := [(3, .inl 0), (2, .inl 30), (1, .inl 5), (0, vx_r 54)]) (st2 := [.inl 100, .inl (μ 55 p)]) rfl rfl rfl ?_
    refine vx_icmp_ne (tgt := 69) dX9_wordOf_60 (by decide) (fun c_60_28 => ?_) (fun c_60_28 => ?_)
    · refine vx_ldcS (i := 6) dX9_wordOf_69 rfl ?_
      refine vx_iload_n dX9_wordOf_71 rfl ?_
      refine vx_iload_n dX9_wordOf_72 rfl ?_
      refine vx_iadd dX9_wordOf_73 ?_
      refine vx_eq (st2 := [.inl 30, vx_r 1006]) rfl rfl (by rfl) ?_
      refine vx_callK (i := 6) (vs := [.inl 30]) (st := []) (r0 := (some (.inl 100))) (μ0 := μ) dX9_wordOf_74 ((c_J0_charAt_5068e (d - 1) (by omega) ad 82 vx_lay μ 6 (by decide) 30 (by decide)).to (congrArg (fun z => some (Sum.inl z)) (mo_chr 30 (by omega))) rfl) wd_930 wd_446 wd_55 hy_J0_charAt_5068e wd_444 wd_445 (by decide) rfl (by omega) (Nat.le_of_ble_eq_true rfl) (Nat.le_of_ble_eq_true rfl) (Nat.le_refl 0) (Nat.le_refl 0) ?_
      refine vx_eq (μ2 := μ) (ls2 := [(3, .inl 0), (2, .inl 30), (1, .inl 5), (0, vx_r 54)]) (st2 := [.inl 100]) rfl rfl rfl ?_
      refine vx_bipush (v := 32) dX9_wordOf_77 (by decide) ?_
      refine vx_icmp_ne (tgt := 97) dX9_wordOf_79 (by decide) (fun _ => ?_) (fun h => absurd h (by decide))
      refine vx_keep (ls2 := [(2, .inl 30), (1, .inl 5), (0, vx_r 54)]) ⟨rfl, rfl, rfl, trivial⟩ ?_
      exact mo_s5 hd hp hq hpq hq3 (hno (mo_isw_ne (j := 0) (by rw [mo_ll_5]; omega) (by rw [mo_ch_5_0]; exact c_60_28)))
    · refine vx_iinc (v := 1) (ls2 := [(3, .inl 1), (2, .inl 30), (1, .inl 5), (0, vx_r 54)]) dX9_wordOf_63 rfl (by decide) (by decide) rfl ?_
      refine vx_goto (tgt := 15) dX9_wordOf_66 (by decide) ?_
      exact mo_w5_1 hd hp hq hpq hq3 hyes hno (by rw [mo_ch_5_0]; exact c_60_28)
set_option maxRecDepth 20000 in
set_option maxHeartbeats 2000000 in
theorem c_X9_wordOf (d : Nat) (hd : 4 ≤ d) (ad : Nat → Nat) (μ : vx_mem) (p q : Nat) (hp : μ 54 11 = nI p) (hq : μ 54 10 = nI q) (hpq : p ≤ q) (hq3 : q ≤ 300) : vx_Mf yX9_wordOf cX9_wordOf 4 (some (.int)) d ad 82 vx_lay μ [vx_r 54] (some (.inl (sp_kind (μ 55) p q))) μ := by
  have key : ∀ (Post : vx_P) (ini : Bool), Post (some (.inl (sp_kind (μ 55) p q))) ad 82 vx_lay μ → vx_J RX9 cX9_wordOf 4 (some (.int)) ini d 0 0 Post ad 0 0 82 vx_lay μ 0 [(0, vx_r 54)] [] := by
    intro Post ini hP
    have w6 : sp_isw (μ 55) p q 0 = 0 → sp_isw (μ 55) p q 1 = 0 → sp_isw (μ 55) p q 2 = 0 → sp_isw (μ 55) p q 3 = 0 → sp_isw (μ 55) p q 4 = 0 → sp_isw (μ 55) p q 5 = 0 → vx_J RX9 cX9_wordOf 4 (some (.int)) ini d 0 0 Post ad 0 0 82 vx_lay μ 4 [(2, .inl 35), (1, .inl 6), (0, vx_r 54)] [] := by
      intro z0 z1 z2 z3 z4 z5
      refine vx_iload_n dX9_wordOf_4 rfl ?_
      refine vx_ldcS (i := 6) dX9_wordOf_5 rfl ?_
      refine vx_callK (i := 6) (vs := []) (st := [.inl 35]) (r0 := (some (.inl 35))) (μ0 := μ) dX9_wordOf_7 ((c_J0_length_8abf5 (d - 1) (by omega) ad 82 vx_lay μ 6 (by decide)).to (show some (Sum.inl (nI (vx_ll.getD 6 0))) = some (Sum.inl 35) from by decide +kernel) rfl) wd_929 wd_436 wd_55 hy_J0_length_8abf5 wd_434 wd_435 (by decide) rfl (by omega) (Nat.le_of_ble_eq_true rfl) (Nat.le_of_ble_eq_true rfl) (Nat.le_refl 0) (Nat.le_refl 0) ?_
      refine vx_eq (μ2 := μ) (ls2 := [(2, .inl 35), (1, .inl 6), (0, vx_r 54)]) (st2 := [.inl 35, .inl 35]) rfl rfl rfl ?_
      refine vx_icmp_ge (tgt := 123) dX9_wordOf_10 (by decide) (fun _ => ?_) (fun h => absurd h (by decide))
      refine vx_iconst (v := (-1)) dX9_wordOf_123 (by decide) ?_
      exact vx_ret (ty := .int) dX9_wordOf_124 rfl rfl (Nat.le_refl 0) (Nat.le_refl 0) (vx_pst hP (by unfold sp_kind; rw [if_neg (fun h => h z0), if_neg (fun h => h z1), if_neg (fun h => h z2), if_neg (fun h => h z3), if_neg (fun h => h z4), if_neg (fun h => h z5)]) rfl)
    have w5 : sp_isw (μ 55) p q 0 = 0 → sp_isw (μ 55) p q 1 = 0 → sp_isw (μ 55) p q 2 = 0 → sp_isw (μ 55) p q 3 = 0 → sp_isw (μ 55) p q 4 = 0 → vx_J RX9 cX9_wordOf 4 (some (.int)) ini d 0 0 Post ad 0 0 82 vx_lay μ 4 [(2, .inl 30), (1, .inl 5), (0, vx_r 54)] [] := by
      intro z0 z1 z2 z3 z4
      refine vx_iload_n dX9_wordOf_4 rfl ?_
      refine vx_ldcS (i := 6) dX9_wordOf_5 rfl ?_
      refine vx_callK (i := 6) (vs := []) (st := [.inl 30]) (r0 := (some (.inl 35))) (μ0 := μ) dX9_wordOf_7 ((c_J0_length_8abf5 (d - 1) (by omega) ad 82 vx_lay μ 6 (by decide)).to (show some (Sum.inl (nI (vx_ll.getD 6 0))) = some (Sum.inl 35) from by decide +kernel) rfl) wd_929 wd_436 wd_55 hy_J0_length_8abf5 wd_434 wd_435 (by decide) rfl (by omega) (Nat.le_of_ble_eq_true rfl) (Nat.le_of_ble_eq_true rfl) (Nat.le_refl 0) (Nat.le_refl 0) ?_
      refine vx_eq (μ2 := μ) (ls2 := [(2, .inl 30), (1, .inl 5), (0, vx_r 54)]) (st2 := [.inl 35, .inl 30]) rfl rfl rfl ?_
      refine vx_icmp_ge (tgt := 123) dX9_wordOf_10 (by decide) (fun h => absurd h (by decide)) (fun _ => ?_)
      refine vx_iconst (v := 0) dX9_wordOf_13 (by decide) ?_
      refine vx_istore_n (ls2 := [(3, .inl 0), (2, .inl 30), (1, .inl 5), (0, vx_r 54)]) dX9_wordOf_14 (by decide) rfl ?_
      refine vx_keep (ls2 := [(3, .inl 0), (2, .inl 30), (1, .inl 5), (0, vx_r 54)]) ⟨rfl, rfl, rfl, rfl, trivial⟩ ?_
      exact mo_w5_0 hd hp hq hpq hq3 (fun hy => vx_pst hP (by unfold sp_kind; rw [if_neg (fun h => h z0), if_neg (fun h => h z1), if_neg (fun h => h z2), if_neg (fun h => h z3), if_neg (fun h => h z4), if_pos hy]) rfl) (fun hz => w6 z0 z1 z2 z3 z4 hz)
    have w4 : sp_isw (μ 55) p q 0 = 0 → sp_isw (μ 55) p q 1 = 0 → sp_isw (μ 55) p q 2 = 0 → sp_isw (μ 55) p q 3 = 0 → vx_J RX9 cX9_wordOf 4 (some (.int)) ini d 0 0 Post ad 0 0 82 vx_lay μ 4 [(2, .inl 24), (1, .inl 4), (0, vx_r 54)] [] := by
      intro z0 z1 z2 z3
      refine vx_iload_n dX9_wordOf_4 rfl ?_
      refine vx_ldcS (i := 6) dX9_wordOf_5 rfl ?_
      refine vx_callK (i := 6) (vs := []) (st := [.inl 24]) (r0 := (some (.inl 35))) (μ0 := μ) dX9_wordOf_7 ((c_J0_length_8abf5 (d - 1) (by omega) ad 82 vx_lay μ 6 (by decide)).to (show some (Sum.inl (nI (vx_ll.getD 6 0))) = some (Sum.inl 35) from by decide +kernel) rfl) wd_929 wd_436 wd_55 hy_J0_length_8abf5 wd_434 wd_435 (by decide) rfl (by omega) (Nat.le_of_ble_eq_true rfl) (Nat.le_of_ble_eq_true rfl) (Nat.le_refl 0) (Nat.le_refl 0) ?_
      refine vx_eq (μ2 := μ) (ls2 := [(2, .inl 24), (1, .inl 4), (0, vx_r 54)]) (st2 := [.inl 35, .inl 24]) rfl rfl rfl ?_
      refine vx_icmp_ge (tgt := 123) dX9_wordOf_10 (by decide) (fun h => absurd h (by decide)) (fun _ => ?_)
      refine vx_iconst (v := 0) dX9_wordOf_13 (by decide) ?_
      refine vx_istore_n (ls2 := [(3, .inl 0), (2, .inl 24), (1, .inl 4), (0, vx_r 54)]) dX9_wordOf_14 (by decide) rfl ?_
      refine vx_keep (ls2 := [(3, .inl 0), (2, .inl 24), (1, .inl 4), (0, vx_r 54)]) ⟨rfl, rfl, rfl, rfl, trivial⟩ ?_
      exact mo_w4_0 hd hp hq hpq hq3 (fun hy => vx_pst hP (by unfold sp_kind; rw [if_neg (fun h => h z0), if_neg (fun h => h z1), if_neg (fun h => h z2), if_neg (fun h => h z3), if_pos hy]) rfl) (fun hz => w5 z0 z1 z2 z3 hz)
    have w3 : sp_isw (μ 55) p q 0 = 0 → sp_isw (μ 55) p q 1 = 0 → sp_isw (μ 55) p q 2 = 0 → vx_J RX9 cX9_wordOf 4 (some (.int)) ini d 0 0 Post ad 0 0 82 vx_lay μ 4 [(2, .inl 19), (1, .inl 3), (0, vx_r 54)] [] := by
      intro z0 z1 z2
      refine vx_iload_n dX9_wordOf_4 rfl ?_
      refine vx_ldcS (i := 6) dX9_wordOf_5 rfl ?_
      refine vx_callK (i := 6) (vs := []) (st := [.inl 19]) (r0 := (some (.inl 35))) (μ0 := μ) dX9_wordOf_7 ((c_J0_length_8abf5 (d - 1) (by omega) ad 82 vx_lay μ 6 (by decide)).to (show some (Sum.inl (nI (vx_ll.getD 6 0))) = some (Sum.inl 35) from by decide +kernel) rfl) wd_929 wd_436 wd_55 hy_J0_length_8abf5 wd_434 wd_435 (by decide) rfl (by omega) (Nat.le_of_ble_eq_true rfl) (Nat.le_of_ble_eq_true rfl) (Nat.le_refl 0) (Nat.le_refl 0) ?_
      refine vx_eq (μ2 := μ) (ls2 := [(2, .inl 19), (1, .inl 3), (0, vx_r 54)]) (st2 := [.inl 35, .inl 19]) rfl rfl rfl ?_
      refine vx_icmp_ge (tgt := 123) dX9_wordOf_10 (by decide) (fun h => absurd h (by decide)) (fun _ => ?_)
      refine vx_iconst (v := 0) dX9_wordOf_13 (by decide) ?_
      refine vx_istore_n (ls2 := [(3, .inl 0), (2, .inl 19), (1, .inl 3), (0, vx_r 54)]) dX9_wordOf_14 (by decide) rfl ?_
      refine vx_keep (ls2 := [(3, .inl 0), (2, .inl 19), (1, .inl 3), (0, vx_r 54)]) ⟨rfl, rfl, rfl, rfl, trivial⟩ ?_
      exact mo_w3_0 hd hp hq hpq hq3 (fun hy => vx_pst hP (by unfold sp_kind; rw [if_neg (fun h => h z0), if_neg (fun h => h z1), if_neg (fun h => h z2), if_pos hy]) rfl) (fun hz => w4 z0 z1 z2 hz)
    have w2 : sp_isw (μ 55) p q 0 = 0 → sp_isw (μ 55) p q 1 = 0 → vx_J RX9 cX9_wordOf 4 (some (.int)) ini d 0 0 Post ad 0 0 82 vx_lay μ 4 [(2, .inl 11), (1, .inl 2), (0, vx_r 54)] [] := by
      intro z0 z1
      refine vx_iload_n dX9_wordOf_4 rfl ?_
      refine vx_ldcS (i := 6) dX9_wordOf_5 rfl ?_
      refine vx_callK (i := 6) (vs := []) (st := [.inl 11]) (r0 := (some (.inl 35))) (μ0 := μ) dX9_wordOf_7 ((c_J0_length_8abf5 (d - 1) (by omega) ad 82 vx_lay μ 6 (by decide)).to (show some (Sum.inl (nI (vx_ll.getD 6 0))) = some (Sum.inl 35) from by decide +kernel) rfl) wd_929 wd_436 wd_55 hy_J0_length_8abf5 wd_434 wd_435 (by decide) rfl (by omega) (Nat.le_of_ble_eq_true rfl) (Nat.le_of_ble_eq_true rfl) (Nat.le_refl 0) (Nat.le_refl 0) ?_
      refine vx_eq (μ2 := μ) (ls2 := [(2, .inl 11), (1, .inl 2), (0, vx_r 54)]) (st2 := [.inl 35, .inl 11]) rfl rfl rfl ?_
      refine vx_icmp_ge (tgt := 123) dX9_wordOf_10 (by decide) (fun h => absurd h (by decide)) (fun _ => ?_)
      refine vx_iconst (v := 0) dX9_wordOf_13 (by decide) ?_
      refine vx_istore_n (ls2 := [(3, .inl 0), (2, .inl 11), (1, .inl 2), (0, vx_r 54)]) dX9_wordOf_14 (by decide) rfl ?_
      refine vx_keep (ls2 := [(3, .inl 0), (2, .inl 11), (1, .inl 2), (0, vx_r 54)]) ⟨rfl, rfl, rfl, rfl, trivial⟩ ?_
      exact mo_w2_0 hd hp hq hpq hq3 (fun hy => vx_pst hP (by unfold sp_kind; rw [if_neg (fun h => h z0), if_neg (fun h => h z1), if_pos hy]) rfl) (fun hz => w3 z0 z1 hz)
    have w1 : sp_isw (μ 55) p q 0 = 0 → vx_J RX9 cX9_wordOf 4 (some (.int)) ini d 0 0 Post ad 0 0 82 vx_lay μ 4 [(2, .inl 6), (1, .inl 1), (0, vx_r 54)] [] := by
      intro z0
      refine vx_iload_n dX9_wordOf_4 rfl ?_
      refine vx_ldcS (i := 6) dX9_wordOf_5 rfl ?_
      refine vx_callK (i := 6) (vs := []) (st := [.inl 6]) (r0 := (some (.inl 35))) (μ0 := μ) dX9_wordOf_7 ((c_J0_length_8abf5 (d - 1) (by omega) ad 82 vx_lay μ 6 (by decide)).to (show some (Sum.inl (nI (vx_ll.getD 6 0))) = some (Sum.inl 35) from by decide +kernel) rfl) wd_929 wd_436 wd_55 hy_J0_length_8abf5 wd_434 wd_435 (by decide) rfl (by omega) (Nat.le_of_ble_eq_true rfl) (Nat.le_of_ble_eq_true rfl) (Nat.le_refl 0) (Nat.le_refl 0) ?_
      refine vx_eq (μ2 := μ) (ls2 := [(2, .inl 6), (1, .inl 1), (0, vx_r 54)]) (st2 := [.inl 35, .inl 6]) rfl rfl rfl ?_
      refine vx_icmp_ge (tgt := 123) dX9_wordOf_10 (by decide) (fun h => absurd h (by decide)) (fun _ => ?_)
      refine vx_iconst (v := 0) dX9_wordOf_13 (by decide) ?_
      refine vx_istore_n (ls2 := [(3, .inl 0), (2, .inl 6), (1, .inl 1), (0, vx_r 54)]) dX9_wordOf_14 (by decide) rfl ?_
      refine vx_keep (ls2 := [(3, .inl 0), (2, .inl 6), (1, .inl 1), (0, vx_r 54)]) ⟨rfl, rfl, rfl, rfl, trivial⟩ ?_
      exact mo_w1_0 hd hp hq hpq hq3 (fun hy => vx_pst hP (by unfold sp_kind; rw [if_neg (fun h => h z0), if_pos hy]) rfl) (fun hz => w2 z0 hz)
    have w0 : vx_J RX9 cX9_wordOf 4 (some (.int)) ini d 0 0 Post ad 0 0 82 vx_lay μ 4 [(2, .inl 0), (1, .inl 0), (0, vx_r 54)] [] := by
      refine vx_iload_n dX9_wordOf_4 rfl ?_
      refine vx_ldcS (i := 6) dX9_wordOf_5 rfl ?_
      refine vx_callK (i := 6) (vs := []) (st := [.inl 0]) (r0 := (some (.inl 35))) (μ0 := μ) dX9_wordOf_7 ((c_J0_length_8abf5 (d - 1) (by omega) ad 82 vx_lay μ 6 (by decide)).to (show some (Sum.inl (nI (vx_ll.getD 6 0))) = some (Sum.inl 35) from by decide +kernel) rfl) wd_929 wd_436 wd_55 hy_J0_length_8abf5 wd_434 wd_435 (by decide) rfl (by omega) (Nat.le_of_ble_eq_true rfl) (Nat.le_of_ble_eq_true rfl) (Nat.le_refl 0) (Nat.le_refl 0) ?_
      refine vx_eq (μ2 := μ) (ls2 := [(2, .inl 0), (1, .inl 0), (0, vx_r 54)]) (st2 := [.inl 35, .inl 0]) rfl rfl rfl ?_
      refine vx_icmp_ge (tgt := 123) dX9_wordOf_10 (by decide) (fun h => absurd h (by decide)) (fun _ => ?_)
      refine vx_iconst (v := 0) dX9_wordOf_13 (by decide) ?_
      refine vx_istore_n (ls2 := [(3, .inl 0), (2, .inl 0), (1, .inl 0), (0, vx_r 54)]) dX9_wordOf_14 (by decide) rfl ?_
      refine vx_keep (ls2 := [(3, .inl 0), (2, .inl 0), (1, .inl 0), (0, vx_r 54)]) ⟨rfl, rfl, rfl, rfl, trivial⟩ ?_
      exact mo_w0_0 hd hp hq hpq hq3 (fun hy => vx_pst hP (by unfold sp_kind; rw [if_pos hy]) rfl) (fun hz => w1 hz)
    refine vx_iconst (v := 0) dX9_wordOf_0 (by decide) ?_
    refine vx_istore_n (ls2 := [(1, .inl 0), (0, vx_r 54)]) dX9_wordOf_1 (by decide) rfl ?_
    refine vx_iconst (v := 0) dX9_wordOf_2 (by decide) ?_
    refine vx_istore_n (ls2 := [(2, .inl 0), (1, .inl 0), (0, vx_r 54)]) dX9_wordOf_3 (by decide) rfl ?_
    refine vx_keep (ls2 := [(2, .inl 0), (1, .inl 0), (0, vx_r 54)]) ⟨rfl, rfl, rfl, trivial⟩ ?_
    exact w0
  exact vx_J.M pn_X9_wordOf (Nat.le_of_ble_eq_true rfl) (key _ _ ⟨rfl, rfl, rfl, rfl, rfl⟩)
end
