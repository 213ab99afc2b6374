section
def mo_fin (μ : vx_mem) (Z : Int32 × Nat × Nat × (Nat → Int32)) (G C : Nat → Int32) : Prop := (∀ j, 18 ≤ j → G j = μ 54 j) ∧ G 0 = 0 ∧ G 2 = 0 ∧ G 16 = Z.1 ∧ G 17 = (if Z.1 = 0 then -1 else nI Z.2.1) ∧ ∀ j, j < 6 → C j = if Z.1 = 0 then (if Z.2.2.2 j = -1 then (vx_sv 0).getD j 0 else Z.2.2.2 j) else μ 56 j
def mo_ans (Z : Int32 × Nat × Nat × (Nat → Int32)) : Int32 := if Z.1 = 0 then nI Z.2.2.1 else -1
def mo_cpy (C : Nat → Int32) : Nat → Int32 := upd (upd (upd (upd (upd (upd C 0 (C 6)) 1 (C 7)) 2 (C 8)) 3 (C 9)) 4 (C 10)) 5 (C 11)
theorem mo_cpy_at {C : Nat → Int32} {j : Nat} (h : j < 6) : mo_cpy C j = C (6 + j) := by
  rcases j with _ | _ | _ | _ | _ | _ | j
  · rfl
  · rfl
  · rfl
  · rfl
  · rfl
  · rfl
  · omega
def mo_iu (C u : Nat → Int32) : Nat → Int32 := upd (upd (upd (upd (upd (upd C 6 (u 0)) 7 (u 1)) 8 (u 2)) 9 (u 3)) 10 (u 4)) 11 (u 5)
theorem mo_iu_at {C u : Nat → Int32} {j : Nat} (h : j < 6) : mo_iu C u (6 + j) = u j := by
  rcases j with _ | _ | _ | _ | _ | _ | j
  · rfl
  · rfl
  · rfl
  · rfl
  · rfl
  · rfl
  · omega
theorem mo_iu_lo {C u : Nat → Int32} {j : Nat} (h : j < 6) : mo_iu C u j = C j := by
  unfold mo_iu
  repeat rw [pk_un (by omega)]

set_option maxRecDepth 20000 in
set_option maxHeartbeats 2000000 in
theorem mo_cend0 {d : Nat} {ad : Nat → Nat} {μ : vx_mem} {G C : Nat → Int32} {e : Nat} (h14 : G 14 = 0) {Post : vx_P} {ini : Bool} (hP : Post (some (.inl (G 8))) ad 82 vx_lay (va_up (va_up μ 54 (upd (upd G 16 (G 14)) 17 (G 15))) 56 (mo_cpy C))) : vx_J RX9 cX9_customs 3 (some (.int)) ini d 0 0 Post ad 0 0 82 vx_lay (va_up (va_up μ 54 G) 56 C) 110 [(1, .inl (nI e)), (0, vx_r 54)] [] := by
  refine vx_aload_n dX9_customs_110 rfl ?_
  refine vx_aload_n dX9_customs_111 rfl ?_
  refine vx_getI (ci := 9) (T := TX9) (n := 56) (j := 14) (a := 54) (v := (G 14)) dX9_customs_112 rfl lay_X9 (by decide) wd_750 (by decide) ly_54 rfl rfl ?_
  refine vx_putI (ci := 9) (T := TX9) (n := 56) (j := 16) (a := 54) (ty := .int) (μ2 := (va_up (va_up μ 54 (upd G 16 (G 14))) 56 C)) dX9_customs_115 rfl lay_X9 tyX9_ok nmX9 (by decide) wd_752 rfl rfl rfl rfl (by decide) ly_54 rfl ((vx_m2 (by decide)).trans (congrArg (fun m => va_up m 56 C) vx_m1)) ?_
  refine vx_aload_n dX9_customs_118 rfl ?_
  refine vx_aload_n dX9_customs_119 rfl ?_
  refine vx_getI (ci := 9) (T := TX9) (n := 56) (j := 15) (a := 54) (v := (G 15)) dX9_customs_120 rfl lay_X9 (by decide) wd_751 (by decide) ly_54 rfl rfl ?_
  refine vx_putI (ci := 9) (T := TX9) (n := 56) (j := 17) (a := 54) (ty := .int) (μ2 := (va_up (va_up μ 54 (upd (upd G 16 (G 14)) 17 (G 15))) 56 C)) dX9_customs_123 rfl lay_X9 tyX9_ok nmX9 (by decide) wd_753 rfl rfl rfl rfl (by decide) ly_54 rfl ((vx_m2 (by decide)).trans (congrArg (fun m => va_up m 56 C) vx_m1)) ?_
  refine vx_aload_n dX9_customs_126 rfl ?_
  refine vx_getI (ci := 9) (T := TX9) (n := 56) (j := 14) (a := 54) (v := (G 14)) dX9_customs_127 rfl lay_X9 (by decide) wd_750 (by decide) ly_54 rfl rfl ?_
  refine vx_if_eq (tgt := 135) dX9_customs_130 (by decide) (fun _ => ?_) (fun h => absurd h14 h)
  refine vx_iconst (v := 0) dX9_customs_135 (by decide) ?_
  refine vx_istore_n (ls2 := [(2, .inl 0), (1, .inl (nI e)), (0, vx_r 54)]) dX9_customs_136 (by decide) rfl ?_
  refine vx_iload_n dX9_customs_137 rfl ?_
  refine vx_bipush (v := 6) dX9_customs_138 (by decide) ?_
  refine vx_icmp_ge (tgt := 164) dX9_customs_140 (by decide) (fun h => absurd h (by decide)) (fun _ => ?_)
  refine vx_aload_n dX9_customs_143 rfl ?_
  refine vx_getR (ci := 9) (T := TX9) (n := 56) (j := 3) (a := 54) (r := 56) dX9_customs_144 rfl lay_X9 (by decide) wd_739 (by decide) ly_54 rfl ?_
  refine vx_iload_n dX9_customs_147 rfl ?_
  refine vx_aload_n dX9_customs_148 rfl ?_
  refine vx_getR (ci := 9) (T := TX9) (n := 56) (j := 3) (a := 54) (r := 56) dX9_customs_149 rfl lay_X9 (by decide) wd_739 (by decide) ly_54 rfl ?_
  refine vx_bipush (v := 6) dX9_customs_152 (by decide) ?_
  refine vx_iload_n dX9_customs_154 rfl ?_
  refine vx_iadd dX9_customs_155 ?_
  refine vx_eq (st2 := [.inl 6, vx_r 56, .inl 0, vx_r 56]) rfl rfl (by rfl) ?_
  refine vx_iald (a := 56) (n := 12) (v := (C 6)) dX9_customs_156 (by decide) ly_56 (by unfold vp_in; decide) rfl ?_
  refine vx_iast (a := 56) (n := 12) (μ2 := (va_up (va_up μ 54 (upd (upd G 16 (G 14)) 17 (G 15))) 56 (upd C 0 (C 6)))) dX9_customs_157 (by decide) ly_56 (by unfold vp_in; decide) vx_m1 ?_
  refine vx_iinc (v := 1) (ls2 := [(2, .inl 1), (1, .inl (nI e)), (0, vx_r 54)]) dX9_customs_158 rfl (by decide) (by decide) rfl ?_
  refine vx_goto (tgt := 137) dX9_customs_161 (by decide) ?_
  refine vx_iload_n dX9_customs_137 rfl ?_
  refine vx_bipush (v := 6) dX9_customs_138 (by decide) ?_
  refine vx_icmp_ge (tgt := 164) dX9_customs_140 (by decide) (fun h => absurd h (by decide)) (fun _ => ?_)
  refine vx_aload_n dX9_customs_143 rfl ?_
  refine vx_getR (ci := 9) (T := TX9) (n := 56) (j := 3) (a := 54) (r := 56) dX9_customs_144 rfl lay_X9 (by decide) wd_739 (by decide) ly_54 rfl ?_
  refine vx_iload_n dX9_customs_147 rfl ?_
  refine vx_aload_n dX9_customs_148 rfl ?_
  refine vx_getR (ci := 9) (T := TX9) (n := 56) (j := 3) (a := 54) (r := 56) dX9_customs_149 rfl lay_X9 (by decide) wd_739 (by decide) ly_54 rfl ?_
  refine vx_bipush (v := 6) dX9_customs_152 (by decide) ?_
  refine vx_iload_n dX9_customs_154 rfl ?_
  refine vx_iadd dX9_customs_155 ?_
  refine vx_eq (st2 := [.inl 7, vx_r 56, .inl 1, vx_r 56]) rfl rfl (by rfl) ?_
  refine vx_iald (a := 56) (n := 12) (v := (C 7)) dX9_customs_156 (by decide) ly_56 (by unfold vp_in; decide) rfl ?_
  refine vx_iast (a := 56) (n := 12) (μ2 := (va_up (va_up μ 54 (upd (upd G 16 (G 14)) 17 (G 15))) 56 (upd (upd C 0 (C 6)) 1 (C 7)))) dX9_customs_157 (by decide) ly_56 (by unfold vp_in; decide) vx_m1 ?_
  refine vx_iinc (v := 2) (ls2 := [(2, .inl 2), (1, .inl (nI e)), (0, vx_r 54)]) dX9_customs_158 rfl (by decide) (by decide) rfl ?_
  refine vx_goto (tgt := 137) dX9_customs_161 (by decide) ?_
  refine vx_iload_n dX9_customs_137 rfl ?_
  refine vx_bipush (v := 6) dX9_customs_138 (by decide) ?_
  refine vx_icmp_ge (tgt := 164) dX9_customs_140 (by decide) (fun h => absurd h (by decide)) (fun _ => ?_)
  refine vx_aload_n dX9_customs_143 rfl ?_
  refine vx_getR (ci := 9) (T := TX9) (n := 56) (j := 3) (a := 54) (r := 56) dX9_customs_144 rfl lay_X9 (by decide) wd_739 (by decide) ly_54 rfl ?_
  refine vx_iload_n dX9_customs_147 rfl ?_
  refine vx_aload_n dX9_customs_148 rfl ?_
  refine vx_getR (ci := 9) (T := TX9) (n := 56) (j := 3) (a := 54) (r := 56) dX9_customs_149 rfl lay_X9 (by decide) wd_739 (by decide) ly_54 rfl ?_
  refine vx_bipush (v := 6) dX9_customs_152 (by decide) ?_
  refine vx_iload_n dX9_customs_154 rfl ?_
  refine vx_iadd dX9_customs_155 ?_
  refine vx_eq (st2 := [.inl 8, vx_r 56, .inl 2, vx_r 56]) rfl rfl (by rfl) ?_
  refine vx_iald (a := 56) (n := 12) (v := (C 8)) dX9_customs_156 (by decide) ly_56 (by unfold vp_in; decide) rfl ?_
  refine vx_iast (a := 56) (n := 12) (μ2 := (va_up (va_up μ 54 (upd (upd G 16 (G 14)) 17 (G 15))) 56 (upd (upd (upd C 0 (C 6)) 1 (C 7)) 2 (C 8)))) dX9_customs_157 (by decide) ly_56 (by unfold vp_in; decide) vx_m1 ?_
  refine vx_iinc (v := 3) (ls2 := [(2, .inl 3), (1, .inl (nI e)), (0, vx_r 54)]) dX9_customs_158 rfl (by decide) (by decide) rfl ?_
  refine vx_goto (tgt := 137) dX9_customs_161 (by decide) ?_
  refine vx_iload_n dX9_customs_137 rfl ?_
  refine vx_bipush (v := 6) dX9_customs_138 (by decide) ?_
  refine vx_icmp_ge (tgt := 164) dX9_customs_140 (by decide) (fun h => absurd h (by decide)) (fun _ => ?_)
  refine vx_aload_n dX9_customs_143 rfl ?_
  refine vx_getR (ci := 9) (T := TX9) (n := 56) (j := 3) (a := 54) (r := 56) dX9_customs_144 rfl lay_X9 (by decide) wd_739 (by decide) ly_54 rfl ?_
  refine vx_iload_n dX9_customs_147 rfl ?_
  refine vx_aload_n dX9_customs_148 rfl ?_
  refine vx_getR (ci := 9) (T := TX9) (n := 56) (j := 3) (a := 54) (r := 56) dX9_customs_149 rfl lay_X9 (by decide) wd_739 (by decide) ly_54 rfl ?_
  refine vx_bipush (v := 6) dX9_customs_152 (by decide) ?_
  refine vx_iload_n dX9_customs_154 rfl ?_
  refine vx_iadd dX9_customs_155 ?_
  refine vx_eq (st2 := [.inl 9, vx_r 56, .inl 3, vx_r 56]) rfl rfl (by rfl) ?_
  refine vx_iald (a := 56) (n := 12) (v := (C 9)) dX9_customs_156 (by decide) ly_56 (by unfold vp_in; decide) rfl ?_
  refine vx_iast (a := 56) (n := 12) (μ2 := (va_up (va_up μ 54 (upd (upd G 16 (G 14)) 17 (G 15))) 56 (upd (upd (upd (upd C 0 (C 6)) 1 (C 7)) 2 (C 8)) 3 (C 9)))) dX9_customs_157 (by decide) ly_56 (by unfold vp_in; decide) vx_m1 ?_
  refine vx_iinc (v := 4) (ls2 := [(2, .inl 4), (1, .inl (nI e)), (0, vx_r 54)]) dX9_customs_158 rfl (by decide) (by decide) rfl ?_
  refine vx_goto (tgt := 137) dX9_customs_161 (by decide) ?_
  refine vx_iload_n dX9_customs_137 rfl ?_
  refine vx_bipush (v := 6) dX9_customs_138 (by decide) ?_
  refine vx_icmp_ge (tgt := 164) dX9_customs_140 (by decide) (fun h => absurd h (by decide)) (fun _ => ?_)
  refine vx_aload_n dX9_customs_143 rfl ?_
  refine vx_getR (ci := 9) (T := TX9) (n := 56) (j := 3) (a := 54) (r := 56) dX9_customs_144 rfl lay_X9 (by decide) wd_739 (by decide) ly_54 rfl ?_
  refine vx_iload_n dX9_customs_147 rfl ?_
  refine vx_aload_n dX9_customs_148 rfl ?_
  refine vx_getR (ci := 9) (T := TX9) (n := 56) (j := 3) (a := 54) (r := 56) dX9_customs_149 rfl lay_X9 (by decide) wd_739 (by decide) ly_54 rfl ?_
  refine vx_bipush (v := 6) dX9_customs_152 (by decide) ?_
  refine vx_iload_n dX9_customs_154 rfl ?_
  refine vx_iadd dX9_customs_155 ?_
  refine vx_eq (st2 := [.inl 10, vx_r 56, .inl 4, vx_r 56]) rfl rfl (by rfl) ?_
  refine vx_iald (a := 56) (n := 12) (v := (C 10)) dX9_customs_156 (by decide) ly_56 (by unfold vp_in; decide) rfl ?_
  refine vx_iast (a := 56) (n := 12) (μ2 := (va_up (va_up μ 54 (upd (upd G 16 (G 14)) 17 (G 15))) 56 (upd (upd (upd (upd (upd C 0 (C 6)) 1 (C 7)) 2 (C 8)) 3 (C 9)) 4 (C 10)))) dX9_customs_157 (by decide) ly_56 (by unfold vp_in; decide) vx_m1 ?_
  refine vx_iinc (v := 5) (ls2 := [(2, .inl 5), (1, .inl (nI e)), (0, vx_r 54)]) dX9_customs_158 rfl (by decide) (by decide) rfl ?_
  refine vx_goto (tgt := 137) dX9_customs_161 (by decide) ?_
  refine vx_iload_n dX9_customs_137 rfl ?_
  refine vx_bipush (v := 6) dX9_customs_138 (by decide) ?_
  refine vx_icmp_ge (tgt := 164) dX9_customs_140 (by decide) (fun h => absurd h (by decide)) (fun _ => ?_)
  refine vx_aload_n dX9_customs_143 rfl ?_
  refine vx_getR (ci := 9) (T := TX9) (n := 56) (j := 3) (a := 54) (r := 56) dX9_customs_144 rfl lay_X9 (by decide) wd_739 (by decide) ly_54 rfl ?_
  refine vx_iload_n dX9_customs_147 rfl ?_
  refine vx_aload_n dX9_customs_148 rfl ?_
  refine vx_getR (ci := 9) (T := TX9) (n := 56) (j := 3) (a := 54) (r := 56) dX9_customs_149 rfl lay_X9 (by decide) wd_739 (by decide) ly_54 rfl ?_
  refine vx_bipush (v := 6) dX9_customs_152 (by decide) ?_
  refine vx_iload_n dX9_customs_154 rfl ?_
  refine vx_iadd dX9_customs_155 ?_
  refine vx_eq (st2 := [.inl 11, vx_r 56, .inl 5, vx_r 56]) rfl rfl (by rfl) ?_
  refine vx_iald (a := 56) (n := 12) (v := (C 11)) dX9_customs_156 (by decide) ly_56 (by unfold vp_in; decide) rfl ?_
  refine vx_iast (a := 56) (n := 12) (μ2 := (va_up (va_up μ 54 (upd (upd G 16 (G 14)) 17 (G 15))) 56 (upd (upd (upd (upd (upd (upd C 0 (C 6)) 1 (C 7)) 2 (C 8)) 3 (C 9)) 4 (C 10)) 5 (C 11)))) dX9_customs_157 (by decide) ly_56 (by unfold vp_in; decide) vx_m1 ?_
  refine vx_iinc (v := 6) (ls2 := [(2, .inl 6), (1, .inl (nI e)), (0, vx_r 54)]) dX9_customs_158 rfl (by decide) (by decide) rfl ?_
  refine vx_goto (tgt := 137) dX9_customs_161 (by decide) ?_
  refine vx_iload_n dX9_customs_137 rfl ?_
  refine vx_bipush (v := 6) dX9_customs_138 (by decide) ?_
  refine vx_icmp_ge (tgt := 164) dX9_customs_140 (by decide) (fun _ => ?_) (fun h => absurd h (by decide))
  refine vx_aload_n dX9_customs_164 rfl ?_
  refine vx_getI (ci := 9) (T := TX9) (n := 56) (j := 8) (a := 54) (v := (G 8)) dX9_customs_165 rfl lay_X9 (by decide) wd_744 (by decide) ly_54 rfl rfl ?_
  exact vx_ret (ty := .int) dX9_customs_168 rfl rfl (Nat.le_refl 0) (Nat.le_refl 0) (vx_pst hP rfl rfl)
set_option maxRecDepth 20000 in
set_option maxHeartbeats 2000000 in
theorem mo_cend1 {d : Nat} {ad : Nat → Nat} {μ : vx_mem} {G C : Nat → Int32} {e : Nat} (h14 : ¬ G 14 = 0) {Post : vx_P} {ini : Bool} (hP : Post (some (.inl (-1))) ad 82 vx_lay (va_up (va_up μ 54 (upd (upd G 16 (G 14)) 17 (G 15))) 56 C)) : vx_J RX9 cX9_customs 3 (some (.int)) ini d 0 0 Post ad 0 0 82 vx_lay (va_up (va_up μ 54 G) 56 C) 110 [(1, .inl (nI e)), (0, vx_r 54)] [] := by
  refine vx_aload_n dX9_customs_110 rfl ?_
  refine vx_aload_n dX9_customs_111 rfl ?_
  refine vx_getI (ci := 9) (T := TX9) (n := 56) (j := 14) (a := 54) (v := (G 14)) dX9_customs_112 rfl lay_X9 (by decide) wd_750 (by decide) ly_54 rfl rfl ?_
  refine vx_putI (ci := 9) (T := TX9) (n := 56) (j := 16) (a := 54) (ty := .int) (μ2 := (va_up (va_up μ 54 (upd G 16 (G 14))) 56 C)) dX9_customs_115 rfl lay_X9 tyX9_ok nmX9 (by decide) wd_752 rfl rfl rfl rfl (by decide) ly_54 rfl ((vx_m2 (by decide)).trans (congrArg (fun m => va_up m 56 C) vx_m1)) ?_
  refine vx_aload_n dX9_customs_118 rfl ?_
  refine vx_aload_n dX9_customs_119 rfl ?_
  refine vx_getI (ci := 9) (T := TX9) (n := 56) (j := 15) (a := 54) (v := (G 15)) dX9_customs_120 rfl lay_X9 (by decide) wd_751 (by decide) ly_54 rfl rfl ?_
  refine vx_putI (ci := 9) (T := TX9) (n := 56) (j := 17) (a := 54) (ty := .int) (μ2 := (va_up (va_up μ 54 (upd (upd G 16 (G 14)) 17 (G 15))) 56 C)) dX9_customs_123 rfl lay_X9 tyX9_ok nmX9 (by decide) wd_753 rfl rfl rfl rfl (by decide) ly_54 rfl ((vx_m2 (by decide)).trans (congrArg (fun m => va_up m 56 C) vx_m1)) ?_
  refine vx_aload_n dX9_customs_126 rfl ?_
  refine vx_getI (ci := 9) (T := TX9) (n := 56) (j := 14) (a := 54) (v := (G 14)) dX9_customs_127 rfl lay_X9 (by decide) wd_750 (by decide) ly_54 rfl rfl ?_
  refine vx_if_eq (tgt := 135) dX9_customs_130 (by decide) (fun h => absurd h h14) (fun _ => ?_)
  refine vx_iconst (v := (-1)) dX9_customs_133 (by decide) ?_
  exact vx_ret (ty := .int) dX9_customs_134 rfl rfl (Nat.le_refl 0) (Nat.le_refl 0) (vx_pst hP rfl rfl)
set_option maxRecDepth 20000 in
set_option maxHeartbeats 2000000 in
theorem mo_cloop {d : Nat} (hd : 8 ≤ d) {ad : Nat → Nat} {μ : vx_mem} {e : Nat} (he3 : e ≤ 300) (hby : ∀ j, j < e → ¬ μ 55 j = -1) (hle : ∀ k, k < 6 → μ 58 k = (vx_sv 1).getD k 0) (hmo : ∀ k, k < 6 → μ 59 k = (vx_sv 2).getD k 0) : ∀ (f : Nat) (G C told : Nat → Int32) (q k : Nat) (K0 : Int32), e - q < f → q ≤ e → G 9 = nI e → G 10 = nI (mo_nx (μ 55) e q K0).1 → G 11 = nI q → G 12 = (mo_nx (μ 55) e q K0).2.1 → G 13 = (mo_nx (μ 55) e q K0).2.2 → G 14 = 0 → G 15 = -1 → G 8 = nI k → mo_TB (G 7) told → mo_CU C told → (∀ j, j < 6 → C j = μ 56 j) → (∀ j, 18 ≤ j → G j = μ 54 j) → G 0 = 0 → G 2 = 0 →
    ∃ G2 C2, mo_fin μ (sp_rd (μ 55) e f told q k) G2 C2 ∧ ∀ (Post : vx_P) (ini : Bool), Post (some (.inl (mo_ans (sp_rd (μ 55) e f told q k)))) ad 82 vx_lay (va_up (va_up μ 54 G2) 56 C2) → vx_J RX9 cX9_customs 3 (some (.int)) ini d 0 0 Post ad 0 0 82 vx_lay (va_up (va_up μ 54 G) 56 C) 88 [(1, .inl (nI e)), (0, vx_r 54)] [] := by
  intro f
  induction f with
  | zero => intro G C told q k K0 h0; exact absurd h0 (by omega)
  | succ f ih =>
    intro G C told q k K0 h0 hqe h9 h10 h11 h12 h13 h14 h15 h8 hT hC hC0 hG h00 h02
    by_cases hlt : q < e
    · obtain ⟨G1, C1, hM, hsc, hC1, hbad, hok⟩ := c_X9_line (d - 1) (by omega) ad (va_up (va_up μ 54 G) 56 C) q e told K0 hlt h9 he3 hby h10 h11 h12 h13 h14 hT hC hle hmo
      by_cases hz : (sp_ln (μ 55) e told q).1 = 0
      · obtain ⟨g14, g15, g8, gT, gC, K1, g10, g11, g12, g13⟩ := hok hz
        have b := sp_ln_ok hlt hz
        have b2 := sp_run_b (P := sp_bl) (t := μ 55) (e := e) (p := (sp_ln (μ 55) e told q).2.1) b.2
        obtain ⟨G2, C2, hf2, hJ⟩ := ih G1 C1 (sp_ln (μ 55) e told q).2.2 (sp_run sp_bl (μ 55) e (sp_ln (μ 55) e told q).2.1) (k + 1) K1 (by omega) b2.2 ((hsc 9 (by omega)).trans h9) g10 g11 g12 g13 g14 (g15.trans h15) (g8.trans (by show G 8 + 1 = _; rw [h8, nI_1])) gT gC (fun j hj => (hC1 j hj).trans (hC0 j hj)) (fun j hj => (hsc j (by omega)).trans (hG j hj)) ((hsc 0 (by omega)).trans h00) ((hsc 2 (by omega)).trans h02)
        rw [sp_rd_s hlt hz]
        refine ⟨G2, C2, hf2, fun Post ini hP => ?_⟩
        refine vx_aload_n dX9_customs_88 rfl ?_
        refine vx_getI (ci := 9) (T := TX9) (n := 56) (j := 14) (a := 54) (v := 0) dX9_customs_89 rfl lay_X9 (by decide) wd_750 (by decide) ly_54 rfl h14 ?_
        refine vx_if_ne (tgt := 110) dX9_customs_92 (by decide) (fun h => absurd h (by decide)) (fun _ => ?_)
        refine vx_aload_n dX9_customs_95 rfl ?_
        refine vx_getI (ci := 9) (T := TX9) (n := 56) (j := 12) (a := 54) (v := (G 12)) dX9_customs_96 rfl lay_X9 (by decide) wd_748 (by decide) ly_54 rfl rfl ?_
        refine vx_iconst (v := 3) dX9_customs_99 (by decide) ?_
        refine vx_icmp_eq (tgt := 110) dX9_customs_100 (by decide) (fun h => absurd h (fun h => (mo_nx_e.mp (h12.symm.trans h)) hlt)) (fun _ => ?_)
        refine vx_aload_n dX9_customs_103 rfl ?_
        refine vx_callV (b := 54) (vs := []) (st := []) (r0 := none) (μ0 := (va_up (va_up μ 54 G1) 56 C1)) dX9_customs_104 ((hM).to rfl ((congrArg (fun m => va_up m 56 C1) ((vx_m2 (by decide)).trans (congrArg (fun m => va_up m 56 C) vx_m1))).trans vx_m1)) wd_934 wd_937 wd_54 hy_X9_line wd_936 wd_27 (by decide) ly_54 rfl rfl (by omega) (Nat.le_of_ble_eq_true rfl) (Nat.le_of_ble_eq_true rfl) (Nat.le_refl 0) (Nat.le_refl 0) ?_
        refine vx_eq (μ2 := (va_up (va_up μ 54 G1) 56 C1)) (ls2 := [(1, .inl (nI e)), (0, vx_r 54)]) (st2 := []) rfl rfl rfl ?_
        refine vx_goto (tgt := 88) dX9_customs_107 (by decide) ?_
        exact hJ Post ini hP
      · obtain ⟨g14, g15⟩ := hbad hz
        rw [sp_rd_bad hlt hz]
        refine ⟨upd (upd G1 16 (G1 14)) 17 (G1 15), C1, ⟨fun j hj => ?_, ?_, ?_, g14, ?_, fun j hj => ?_⟩, fun Post ini hP => ?_⟩
        · by_cases e1 : j = 16
          · omega
          · rw [pk_un (by omega), pk_un e1]; exact (hsc j (by omega)).trans (hG j hj)
        · exact (hsc 0 (by omega)).trans h00
        · exact (hsc 2 (by omega)).trans h02
        · dsimp only; rw [if_neg hz]; exact g15
        · dsimp only; rw [if_neg hz]; exact (hC1 j hj).trans (hC0 j hj)
        refine vx_aload_n dX9_customs_88 rfl ?_
        refine vx_getI (ci := 9) (T := TX9) (n := 56) (j := 14) (a := 54) (v := 0) dX9_customs_89 rfl lay_X9 (by decide) wd_750 (by decide) ly_54 rfl h14 ?_
        refine vx_if_ne (tgt := 110) dX9_customs_92 (by decide) (fun h => absurd h (by decide)) (fun _ => ?_)
        refine vx_aload_n dX9_customs_95 rfl ?_
        refine vx_getI (ci := 9) (T := TX9) (n := 56) (j := 12) (a := 54) (v := (G 12)) dX9_customs_96 rfl lay_X9 (by decide) wd_748 (by decide) ly_54 rfl rfl ?_
        refine vx_iconst (v := 3) dX9_customs_99 (by decide) ?_
        refine vx_icmp_eq (tgt := 110) dX9_customs_100 (by decide) (fun h => absurd h (fun h => (mo_nx_e.mp (h12.symm.trans h)) hlt)) (fun _ => ?_)
        refine vx_aload_n dX9_customs_103 rfl ?_
        refine vx_callV (b := 54) (vs := []) (st := []) (r0 := none) (μ0 := (va_up (va_up μ 54 G1) 56 C1)) dX9_customs_104 ((hM).to rfl ((congrArg (fun m => va_up m 56 C1) ((vx_m2 (by decide)).trans (congrArg (fun m => va_up m 56 C) vx_m1))).trans vx_m1)) wd_934 wd_937 wd_54 hy_X9_line wd_936 wd_27 (by decide) ly_54 rfl rfl (by omega) (Nat.le_of_ble_eq_true rfl) (Nat.le_of_ble_eq_true rfl) (Nat.le_refl 0) (Nat.le_refl 0) ?_
        refine vx_eq (μ2 := (va_up (va_up μ 54 G1) 56 C1)) (ls2 := [(1, .inl (nI e)), (0, vx_r 54)]) (st2 := []) rfl rfl rfl ?_
        refine vx_goto (tgt := 88) dX9_customs_107 (by decide) ?_
        refine vx_aload_n dX9_customs_88 rfl ?_
        refine vx_getI (ci := 9) (T := TX9) (n := 56) (j := 14) (a := 54) (v := (G1 14)) dX9_customs_89 rfl lay_X9 (by decide) wd_750 (by decide) ly_54 rfl rfl ?_
        refine vx_if_ne (tgt := 110) dX9_customs_92 (by decide) (fun _ => ?_) (fun h => absurd h (fun h => hz (g14.symm.trans h)))
        exact mo_cend1 (fun h => hz (g14.symm.trans h)) (by have := hP; unfold mo_ans at this; dsimp only at this; rw [if_neg hz] at this; exact this)
    · rw [sp_rd_end hlt]
      refine ⟨upd (upd G 16 (G 14)) 17 (G 15), mo_cpy C, ⟨fun j hj => ?_, h00, h02, h14, ?_, fun j hj => ?_⟩, fun Post ini hP => ?_⟩
      · rw [pk_un (by omega), pk_un (by omega)]; exact hG j hj
      · dsimp only; rw [if_pos rfl]; exact h15
      · dsimp only; rw [if_pos rfl, mo_cpy_at hj]; exact hC j hj
      refine vx_aload_n dX9_customs_88 rfl ?_
      refine vx_getI (ci := 9) (T := TX9) (n := 56) (j := 14) (a := 54) (v := 0) dX9_customs_89 rfl lay_X9 (by decide) wd_750 (by decide) ly_54 rfl h14 ?_
      refine vx_if_ne (tgt := 110) dX9_customs_92 (by decide) (fun h => absurd h (by decide)) (fun _ => ?_)
      refine vx_aload_n dX9_customs_95 rfl ?_
      refine vx_getI (ci := 9) (T := TX9) (n := 56) (j := 12) (a := 54) (v := (G 12)) dX9_customs_96 rfl lay_X9 (by decide) wd_748 (by decide) ly_54 rfl rfl ?_
      refine vx_iconst (v := 3) dX9_customs_99 (by decide) ?_
      refine vx_icmp_eq (tgt := 110) dX9_customs_100 (by decide) (fun _ => ?_) (fun h => absurd (h12.trans (mo_nx_e.mpr hlt)) h)
      exact mo_cend0 h14 (by have := hP; unfold mo_ans at this; dsimp only at this; rw [if_pos rfl, ← h8] at this; exact this)
set_option maxRecDepth 20000 in
set_option maxHeartbeats 2000000 in
theorem mo_custNo (d : Nat) (ad : Nat → Nat) (μ : vx_mem) (ht : μ 54 0 = 0) (len : Nat) (hl : μ 54 2 = nI len) (n : Int32) (hn : ¬ (¬ n < 0 ∧ n ≤ nI len)) : vx_Mf yX9_customs cX9_customs 3 (some (.int)) d ad 82 vx_lay μ [vx_r 54, .inl n] (some (.inl (-2))) μ := by
  have key : ∀ (Post : vx_P) (ini : Bool), Post (some (.inl (-2))) ad 82 vx_lay μ → vx_J RX9 cX9_customs 3 (some (.int)) ini d 0 0 Post ad 0 0 82 vx_lay μ 0 [(0, vx_r 54), (1, .inl n)] [] := by
    intro Post ini hP
    refine vx_aload_n dX9_customs_0 rfl ?_
    refine vx_iconst (v := 0) dX9_customs_1 (by decide) ?_
    refine vx_putI (ci := 9) (T := TX9) (n := 56) (j := 0) (a := 54) (ty := .int) (μ2 := (va_up μ 54 (upd (μ 54) 0 0))) dX9_customs_2 rfl lay_X9 tyX9_ok nmX9 (by decide) wd_736 rfl rfl rfl rfl (by decide) ly_54 rfl rfl ?_
    refine vx_eq (μ2 := μ) (by rw [sp_ups ht, vx_up_id]) rfl rfl ?_
    refine vx_iload_n dX9_customs_5 rfl ?_
    refine vx_if_lt (tgt := 17) dX9_customs_6 (by decide) (fun c_6 => ?_) (fun c_6 => ?_)
    · refine vx_bipush (v := (-2)) dX9_customs_17 (by decide) ?_
      exact vx_ret (ty := .int) dX9_customs_19 rfl rfl (Nat.le_refl 0) (Nat.le_refl 0) (vx_pst hP rfl rfl)
    · refine vx_iload_n dX9_customs_9 rfl ?_
      refine vx_aload_n dX9_customs_10 rfl ?_
      refine vx_getI (ci := 9) (T := TX9) (n := 56) (j := 2) (a := 54) (v := (nI len)) dX9_customs_11 rfl lay_X9 (by decide) wd_738 (by decide) ly_54 rfl hl ?_
      refine vx_icmp_le (tgt := 20) dX9_customs_14 (by decide) (fun c_14 => ?_) (fun c_14 => ?_)
      · exact absurd ⟨c_6, c_14⟩ hn
      · refine vx_bipush (v := (-2)) dX9_customs_17 (by decide) ?_
        exact vx_ret (ty := .int) dX9_customs_19 rfl rfl (Nat.le_refl 0) (Nat.le_refl 0) (vx_pst hP rfl rfl)
  exact vx_J.M pn_X9_customs (Nat.le_of_ble_eq_true rfl) (key _ _ ⟨rfl, rfl, rfl, rfl, rfl⟩)
set_option maxRecDepth 20000 in
set_option maxHeartbeats 2000000 in
theorem c_X9_customs (d : Nat) (hd : 8 ≤ d) (ad : Nat → Nat) (μ : vx_mem) (ht : μ 54 0 = 0) (len e : Nat) (hl : μ 54 2 = nI len) (hl3 : len ≤ 300) (hel : e ≤ len) (hby : ∀ j, j < 300 → ¬ μ 55 j = -1) (hus : ∀ k, k < 6 → μ 57 k = (vx_sv 0).getD k 0) (hle : ∀ k, k < 6 → μ 58 k = (vx_sv 1).getD k 0) (hmo : ∀ k, k < 6 → μ 59 k = (vx_sv 2).getD k 0) (told0 : Nat → Int32) (ho : ∀ k, k < 6 → told0 k = -1) : ∃ G C, mo_fin μ (sp_rd (μ 55) e (e + 1) told0 (sp_run sp_bl (μ 55) e 0) 0) G C ∧ vx_Mf yX9_customs cX9_customs 3 (some (.int)) d ad 82 vx_lay μ [vx_r 54, .inl (nI e)] (some (.inl (mo_ans (sp_rd (μ 55) e (e + 1) told0 (sp_run sp_bl (μ 55) e 0) 0)))) (va_up (va_up μ 54 G) 56 C) := by
  generalize hq : sp_run sp_bl (μ 55) e 0 = q
  have b := sp_run_b (P := sp_bl) (t := μ 55) (e := e) (p := 0) (by omega)
  rw [hq] at b
  rcases hn : mo_nx (μ 55) e q (μ 54 13) with ⟨a, S, K⟩
  obtain ⟨G2, C2, hf2, hJ⟩ := mo_cloop hd (ad := ad) (by omega : e ≤ 300) (fun j hj => hby j (by omega)) hle hmo (e + 1) (upd (upd (upd (upd (upd (upd (upd (upd (upd (upd (upd (μ 54) 9 (nI e)) 2 0) 10 0) 14 0) 15 (-1)) 7 0) 8 0) 10 (nI a)) 11 (nI q)) 12 S) 13 K) (mo_iu (μ 56) (μ 57)) told0 q 0 (μ 54 13) (by omega) b.2 rfl (by rw [hn]; rfl) rfl (by rw [hn]; rfl) (by rw [hn]; rfl) rfl rfl rfl (fun k hk => by rw [ho k hk]; exact b_0 k) (fun k hk => by rw [mo_iu_at hk, ho k hk, if_pos rfl]; exact hus k hk) (fun j hj => mo_iu_lo hj) (fun j hj => by repeat rw [pk_un (by omega)]) ht rfl
  refine ⟨G2, C2, hf2, ?_⟩
  have key : ∀ (Post : vx_P) (ini : Bool), Post (some (.inl (mo_ans (sp_rd (μ 55) e (e + 1) told0 q 0)))) ad 82 vx_lay (va_up (va_up μ 54 G2) 56 C2) → vx_J RX9 cX9_customs 3 (some (.int)) ini d 0 0 Post ad 0 0 82 vx_lay μ 0 [(0, vx_r 54), (1, .inl (nI e))] [] := by
    intro Post ini hP
    refine vx_aload_n dX9_customs_0 rfl ?_
    refine vx_iconst (v := 0) dX9_customs_1 (by decide) ?_
    refine vx_putI (ci := 9) (T := TX9) (n := 56) (j := 0) (a := 54) (ty := .int) (μ2 := (va_up μ 54 (upd (μ 54) 0 0))) dX9_customs_2 rfl lay_X9 tyX9_ok nmX9 (by decide) wd_736 rfl rfl rfl rfl (by decide) ly_54 rfl rfl ?_
    refine vx_eq (μ2 := μ) (by rw [sp_ups ht, vx_up_id]) rfl rfl ?_
    refine vx_iload_n dX9_customs_5 rfl ?_
    refine vx_if_lt (tgt := 17) dX9_customs_6 (by decide) (fun h => absurd h (by show ¬ (nI (e) < nI (0)); rw [nI_ltI (by omega) (by omega)]; omega)) (fun _ => ?_)
    refine vx_iload_n dX9_customs_9 rfl ?_
    refine vx_aload_n dX9_customs_10 rfl ?_
    refine vx_getI (ci := 9) (T := TX9) (n := 56) (j := 2) (a := 54) (v := (nI len)) dX9_customs_11 rfl lay_X9 (by decide) wd_738 (by decide) ly_54 rfl hl ?_
    refine vx_icmp_le (tgt := 20) dX9_customs_14 (by decide) (fun _ => ?_) (fun h => absurd (by show (nI (e) ≤ nI (len)); rw [nI_leI (by omega) (by omega)]; omega) h)
    refine vx_aload_n dX9_customs_20 rfl ?_
    refine vx_iload_n dX9_customs_21 rfl ?_
    refine vx_putI (ci := 9) (T := TX9) (n := 56) (j := 9) (a := 54) (ty := .int) (μ2 := (va_up μ 54 (upd (μ 54) 9 (nI e)))) dX9_customs_22 rfl lay_X9 tyX9_ok nmX9 (by decide) wd_745 rfl rfl rfl rfl (by decide) ly_54 rfl rfl ?_
    refine vx_aload_n dX9_customs_25 rfl ?_
    refine vx_iconst (v := 0) dX9_customs_26 (by decide) ?_
    refine vx_putI (ci := 9) (T := TX9) (n := 56) (j := 2) (a := 54) (ty := .int) (μ2 := (va_up μ 54 (upd (upd (μ 54) 9 (nI e)) 2 0))) dX9_customs_27 rfl lay_X9 tyX9_ok nmX9 (by decide) wd_738 rfl rfl rfl rfl (by decide) ly_54 rfl vx_m1 ?_
    refine vx_aload_n dX9_customs_30 rfl ?_
    refine vx_iconst (v := 0) dX9_customs_31 (by decide) ?_
    refine vx_putI (ci := 9) (T := TX9) (n := 56) (j := 10) (a := 54) (ty := .int) (μ2 := (va_up μ 54 (upd (upd (upd (μ 54) 9 (nI e)) 2 0) 10 0))) dX9_customs_32 rfl lay_X9 tyX9_ok nmX9 (by decide) wd_746 rfl rfl rfl rfl (by decide) ly_54 rfl vx_m1 ?_
    refine vx_aload_n dX9_customs_35 rfl ?_
    refine vx_iconst (v := 0) dX9_customs_36 (by decide) ?_
    refine vx_putI (ci := 9) (T := TX9) (n := 56) (j := 14) (a := 54) (ty := .int) (μ2 := (va_up μ 54 (upd (upd (upd (upd (μ 54) 9 (nI e)) 2 0) 10 0) 14 0))) dX9_customs_37 rfl lay_X9 tyX9_ok nmX9 (by decide) wd_750 rfl rfl rfl rfl (by decide) ly_54 rfl vx_m1 ?_
    refine vx_aload_n dX9_customs_40 rfl ?_
    refine vx_iconst (v := (-1)) dX9_customs_41 (by decide) ?_
    refine vx_putI (ci := 9) (T := TX9) (n := 56) (j := 15) (a := 54) (ty := .int) (μ2 := (va_up μ 54 (upd (upd (upd (upd (upd (μ 54) 9 (nI e)) 2 0) 10 0) 14 0) 15 (-1)))) dX9_customs_42 rfl lay_X9 tyX9_ok nmX9 (by decide) wd_751 rfl rfl rfl rfl (by decide) ly_54 rfl vx_m1 ?_
    refine vx_aload_n dX9_customs_45 rfl ?_
    refine vx_iconst (v := 0) dX9_customs_46 (by decide) ?_
    refine vx_putI (ci := 9) (T := TX9) (n := 56) (j := 7) (a := 54) (ty := .int) (μ2 := (va_up μ 54 (upd (upd (upd (upd (upd (upd (μ 54) 9 (nI e)) 2 0) 10 0) 14 0) 15 (-1)) 7 0))) dX9_customs_47 rfl lay_X9 tyX9_ok nmX9 (by decide) wd_743 rfl rfl rfl rfl (by decide) ly_54 rfl vx_m1 ?_
    refine vx_aload_n dX9_customs_50 rfl ?_
    refine vx_iconst (v := 0) dX9_customs_51 (by decide) ?_
    refine vx_putI (ci := 9) (T := TX9) (n := 56) (j := 8) (a := 54) (ty := .int) (μ2 := (va_up μ 54 (upd (upd (upd (upd (upd (upd (upd (μ 54) 9 (nI e)) 2 0) 10 0) 14 0) 15 (-1)) 7 0) 8 0))) dX9_customs_52 rfl lay_X9 tyX9_ok nmX9 (by decide) wd_744 rfl rfl rfl rfl (by decide) ly_54 rfl vx_m1 ?_
    refine vx_iconst (v := 0) dX9_customs_55 (by decide) ?_
    refine vx_istore_n (ls2 := [(2, .inl 0), (0, vx_r 54), (1, .inl (nI e))]) dX9_customs_56 (by decide) rfl ?_
    refine vx_iload_n dX9_customs_57 rfl ?_
    refine vx_bipush (v := 6) dX9_customs_58 (by decide) ?_
    refine vx_icmp_ge (tgt := 84) dX9_customs_60 (by decide) (fun h => absurd h (by decide)) (fun _ => ?_)
    refine vx_aload_n dX9_customs_63 rfl ?_
    refine vx_getR (ci := 9) (T := TX9) (n := 56) (j := 3) (a := 54) (r := 56) dX9_customs_64 rfl lay_X9 (by decide) wd_739 (by decide) ly_54 rfl ?_
    refine vx_bipush (v := 6) dX9_customs_67 (by decide) ?_
    refine vx_iload_n dX9_customs_69 rfl ?_
    refine vx_iadd dX9_customs_70 ?_
    refine vx_eq (st2 := [.inl 6, vx_r 56]) rfl rfl (by rfl) ?_
    refine vx_aload_n dX9_customs_71 rfl ?_
    refine vx_getR (ci := 9) (T := TX9) (n := 56) (j := 4) (a := 54) (r := 57) dX9_customs_72 rfl lay_X9 (by decide) wd_740 (by decide) ly_54 rfl ?_
    refine vx_iload_n dX9_customs_75 rfl ?_
    refine vx_iald (a := 57) (n := 6) (v := (μ 57 0)) dX9_customs_76 (by decide) ly_57 (by unfold vp_in; decide) rfl ?_
    refine vx_iast (a := 56) (n := 12) (μ2 := (va_up (va_up μ 54 (upd (upd (upd (upd (upd (upd (upd (μ 54) 9 (nI e)) 2 0) 10 0) 14 0) 15 (-1)) 7 0) 8 0)) 56 (upd (μ 56) 6 (μ 57 0)))) dX9_customs_77 (by decide) ly_56 (by unfold vp_in; decide) rfl ?_
    refine vx_iinc (v := 1) (ls2 := [(2, .inl 1), (0, vx_r 54), (1, .inl (nI e))]) dX9_customs_78 rfl (by decide) (by decide) rfl ?_
    refine vx_goto (tgt := 57) dX9_customs_81 (by decide) ?_
    refine vx_iload_n dX9_customs_57 rfl ?_
    refine vx_bipush (v := 6) dX9_customs_58 (by decide) ?_
    refine vx_icmp_ge (tgt := 84) dX9_customs_60 (by decide) (fun h => absurd h (by decide)) (fun _ => ?_)
    refine vx_aload_n dX9_customs_63 rfl ?_
    refine vx_getR (ci := 9) (T := TX9) (n := 56) (j := 3) (a := 54) (r := 56) dX9_customs_64 rfl lay_X9 (by decide) wd_739 (by decide) ly_54 rfl ?_
    refine vx_bipush (v := 6) dX9_customs_67 (by decide) ?_
    refine vx_iload_n dX9_customs_69 rfl ?_
    refine vx_iadd dX9_customs_70 ?_
    refine vx_eq (st2 := [.inl 7, vx_r 56]) rfl rfl (by rfl) ?_
    refine vx_aload_n dX9_customs_71 rfl ?_
    refine vx_getR (ci := 9) (T := TX9) (n := 56) (j := 4) (a := 54) (r := 57) dX9_customs_72 rfl lay_X9 (by decide) wd_740 (by decide) ly_54 rfl ?_
    refine vx_iload_n dX9_customs_75 rfl ?_
    refine vx_iald (a := 57) (n := 6) (v := (μ 57 1)) dX9_customs_76 (by decide) ly_57 (by unfold vp_in; decide) rfl ?_
    refine vx_iast (a := 56) (n := 12) (μ2 := (va_up (va_up μ 54 (upd (upd (upd (upd (upd (upd (upd (μ 54) 9 (nI e)) 2 0) 10 0) 14 0) 15 (-1)) 7 0) 8 0)) 56 (upd (upd (μ 56) 6 (μ 57 0)) 7 (μ 57 1)))) dX9_customs_77 (by decide) ly_56 (by unfold vp_in; decide) vx_m1 ?_
    refine vx_iinc (v := 2) (ls2 := [(2, .inl 2), (0, vx_r 54), (1, .inl (nI e))]) dX9_customs_78 rfl (by decide) (by decide) rfl ?_
    refine vx_goto (tgt := 57) dX9_customs_81 (by decide) ?_
    refine vx_iload_n dX9_customs_57 rfl ?_
    refine vx_bipush (v := 6) dX9_customs_58 (by decide) ?_
    refine vx_icmp_ge (tgt := 84) dX9_customs_60 (by decide) (fun h => absurd h (by decide)) (fun _ => ?_)
    refine vx_aload_n dX9_customs_63 rfl ?_
    refine vx_getR (ci := 9) (T := TX9) (n := 56) (j := 3) (a := 54) (r := 56) dX9_customs_64 rfl lay_X9 (by decide) wd_739 (by decide) ly_54 rfl ?_
    refine vx_bipush (v := 6) dX9_customs_67 (by decide) ?_
    refine vx_iload_n dX9_customs_69 rfl ?_
    refine vx_iadd dX9_customs_70 ?_
    refine vx_eq (st2 := [.inl 8, vx_r 56]) rfl rfl (by rfl) ?_
    refine vx_aload_n dX9_customs_71 rfl ?_
    refine vx_getR (ci := 9) (T := TX9) (n := 56) (j := 4) (a := 54) (r := 57) dX9_customs_72 rfl lay_X9 (by decide) wd_740 (by decide) ly_54 rfl ?_
    refine vx_iload_n dX9_customs_75 rfl ?_
    refine vx_iald (a := 57) (n := 6) (v := (μ 57 2)) dX9_customs_76 (by decide) ly_57 (by unfold vp_in; decide) rfl ?_
    refine vx_iast (a := 56) (n := 12) (μ2 := (va_up (va_up μ 54 (upd (upd (upd (upd (upd (upd (upd (μ 54) 9 (nI e)) 2 0) 10 0) 14 0) 15 (-1)) 7 0) 8 0)) 56 (upd (upd (upd (μ 56) 6 (μ 57 0)) 7 (μ 57 1)) 8 (μ 57 2)))) dX9_customs_77 (by decide) ly_56 (by unfold vp_in; decide) vx_m1 ?_
    refine vx_iinc (v := 3) (ls2 := [(2, .inl 3), (0, vx_r 54), (1, .inl (nI e))]) dX9_customs_78 rfl (by decide) (by decide) rfl ?_
    refine vx_goto (tgt := 57) dX9_customs_81 (by decide) ?_
    refine vx_iload_n dX9_customs_57 rfl ?_
    refine vx_bipush (v := 6) dX9_customs_58 (by decide) ?_
    refine vx_icmp_ge (tgt := 84) dX9_customs_60 (by decide) (fun h => absurd h (by decide)) (fun _ => ?_)
    refine vx_aload_n dX9_customs_63 rfl ?_
    refine vx_getR (ci := 9) (T := TX9) (n := 56) (j := 3) (a := 54) (r := 56) dX9_customs_64 rfl lay_X9 (by decide) wd_739 (by decide) ly_54 rfl ?_
    refine vx_bipush (v := 6) dX9_customs_67 (by decide) ?_
    refine vx_iload_n dX9_customs_69 rfl ?_
    refine vx_iadd dX9_customs_70 ?_
    refine vx_eq (st2 := [.inl 9, vx_r 56]) rfl rfl (by rfl) ?_
    refine vx_aload_n dX9_customs_71 rfl ?_
    refine vx_getR (ci := 9) (T := TX9) (n := 56) (j := 4) (a := 54) (r := 57) dX9_customs_72 rfl lay_X9 (by decide) wd_740 (by decide) ly_54 rfl ?_
    refine vx_iload_n dX9_customs_75 rfl ?_
    refine vx_iald (a := 57) (n := 6) (v := (μ 57 3)) dX9_customs_76 (by decide) ly_57 (by unfold vp_in; decide) rfl ?_
    refine vx_iast (a := 56) (n := 12) (μ2 := (va_up (va_up μ 54 (upd (upd (upd (upd (upd (upd (upd (μ 54) 9 (nI e)) 2 0) 10 0) 14 0) 15 (-1)) 7 0) 8 0)) 56 (upd (upd (upd (upd (μ 56) 6 (μ 57 0)) 7 (μ 57 1)) 8 (μ 57 2)) 9 (μ 57 3)))) dX9_customs_77 (by decide) ly_56 (by unfold vp_in; decide) vx_m1 ?_
    refine vx_iinc (v := 4) (ls2 := [(2, .inl 4), (0, vx_r 54), (1, .inl (nI e))]) dX9_customs_78 rfl (by decide) (by decide) rfl ?_
    refine vx_goto (tgt := 57) dX9_customs_81 (by decide) ?_
    refine vx_iload_n dX9_customs_57 rfl ?_
    refine vx_bipush (v := 6) dX9_customs_58 (by decide) ?_
    refine vx_icmp_ge (tgt := 84) dX9_customs_60 (by decide) (fun h => absurd h (by decide)) (fun _ => ?_)
    refine vx_aload_n dX9_customs_63 rfl ?_
    refine vx_getR (ci := 9) (T := TX9) (n := 56) (j := 3) (a := 54) (r := 56) dX9_customs_64 rfl lay_X9 (by decide) wd_739 (by decide) ly_54 rfl ?_
    refine vx_bipush (v := 6) dX9_customs_67 (by decide) ?_
    refine vx_iload_n dX9_customs_69 rfl ?_
    refine vx_iadd dX9_customs_70 ?_
    refine vx_eq (st2 := [.inl 10, vx_r 56]) rfl rfl (by rfl) ?_
    refine vx_aload_n dX9_customs_71 rfl ?_
    refine vx_getR (ci := 9) (T := TX9) (n := 56) (j := 4) (a := 54) (r := 57) dX9_customs_72 rfl lay_X9 (by decide) wd_740 (by decide) ly_54 rfl ?_
    refine vx_iload_n dX9_customs_75 rfl ?_
    refine vx_iald (a := 57) (n := 6) (v := (μ 57 4)) dX9_customs_76 (by decide) ly_57 (by unfold vp_in; decide) rfl ?_
    refine vx_iast (a := 56) (n := 12) (μ2 := (va_up (va_up μ 54 (upd (upd (upd (upd (upd (upd (upd (μ 54) 9 (nI e)) 2 0) 10 0) 14 0) 15 (-1)) 7 0) 8 0)) 56 (upd (upd (upd (upd (upd (μ 56) 6 (μ 57 0)) 7 (μ 57 1)) 8 (μ 57 2)) 9 (μ 57 3)) 10 (μ 57 4)))) dX9_customs_77 (by decide) ly_56 (by unfold vp_in; decide) vx_m1 ?_
    refine vx_iinc (v := 5) (ls2 := [(2, .inl 5), (0, vx_r 54), (1, .inl (nI e))]) dX9_customs_78 rfl (by decide) (by decide) rfl ?_
    refine vx_goto (tgt := 57) dX9_customs_81 (by decide) ?_
    refine vx_iload_n dX9_customs_57 rfl ?_
    refine vx_bipush (v := 6) dX9_customs_58 (by decide) ?_
    refine vx_icmp_ge (tgt := 84) dX9_customs_60 (by decide) (fun h => absurd h (by decide)) (fun _ => ?_)
    refine vx_aload_n dX9_customs_63 rfl ?_
    refine vx_getR (ci := 9) (T := TX9) (n := 56) (j := 3) (a := 54) (r := 56) dX9_customs_64 rfl lay_X9 (by decide) wd_739 (by decide) ly_54 rfl ?_
    refine vx_bipush (v := 6) dX9_customs_67 (by decide) ?_
    refine vx_iload_n dX9_customs_69 rfl ?_
    refine vx_iadd dX9_customs_70 ?_
    refine vx_eq (st2 := [.inl 11, vx_r 56]) rfl rfl (by rfl) ?_
    refine vx_aload_n dX9_customs_71 rfl ?_
    refine vx_getR (ci := 9) (T := TX9) (n := 56) (j := 4) (a := 54) (r := 57) dX9_customs_72 rfl lay_X9 (by decide) wd_740 (by decide) ly_54 rfl ?_
    refine vx_iload_n dX9_customs_75 rfl ?_
    refine vx_iald (a := 57) (n := 6) (v := (μ 57 5)) dX9_customs_76 (by decide) ly_57 (by unfold vp_in; decide) rfl ?_
    refine vx_iast (a := 56) (n := 12) (μ2 := (va_up (va_up μ 54 (upd (upd (upd (upd (upd (upd (upd (μ 54) 9 (nI e)) 2 0) 10 0) 14 0) 15 (-1)) 7 0) 8 0)) 56 (upd (upd (upd (upd (upd (upd (μ 56) 6 (μ 57 0)) 7 (μ 57 1)) 8 (μ 57 2)) 9 (μ 57 3)) 10 (μ 57 4)) 11 (μ 57 5)))) dX9_customs_77 (by decide) ly_56 (by unfold vp_in; decide) vx_m1 ?_
    refine vx_iinc (v := 6) (ls2 := [(2, .inl 6), (0, vx_r 54), (1, .inl (nI e))]) dX9_customs_78 rfl (by decide) (by decide) rfl ?_
    refine vx_goto (tgt := 57) dX9_customs_81 (by decide) ?_
    refine vx_iload_n dX9_customs_57 rfl ?_
    refine vx_bipush (v := 6) dX9_customs_58 (by decide) ?_
    refine vx_icmp_ge (tgt := 84) dX9_customs_60 (by decide) (fun _ => ?_) (fun h => absurd h (by decide))
    refine vx_aload_n dX9_customs_84 rfl ?_
    refine vx_callV (b := 54) (vs := []) (st := []) (r0 := none) (μ0 := (va_up (va_up μ 54 (upd (upd (upd (upd (upd (upd (upd (upd (upd (upd (upd (μ 54) 9 (nI e)) 2 0) 10 0) 14 0) 15 (-1)) 7 0) 8 0) 10 (nI a)) 11 (nI q)) 12 S) 13 K)) 56 (upd (upd (upd (upd (upd (upd (μ 56) 6 (μ 57 0)) 7 (μ 57 1)) 8 (μ 57 2)) 9 (μ 57 3)) 10 (μ 57 4)) 11 (μ 57 5)))) dX9_customs_85 ((mo_next (d - 1) (by omega) ad (va_up (va_up μ 54 (upd (upd (upd (upd (upd (upd (upd (μ 54) 9 (nI e)) 2 0) 10 0) 14 0) 15 (-1)) 7 0) 8 0)) 56 (upd (upd (upd (upd (upd (upd (μ 56) 6 (μ 57 0)) 7 (μ 57 1)) 8 (μ 57 2)) 9 (μ 57 3)) 10 (μ 57 4)) 11 (μ 57 5))) 0 e rfl rfl (by omega) (by omega) (fun j hj => hby j (by omega)) hq hn).to rfl ((vx_m2 (by decide)).trans (congrArg (fun m => va_up m 56 (upd (upd (upd (upd (upd (upd (μ 56) 6 (μ 57 0)) 7 (μ 57 1)) 8 (μ 57 2)) 9 (μ 57 3)) 10 (μ 57 4)) 11 (μ 57 5))) vx_m1))) wd_913 wd_916 wd_54 hy_X9_next wd_915 wd_24 (by decide) ly_54 rfl rfl (by omega) (Nat.le_of_ble_eq_true rfl) (Nat.le_of_ble_eq_true rfl) (Nat.le_refl 0) (Nat.le_refl 0) ?_
    refine vx_eq (μ2 := (va_up (va_up μ 54 (upd (upd (upd (upd (upd (upd (upd (upd (upd (upd (upd (μ 54) 9 (nI e)) 2 0) 10 0) 14 0) 15 (-1)) 7 0) 8 0) 10 (nI a)) 11 (nI q)) 12 S) 13 K)) 56 (upd (upd (upd (upd (upd (upd (μ 56) 6 (μ 57 0)) 7 (μ 57 1)) 8 (μ 57 2)) 9 (μ 57 3)) 10 (μ 57 4)) 11 (μ 57 5)))) (ls2 := [(2, .inl 6), (0, vx_r 54), (1, .inl (nI e))]) (st2 := []) rfl rfl rfl ?_
    refine vx_keep (ls2 := [(1, .inl (nI e)), (0, vx_r 54)]) ⟨rfl, rfl, trivial⟩ ?_
    exact hJ Post ini hP
  exact vx_J.M pn_X9_customs (Nat.le_of_ble_eq_true rfl) (key _ _ ⟨rfl, rfl, rfl, rfl, rfl⟩)
end
