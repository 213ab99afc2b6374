section
def sp_pc (μ : vx_mem) (n pl fi : Nat) : Nat := sp_frn (sp_frc (sp_P μ n) pl 0) fi (sp_frn (sp_P μ n) pl 0)
def sp_FD (μ : vx_mem) (n pl fi : Nat) : vx_mem := sp_fnd (sp_prp μ n pl fi) (sp_opn (μ 8) n) pl (sp_pc μ n pl fi) (μ 53 0)
theorem sp_frn_le {m : vx_mem} {k c : Nat} : sp_frn m k c ≤ c + 1 := by
  unfold sp_frn
  split <;> omega
theorem sp_prp_o {μ : vx_mem} {n pl fi p : Nat} (h : p < 38 ∨ 44 < p) : sp_prp μ n pl fi p = μ p := by
  unfold sp_prp
  rw [sp_frc_o (by omega) (by omega), sp_frc_o (by omega) (by omega)]
  unfold sp_P va_up
  repeat rw [if_neg (by omega)]
theorem sp_frc_39 {m : vx_mem} {k c j : Nat} (h : j ≠ 6) : sp_frc m k c 39 j = m 39 j := by
  unfold sp_frc
  split
  · show upd (m 39) 6 _ j = _
    unfold upd
    rw [if_neg h]
  · rfl
theorem sp_prp_39 {μ : vx_mem} {n pl fi j : Nat} (h : j ≠ 6) : sp_prp μ n pl fi 39 j = sp_39 μ n j := by
  unfold sp_prp
  rw [sp_frc_39 h, sp_frc_39 h]
  rfl
theorem sp_prp_6 {μ : vx_mem} {n pl fi : Nat} : sp_prp μ n pl fi 39 6 = nI (sp_pc μ n pl fi) := sp_frc_6 (sp_frc_6 rfl)
theorem sp_fr_fnd {m : vx_mem} {g pl c : Nat} {td : Int32} : sp_fr m (sp_fnd m g pl c td) := by
  unfold sp_fnd
  split
  · exact sp_fr.rf
  · exact sp_fr_ext _ _ _ _ _ _ _
def sp_plM (μ FD : vx_mem) (g pl : Nat) : vx_mem := va_up (sp_mkM FD g pl (μ 53 0) g) 53 (upd (μ 53) 4 0)
set_option maxRecDepth 20000 in
set_option maxHeartbeats 2000000 in
theorem c_X8_plan (d : Nat) (hd : 13 ≤ d) (ad : Nat → Nat) (μ : vx_mem) (n : Nat) (hk : sp_ck μ n) (pl fi : Nat) (hp : μ 53 1 = nI pl) (hp8 : pl < 8) (hf : μ 4 4 = nI fi) (hf8 : fi < 8) (hb : ¬ sp_FD μ n pl fi 39 11 = 2147483647 → ∀ k, k < sp_opn (μ 8) n → sp_FD μ n pl fi 46 k = nI (sp_bs (sp_FD μ n pl fi) k) ∧ sp_bs (sp_FD μ n pl fi) k < 8) : vx_Mf yX8_plan cX8_plan 1 (some (.int)) d ad 82 vx_lay μ [vx_r 0] (some (.inl (if ¬ μ 53 2 ≤ 0 then -1 else if sp_FD μ n pl fi 39 11 = 2147483647 then -1 else sp_FD μ n pl fi 39 10))) (if ¬ μ 53 2 ≤ 0 then μ else if sp_FD μ n pl fi 39 11 = 2147483647 then sp_FD μ n pl fi else sp_plM μ (sp_FD μ n pl fi) (sp_opn (μ 8) n) pl) := by
  have key : ∀ (Post : vx_P) (ini : Bool), Post (some (.inl (if ¬ μ 53 2 ≤ 0 then -1 else if sp_FD μ n pl fi 39 11 = 2147483647 then -1 else sp_FD μ n pl fi 39 10))) ad 82 vx_lay (if ¬ μ 53 2 ≤ 0 then μ else if sp_FD μ n pl fi 39 11 = 2147483647 then sp_FD μ n pl fi else sp_plM μ (sp_FD μ n pl fi) (sp_opn (μ 8) n) pl) → vx_J RX8 cX8_plan 1 (some (.int)) ini d 0 0 Post ad 0 0 82 vx_lay μ 0 [(0, vx_r 0)] [] := by
    intro Post ini hP
    have hn := hk.2.1
    have hg7 : sp_opn (μ 8) n ≤ 7 := Nat.le_trans (sp_opn_le _ _) hn
    have hc7 : sp_pc μ n pl fi < 7 := by
      have a := sp_frn_le (m := sp_P μ n) (k := pl) (c := 0)
      have b := sp_frn_le (m := sp_frc (sp_P μ n) pl 0) (k := fi) (c := sp_frn (sp_P μ n) pl 0)
      unfold sp_pc
      omega
    obtain ⟨g, hgd⟩ : ∃ g, g = sp_opn (μ 8) n := ⟨_, rfl⟩
    obtain ⟨c, hcd⟩ : ∃ c, c = sp_pc μ n pl fi := ⟨_, rfl⟩
    obtain ⟨PR, hPR⟩ : ∃ m, m = sp_prp μ n pl fi := ⟨_, rfl⟩
    obtain ⟨FD, hFD⟩ : ∃ m, m = sp_FD μ n pl fi := ⟨_, rfl⟩
    have hFD2 : FD = sp_fnd PR g pl c (μ 53 0) := by rw [hFD, hPR, hgd, hcd]; rfl
    rw [← hgd] at hg7 hb
    rw [← hcd] at hc7
    rw [← hFD] at hb
    rw [← hFD, ← hgd] at hP
    have h53 : PR 53 = μ 53 := by rw [hPR]; exact sp_prp_o (by omega)
    have hPg : PR 39 9 = nI g := by rw [hPR, sp_prp_39 (by decide), hgd]; rfl
    have hPc : PR 39 6 = nI c := by rw [hPR, hcd]; exact sp_prp_6
    have hfr : sp_fr PR FD := by rw [hFD2]; exact sp_fr_fnd
    have hF53 : FD 53 = μ 53 := (hfr.1 53 (by decide) (by decide) (by decide) (by decide)).trans h53
    have hFg : FD 39 9 = nI g := (hfr.2 9 (by decide) (by decide)).trans hPg
    refine vx_aload_n dX8_plan_0 rfl ?_
    refine vx_getR (ci := 8) (T := TX8) (n := 8) (j := 7) (a := 0) (r := 53) dX8_plan_1 rfl lay_X8 (by decide) wd_350 (by decide) ly_0 rfl ?_
    refine vx_getI (ci := 2) (T := TX2) (n := 6) (j := 2) (a := 53) (v := (μ 53 2)) dX8_plan_4 rfl lay_X2 (by decide) wd_323 (by decide) ly_53 rfl rfl ?_
    refine vx_if_le (tgt := 12) dX8_plan_7 (by decide) (fun c_7 => ?_) (fun c_7 => ?_)
    · refine vx_aload_n dX8_plan_12 rfl ?_
      refine vx_callV (b := 0) (vs := []) (st := []) (r0 := none) (μ0 := PR) dX8_plan_13 ((c_X8_prepareSearch (d - 1) (by omega) ad μ n hk pl fi hp hp8 hf hf8).to rfl hPR.symm) wd_535 wd_538 wd_45 hy_X8_prepareSearch wd_537 wd_6 (by decide) ly_0 rfl rfl (by omega) (Nat.le_of_ble_eq_true rfl) (Nat.le_of_ble_eq_true rfl) (Nat.le_refl 0) (Nat.le_refl 0) ?_
      refine vx_eq (μ2 := PR) (ls2 := [(0, vx_r 0)]) (st2 := []) rfl rfl rfl ?_
      refine vx_aload_n dX8_plan_16 rfl ?_
      refine vx_getR (ci := 8) (T := TX8) (n := 8) (j := 5) (a := 0) (r := 39) dX8_plan_17 rfl lay_X8 (by decide) wd_348 (by decide) ly_0 rfl ?_
      refine vx_aload_n dX8_plan_20 rfl ?_
      refine vx_getR (ci := 8) (T := TX8) (n := 8) (j := 3) (a := 0) (r := 18) dX8_plan_21 rfl lay_X8 (by decide) wd_346 (by decide) ly_0 rfl ?_
      refine vx_aload_n dX8_plan_24 rfl ?_
      refine vx_getR (ci := 8) (T := TX8) (n := 8) (j := 7) (a := 0) (r := 53) dX8_plan_25 rfl lay_X8 (by decide) wd_350 (by decide) ly_0 rfl ?_
      refine vx_getI (ci := 2) (T := TX2) (n := 6) (j := 1) (a := 53) (v := (nI pl)) dX8_plan_28 rfl lay_X2 (by decide) wd_321 (by decide) ly_53 rfl ((congrFun h53 1).trans hp) ?_
      refine vx_aload_n dX8_plan_31 rfl ?_
      refine vx_getR (ci := 8) (T := TX8) (n := 8) (j := 7) (a := 0) (r := 53) dX8_plan_32 rfl lay_X8 (by decide) wd_350 (by decide) ly_0 rfl ?_
      refine vx_getI (ci := 2) (T := TX2) (n := 6) (j := 0) (a := 53) (v := (μ 53 0)) dX8_plan_35 rfl lay_X2 (by decide) wd_319 (by decide) ly_53 rfl (congrFun h53 0) ?_
      refine vx_callV (b := 39) (vs := [vx_r 18, .inl (nI pl), .inl (μ 53 0)]) (st := []) (r0 := (some (.inl (if FD 39 11 = 2147483647 then 0 else 1)))) (μ0 := FD) dX8_plan_38 ((c_X6_find (d - 1) (by omega) ad PR pl c g hg7 hPg hPc hc7 hp8 (μ 53 0)).to (by rw [← hFD2]) hFD2.symm) wd_592 wd_595 wd_51 hy_X6_find wd_593 wd_594 (by decide) ly_39 rfl rfl (by omega) (Nat.le_of_ble_eq_true rfl) (Nat.le_of_ble_eq_true rfl) (Nat.le_refl 0) (Nat.le_refl 0) ?_
      refine vx_eq (μ2 := FD) (ls2 := [(0, vx_r 0)]) (st2 := [.inl (if FD 39 11 = 2147483647 then 0 else 1)]) rfl rfl rfl ?_
      refine vx_if_ne (tgt := 46) dX8_plan_41 (by decide) (fun c_41 => ?_) (fun c_41 => ?_)
      · have e41 : ¬ FD 39 11 = 2147483647 := fun q => c_41 (if_pos q)
        have hb2 := hb e41
        refine vx_aload_n dX8_plan_46 rfl ?_
        refine vx_getR (ci := 8) (T := TX8) (n := 8) (j := 6) (a := 0) (r := 47) dX8_plan_47 rfl lay_X8 (by decide) wd_349 (by decide) ly_0 rfl ?_
        refine vx_aload_n dX8_plan_50 rfl ?_
        refine vx_getR (ci := 8) (T := TX8) (n := 8) (j := 5) (a := 0) (r := 39) dX8_plan_51 rfl lay_X8 (by decide) wd_348 (by decide) ly_0 rfl ?_
        refine vx_aload_n dX8_plan_54 rfl ?_
        refine vx_getR (ci := 8) (T := TX8) (n := 8) (j := 3) (a := 0) (r := 18) dX8_plan_55 rfl lay_X8 (by decide) wd_346 (by decide) ly_0 rfl ?_
        refine vx_aload_n dX8_plan_58 rfl ?_
        refine vx_getR (ci := 8) (T := TX8) (n := 8) (j := 7) (a := 0) (r := 53) dX8_plan_59 rfl lay_X8 (by decide) wd_350 (by decide) ly_0 rfl ?_
        refine vx_getI (ci := 2) (T := TX2) (n := 6) (j := 1) (a := 53) (v := (nI pl)) dX8_plan_62 rfl lay_X2 (by decide) wd_321 (by decide) ly_53 rfl ((congrFun hF53 1).trans hp) ?_
        refine vx_aload_n dX8_plan_65 rfl ?_
        refine vx_getR (ci := 8) (T := TX8) (n := 8) (j := 7) (a := 0) (r := 53) dX8_plan_66 rfl lay_X8 (by decide) wd_350 (by decide) ly_0 rfl ?_
        refine vx_getI (ci := 2) (T := TX2) (n := 6) (j := 0) (a := 53) (v := (μ 53 0)) dX8_plan_69 rfl lay_X2 (by decide) wd_319 (by decide) ly_53 rfl (congrFun hF53 0) ?_
        refine vx_callV (b := 47) (vs := [vx_r 39, vx_r 18, .inl (nI pl), .inl (μ 53 0)]) (st := []) (r0 := none) (μ0 := (sp_mkM FD g pl (μ 53 0) g)) dX8_plan_72 (c_X4_make (d - 1) (by omega) ad FD g pl hg7 hFg hp8 hb2 (μ 53 0)) wd_629 wd_632 wd_52 hy_X4_make wd_630 wd_631 (by decide) ly_47 rfl rfl (by omega) (Nat.le_of_ble_eq_true rfl) (Nat.le_of_ble_eq_true rfl) (Nat.le_refl 0) (Nat.le_refl 0) ?_
        refine vx_eq (μ2 := (sp_mkM FD g pl (μ 53 0) g)) (ls2 := [(0, vx_r 0)]) (st2 := []) rfl rfl rfl ?_
        refine vx_aload_n dX8_plan_75 rfl ?_
        refine vx_getR (ci := 8) (T := TX8) (n := 8) (j := 7) (a := 0) (r := 53) dX8_plan_76 rfl lay_X8 (by decide) wd_350 (by decide) ly_0 rfl ?_
        refine vx_iconst (v := 0) dX8_plan_79 (by decide) ?_
        refine vx_putI (ci := 2) (T := TX2) (n := 6) (j := 4) (a := 53) (ty := .boolean) (μ2 := (va_up (sp_mkM FD g pl (μ 53 0) g) 53 (upd (FD 53) 4 0))) dX8_plan_80 rfl lay_X2 tyX2_ok nmX2 (by decide) wd_327 rfl rfl rfl rfl (by decide) ly_53 rfl rfl ?_
        refine vx_aload_n dX8_plan_83 rfl ?_
        refine vx_getR (ci := 8) (T := TX8) (n := 8) (j := 5) (a := 0) (r := 39) dX8_plan_84 rfl lay_X8 (by decide) wd_348 (by decide) ly_0 rfl ?_
        refine vx_getI (ci := 6) (T := TX6) (n := 12) (j := 10) (a := 39) (v := (FD 39 10)) dX8_plan_87 rfl lay_X6 (by decide) wd_245 (by decide) ly_39 rfl rfl ?_
        exact vx_ret (ty := .int) dX8_plan_90 rfl rfl (Nat.le_refl 0) (Nat.le_refl 0) (vx_pst hP (by rw [if_neg (fun h => h c_7), if_neg e41]) (by rw [if_neg (fun h => h c_7), if_neg e41]; unfold sp_plM; rw [← hF53]; try rfl))
      · have e41 : FD 39 11 = 2147483647 := by
          by_cases q : FD 39 11 = 2147483647
          · exact q
          · rw [if_neg q] at c_41; exact absurd c_41 (by decide)
        refine vx_iconst (v := (-1)) dX8_plan_44 (by decide) ?_
        exact vx_ret (ty := .int) dX8_plan_45 rfl rfl (Nat.le_refl 0) (Nat.le_refl 0) (vx_pst hP (by rw [if_neg (fun h => h c_7), if_pos e41]) (by rw [if_neg (fun h => h c_7), if_pos e41]))
    · refine vx_iconst (v := (-1)) dX8_plan_10 (by decide) ?_
      exact vx_ret (ty := .int) dX8_plan_11 rfl rfl (Nat.le_refl 0) (Nat.le_refl 0) (vx_pst hP (by rw [if_pos c_7]) (by rw [if_pos c_7]))
  exact vx_J.M pn_X8_plan (Nat.le_of_ble_eq_true rfl) (key _ _ ⟨rfl, rfl, rfl, rfl, rfl⟩)
end
