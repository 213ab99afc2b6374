section
def sp_sel (μ : vx_mem) (new old : Nat → Int32) (k : Nat) : Nat → Int32 := fun j => if 1 ≤ j ∧ j ≤ k ∧ ¬ μ 8 j ≤ 0 then new j else old j
theorem sp_sel0 (μ : vx_mem) (new old : Nat → Int32) : sp_sel μ new old 0 = old := by
  funext j
  unfold sp_sel
  rw [if_neg (by omega)]
theorem sp_sels (μ : vx_mem) (new old : Nat → Int32) {k : Nat} (h1 : 1 ≤ k) (h : ¬ μ 8 k ≤ 0) {x : Int32} (hx : x = new k) : upd (sp_sel μ new old (k - 1)) k x = sp_sel μ new old (k + 1 - 1) := by
  funext j
  unfold upd sp_sel
  by_cases e : j = k
  · subst e
    rw [if_pos rfl, if_pos ⟨h1, by omega, h⟩, hx]
  · rw [if_neg e]
    by_cases h2 : 1 ≤ j ∧ j ≤ k - 1 ∧ ¬ μ 8 j ≤ 0
    · rw [if_pos h2, if_pos ⟨h2.1, by omega, h2.2.2⟩]
    · rw [if_neg h2, if_neg (fun q => h2 ⟨q.1, by omega, q.2.2⟩)]
theorem sp_seln (μ : vx_mem) (new old : Nat → Int32) {k : Nat} (h1 : 1 ≤ k) (h : μ 8 k ≤ 0) : sp_sel μ new old (k - 1) = sp_sel μ new old (k + 1 - 1) := by
  funext j
  unfold sp_sel
  by_cases h2 : 1 ≤ j ∧ j ≤ k - 1 ∧ ¬ μ 8 j ≤ 0
  · rw [if_pos h2, if_pos ⟨h2.1, by omega, h2.2.2⟩]
  · rw [if_neg h2, if_neg (fun q => by
      by_cases e : j = k
      · exact q.2.2 (e ▸ h)
      · exact h2 ⟨q.1, by omega, q.2.2⟩)]
def sp_38 (μ : vx_mem) (n : Nat) : Nat → Nat → Int32
  | 0 => μ 38
  | k + 1 => if μ 8 (k + 1) ≤ 0 then sp_38 μ n k else sp_mix (sp_G μ n (k + 1)).1 (sp_38 μ n k)
theorem sp_38y {μ : vx_mem} {n k : Nat} (h1 : 1 ≤ k) (h : ¬ μ 8 k ≤ 0) : sp_38 μ n (k + 1 - 1) = sp_mix (sp_G μ n k).1 (sp_38 μ n (k - 1)) := by
  obtain ⟨j, rfl⟩ : ∃ j, k = j + 1 := ⟨k - 1, by omega⟩
  show (if _ then _ else _) = _
  rw [if_neg h]
  rfl
theorem sp_38n {μ : vx_mem} {n k : Nat} (h1 : 1 ≤ k) (h : μ 8 k ≤ 0) : sp_38 μ n (k + 1 - 1) = sp_38 μ n (k - 1) := by
  obtain ⟨j, rfl⟩ : ∃ j, k = j + 1 := ⟨k - 1, by omega⟩
  show (if _ then _ else _) = _
  rw [if_pos h]
  rfl
theorem sp_opny {f : Nat → Int32} {k : Nat} (h1 : 1 ≤ k) (h : ¬ f k ≤ 0) : sp_opn f (k + 1 - 1) = sp_opn f (k - 1) + 1 := by rw [sp_opn_s h1, if_neg h]
theorem sp_opnn {f : Nat → Int32} {k : Nat} (h1 : 1 ≤ k) (h : f k ≤ 0) : sp_opn f (k + 1 - 1) = sp_opn f (k - 1) := by rw [sp_opn_s h1, if_pos h]; rfl
def sp_39 (μ : vx_mem) (k : Nat) : Nat → Int32 := upd (sp_s0 (μ 39) (μ 4 3)) 9 (nI (sp_opn (μ 8) k))
def sp_nd (μ : vx_mem) (n j : Nat) : Int32 := sp_upw (μ 8 j) (sp_speed μ n j)
theorem sp_speed_cong {M μ : vx_mem} {n f : Nat} (h4 : M 4 = μ 4) (h : sp_G M n f = sp_G μ n f) : sp_speed M n f = sp_speed μ n f := by
  unfold sp_speed
  rw [h, h4]
/-- farm k forced behind c others, if it may -/
def sp_frc (m : vx_mem) (k c : Nat) : vx_mem := if sp_fc m k c then va_up (va_up m 39 (upd (m 39) 6 (nI (c + 1)))) 44 (upd (m 44) c (nI k)) else m
def sp_frn (m : vx_mem) (k c : Nat) : Nat := if sp_fc m k c then c + 1 else c
theorem sp_frc_6 {m : vx_mem} {k c : Nat} (h : m 39 6 = nI c) : sp_frc m k c 39 6 = nI (sp_frn m k c) := by
  unfold sp_frc sp_frn
  split
  · rfl
  · exact h
theorem sp_frc_o {m : vx_mem} {k c p : Nat} (h1 : p ≠ 39) (h2 : p ≠ 44) : sp_frc m k c p = m p := by
  unfold sp_frc
  split
  · unfold va_up
    rw [if_neg h2, if_neg h1]
  · rfl
def sp_P (μ : vx_mem) (n : Nat) : vx_mem := (va_up (va_up (va_up (va_up (va_up (va_up μ 38 (sp_38 μ n n)) 39 (sp_39 μ n)) 40 (sp_sel μ (sp_nd μ n) (μ 40) n)) 41 (sp_sel μ (μ 12) (μ 41) n)) 42 (sp_sel μ (μ 13) (μ 42) n)) 43 (sp_sel μ (fun _ => 1) (sp_w0 (μ 43)) n))
def sp_prp (μ : vx_mem) (n pl fi : Nat) : vx_mem := sp_frc (sp_frc (sp_P μ n) pl 0) fi (sp_frn (sp_P μ n) pl 0)
set_option maxRecDepth 20000 in
set_option maxHeartbeats 2000000 in
theorem c_X8_prepareSearch (d : Nat) (hd : 4 ≤ d) (ad : Nat → Nat) (μ : vx_mem) (n : Nat) (hk : sp_ck μ n) (pl fi : Nat) (hp : μ 53 1 = nI pl) (hp8 : pl < 8) (hf : μ 4 4 = nI fi) (hf8 : fi < 8) : vx_Mf yX8_prepareSearch cX8_prepareSearch 3 none d ad 82 vx_lay μ [vx_r 0] none (sp_prp μ n pl fi) := by
  have key : ∀ (Post : vx_P) (ini : Bool), Post none ad 82 vx_lay (sp_prp μ n pl fi) → vx_J RX8 cX8_prepareSearch 3 none ini d 0 0 Post ad 0 0 82 vx_lay μ 0 [(0, vx_r 0)] [] := by
    intro Post ini hP
    have hc := hk.1
    have hn := hk.2.1
    have loop : ∀ (r i : Nat), i + r = n + 1 → 1 ≤ i → vx_J RX8 cX8_prepareSearch 3 none ini d 0 0 Post ad 0 0 82 vx_lay (va_up (va_up (va_up (va_up (va_up (va_up μ 38 (sp_38 μ n (i - 1))) 39 (sp_39 μ (i - 1))) 40 (sp_sel μ (sp_nd μ n) (μ 40) (i - 1))) 41 (sp_sel μ (μ 12) (μ 41) (i - 1))) 42 (sp_sel μ (μ 13) (μ 42) (i - 1))) 43 (sp_sel μ (fun _ => 1) (sp_w0 (μ 43)) (i - 1))) 17 [(1, .inl (nI i)), (0, vx_r 0)] [] := by
      intro r
      induction r with
      | zero =>
        intro i hi h1
        refine vx_iload_n dX8_prepareSearch_17 rfl ?_
        refine vx_aload_n dX8_prepareSearch_18 rfl ?_
        refine vx_getR (ci := 8) (T := TX8) (n := 8) (j := 2) (a := 0) (r := 6) dX8_prepareSearch_19 rfl lay_X8 (by decide) wd_345 (by decide) ly_0 rfl ?_
        refine vx_getI (ci := 3) (T := TX3) (n := 12) (j := 0) (a := 6) (v := (nI n)) dX8_prepareSearch_22 rfl lay_X3 (by decide) wd_135 (by decide) ly_6 rfl hc ?_
        refine vx_icmp_gt (tgt := 96) dX8_prepareSearch_25 (by decide) (fun _ => ?_) (fun h => absurd (by show (nI (n) < nI (i)); rw [nI_ltI (by omega) (by omega)]; omega) h)
        have hfn : sp_frn (sp_P μ n) pl 0 < 7 := by unfold sp_frn; split <;> omega
        refine vx_eq (μ2 := (sp_P μ n)) (by rw [show i - 1 = n by omega]; rfl) rfl rfl ?_
        refine vx_aload_n dX8_prepareSearch_96 rfl ?_
        refine vx_getR (ci := 8) (T := TX8) (n := 8) (j := 5) (a := 0) (r := 39) dX8_prepareSearch_97 rfl lay_X8 (by decide) wd_348 (by decide) ly_0 rfl ?_
        refine vx_aload_n dX8_prepareSearch_100 rfl ?_
        refine vx_getR (ci := 8) (T := TX8) (n := 8) (j := 7) (a := 0) (r := 53) dX8_prepareSearch_101 rfl lay_X8 (by decide) wd_350 (by decide) ly_0 rfl ?_
        refine vx_getI (ci := 2) (T := TX2) (n := 6) (j := 1) (a := 53) (v := (nI pl)) dX8_prepareSearch_104 rfl lay_X2 (by decide) wd_321 (by decide) ly_53 rfl hp ?_
        refine vx_callV (b := 39) (vs := [.inl (nI pl)]) (st := []) (r0 := none) (μ0 := (sp_frc (sp_P μ n) pl 0)) dX8_prepareSearch_107 (c_X6_force (d - 1) (by omega) ad (sp_P μ n) pl (by omega) 0 rfl (by omega)) wd_583 wd_586 wd_51 hy_X6_force wd_584 wd_585 (by decide) ly_39 rfl rfl (by omega) (Nat.le_of_ble_eq_true rfl) (Nat.le_of_ble_eq_true rfl) (Nat.le_refl 0) (Nat.le_refl 0) ?_
        refine vx_eq (μ2 := (sp_frc (sp_P μ n) pl 0)) (ls2 := [(1, .inl (nI i)), (0, vx_r 0)]) (st2 := []) rfl rfl rfl ?_
        refine vx_aload_n dX8_prepareSearch_110 rfl ?_
        refine vx_getR (ci := 8) (T := TX8) (n := 8) (j := 5) (a := 0) (r := 39) dX8_prepareSearch_111 rfl lay_X8 (by decide) wd_348 (by decide) ly_0 rfl ?_
        refine vx_aload_n dX8_prepareSearch_114 rfl ?_
        refine vx_getR (ci := 8) (T := TX8) (n := 8) (j := 1) (a := 0) (r := 3) dX8_prepareSearch_115 rfl lay_X8 (by decide) wd_344 (by decide) ly_0 rfl ?_
        refine vx_iconst (v := 4) dX8_prepareSearch_118 (by decide) ?_
        refine vx_callV (b := 3) (vs := [.inl 4]) (st := [vx_r 39]) (r0 := (some (.inl (nI fi)))) (μ0 := (sp_frc (sp_P μ n) pl 0)) dX8_prepareSearch_119 ((c_X0_tells (d - 1) (by omega) ad (sp_frc (sp_P μ n) pl 0) 4).to (congrArg (fun z => some (Sum.inl z)) ((sp_at_nI (k := 4) _ (by decide) (by decide)).trans (show sp_frc (sp_P μ n) pl 0 4 4 = nI fi from by rw [sp_frc_o (by decide) (by decide)]; exact hf))) rfl) wd_539 wd_542 wd_47 hy_X0_tells wd_540 wd_541 (by decide) ly_3 rfl rfl (by omega) (Nat.le_of_ble_eq_true rfl) (Nat.le_of_ble_eq_true rfl) (Nat.le_refl 0) (Nat.le_refl 0) ?_
        refine vx_eq (μ2 := (sp_frc (sp_P μ n) pl 0)) (ls2 := [(1, .inl (nI i)), (0, vx_r 0)]) (st2 := [.inl (nI fi), vx_r 39]) rfl rfl rfl ?_
        refine vx_callV (b := 39) (vs := [.inl (nI fi)]) (st := []) (r0 := none) (μ0 := (sp_prp μ n pl fi)) dX8_prepareSearch_122 (c_X6_force (d - 1) (by omega) ad (sp_frc (sp_P μ n) pl 0) fi (by omega) (sp_frn (sp_P μ n) pl 0) (sp_frc_6 rfl) hfn) wd_583 wd_586 wd_51 hy_X6_force wd_584 wd_585 (by decide) ly_39 rfl rfl (by omega) (Nat.le_of_ble_eq_true rfl) (Nat.le_of_ble_eq_true rfl) (Nat.le_refl 0) (Nat.le_refl 0) ?_
        refine vx_eq (μ2 := (sp_prp μ n pl fi)) (ls2 := [(1, .inl (nI i)), (0, vx_r 0)]) (st2 := []) rfl rfl rfl ?_
        exact vx_vret dX8_prepareSearch_125 rfl (Nat.le_refl 0) (Nat.le_refl 0) (vx_pst hP rfl rfl)
      | succ r ih =>
        intro i hi h1
        refine vx_iload_n dX8_prepareSearch_17 rfl ?_
        refine vx_aload_n dX8_prepareSearch_18 rfl ?_
        refine vx_getR (ci := 8) (T := TX8) (n := 8) (j := 2) (a := 0) (r := 6) dX8_prepareSearch_19 rfl lay_X8 (by decide) wd_345 (by decide) ly_0 rfl ?_
        refine vx_getI (ci := 3) (T := TX3) (n := 12) (j := 0) (a := 6) (v := (nI n)) dX8_prepareSearch_22 rfl lay_X3 (by decide) wd_135 (by decide) ly_6 rfl hc ?_
        refine vx_icmp_gt (tgt := 96) dX8_prepareSearch_25 (by decide) (fun h => absurd h (by show ¬ (nI (n) < nI (i)); rw [nI_ltI (by omega) (by omega)]; omega)) (fun _ => ?_)
        refine vx_aload_n dX8_prepareSearch_28 rfl ?_
        refine vx_getR (ci := 8) (T := TX8) (n := 8) (j := 2) (a := 0) (r := 6) dX8_prepareSearch_29 rfl lay_X8 (by decide) wd_345 (by decide) ly_0 rfl ?_
        refine vx_iload_n dX8_prepareSearch_32 rfl ?_
        refine vx_callV (b := 6) (vs := [.inl (nI i)]) (st := []) (r0 := (some (.inl (sp_pos (μ 8 i))))) (μ0 := (va_up (va_up (va_up (va_up (va_up (va_up μ 38 (sp_38 μ n (i - 1))) 39 (sp_39 μ (i - 1))) 40 (sp_sel μ (sp_nd μ n) (μ 40) (i - 1))) 41 (sp_sel μ (μ 12) (μ 41) (i - 1))) 42 (sp_sel μ (μ 13) (μ 42) (i - 1))) 43 (sp_sel μ (fun _ => 1) (sp_w0 (μ 43)) (i - 1)))) dX8_prepareSearch_33 (c_X3_isOpen (d - 1) (by omega) ad (va_up (va_up (va_up (va_up (va_up (va_up μ 38 (sp_38 μ n (i - 1))) 39 (sp_39 μ (i - 1))) 40 (sp_sel μ (sp_nd μ n) (μ 40) (i - 1))) 41 (sp_sel μ (μ 12) (μ 41) (i - 1))) 42 (sp_sel μ (μ 13) (μ 42) (i - 1))) 43 (sp_sel μ (fun _ => 1) (sp_w0 (μ 43)) (i - 1))) n hc hn i (by omega) (by omega)) wd_544 wd_547 wd_48 hy_X3_isOpen wd_545 wd_546 (by decide) ly_6 rfl rfl (by omega) (Nat.le_of_ble_eq_true rfl) (Nat.le_of_ble_eq_true rfl) (Nat.le_refl 0) (Nat.le_refl 0) ?_
        refine vx_eq (μ2 := (va_up (va_up (va_up (va_up (va_up (va_up μ 38 (sp_38 μ n (i - 1))) 39 (sp_39 μ (i - 1))) 40 (sp_sel μ (sp_nd μ n) (μ 40) (i - 1))) 41 (sp_sel μ (μ 12) (μ 41) (i - 1))) 42 (sp_sel μ (μ 13) (μ 42) (i - 1))) 43 (sp_sel μ (fun _ => 1) (sp_w0 (μ 43)) (i - 1)))) (ls2 := [(1, .inl (nI i)), (0, vx_r 0)]) (st2 := [.inl (sp_pos (μ 8 i))]) rfl rfl rfl ?_
        refine vx_if_eq (tgt := 90) dX8_prepareSearch_36 (by decide) (fun c_36 => ?_) (fun c_36 => ?_)
        · refine vx_iinc (v := (nI (i + 1))) (ls2 := [(1, .inl (nI (i + 1))), (0, vx_r 0)]) dX8_prepareSearch_90 rfl (nI_1 _) (by decide) rfl ?_
          refine vx_goto (tgt := 17) dX8_prepareSearch_93 (by decide) ?_
          refine vx_keep (ls2 := [(1, .inl (nI (i + 1))), (0, vx_r 0)]) ⟨rfl, rfl, trivial⟩ ?_
          have hcl : μ 8 i ≤ 0 := sp_pos0.mp c_36
          refine vx_eq (μ2 := (va_up (va_up (va_up (va_up (va_up (va_up μ 38 (sp_38 μ n (i + 1 - 1))) 39 (sp_39 μ (i + 1 - 1))) 40 (sp_sel μ (sp_nd μ n) (μ 40) (i + 1 - 1))) 41 (sp_sel μ (μ 12) (μ 41) (i + 1 - 1))) 42 (sp_sel μ (μ 13) (μ 42) (i + 1 - 1))) 43 (sp_sel μ (fun _ => 1) (sp_w0 (μ 43)) (i + 1 - 1)))) (by rw [sp_38n h1 hcl, ← sp_seln μ (sp_nd μ n) _ h1 hcl, ← sp_seln μ (μ 12) _ h1 hcl, ← sp_seln μ (μ 13) _ h1 hcl, ← sp_seln μ (fun _ => 1) _ h1 hcl]; unfold sp_39; rw [sp_opnn h1 hcl]) rfl rfl ?_
          exact ih (i + 1) (by omega) (by omega)
        · have hop : ¬ μ 8 i ≤ 0 := fun h => c_36 (sp_pos0.mpr h)
          have h39 : upd (sp_39 μ (i - 1)) 9 (nI (sp_opn (μ 8) (i - 1) + 1)) = sp_39 μ (i + 1 - 1) := by unfold sp_39; rw [sp_uu, sp_opny h1 hop]
          refine vx_aload_n dX8_prepareSearch_39 rfl ?_
          refine vx_getR (ci := 8) (T := TX8) (n := 8) (j := 2) (a := 0) (r := 6) dX8_prepareSearch_40 rfl lay_X8 (by decide) wd_345 (by decide) ly_0 rfl ?_
          refine vx_getR (ci := 3) (T := TX3) (n := 12) (j := 2) (a := 6) (r := 8) dX8_prepareSearch_43 rfl lay_X3 (by decide) wd_139 (by decide) ly_6 rfl ?_
          refine vx_iload_n dX8_prepareSearch_46 rfl ?_
          refine vx_callS (vs := [vx_r 8, .inl (nI i)]) (st := []) (r0 := (some (.inl (μ 8 i)))) (μ0 := (va_up (va_up (va_up (va_up (va_up (va_up μ 38 (sp_38 μ n (i - 1))) 39 (sp_39 μ (i - 1))) 40 (sp_sel μ (sp_nd μ n) (μ 40) (i - 1))) 41 (sp_sel μ (μ 12) (μ 41) (i - 1))) 42 (sp_sel μ (μ 13) (μ 42) (i - 1))) 43 (sp_sel μ (fun _ => 1) (sp_w0 (μ 43)) (i - 1)))) dX8_prepareSearch_47 ((c_X8_at (d - 1) ad 82 vx_lay (va_up (va_up (va_up (va_up (va_up (va_up μ 38 (sp_38 μ n (i - 1))) 39 (sp_39 μ (i - 1))) 40 (sp_sel μ (sp_nd μ n) (μ 40) (i - 1))) 41 (sp_sel μ (μ 12) (μ 41) (i - 1))) 42 (sp_sel μ (μ 13) (μ 42) (i - 1))) 43 (sp_sel μ (fun _ => 1) (sp_w0 (μ 43)) (i - 1))) 8 8 (by decide) ly_8 (by decide) (nI i)).to (by first | rfl | (exact congrArg (fun z => some (Sum.inl z)) (sp_at_nI (k := i) _ (by omega) (by decide)))) rfl) wd_550 wd_109 wd_45 hy_X8_at wd_108 (by omega) (Nat.le_of_ble_eq_true rfl) (Nat.le_of_ble_eq_true rfl) (Nat.le_refl 0) (Nat.le_refl 0) ?_
          refine vx_eq (μ2 := (va_up (va_up (va_up (va_up (va_up (va_up μ 38 (sp_38 μ n (i - 1))) 39 (sp_39 μ (i - 1))) 40 (sp_sel μ (sp_nd μ n) (μ 40) (i - 1))) 41 (sp_sel μ (μ 12) (μ 41) (i - 1))) 42 (sp_sel μ (μ 13) (μ 42) (i - 1))) 43 (sp_sel μ (fun _ => 1) (sp_w0 (μ 43)) (i - 1)))) (ls2 := [(1, .inl (nI i)), (0, vx_r 0)]) (st2 := [.inl (μ 8 i)]) rfl rfl rfl ?_
          refine vx_aload_n dX8_prepareSearch_50 rfl ?_
          refine vx_iload_n dX8_prepareSearch_51 rfl ?_
          refine vx_callV (b := 0) (vs := [.inl (nI i)]) (st := [.inl (μ 8 i)]) (r0 := (some (.inl (sp_speed μ n i)))) (μ0 := (va_up (va_up (va_up (va_up (va_up (va_up μ 38 (sp_mix (sp_G μ n i).1 (sp_38 μ n (i - 1)))) 39 (sp_39 μ (i - 1))) 40 (sp_sel μ (sp_nd μ n) (μ 40) (i - 1))) 41 (sp_sel μ (μ 12) (μ 41) (i - 1))) 42 (sp_sel μ (μ 13) (μ 42) (i - 1))) 43 (sp_sel μ (fun _ => 1) (sp_w0 (μ 43)) (i - 1)))) dX8_prepareSearch_52 (((c_X8_speedOf (d - 1) (by omega) ad (va_up (va_up (va_up (va_up (va_up (va_up μ 38 (sp_38 μ n (i - 1))) 39 (sp_39 μ (i - 1))) 40 (sp_sel μ (sp_nd μ n) (μ 40) (i - 1))) 41 (sp_sel μ (μ 12) (μ 41) (i - 1))) 42 (sp_sel μ (μ 13) (μ 42) (i - 1))) 43 (sp_sel μ (fun _ => 1) (sp_w0 (μ 43)) (i - 1))) n hk i (by omega) (by omega)).to (congrArg (fun z => some (Sum.inl z)) (sp_speed_cong (μ := μ) rfl (sp_G_cong (M := (va_up (va_up (va_up (va_up (va_up (va_up μ 38 (sp_38 μ n (i - 1))) 39 (sp_39 μ (i - 1))) 40 (sp_sel μ (sp_nd μ n) (μ 40) (i - 1))) 41 (sp_sel μ (μ 12) (μ 41) (i - 1))) 42 (sp_sel μ (μ 13) (μ 42) (i - 1))) 43 (sp_sel μ (fun _ => 1) (sp_w0 (μ 43)) (i - 1)))) (μ := μ) (n := n) (f := i) rfl rfl rfl (fun q hq => by unfold va_up; repeat rw [if_neg (by omega)])))) (congrArg (fun z : (Nat → Int32) × Int32 => va_up (va_up (va_up (va_up (va_up (va_up (va_up μ 38 (sp_38 μ n (i - 1))) 39 (sp_39 μ (i - 1))) 40 (sp_sel μ (sp_nd μ n) (μ 40) (i - 1))) 41 (sp_sel μ (μ 12) (μ 41) (i - 1))) 42 (sp_sel μ (μ 13) (μ 42) (i - 1))) 43 (sp_sel μ (fun _ => 1) (sp_w0 (μ 43)) (i - 1))) 38 (sp_mix z.1 (sp_38 μ n (i - 1)))) (sp_G_cong (M := (va_up (va_up (va_up (va_up (va_up (va_up μ 38 (sp_38 μ n (i - 1))) 39 (sp_39 μ (i - 1))) 40 (sp_sel μ (sp_nd μ n) (μ 40) (i - 1))) 41 (sp_sel μ (μ 12) (μ 41) (i - 1))) 42 (sp_sel μ (μ 13) (μ 42) (i - 1))) 43 (sp_sel μ (fun _ => 1) (sp_w0 (μ 43)) (i - 1)))) (μ := μ) (n := n) (f := i) rfl rfl rfl (fun q hq => by unfold va_up; repeat rw [if_neg (by omega)])))).to rfl ((vx_m2 (by decide)).trans (congrArg (fun m => va_up m 43 (sp_sel μ (fun _ => 1) (sp_w0 (μ 43)) (i - 1))) ((vx_m2 (by decide)).trans (congrArg (fun m => va_up m 42 (sp_sel μ (μ 13) (μ 42) (i - 1))) ((vx_m2 (by decide)).trans (congrArg (fun m => va_up m 41 (sp_sel μ (μ 12) (μ 41) (i - 1))) ((vx_m2 (by decide)).trans (congrArg (fun m => va_up m 40 (sp_sel μ (sp_nd μ n) (μ 40) (i - 1))) ((vx_m2 (by decide)).trans (congrArg (fun m => va_up m 39 (sp_39 μ (i - 1))) vx_m1))))))))))) wd_551 wd_554 wd_45 hy_X8_speedOf wd_553 wd_7 (by decide) ly_0 rfl rfl (by omega) (Nat.le_of_ble_eq_true rfl) (Nat.le_of_ble_eq_true rfl) (Nat.le_refl 0) (Nat.le_refl 0) ?_
          refine vx_eq (μ2 := (va_up (va_up (va_up (va_up (va_up (va_up μ 38 (sp_mix (sp_G μ n i).1 (sp_38 μ n (i - 1)))) 39 (sp_39 μ (i - 1))) 40 (sp_sel μ (sp_nd μ n) (μ 40) (i - 1))) 41 (sp_sel μ (μ 12) (μ 41) (i - 1))) 42 (sp_sel μ (μ 13) (μ 42) (i - 1))) 43 (sp_sel μ (fun _ => 1) (sp_w0 (μ 43)) (i - 1)))) (ls2 := [(1, .inl (nI i)), (0, vx_r 0)]) (st2 := [.inl (sp_speed μ n i), .inl (μ 8 i)]) rfl rfl rfl ?_
          refine vx_callS (vs := [.inl (μ 8 i), .inl (sp_speed μ n i)]) (st := []) (r0 := (some (.inl (sp_upw (μ 8 i) (sp_speed μ n i))))) (μ0 := (va_up (va_up (va_up (va_up (va_up (va_up μ 38 (sp_mix (sp_G μ n i).1 (sp_38 μ n (i - 1)))) 39 (sp_39 μ (i - 1))) 40 (sp_sel μ (sp_nd μ n) (μ 40) (i - 1))) 41 (sp_sel μ (μ 12) (μ 41) (i - 1))) 42 (sp_sel μ (μ 13) (μ 42) (i - 1))) 43 (sp_sel μ (fun _ => 1) (sp_w0 (μ 43)) (i - 1)))) dX8_prepareSearch_55 (c_X8_upwards (d - 1) ad 82 vx_lay (va_up (va_up (va_up (va_up (va_up (va_up μ 38 (sp_mix (sp_G μ n i).1 (sp_38 μ n (i - 1)))) 39 (sp_39 μ (i - 1))) 40 (sp_sel μ (sp_nd μ n) (μ 40) (i - 1))) 41 (sp_sel μ (μ 12) (μ 41) (i - 1))) 42 (sp_sel μ (μ 13) (μ 42) (i - 1))) 43 (sp_sel μ (fun _ => 1) (sp_w0 (μ 43)) (i - 1))) (μ 8 i) (sp_speed μ n i)) wd_575 wd_577 wd_45 hy_X8_upwards wd_576 (by omega) (Nat.le_of_ble_eq_true rfl) (Nat.le_of_ble_eq_true rfl) (Nat.le_refl 0) (Nat.le_refl 0) ?_
          refine vx_eq (μ2 := (va_up (va_up (va_up (va_up (va_up (va_up μ 38 (sp_mix (sp_G μ n i).1 (sp_38 μ n (i - 1)))) 39 (sp_39 μ (i - 1))) 40 (sp_sel μ (sp_nd μ n) (μ 40) (i - 1))) 41 (sp_sel μ (μ 12) (μ 41) (i - 1))) 42 (sp_sel μ (μ 13) (μ 42) (i - 1))) 43 (sp_sel μ (fun _ => 1) (sp_w0 (μ 43)) (i - 1)))) (ls2 := [(1, .inl (nI i)), (0, vx_r 0)]) (st2 := [.inl (sp_upw (μ 8 i) (sp_speed μ n i))]) rfl rfl rfl ?_
          refine vx_istore_n (ls2 := [(2, .inl (sp_upw (μ 8 i) (sp_speed μ n i))), (1, .inl (nI i)), (0, vx_r 0)]) dX8_prepareSearch_58 (by decide) rfl ?_
          refine vx_aload_n dX8_prepareSearch_59 rfl ?_
          refine vx_getR (ci := 8) (T := TX8) (n := 8) (j := 5) (a := 0) (r := 39) dX8_prepareSearch_60 rfl lay_X8 (by decide) wd_348 (by decide) ly_0 rfl ?_
          refine vx_iload_n dX8_prepareSearch_63 rfl ?_
          refine vx_aload_n dX8_prepareSearch_64 rfl ?_
          refine vx_getR (ci := 8) (T := TX8) (n := 8) (j := 2) (a := 0) (r := 6) dX8_prepareSearch_65 rfl lay_X8 (by decide) wd_345 (by decide) ly_0 rfl ?_
          refine vx_getR (ci := 3) (T := TX3) (n := 12) (j := 6) (a := 6) (r := 12) dX8_prepareSearch_68 rfl lay_X3 (by decide) wd_149 (by decide) ly_6 rfl ?_
          refine vx_iload_n dX8_prepareSearch_71 rfl ?_
          refine vx_callS (vs := [vx_r 12, .inl (nI i)]) (st := [.inl (nI i), vx_r 39]) (r0 := (some (.inl (μ 12 i)))) (μ0 := (va_up (va_up (va_up (va_up (va_up (va_up μ 38 (sp_mix (sp_G μ n i).1 (sp_38 μ n (i - 1)))) 39 (sp_39 μ (i - 1))) 40 (sp_sel μ (sp_nd μ n) (μ 40) (i - 1))) 41 (sp_sel μ (μ 12) (μ 41) (i - 1))) 42 (sp_sel μ (μ 13) (μ 42) (i - 1))) 43 (sp_sel μ (fun _ => 1) (sp_w0 (μ 43)) (i - 1)))) dX8_prepareSearch_72 ((c_X8_at (d - 1) ad 82 vx_lay (va_up (va_up (va_up (va_up (va_up (va_up μ 38 (sp_mix (sp_G μ n i).1 (sp_38 μ n (i - 1)))) 39 (sp_39 μ (i - 1))) 40 (sp_sel μ (sp_nd μ n) (μ 40) (i - 1))) 41 (sp_sel μ (μ 12) (μ 41) (i - 1))) 42 (sp_sel μ (μ 13) (μ 42) (i - 1))) 43 (sp_sel μ (fun _ => 1) (sp_w0 (μ 43)) (i - 1))) 12 8 (by decide) ly_12 (by decide) (nI i)).to (by first | rfl | (exact congrArg (fun z => some (Sum.inl z)) (sp_at_nI (k := i) _ (by omega) (by decide)))) rfl) wd_550 wd_109 wd_45 hy_X8_at wd_108 (by omega) (Nat.le_of_ble_eq_true rfl) (Nat.le_of_ble_eq_true rfl) (Nat.le_refl 0) (Nat.le_refl 0) ?_
          refine vx_eq (μ2 := (va_up (va_up (va_up (va_up (va_up (va_up μ 38 (sp_mix (sp_G μ n i).1 (sp_38 μ n (i - 1)))) 39 (sp_39 μ (i - 1))) 40 (sp_sel μ (sp_nd μ n) (μ 40) (i - 1))) 41 (sp_sel μ (μ 12) (μ 41) (i - 1))) 42 (sp_sel μ (μ 13) (μ 42) (i - 1))) 43 (sp_sel μ (fun _ => 1) (sp_w0 (μ 43)) (i - 1)))) (ls2 := [(2, .inl (sp_upw (μ 8 i) (sp_speed μ n i))), (1, .inl (nI i)), (0, vx_r 0)]) (st2 := [.inl (μ 12 i), .inl (nI i), vx_r 39]) rfl rfl rfl ?_
          refine vx_aload_n dX8_prepareSearch_75 rfl ?_
          refine vx_getR (ci := 8) (T := TX8) (n := 8) (j := 2) (a := 0) (r := 6) dX8_prepareSearch_76 rfl lay_X8 (by decide) wd_345 (by decide) ly_0 rfl ?_
          refine vx_getR (ci := 3) (T := TX3) (n := 12) (j := 7) (a := 6) (r := 13) dX8_prepareSearch_79 rfl lay_X3 (by decide) wd_151 (by decide) ly_6 rfl ?_
          refine vx_iload_n dX8_prepareSearch_82 rfl ?_
          refine vx_callS (vs := [vx_r 13, .inl (nI i)]) (st := [.inl (μ 12 i), .inl (nI i), vx_r 39]) (r0 := (some (.inl (μ 13 i)))) (μ0 := (va_up (va_up (va_up (va_up (va_up (va_up μ 38 (sp_mix (sp_G μ n i).1 (sp_38 μ n (i - 1)))) 39 (sp_39 μ (i - 1))) 40 (sp_sel μ (sp_nd μ n) (μ 40) (i - 1))) 41 (sp_sel μ (μ 12) (μ 41) (i - 1))) 42 (sp_sel μ (μ 13) (μ 42) (i - 1))) 43 (sp_sel μ (fun _ => 1) (sp_w0 (μ 43)) (i - 1)))) dX8_prepareSearch_83 ((c_X8_at (d - 1) ad 82 vx_lay (va_up (va_up (va_up (va_up (va_up (va_up μ 38 (sp_mix (sp_G μ n i).1 (sp_38 μ n (i - 1)))) 39 (sp_39 μ (i - 1))) 40 (sp_sel μ (sp_nd μ n) (μ 40) (i - 1))) 41 (sp_sel μ (μ 12) (μ 41) (i - 1))) 42 (sp_sel μ (μ 13) (μ 42) (i - 1))) 43 (sp_sel μ (fun _ => 1) (sp_w0 (μ 43)) (i - 1))) 13 8 (by decide) ly_13 (by decide) (nI i)).to (by first | rfl | (exact congrArg (fun z => some (Sum.inl z)) (sp_at_nI (k := i) _ (by omega) (by decide)))) rfl) wd_550 wd_109 wd_45 hy_X8_at wd_108 (by omega) (Nat.le_of_ble_eq_true rfl) (Nat.le_of_ble_eq_true rfl) (Nat.le_refl 0) (Nat.le_refl 0) ?_
          refine vx_eq (μ2 := (va_up (va_up (va_up (va_up (va_up (va_up μ 38 (sp_mix (sp_G μ n i).1 (sp_38 μ n (i - 1)))) 39 (sp_39 μ (i - 1))) 40 (sp_sel μ (sp_nd μ n) (μ 40) (i - 1))) 41 (sp_sel μ (μ 12) (μ 41) (i - 1))) 42 (sp_sel μ (μ 13) (μ 42) (i - 1))) 43 (sp_sel μ (fun _ => 1) (sp_w0 (μ 43)) (i - 1)))) (ls2 := [(2, .inl (sp_upw (μ 8 i) (sp_speed μ n i))), (1, .inl (nI i)), (0, vx_r 0)]) (st2 := [.inl (μ 13 i), .inl (μ 12 i), .inl (nI i), vx_r 39]) rfl rfl rfl ?_
          refine vx_iload_n dX8_prepareSearch_86 rfl ?_
          refine vx_callV (b := 39) (vs := [.inl (nI i), .inl (μ 12 i), .inl (μ 13 i), .inl (sp_upw (μ 8 i) (sp_speed μ n i))]) (st := []) (r0 := none) (μ0 := (va_up (va_up (va_up (va_up (va_up (va_up μ 38 (sp_mix (sp_G μ n i).1 (sp_38 μ n (i - 1)))) 39 (sp_39 μ (i + 1 - 1))) 40 (sp_sel μ (sp_nd μ n) (μ 40) (i + 1 - 1))) 41 (sp_sel μ (μ 12) (μ 41) (i + 1 - 1))) 42 (sp_sel μ (μ 13) (μ 42) (i + 1 - 1))) 43 (sp_sel μ (fun _ => 1) (sp_w0 (μ 43)) (i + 1 - 1)))) dX8_prepareSearch_87 (((c_X6_add (d - 1) (by omega) ad (va_up (va_up (va_up (va_up (va_up (va_up μ 38 (sp_mix (sp_G μ n i).1 (sp_38 μ n (i - 1)))) 39 (sp_39 μ (i - 1))) 40 (sp_sel μ (sp_nd μ n) (μ 40) (i - 1))) 41 (sp_sel μ (μ 12) (μ 41) (i - 1))) 42 (sp_sel μ (μ 13) (μ 42) (i - 1))) 43 (sp_sel μ (fun _ => 1) (sp_w0 (μ 43)) (i - 1))) i (by omega) (sp_opn (μ 8) (i - 1)) rfl (μ 12 i) (μ 13 i) (sp_upw (μ 8 i) (sp_speed μ n i))).to rfl (by show va_up (va_up (va_up (va_up (va_up (va_up (va_up (va_up (va_up (va_up (va_up μ 38 (sp_mix (sp_G μ n i).1 (sp_38 μ n (i - 1)))) 39 (sp_39 μ (i - 1))) 40 (sp_sel μ (sp_nd μ n) (μ 40) (i - 1))) 41 (sp_sel μ (μ 12) (μ 41) (i - 1))) 42 (sp_sel μ (μ 13) (μ 42) (i - 1))) 43 (sp_sel μ (fun _ => 1) (sp_w0 (μ 43)) (i - 1))) 39 (upd (sp_39 μ (i - 1)) 9 _)) 40 (upd (sp_sel μ (sp_nd μ n) (μ 40) (i - 1)) i _)) 41 (upd (sp_sel μ (μ 12) (μ 41) (i - 1)) i _)) 42 (upd (sp_sel μ (μ 13) (μ 42) (i - 1)) i _)) 43 (upd (sp_sel μ (fun _ => 1) (sp_w0 (μ 43)) (i - 1)) i 1) = _; rw [h39, sp_sels μ (sp_nd μ n) _ h1 hop (x := sp_upw (μ 8 i) (sp_speed μ n i)) rfl, sp_sels μ (μ 12) _ h1 hop (x := μ 12 i) rfl, sp_sels μ (μ 13) _ h1 hop (x := μ 13 i) rfl, sp_sels μ (fun _ => 1) _ h1 hop (x := 1) rfl])).to rfl (((((congrArg (fun m => va_up m 43 (sp_sel μ (fun _ => 1) (sp_w0 (μ 43)) (i + 1 - 1))) (congrArg (fun m => va_up m 42 (sp_sel μ (μ 13) (μ 42) (i + 1 - 1))) (congrArg (fun m => va_up m 41 (sp_sel μ (μ 12) (μ 41) (i + 1 - 1))) (congrArg (fun m => va_up m 40 (sp_sel μ (sp_nd μ n) (μ 40) (i + 1 - 1))) ((vx_m2 (by decide)).trans (congrArg (fun m => va_up m 43 (sp_sel μ (fun _ => 1) (sp_w0 (μ 43)) (i - 1))) ((vx_m2 (by decide)).trans (congrArg (fun m => va_up m 42 (sp_sel μ (μ 13) (μ 42) (i - 1))) ((vx_m2 (by decide)).trans (congrArg (fun m => va_up m 41 (sp_sel μ (μ 12) (μ 41) (i - 1))) ((vx_m2 (by decide)).trans (congrArg (fun m => va_up m 40 (sp_sel μ (sp_nd μ n) (μ 40) (i - 1))) vx_m1)))))))))))).trans (congrArg (fun m => va_up m 43 (sp_sel μ (fun _ => 1) (sp_w0 (μ 43)) (i + 1 - 1))) (congrArg (fun m => va_up m 42 (sp_sel μ (μ 13) (μ 42) (i + 1 - 1))) (congrArg (fun m => va_up m 41 (sp_sel μ (μ 12) (μ 41) (i + 1 - 1))) ((vx_m2 (by decide)).trans (congrArg (fun m => va_up m 43 (sp_sel μ (fun _ => 1) (sp_w0 (μ 43)) (i - 1))) ((vx_m2 (by decide)).trans (congrArg (fun m => va_up m 42 (sp_sel μ (μ 13) (μ 42) (i - 1))) ((vx_m2 (by decide)).trans (congrArg (fun m => va_up m 41 (sp_sel μ (μ 12) (μ 41) (i - 1))) vx_m1)))))))))).trans (congrArg (fun m => va_up m 43 (sp_sel μ (fun _ => 1) (sp_w0 (μ 43)) (i + 1 - 1))) (congrArg (fun m => va_up m 42 (sp_sel μ (μ 13) (μ 42) (i + 1 - 1))) ((vx_m2 (by decide)).trans (congrArg (fun m => va_up m 43 (sp_sel μ (fun _ => 1) (sp_w0 (μ 43)) (i - 1))) ((vx_m2 (by decide)).trans (congrArg (fun m => va_up m 42 (sp_sel μ (μ 13) (μ 42) (i - 1))) vx_m1))))))).trans (congrArg (fun m => va_up m 43 (sp_sel μ (fun _ => 1) (sp_w0 (μ 43)) (i + 1 - 1))) ((vx_m2 (by decide)).trans (congrArg (fun m => va_up m 43 (sp_sel μ (fun _ => 1) (sp_w0 (μ 43)) (i - 1))) vx_m1)))).trans vx_m1)) wd_578 wd_581 wd_51 hy_X6_add wd_579 wd_580 (by decide) ly_39 rfl rfl (by omega) (Nat.le_of_ble_eq_true rfl) (Nat.le_of_ble_eq_true rfl) (Nat.le_refl 0) (Nat.le_refl 0) ?_
          refine vx_eq (μ2 := (va_up (va_up (va_up (va_up (va_up (va_up μ 38 (sp_mix (sp_G μ n i).1 (sp_38 μ n (i - 1)))) 39 (sp_39 μ (i + 1 - 1))) 40 (sp_sel μ (sp_nd μ n) (μ 40) (i + 1 - 1))) 41 (sp_sel μ (μ 12) (μ 41) (i + 1 - 1))) 42 (sp_sel μ (μ 13) (μ 42) (i + 1 - 1))) 43 (sp_sel μ (fun _ => 1) (sp_w0 (μ 43)) (i + 1 - 1)))) (ls2 := [(2, .inl (sp_upw (μ 8 i) (sp_speed μ n i))), (1, .inl (nI i)), (0, vx_r 0)]) (st2 := []) rfl rfl rfl ?_
          refine vx_iinc (v := (nI (i + 1))) (ls2 := [(1, .inl (nI (i + 1))), (2, .inl (sp_upw (μ 8 i) (sp_speed μ n i))), (0, vx_r 0)]) dX8_prepareSearch_90 rfl (nI_1 _) (by decide) rfl ?_
          refine vx_goto (tgt := 17) dX8_prepareSearch_93 (by decide) ?_
          refine vx_keep (ls2 := [(1, .inl (nI (i + 1))), (0, vx_r 0)]) ⟨rfl, rfl, trivial⟩ ?_
          refine vx_eq (μ2 := (va_up (va_up (va_up (va_up (va_up (va_up μ 38 (sp_38 μ n (i + 1 - 1))) 39 (sp_39 μ (i + 1 - 1))) 40 (sp_sel μ (sp_nd μ n) (μ 40) (i + 1 - 1))) 41 (sp_sel μ (μ 12) (μ 41) (i + 1 - 1))) 42 (sp_sel μ (μ 13) (μ 42) (i + 1 - 1))) 43 (sp_sel μ (fun _ => 1) (sp_w0 (μ 43)) (i + 1 - 1)))) (by rw [sp_38y h1 hop]) rfl rfl ?_
          exact ih (i + 1) (by omega) (by omega)
    refine vx_aload_n dX8_prepareSearch_0 rfl ?_
    refine vx_getR (ci := 8) (T := TX8) (n := 8) (j := 5) (a := 0) (r := 39) dX8_prepareSearch_1 rfl lay_X8 (by decide) wd_348 (by decide) ly_0 rfl ?_
    refine vx_aload_n dX8_prepareSearch_4 rfl ?_
    refine vx_getR (ci := 8) (T := TX8) (n := 8) (j := 1) (a := 0) (r := 3) dX8_prepareSearch_5 rfl lay_X8 (by decide) wd_344 (by decide) ly_0 rfl ?_
    refine vx_iconst (v := 3) dX8_prepareSearch_8 (by decide) ?_
    refine vx_callV (b := 3) (vs := [.inl 3]) (st := [vx_r 39]) (r0 := (some (.inl (μ 4 3)))) (μ0 := μ) dX8_prepareSearch_9 ((c_X0_tells (d - 1) (by omega) ad μ 3).to (show some (Sum.inl (sp_at 6 ((μ 4)) (nI 3))) = some (Sum.inl _) from congrArg (fun z => some (Sum.inl z)) (sp_at_nI (k := 3) _ (by decide) (by decide))) rfl) wd_539 wd_542 wd_47 hy_X0_tells wd_540 wd_541 (by decide) ly_3 rfl rfl (by omega) (Nat.le_of_ble_eq_true rfl) (Nat.le_of_ble_eq_true rfl) (Nat.le_refl 0) (Nat.le_refl 0) ?_
    refine vx_eq (μ2 := μ) (ls2 := [(0, vx_r 0)]) (st2 := [.inl (μ 4 3), vx_r 39]) rfl rfl rfl ?_
    refine vx_callV (b := 39) (vs := [.inl (μ 4 3)]) (st := []) (r0 := none) (μ0 := (va_up (va_up μ 39 (sp_s0 (μ 39) (μ 4 3))) 43 (sp_w0 (μ 43)))) dX8_prepareSearch_12 (c_X6_startAnew (d - 1) (by omega) ad 82 vx_lay μ (by decide) ly_39 (by decide) ly_43 (μ 4 3)) wd_543 wd_226 wd_51 hy_X6_startAnew wd_224 wd_225 (by decide) ly_39 rfl rfl (by omega) (Nat.le_of_ble_eq_true rfl) (Nat.le_of_ble_eq_true rfl) (Nat.le_refl 0) (Nat.le_refl 0) ?_
    refine vx_eq (μ2 := (va_up (va_up μ 39 (sp_s0 (μ 39) (μ 4 3))) 43 (sp_w0 (μ 43)))) (ls2 := [(0, vx_r 0)]) (st2 := []) rfl rfl rfl ?_
    refine vx_iconst (v := 1) dX8_prepareSearch_15 (by decide) ?_
    refine vx_istore_n (ls2 := [(1, .inl 1), (0, vx_r 0)]) dX8_prepareSearch_16 (by decide) rfl ?_
    refine vx_eq (μ2 := (va_up (va_up (va_up (va_up (va_up (va_up μ 38 (sp_38 μ n (1 - 1))) 39 (sp_39 μ (1 - 1))) 40 (sp_sel μ (sp_nd μ n) (μ 40) (1 - 1))) 41 (sp_sel μ (μ 12) (μ 41) (1 - 1))) 42 (sp_sel μ (μ 13) (μ 42) (1 - 1))) 43 (sp_sel μ (fun _ => 1) (sp_w0 (μ 43)) (1 - 1)))) (ls2 := [(1, .inl (nI 1)), (0, vx_r 0)]) ?_ rfl rfl (loop n 1 (by omega) (by omega))
    show _ = (va_up (va_up (va_up (va_up (va_up (va_up μ 38 (sp_38 μ n 0)) 39 (sp_39 μ 0)) 40 (sp_sel μ (sp_nd μ n) (μ 40) 0)) 41 (sp_sel μ (μ 12) (μ 41) 0)) 42 (sp_sel μ (μ 13) (μ 42) 0)) 43 (sp_sel μ (fun _ => 1) (sp_w0 (μ 43)) 0))
    rw [sp_sel0, sp_sel0, sp_sel0, sp_sel0]
    have e39 : sp_39 μ 0 = sp_s0 (μ 39) (μ 4 3) := sp_ups (x := nI 0) rfl
    rw [e39]
    funext a; unfold va_up; (repeat' split) <;> first | rfl | (exfalso; omega) | simp_all [sp_38]
  exact vx_J.M pn_X8_prepareSearch (Nat.le_of_ble_eq_true rfl) (key _ _ ⟨rfl, rfl, rfl, rfl, rfl⟩)
end
