section
theorem sp_ln_ok {t : Nat → Int32} {e : Nat} {told : Nat → Int32} {p : Nat} (hp : p < e) (h : (sp_ln t e told p).1 = 0) : p < (sp_ln t e told p).2.1 ∧ (sp_ln t e told p).2.1 ≤ e := by
  have b1 := sp_run_b (P := sp_inB 97 122) (t := t) (e := e) (p := p) (by omega)
  have b2 := sp_run_b (P := sp_bl) (t := t) (e := e) (p := sp_run (sp_inB 97 122) t e p) (by omega)
  have b3 := sp_run_b (P := sp_inB 48 57) (t := t) (e := e) (p := sp_run sp_bl t e (sp_run (sp_inB 97 122) t e p)) (by omega)
  have b4 := sp_run_b (P := sp_bl) (t := t) (e := e) (p := sp_run (sp_inB 48 57) t e (sp_run sp_bl t e (sp_run (sp_inB 97 122) t e p))) (by omega)
  unfold sp_ln at h ⊢
  split at h
  · exact absurd (show (1 : Int32) = 0 from h) (by decide)
  · rename_i h1
    rw [if_neg h1]
    split at h
    · exact absurd (show (3 : Int32) = 0 from h) (by decide)
    · rename_i h2
      rw [if_neg h2]
      split at h
      · exact absurd (show (1 : Int32) = 0 from h) (by decide)
      · rename_i h3
        rw [if_neg h3]
        split at h
        · exact absurd (show (2 : Int32) = 0 from h) (by decide)
        · rename_i h4
          rw [if_neg h4]
          split at h
          · exact absurd (show (1 : Int32) = 0 from h) (by decide)
          · rename_i h5
            rw [if_neg h5]
            dsimp only
            have h6 := Decidable.not_not.mp h5
            have h7 : sp_run sp_bl t e (sp_run (sp_inB 48 57) t e (sp_run sp_bl t e (sp_run (sp_inB 97 122) t e p))) < e := by
              unfold sp_ba at h6
              split at h6
              · assumption
              · exact absurd h6 (by decide)
            omega
/-- the customs from p on: fault, place, lines, what is told -/
def sp_rd (t : Nat → Int32) (e : Nat) : Nat → (Nat → Int32) → Nat → Nat → Int32 × Nat × Nat × (Nat → Int32)
  | 0, told, p, k => (0, p, k, told)
  | f + 1, told, p, k => if p < e then (if (sp_ln t e told p).1 = 0 then sp_rd t e f (sp_ln t e told p).2.2 (sp_run sp_bl t e (sp_ln t e told p).2.1) (k + 1) else ((sp_ln t e told p).1, (sp_ln t e told p).2.1, k, (sp_ln t e told p).2.2)) else (0, p, k, told)
theorem sp_rd_end {t : Nat → Int32} {e f p k : Nat} {told : Nat → Int32} (h : ¬ p < e) : sp_rd t e (f + 1) told p k = (0, p, k, told) := by
  unfold sp_rd
  rw [if_neg h]
theorem sp_rd_bad {t : Nat → Int32} {e f p k : Nat} {told : Nat → Int32} (h : p < e) (h2 : ¬ (sp_ln t e told p).1 = 0) : sp_rd t e (f + 1) told p k = ((sp_ln t e told p).1, (sp_ln t e told p).2.1, k, (sp_ln t e told p).2.2) := by
  unfold sp_rd
  rw [if_pos h, if_neg h2]
theorem sp_rd_s {t : Nat → Int32} {e f p k : Nat} {told : Nat → Int32} (h : p < e) (h2 : (sp_ln t e told p).1 = 0) : sp_rd t e (f + 1) told p k = sp_rd t e f (sp_ln t e told p).2.2 (sp_run sp_bl t e (sp_ln t e told p).2.1) (k + 1) := by
  show (if p < e then _ else _) = _
  rw [if_pos h, if_pos h2]
def sp_Z (μ : vx_mem) (e : Nat) : Int32 × Nat × Nat × (Nat → Int32) := sp_rd (μ 2) e (e + 1) (sp_no (μ 5)) (sp_run sp_bl (μ 2) e 0) 0
def sp_c30 (μ : vx_mem) : Nat → Int32 := upd (upd (μ 3) 2 0) 3 (-1)
def sp_c1 (μ : vx_mem) (e p : Nat) : Nat → Int32 := upd (upd (upd (μ 1) 2 0) 3 (nI e)) 2 (nI p)
def sp_rdM (μ : vx_mem) (e : Nat) : vx_mem := va_up (va_up (va_up (va_up μ 1 (sp_c1 μ e (sp_Z μ e).2.1)) 3 (upd (upd (sp_c30 μ) 2 (sp_Z μ e).1) 3 (if (sp_Z μ e).1 = 0 then -1 else nI (sp_Z μ e).2.1))) 4 (if (sp_Z μ e).1 = 0 then sp_pif (μ 4) (sp_Z μ e).2.2.2 6 else μ 4)) 5 (sp_Z μ e).2.2.2
theorem sp_c30_s (μ : vx_mem) : upd (upd (sp_c30 μ) 2 0) 3 (-1) = sp_c30 μ := by
  rw [sp_ups (f := sp_c30 μ) (k := 2) (x := 0) rfl, sp_ups (f := sp_c30 μ) (k := 3) (x := -1) rfl]
theorem sp_c1_s (μ : vx_mem) (e p q : Nat) : upd (sp_c1 μ e p) 2 (nI q) = sp_c1 μ e q := sp_uu
theorem sp_m4 {μ : vx_mem} {c1 c3 c5 : Nat → Int32} : va_up (va_up (va_up μ 1 c1) 3 c3) 5 c5 = va_up (va_up (va_up (va_up μ 1 c1) 3 c3) 4 (μ 4)) 5 c5 := by
  funext a
  unfold va_up
  by_cases h : a = 5
  · simp [h]
  · by_cases h3 : a = 4
    · simp [h3]
    · simp [h, h3]

set_option maxRecDepth 20000 in
set_option maxHeartbeats 2000000 in
theorem c_X0_read (d : Nat) (hd : 7 ≤ d) (ad : Nat → Nat) (μ : vx_mem) (e : Nat) (he3 : e ≤ 300) : vx_Mf yX0_read cX0_read 4 (some (.int)) d ad 82 vx_lay μ [vx_r 3, vx_r 1, .inl (nI e)] (some (.inl (if (sp_Z μ e).1 = 0 then nI (sp_Z μ e).2.2.1 else -1))) (sp_rdM μ e) := by
  have key : ∀ (Post : vx_P) (ini : Bool), Post (some (.inl (if (sp_Z μ e).1 = 0 then nI (sp_Z μ e).2.2.1 else -1))) ad 82 vx_lay (sp_rdM μ e) → vx_J RX0 cX0_read 4 (some (.int)) ini d 0 0 Post ad 0 0 82 vx_lay μ 0 [(0, vx_r 3), (1, vx_r 1), (2, .inl (nI e))] [] := by
    intro Post ini hP
    have loop : ∀ (f p k : Nat) (told : Nat → Int32), e - p < f → k ≤ p → p ≤ e → sp_Z μ e = sp_rd (μ 2) e f told p k → vx_J RX0 cX0_read 4 (some (.int)) ini d 0 0 Post ad 0 0 82 vx_lay (va_up (va_up (va_up μ 1 (sp_c1 μ e p)) 3 (sp_c30 μ)) 5 told) 15 [(3, .inl (nI k)), (0, vx_r 3), (1, vx_r 1), (2, .inl (nI e))] [] := by
      intro f
      induction f with
      | zero =>
        intro p k told h0
        exact absurd h0 (by omega)
      | succ f ih =>
        intro p k told h0 hkp hpe hZ
        by_cases hlt : p < e
        · refine vx_iload_n dX0_read_15 rfl ?_
          refine vx_iload_n dX0_read_16 rfl ?_
          refine vx_icmp_ge (tgt := 47) dX0_read_17 (by decide) (fun h => absurd h (by show ¬ (nI (e) ≤ nI (k)); rw [nI_leI (by omega) (by omega)]; omega)) (fun _ => ?_)
          refine vx_aload_n dX0_read_20 rfl ?_
          refine vx_callV (b := 1) (vs := []) (st := []) (r0 := (some (.inl 0))) (μ0 := (va_up (va_up (va_up μ 1 (sp_c1 μ e p)) 3 (sp_c30 μ)) 5 told)) dX0_read_21 ((c_X7_isAtEnd (d - 1) ad (va_up (va_up (va_up μ 1 (sp_c1 μ e p)) 3 (sp_c30 μ)) 5 told) p e rfl rfl hpe he3).to (congrArg (fun z => some (Sum.inl z)) (if_pos hlt)) rfl) wd_402 wd_405 wd_46 hy_X7_isAtEnd wd_403 wd_404 (by decide) ly_1 rfl rfl (by omega) (Nat.le_of_ble_eq_true rfl) (Nat.le_of_ble_eq_true rfl) (Nat.le_refl 0) (Nat.le_refl 0) ?_
          refine vx_eq (μ2 := (va_up (va_up (va_up μ 1 (sp_c1 μ e p)) 3 (sp_c30 μ)) 5 told)) (ls2 := [(3, .inl (nI k)), (0, vx_r 3), (1, vx_r 1), (2, .inl (nI e))]) (st2 := [.inl 0]) rfl rfl rfl ?_
          refine vx_if_ne (tgt := 47) dX0_read_24 (by decide) (fun h => absurd h (by decide)) (fun _ => ?_)
          refine vx_aload_n dX0_read_27 rfl ?_
          refine vx_aload_n dX0_read_28 rfl ?_
          refine vx_callV (b := 3) (vs := [vx_r 1]) (st := []) (r0 := (some (.inl (if (sp_ln (μ 2) e told p).1 = 0 then 1 else 0)))) (μ0 := (va_up (va_up (va_up μ 1 (sp_c1 μ e (sp_ln (μ 2) e told p).2.1)) 3 (if (sp_ln (μ 2) e told p).1 = 0 then (sp_c30 μ) else upd (upd (sp_c30 μ) 2 (sp_ln (μ 2) e told p).1) 3 (nI (sp_ln (μ 2) e told p).2.1))) 5 (sp_ln (μ 2) e told p).2.2)) dX0_read_29 (((c_X0_readLine (d - 1) (by omega) ad (va_up (va_up (va_up μ 1 (sp_c1 μ e p)) 3 (sp_c30 μ)) 5 told) p e rfl rfl hlt he3 _ _ _ _ rfl rfl rfl rfl).to rfl (congrArg (fun z => va_up (va_up (va_up (va_up (va_up (va_up μ 1 (sp_c1 μ e p)) 3 (sp_c30 μ)) 5 told) 1 z) 3 (if (sp_ln (μ 2) e told p).1 = 0 then (sp_c30 μ) else upd (upd (sp_c30 μ) 2 (sp_ln (μ 2) e told p).1) 3 (nI (sp_ln (μ 2) e told p).2.1))) 5 (sp_ln (μ 2) e told p).2.2) (sp_c1_s μ e p (sp_ln (μ 2) e told p).2.1))).to rfl (((congrArg (fun m => va_up m 5 (sp_ln (μ 2) e told p).2.2) (congrArg (fun m => va_up m 3 (if (sp_ln (μ 2) e told p).1 = 0 then (sp_c30 μ) else upd (upd (sp_c30 μ) 2 (sp_ln (μ 2) e told p).1) 3 (nI (sp_ln (μ 2) e told p).2.1))) ((vx_m2 (by decide)).trans (congrArg (fun m => va_up m 5 told) ((vx_m2 (by decide)).trans (congrArg (fun m => va_up m 3 (sp_c30 μ)) vx_m1)))))).trans (congrArg (fun m => va_up m 5 (sp_ln (μ 2) e told p).2.2) ((vx_m2 (by decide)).trans (congrArg (fun m => va_up m 5 told) vx_m1)))).trans vx_m1)) wd_406 wd_409 wd_47 hy_X0_readLine wd_408 wd_3 (by decide) ly_3 rfl rfl (by omega) (Nat.le_of_ble_eq_true rfl) (Nat.le_of_ble_eq_true rfl) (Nat.le_refl 0) (Nat.le_refl 0) ?_
          refine vx_eq (μ2 := (va_up (va_up (va_up μ 1 (sp_c1 μ e (sp_ln (μ 2) e told p).2.1)) 3 (if (sp_ln (μ 2) e told p).1 = 0 then (sp_c30 μ) else upd (upd (sp_c30 μ) 2 (sp_ln (μ 2) e told p).1) 3 (nI (sp_ln (μ 2) e told p).2.1))) 5 (sp_ln (μ 2) e told p).2.2)) (ls2 := [(3, .inl (nI k)), (0, vx_r 3), (1, vx_r 1), (2, .inl (nI e))]) (st2 := [.inl (if (sp_ln (μ 2) e told p).1 = 0 then 1 else 0)]) rfl rfl rfl ?_
          refine vx_if_ne (tgt := 37) dX0_read_32 (by decide) (fun c_32 => ?_) (fun c_32 => ?_)
          · have eln : (sp_ln (μ 2) e told p).1 = 0 := by
              by_cases h : (sp_ln (μ 2) e told p).1 = 0
              · exact h
              · exact absurd (if_neg h) c_32
            refine vx_eq (μ2 := (va_up (va_up (va_up μ 1 (sp_c1 μ e (sp_ln (μ 2) e told p).2.1)) 3 (sp_c30 μ)) 5 (sp_ln (μ 2) e told p).2.2)) (by rw [if_pos eln]) rfl rfl ?_
            refine vx_iinc (v := (nI (k + 1))) (ls2 := [(3, .inl (nI (k + 1))), (0, vx_r 3), (1, vx_r 1), (2, .inl (nI e))]) dX0_read_37 rfl (nI_1 _) (by decide) rfl ?_
            refine vx_aload_n dX0_read_40 rfl ?_
            refine vx_callV (b := 1) (vs := []) (st := []) (r0 := none) (μ0 := (va_up (va_up (va_up μ 1 (sp_c1 μ e (sp_run sp_bl (μ 2) e (sp_ln (μ 2) e told p).2.1))) 3 (sp_c30 μ)) 5 (sp_ln (μ 2) e told p).2.2)) dX0_read_41 (((c_X7_skipBlanks (d - 1) (by omega) ad (va_up (va_up (va_up μ 1 (sp_c1 μ e (sp_ln (μ 2) e told p).2.1)) 3 (sp_c30 μ)) 5 (sp_ln (μ 2) e told p).2.2) (sp_ln (μ 2) e told p).2.1 e rfl rfl (sp_ln_ok hlt eln).2 he3).to rfl (congrArg (fun z => va_up (va_up (va_up (va_up μ 1 (sp_c1 μ e (sp_ln (μ 2) e told p).2.1)) 3 (sp_c30 μ)) 5 (sp_ln (μ 2) e told p).2.2) 1 z) (sp_c1_s μ e _ _))).to rfl ((vx_m2 (by decide)).trans (congrArg (fun m => va_up m 5 (sp_ln (μ 2) e told p).2.2) ((vx_m2 (by decide)).trans (congrArg (fun m => va_up m 3 (sp_c30 μ)) vx_m1))))) wd_393 wd_396 wd_46 hy_X7_skipBlanks wd_394 wd_395 (by decide) ly_1 rfl rfl (by omega) (Nat.le_of_ble_eq_true rfl) (Nat.le_of_ble_eq_true rfl) (Nat.le_refl 0) (Nat.le_refl 0) ?_
            refine vx_eq (μ2 := (va_up (va_up (va_up μ 1 (sp_c1 μ e (sp_run sp_bl (μ 2) e (sp_ln (μ 2) e told p).2.1))) 3 (sp_c30 μ)) 5 (sp_ln (μ 2) e told p).2.2)) (ls2 := [(3, .inl (nI (k + 1))), (0, vx_r 3), (1, vx_r 1), (2, .inl (nI e))]) (st2 := []) rfl rfl rfl ?_
            refine vx_goto (tgt := 15) dX0_read_44 (by decide) ?_
            refine vx_keep (ls2 := [(3, .inl (nI (k + 1))), (0, vx_r 3), (1, vx_r 1), (2, .inl (nI e))]) ⟨rfl, rfl, rfl, rfl, trivial⟩ ?_
            have b := sp_ln_ok hlt eln
            have b2 := sp_run_b (P := sp_bl) (t := μ 2) (e := e) (p := (sp_ln (μ 2) e told p).2.1) b.2
            exact ih _ _ _ (by omega) (by omega) b2.2 (hZ.trans (sp_rd_s hlt eln))
          · have eln : ¬ (sp_ln (μ 2) e told p).1 = 0 := fun h => by rw [if_pos h] at c_32; exact absurd c_32 (by decide)
            rw [sp_rd_bad hlt eln] at hZ
            have hM : sp_rdM μ e = (va_up (va_up (va_up μ 1 (sp_c1 μ e (sp_ln (μ 2) e told p).2.1)) 3 (upd (upd (sp_c30 μ) 2 (sp_ln (μ 2) e told p).1) 3 (nI (sp_ln (μ 2) e told p).2.1))) 5 (sp_ln (μ 2) e told p).2.2) := by
              unfold sp_rdM; rw [hZ]; dsimp only; rw [if_neg eln, if_neg eln]; exact sp_m4.symm
            rw [hM, hZ] at hP; dsimp only at hP; rw [if_neg eln] at hP
            refine vx_iconst (v := (-1)) dX0_read_35 (by decide) ?_
            exact vx_ret (ty := .int) dX0_read_36 rfl rfl (Nat.le_refl 0) (Nat.le_refl 0) (vx_pst hP rfl (by rw [if_neg eln]))
        · refine vx_iload_n dX0_read_15 rfl ?_
          refine vx_iload_n dX0_read_16 rfl ?_
          refine vx_icmp_ge (tgt := 47) dX0_read_17 (by decide) (fun c_17 => ?_) (fun c_17 => ?_)
          · rw [sp_rd_end hlt] at hZ
            have hM : sp_rdM μ e = (va_up (va_up (va_up (va_up μ 1 (sp_c1 μ e p)) 3 (sp_c30 μ)) 4 (sp_pif (μ 4) told 6)) 5 told) := by
              unfold sp_rdM; rw [hZ]; dsimp only; rw [if_pos rfl, if_pos rfl, sp_c30_s]
            rw [hM, hZ] at hP; dsimp only at hP; rw [if_pos rfl] at hP
            refine vx_aload_n dX0_read_47 rfl ?_
            refine vx_callV (b := 3) (vs := []) (st := []) (r0 := none) (μ0 := (va_up (va_up (va_up (va_up μ 1 (sp_c1 μ e p)) 3 (sp_c30 μ)) 4 (sp_pif (μ 4) told 6)) 5 told)) dX0_read_48 ((c_X0_putInForce (d - 1) (by omega) ad 82 vx_lay (va_up (va_up (va_up μ 1 (sp_c1 μ e p)) 3 (sp_c30 μ)) 5 told) (by decide) ly_3 (by decide) ly_4 (by decide) ly_5).to rfl (vx_m2 (by decide))) wd_103 wd_106 wd_47 hy_X0_putInForce wd_105 wd_1 (by decide) ly_3 rfl rfl (by omega) (Nat.le_of_ble_eq_true rfl) (Nat.le_of_ble_eq_true rfl) (Nat.le_refl 0) (Nat.le_refl 0) ?_
            refine vx_eq (μ2 := (va_up (va_up (va_up (va_up μ 1 (sp_c1 μ e p)) 3 (sp_c30 μ)) 4 (sp_pif (μ 4) told 6)) 5 told)) (ls2 := [(3, .inl (nI k)), (0, vx_r 3), (1, vx_r 1), (2, .inl (nI e))]) (st2 := []) rfl rfl rfl ?_
            refine vx_iload_n dX0_read_51 rfl ?_
            exact vx_ret (ty := .int) dX0_read_52 rfl rfl (Nat.le_refl 0) (Nat.le_refl 0) (vx_pst hP rfl rfl)
          · refine vx_aload_n dX0_read_20 rfl ?_
            refine vx_callV (b := 1) (vs := []) (st := []) (r0 := (some (.inl 1))) (μ0 := (va_up (va_up (va_up μ 1 (sp_c1 μ e p)) 3 (sp_c30 μ)) 5 told)) dX0_read_21 ((c_X7_isAtEnd (d - 1) ad (va_up (va_up (va_up μ 1 (sp_c1 μ e p)) 3 (sp_c30 μ)) 5 told) p e rfl rfl hpe he3).to (congrArg (fun z => some (Sum.inl z)) (if_neg hlt)) rfl) wd_402 wd_405 wd_46 hy_X7_isAtEnd wd_403 wd_404 (by decide) ly_1 rfl rfl (by omega) (Nat.le_of_ble_eq_true rfl) (Nat.le_of_ble_eq_true rfl) (Nat.le_refl 0) (Nat.le_refl 0) ?_
            refine vx_eq (μ2 := (va_up (va_up (va_up μ 1 (sp_c1 μ e p)) 3 (sp_c30 μ)) 5 told)) (ls2 := [(3, .inl (nI k)), (0, vx_r 3), (1, vx_r 1), (2, .inl (nI e))]) (st2 := [.inl 1]) rfl rfl rfl ?_
            refine vx_if_ne (tgt := 47) dX0_read_24 (by decide) (fun _ => ?_) (fun h => absurd h (by decide))
            rw [sp_rd_end hlt] at hZ
            have hM : sp_rdM μ e = (va_up (va_up (va_up (va_up μ 1 (sp_c1 μ e p)) 3 (sp_c30 μ)) 4 (sp_pif (μ 4) told 6)) 5 told) := by
              unfold sp_rdM; rw [hZ]; dsimp only; rw [if_pos rfl, if_pos rfl, sp_c30_s]
            rw [hM, hZ] at hP; dsimp only at hP; rw [if_pos rfl] at hP
            refine vx_aload_n dX0_read_47 rfl ?_
            refine vx_callV (b := 3) (vs := []) (st := []) (r0 := none) (μ0 := (va_up (va_up (va_up (va_up μ 1 (sp_c1 μ e p)) 3 (sp_c30 μ)) 4 (sp_pif (μ 4) told 6)) 5 told)) dX0_read_48 ((c_X0_putInForce (d - 1) (by omega) ad 82 vx_lay (va_up (va_up (va_up μ 1 (sp_c1 μ e p)) 3 (sp_c30 μ)) 5 told) (by decide) ly_3 (by decide) ly_4 (by decide) ly_5).to rfl (vx_m2 (by decide))) wd_103 wd_106 wd_47 hy_X0_putInForce wd_105 wd_1 (by decide) ly_3 rfl rfl (by omega) (Nat.le_of_ble_eq_true rfl) (Nat.le_of_ble_eq_true rfl) (Nat.le_refl 0) (Nat.le_refl 0) ?_
            refine vx_eq (μ2 := (va_up (va_up (va_up (va_up μ 1 (sp_c1 μ e p)) 3 (sp_c30 μ)) 4 (sp_pif (μ 4) told 6)) 5 told)) (ls2 := [(3, .inl (nI k)), (0, vx_r 3), (1, vx_r 1), (2, .inl (nI e))]) (st2 := []) rfl rfl rfl ?_
            refine vx_iload_n dX0_read_51 rfl ?_
            exact vx_ret (ty := .int) dX0_read_52 rfl rfl (Nat.le_refl 0) (Nat.le_refl 0) (vx_pst hP rfl rfl)
    refine vx_aload_n dX0_read_0 rfl ?_
    refine vx_callV (b := 3) (vs := []) (st := []) (r0 := none) (μ0 := (va_up (va_up μ 3 (sp_c30 μ)) 5 (sp_no (μ 5)))) dX0_read_1 (c_X0_forgetTold (d - 1) (by omega) ad 82 vx_lay μ (by decide) ly_3 (by decide) ly_4 (by decide) ly_5) wd_96 wd_99 wd_47 hy_X0_forgetTold wd_98 wd_0 (by decide) ly_3 rfl rfl (by omega) (Nat.le_of_ble_eq_true rfl) (Nat.le_of_ble_eq_true rfl) (Nat.le_refl 0) (Nat.le_refl 0) ?_
    refine vx_eq (μ2 := (va_up (va_up μ 3 (sp_c30 μ)) 5 (sp_no (μ 5)))) (ls2 := [(0, vx_r 3), (1, vx_r 1), (2, .inl (nI e))]) (st2 := []) rfl rfl rfl ?_
    refine vx_aload_n dX0_read_4 rfl ?_
    refine vx_iload_n dX0_read_5 rfl ?_
    refine vx_callV (b := 1) (vs := [.inl (nI e)]) (st := []) (r0 := none) (μ0 := (va_up (va_up (va_up μ 1 (upd (upd (μ 1) 2 0) 3 (nI e))) 3 (sp_c30 μ)) 5 (sp_no (μ 5)))) dX0_read_6 ((c_X7_readFirst (d - 1) ad (va_up (va_up μ 3 (sp_c30 μ)) 5 (sp_no (μ 5))) (nI e)).to rfl ((vx_m2 (by decide)).trans (congrArg (fun m => va_up m 5 (sp_no (μ 5))) (vx_m2 (by decide))))) wd_389 wd_392 wd_46 hy_X7_readFirst wd_390 wd_391 (by decide) ly_1 rfl rfl (by omega) (Nat.le_of_ble_eq_true rfl) (Nat.le_of_ble_eq_true rfl) (Nat.le_refl 0) (Nat.le_refl 0) ?_
    refine vx_eq (μ2 := (va_up (va_up (va_up μ 1 (upd (upd (μ 1) 2 0) 3 (nI e))) 3 (sp_c30 μ)) 5 (sp_no (μ 5)))) (ls2 := [(0, vx_r 3), (1, vx_r 1), (2, .inl (nI e))]) (st2 := []) rfl rfl rfl ?_
    refine vx_aload_n dX0_read_9 rfl ?_
    refine vx_callV (b := 1) (vs := []) (st := []) (r0 := none) (μ0 := (va_up (va_up (va_up μ 1 (sp_c1 μ e (sp_run sp_bl (μ 2) e 0))) 3 (sp_c30 μ)) 5 (sp_no (μ 5)))) dX0_read_10 ((c_X7_skipBlanks (d - 1) (by omega) ad (va_up (va_up (va_up μ 1 (upd (upd (μ 1) 2 0) 3 (nI e))) 3 (sp_c30 μ)) 5 (sp_no (μ 5))) 0 e rfl rfl (by omega) he3).to rfl ((vx_m2 (by decide)).trans (congrArg (fun m => va_up m 5 (sp_no (μ 5))) ((vx_m2 (by decide)).trans (congrArg (fun m => va_up m 3 (sp_c30 μ)) vx_m1))))) wd_393 wd_396 wd_46 hy_X7_skipBlanks wd_394 wd_395 (by decide) ly_1 rfl rfl (by omega) (Nat.le_of_ble_eq_true rfl) (Nat.le_of_ble_eq_true rfl) (Nat.le_refl 0) (Nat.le_refl 0) ?_
    refine vx_eq (μ2 := (va_up (va_up (va_up μ 1 (sp_c1 μ e (sp_run sp_bl (μ 2) e 0))) 3 (sp_c30 μ)) 5 (sp_no (μ 5)))) (ls2 := [(0, vx_r 3), (1, vx_r 1), (2, .inl (nI e))]) (st2 := []) rfl rfl rfl ?_
    refine vx_iconst (v := 0) dX0_read_13 (by decide) ?_
    refine vx_istore_n (ls2 := [(3, .inl 0), (0, vx_r 3), (1, vx_r 1), (2, .inl (nI e))]) dX0_read_14 (by decide) rfl ?_
    have b0 := sp_run_b (P := sp_bl) (t := μ 2) (e := e) (p := 0) (by omega)
    exact loop (e + 1) _ 0 _ (by omega) (by omega) b0.2 rfl
  exact vx_J.M pn_X0_read (Nat.le_of_ble_eq_true rfl) (key _ _ ⟨rfl, rfl, rfl, rfl, rfl⟩)
end
