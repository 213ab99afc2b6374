section
/-- what is owed when f owes the first t givers -/
def sp_owe (μ : vx_mem) (gv : Nat → Int32) (f t : Nat) : vx_mem := fun p j => if 30 ≤ p ∧ p < 38 then (if p = 30 + f ∧ 1 ≤ j ∧ j ≤ t ∧ j ≠ f then μ p j + gv j else if j = f ∧ 31 ≤ p ∧ p ≤ 30 + t ∧ p ≠ 30 + f then μ p j - gv (p - 30) else μ p j) else μ p j
theorem sp_owe0 (μ : vx_mem) (gv : Nat → Int32) (f : Nat) : sp_owe μ gv f 0 = μ := by
  funext p j
  unfold sp_owe
  rw [if_neg (show ¬ (p = 30 + f ∧ 1 ≤ j ∧ j ≤ 0 ∧ j ≠ f) by omega), if_neg (show ¬ (j = f ∧ 31 ≤ p ∧ p ≤ 30 + 0 ∧ p ≠ 30 + f) by omega)]
  split <;> rfl
theorem sp_owe_f (μ : vx_mem) (gv : Nat → Int32) (f : Nat) (h : 1 ≤ f) : sp_owe μ gv f (f + 1 - 1) = sp_owe μ gv f (f - 1) := by
  funext p j
  unfold sp_owe
  by_cases hp : 30 ≤ p ∧ p < 38
  · rw [if_pos hp, if_pos hp]
    by_cases h1 : p = 30 + f ∧ 1 ≤ j ∧ j ≤ f - 1 ∧ j ≠ f
    · rw [if_pos h1, if_pos (by omega)]
    · rw [if_neg h1, if_neg (by omega)]
      by_cases h2 : j = f ∧ 31 ≤ p ∧ p ≤ 30 + (f - 1) ∧ p ≠ 30 + f
      · rw [if_pos h2, if_pos (by omega)]
      · rw [if_neg h2, if_neg (by omega)]
  · rw [if_neg hp, if_neg hp]
theorem sp_owe_at (μ : vx_mem) (gv : Nat → Int32) {f g : Nat} (hf : f < 8) (hg : g < 8) (h1 : 1 ≤ g) (hne : ¬ g = f) : sp_owe μ gv f (g - 1) (30 + f) g = μ (30 + f) g ∧ sp_owe μ gv f (g - 1) (30 + g) f = μ (30 + g) f := by
  unfold sp_owe
  constructor
  · rw [if_pos (by omega), if_neg (by omega), if_neg (by omega)]
  · rw [if_pos (by omega), if_neg (by omega), if_neg (by omega)]
theorem sp_owe_s (μ : vx_mem) (gv : Nat → Int32) {f g : Nat} (hf : f < 8) (hg : g < 8) (hf1 : 1 ≤ f) (h1 : 1 ≤ g) (hne : ¬ g = f) : sp_set (sp_set (sp_owe μ gv f (g - 1)) 30 f g (sp_owe μ gv f (g - 1) (30 + f) g + gv g)) 30 g f (sp_set (sp_owe μ gv f (g - 1)) 30 f g (sp_owe μ gv f (g - 1) (30 + f) g + gv g) (30 + g) f - gv g) = sp_owe μ gv f (g + 1 - 1) := by
  obtain ⟨e1, e2⟩ := sp_owe_at μ gv hf hg h1 hne
  have e3 : sp_set (sp_owe μ gv f (g - 1)) 30 f g (sp_owe μ gv f (g - 1) (30 + f) g + gv g) (30 + g) f = μ (30 + g) f := by
    unfold sp_set va_up
    rw [if_neg (by omega)]
    exact e2
  rw [e3, e1]
  funext p j
  unfold sp_set va_up
  by_cases hp : p = 30 + g
  · subst hp
    simp only [if_pos]
    rw [if_neg (show ¬ 30 + g = 30 + f by omega)]
    unfold upd
    by_cases hj : j = f
    · subst hj
      rw [if_pos rfl]
      unfold sp_owe
      (repeat' split) <;> first | rfl | (exfalso; omega) | (rw [show 30 + g - 30 = g by omega])
    · rw [if_neg hj]
      unfold sp_owe
      (repeat' split) <;> first | rfl | (exfalso; omega)
  · rw [if_neg hp]
    by_cases hq : p = 30 + f
    · subst hq
      rw [if_pos rfl]
      unfold upd
      by_cases hj : j = g
      · subst hj
        rw [if_pos rfl]
        unfold sp_owe
        (repeat' split) <;> first | rfl | (exfalso; omega)
      · rw [if_neg hj]
        unfold sp_owe
        (repeat' split) <;> first | rfl | (exfalso; omega)
    · rw [if_neg hq]
      unfold sp_owe
      (repeat' split) <;> first | rfl | (exfalso; omega)

set_option maxRecDepth 20000 in
set_option maxHeartbeats 2000000 in
theorem c_X1_oweTheGivers (d : Nat) (hd : 1 ≤ d) (ad : Nat → Nat) (μ : vx_mem) (n f : Nat) (hn : n ≤ 7) (h1 : 1 ≤ f) (hf : f < 8) : vx_Mf yX1_oweTheGivers cX1_oweTheGivers 5 none d ad 82 vx_lay μ [vx_r 28, .inl (nI n), .inl (nI f)] none (sp_owe μ (μ 38) f n) := by
  have key : ∀ (Post : vx_P) (ini : Bool), Post none ad 82 vx_lay (sp_owe μ (μ 38) f n) → vx_J RX1 cX1_oweTheGivers 5 none ini d 0 0 Post ad 0 0 82 vx_lay μ 0 [(0, vx_r 28), (1, .inl (nI n)), (2, .inl (nI f))] [] := by
    intro Post ini hP
    have loop : ∀ (r g : Nat), g + r = n + 1 → 1 ≤ g → vx_J RX1 cX1_oweTheGivers 5 none ini d 0 0 Post ad 0 0 82 vx_lay (sp_owe μ (μ 38) f (g - 1)) 2 [(3, .inl (nI g)), (0, vx_r 28), (1, .inl (nI n)), (2, .inl (nI f))] [] := by
      intro r
      induction r with
      | zero =>
        intro g hg hg1
        refine vx_iload_n dX1_oweTheGivers_2 rfl ?_
        refine vx_iload_n dX1_oweTheGivers_3 rfl ?_
        refine vx_icmp_gt (tgt := 70) dX1_oweTheGivers_4 (by decide) (fun _ => ?_) (fun h => absurd (by show (nI (n) < nI (g)); rw [nI_ltI (by omega) (by omega)]; omega) h)
        exact vx_vret dX1_oweTheGivers_70 rfl (Nat.le_refl 0) (Nat.le_refl 0) (vx_pst hP rfl (by rw [show g - 1 = n by omega]))
      | succ r ih =>
        intro g hg hg1
        refine vx_iload_n dX1_oweTheGivers_2 rfl ?_
        refine vx_iload_n dX1_oweTheGivers_3 rfl ?_
        refine vx_icmp_gt (tgt := 70) dX1_oweTheGivers_4 (by decide) (fun h => absurd h (by show ¬ (nI (n) < nI (g)); rw [nI_ltI (by omega) (by omega)]; omega)) (fun _ => ?_)
        refine vx_iload_n dX1_oweTheGivers_7 rfl ?_
        refine vx_iload_n dX1_oweTheGivers_8 rfl ?_
        refine vx_icmp_eq (tgt := 64) dX1_oweTheGivers_9 (by decide) (fun c_9 => ?_) (fun c_9 => ?_)
        · refine vx_iinc (v := (nI (g + 1))) (ls2 := [(3, .inl (nI (g + 1))), (0, vx_r 28), (1, .inl (nI n)), (2, .inl (nI f))]) dX1_oweTheGivers_64 rfl (nI_1 _) (by decide) rfl ?_
          refine vx_goto (tgt := 2) dX1_oweTheGivers_67 (by decide) ?_
          refine vx_keep (ls2 := [(3, .inl (nI (g + 1))), (0, vx_r 28), (1, .inl (nI n)), (2, .inl (nI f))]) ⟨rfl, rfl, rfl, rfl, trivial⟩ ?_
          have e : g = f := by rw [nI_eq (by omega) (by omega)] at c_9; exact c_9
          refine vx_eq (μ2 := (sp_owe μ (μ 38) f (g + 1 - 1))) (by rw [e]; exact (sp_owe_f μ (μ 38) f h1).symm) rfl rfl ?_
          exact ih (g + 1) (by omega) (by omega)
        · refine vx_aload_n dX1_oweTheGivers_12 rfl ?_
          refine vx_getR (ci := 1) (T := TX1) (n := 2) (j := 1) (a := 28) (r := 38) dX1_oweTheGivers_13 rfl lay_X1 (by decide) wd_210 (by decide) ly_28 rfl ?_
          refine vx_iload_n dX1_oweTheGivers_16 rfl ?_
          refine vx_callX (vs := [vx_r 38, .inl (nI g)]) (st := []) (r0 := (some (.inl (μ 38 g)))) (μ0 := (sp_owe μ (μ 38) f (g - 1))) dX1_oweTheGivers_17 ((c_X8_at (d - 1) ad 82 vx_lay (sp_owe μ (μ 38) f (g - 1)) 38 8 (by decide) ly_38 (by decide) (nI g)).to (by first | rfl | (exact congrArg (fun z => some (Sum.inl z)) (sp_at_nI (k := g) _ (by omega) (by decide)))) rfl) nst_10 wd_109 wd_45 hy_X8_at wd_108 (by omega) (Nat.le_of_ble_eq_true rfl) (Nat.le_of_ble_eq_true rfl) (Nat.le_refl 0) (Nat.le_refl 0) ?_
          refine vx_eq (μ2 := (sp_owe μ (μ 38) f (g - 1))) (ls2 := [(3, .inl (nI g)), (0, vx_r 28), (1, .inl (nI n)), (2, .inl (nI f))]) (st2 := [.inl (μ 38 g)]) rfl rfl rfl ?_
          refine vx_istore (ls2 := [(4, .inl (μ 38 g)), (3, .inl (nI g)), (0, vx_r 28), (1, .inl (nI n)), (2, .inl (nI f))]) dX1_oweTheGivers_20 (by decide) rfl ?_
          refine vx_aload_n dX1_oweTheGivers_22 rfl ?_
          refine vx_getR (ci := 1) (T := TX1) (n := 2) (j := 0) (a := 28) (r := 29) dX1_oweTheGivers_23 rfl lay_X1 (by decide) wd_208 (by decide) ly_28 rfl ?_
          refine vx_iload_n dX1_oweTheGivers_26 rfl ?_
          refine vx_iload_n dX1_oweTheGivers_27 rfl ?_
          refine vx_aload_n dX1_oweTheGivers_28 rfl ?_
          refine vx_getR (ci := 1) (T := TX1) (n := 2) (j := 0) (a := 28) (r := 29) dX1_oweTheGivers_29 rfl lay_X1 (by decide) wd_208 (by decide) ly_28 rfl ?_
          refine vx_iload_n dX1_oweTheGivers_32 rfl ?_
          refine vx_iload_n dX1_oweTheGivers_33 rfl ?_
          refine vx_callX (vs := [vx_r 29, .inl (nI f), .inl (nI g)]) (st := [.inl (nI g), .inl (nI f), vx_r 29]) (r0 := (some (.inl ((sp_owe μ (μ 38) f (g - 1)) (30 + f) g)))) (μ0 := (sp_owe μ (μ 38) f (g - 1))) dX1_oweTheGivers_34 ((c_X8_at_ (d - 1) ad 82 vx_lay (sp_owe μ (μ 38) f (g - 1)) 29 8 8 [30, 31, 32, 33, 34, 35, 36, 37] (by decide) ly_29 (by decide) (by decide) rfl rows_29 (nI f) (nI g)).to (congrArg (fun z => some (Sum.inl z)) (sp_at2_30 _ (a := f) (b := g) (by omega) (by omega))) rfl) nst_11 wd_568 wd_45 hy_X8_at_ wd_567 (by omega) (Nat.le_of_ble_eq_true rfl) (Nat.le_of_ble_eq_true rfl) (Nat.le_refl 0) (Nat.le_refl 0) ?_
          refine vx_eq (μ2 := (sp_owe μ (μ 38) f (g - 1))) (ls2 := [(4, .inl (μ 38 g)), (3, .inl (nI g)), (0, vx_r 28), (1, .inl (nI n)), (2, .inl (nI f))]) (st2 := [.inl ((sp_owe μ (μ 38) f (g - 1)) (30 + f) g), .inl (nI g), .inl (nI f), vx_r 29]) rfl rfl rfl ?_
          refine vx_iload dX1_oweTheGivers_37 rfl ?_
          refine vx_iadd dX1_oweTheGivers_39 ?_
          refine vx_callX (vs := [vx_r 29, .inl (nI f), .inl (nI g), .inl (((sp_owe μ (μ 38) f (g - 1)) (30 + f) g) + (μ 38 g))]) (st := []) (r0 := none) (μ0 := (sp_set (sp_owe μ (μ 38) f (g - 1)) 30 f g (((sp_owe μ (μ 38) f (g - 1)) (30 + f) g) + (μ 38 g)))) dX1_oweTheGivers_40 ((c_X8_put_ (d - 1) ad 82 vx_lay (sp_owe μ (μ 38) f (g - 1)) 29 8 8 [30, 31, 32, 33, 34, 35, 36, 37] (by decide) ly_29 (by decide) (by decide) rfl rows_29 (nI f) (nI g) (((sp_owe μ (μ 38) f (g - 1)) (30 + f) g) + (μ 38 g))).to rfl (sp_put2_30 _ (a := f) (b := g) _ (by omega) (by omega))) nst_17 wd_195 wd_45 hy_X8_put_ wd_194 (by omega) (Nat.le_of_ble_eq_true rfl) (Nat.le_of_ble_eq_true rfl) (Nat.le_refl 0) (Nat.le_refl 0) ?_
          refine vx_eq (μ2 := (sp_set (sp_owe μ (μ 38) f (g - 1)) 30 f g (((sp_owe μ (μ 38) f (g - 1)) (30 + f) g) + (μ 38 g)))) (ls2 := [(4, .inl (μ 38 g)), (3, .inl (nI g)), (0, vx_r 28), (1, .inl (nI n)), (2, .inl (nI f))]) (st2 := []) rfl rfl rfl ?_
          refine vx_aload_n dX1_oweTheGivers_43 rfl ?_
          refine vx_getR (ci := 1) (T := TX1) (n := 2) (j := 0) (a := 28) (r := 29) dX1_oweTheGivers_44 rfl lay_X1 (by decide) wd_208 (by decide) ly_28 rfl ?_
          refine vx_iload_n dX1_oweTheGivers_47 rfl ?_
          refine vx_iload_n dX1_oweTheGivers_48 rfl ?_
          refine vx_aload_n dX1_oweTheGivers_49 rfl ?_
          refine vx_getR (ci := 1) (T := TX1) (n := 2) (j := 0) (a := 28) (r := 29) dX1_oweTheGivers_50 rfl lay_X1 (by decide) wd_208 (by decide) ly_28 rfl ?_
          refine vx_iload_n dX1_oweTheGivers_53 rfl ?_
          refine vx_iload_n dX1_oweTheGivers_54 rfl ?_
          refine vx_callX (vs := [vx_r 29, .inl (nI g), .inl (nI f)]) (st := [.inl (nI f), .inl (nI g), vx_r 29]) (r0 := (some (.inl ((sp_set (sp_owe μ (μ 38) f (g - 1)) 30 f g (((sp_owe μ (μ 38) f (g - 1)) (30 + f) g) + (μ 38 g))) (30 + g) f)))) (μ0 := (sp_set (sp_owe μ (μ 38) f (g - 1)) 30 f g (((sp_owe μ (μ 38) f (g - 1)) (30 + f) g) + (μ 38 g)))) dX1_oweTheGivers_55 ((c_X8_at_ (d - 1) ad 82 vx_lay (sp_set (sp_owe μ (μ 38) f (g - 1)) 30 f g (((sp_owe μ (μ 38) f (g - 1)) (30 + f) g) + (μ 38 g))) 29 8 8 [30, 31, 32, 33, 34, 35, 36, 37] (by decide) ly_29 (by decide) (by decide) rfl rows_29 (nI g) (nI f)).to (congrArg (fun z => some (Sum.inl z)) (sp_at2_30 _ (a := g) (b := f) (by omega) (by omega))) rfl) nst_11 wd_568 wd_45 hy_X8_at_ wd_567 (by omega) (Nat.le_of_ble_eq_true rfl) (Nat.le_of_ble_eq_true rfl) (Nat.le_refl 0) (Nat.le_refl 0) ?_
          refine vx_eq (μ2 := (sp_set (sp_owe μ (μ 38) f (g - 1)) 30 f g (((sp_owe μ (μ 38) f (g - 1)) (30 + f) g) + (μ 38 g)))) (ls2 := [(4, .inl (μ 38 g)), (3, .inl (nI g)), (0, vx_r 28), (1, .inl (nI n)), (2, .inl (nI f))]) (st2 := [.inl ((sp_set (sp_owe μ (μ 38) f (g - 1)) 30 f g (((sp_owe μ (μ 38) f (g - 1)) (30 + f) g) + (μ 38 g))) (30 + g) f), .inl (nI f), .inl (nI g), vx_r 29]) rfl rfl rfl ?_
          refine vx_iload dX1_oweTheGivers_58 rfl ?_
          refine vx_isub dX1_oweTheGivers_60 ?_
          refine vx_callX (vs := [vx_r 29, .inl (nI g), .inl (nI f), .inl (((sp_set (sp_owe μ (μ 38) f (g - 1)) 30 f g (((sp_owe μ (μ 38) f (g - 1)) (30 + f) g) + (μ 38 g))) (30 + g) f) - (μ 38 g))]) (st := []) (r0 := none) (μ0 := (sp_set (sp_set (sp_owe μ (μ 38) f (g - 1)) 30 f g (((sp_owe μ (μ 38) f (g - 1)) (30 + f) g) + (μ 38 g))) 30 g f (((sp_set (sp_owe μ (μ 38) f (g - 1)) 30 f g (((sp_owe μ (μ 38) f (g - 1)) (30 + f) g) + (μ 38 g))) (30 + g) f) - (μ 38 g)))) dX1_oweTheGivers_61 ((c_X8_put_ (d - 1) ad 82 vx_lay (sp_set (sp_owe μ (μ 38) f (g - 1)) 30 f g (((sp_owe μ (μ 38) f (g - 1)) (30 + f) g) + (μ 38 g))) 29 8 8 [30, 31, 32, 33, 34, 35, 36, 37] (by decide) ly_29 (by decide) (by decide) rfl rows_29 (nI g) (nI f) (((sp_set (sp_owe μ (μ 38) f (g - 1)) 30 f g (((sp_owe μ (μ 38) f (g - 1)) (30 + f) g) + (μ 38 g))) (30 + g) f) - (μ 38 g))).to rfl (sp_put2_30 _ (a := g) (b := f) _ (by omega) (by omega))) nst_17 wd_195 wd_45 hy_X8_put_ wd_194 (by omega) (Nat.le_of_ble_eq_true rfl) (Nat.le_of_ble_eq_true rfl) (Nat.le_refl 0) (Nat.le_refl 0) ?_
          refine vx_eq (μ2 := (sp_set (sp_set (sp_owe μ (μ 38) f (g - 1)) 30 f g (((sp_owe μ (μ 38) f (g - 1)) (30 + f) g) + (μ 38 g))) 30 g f (((sp_set (sp_owe μ (μ 38) f (g - 1)) 30 f g (((sp_owe μ (μ 38) f (g - 1)) (30 + f) g) + (μ 38 g))) (30 + g) f) - (μ 38 g)))) (ls2 := [(4, .inl (μ 38 g)), (3, .inl (nI g)), (0, vx_r 28), (1, .inl (nI n)), (2, .inl (nI f))]) (st2 := []) rfl rfl rfl ?_
          refine vx_iinc (v := (nI (g + 1))) (ls2 := [(3, .inl (nI (g + 1))), (4, .inl (μ 38 g)), (0, vx_r 28), (1, .inl (nI n)), (2, .inl (nI f))]) dX1_oweTheGivers_64 rfl (nI_1 _) (by decide) rfl ?_
          refine vx_goto (tgt := 2) dX1_oweTheGivers_67 (by decide) ?_
          refine vx_keep (ls2 := [(3, .inl (nI (g + 1))), (0, vx_r 28), (1, .inl (nI n)), (2, .inl (nI f))]) ⟨rfl, rfl, rfl, rfl, trivial⟩ ?_
          have e : ¬ g = f := by rw [nI_eq (by omega) (by omega)] at c_9; exact c_9
          refine vx_eq (μ2 := (sp_owe μ (μ 38) f (g + 1 - 1))) (sp_owe_s μ (μ 38) hf (by omega) h1 hg1 e) rfl rfl ?_
          exact ih (g + 1) (by omega) (by omega)
    refine vx_iconst (v := 1) dX1_oweTheGivers_0 (by decide) ?_
    refine vx_istore_n (ls2 := [(3, .inl 1), (0, vx_r 28), (1, .inl (nI n)), (2, .inl (nI f))]) dX1_oweTheGivers_1 (by decide) rfl ?_
    refine vx_eq (μ2 := (sp_owe μ (μ 38) f (1 - 1))) (show μ = sp_owe μ (μ 38) f (1 - 1) from (sp_owe0 μ (μ 38) f).symm) rfl rfl ?_
    exact loop n 1 (by omega) (by omega)
  exact vx_J.M pn_X1_oweTheGivers (Nat.le_of_ble_eq_true rfl) (key _ _ ⟨rfl, rfl, rfl, rfl, rfl⟩)
end
