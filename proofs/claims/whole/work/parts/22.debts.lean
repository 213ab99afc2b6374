section
theorem sp_nm1 {k : Nat} (h : k ≤ 7) : ¬ nI k = -1 := by
  rcases (show k = 0 ∨ k = 1 ∨ k = 2 ∨ k = 3 ∨ k = 4 ∨ k = 5 ∨ k = 6 ∨ k = 7 by omega) with rfl | rfl | rfl | rfl | rfl | rfl | rfl | rfl <;> decide
/-- the place of who is asked next among the first k: unasked ones (-1 in gv), the most owed, of like ones the first; 0: none -/
def sp_next (gv ow : Nat → Int32) : Nat → Nat
  | 0 => 0
  | g + 1 => if gv (g + 1) = -1 ∧ (sp_next gv ow g = 0 ∨ ow (sp_next gv ow g) < ow (g + 1)) then g + 1 else sp_next gv ow g
theorem sp_next_le (gv ow : Nat → Int32) : ∀ k, sp_next gv ow k ≤ k
  | 0 => Nat.le_refl 0
  | k + 1 => by
    have := sp_next_le gv ow k
    unfold sp_next
    split <;> omega
theorem sp_next_s {gv ow : Nat → Int32} {g : Nat} (h : 1 ≤ g) : sp_next gv ow (g + 1 - 1) = if gv g = -1 ∧ (sp_next gv ow (g - 1) = 0 ∨ ow (sp_next gv ow (g - 1)) < ow g) then g else sp_next gv ow (g - 1) := by
  obtain ⟨j, rfl⟩ : ∃ j, g = j + 1 := ⟨g - 1, by omega⟩
  rfl
def sp_nx (k : Nat) : Int32 := if k = 0 then -1 else nI k
theorem sp_nx0 : sp_nx 0 = -1 := rfl
theorem sp_nxp {k : Nat} (h : ¬ k = 0) : sp_nx k = nI k := if_neg h

set_option maxRecDepth 20000 in
set_option maxHeartbeats 2000000 in
theorem c_X1_nextLender (d : Nat) (hd : 1 ≤ d) (ad : Nat → Nat) (μ : vx_mem) (n f : Nat) (hn : n ≤ 7) (hf : f < 8) : vx_Mf yX1_nextLender cX1_nextLender 6 (some (.int)) d ad 82 vx_lay μ [vx_r 28, .inl (nI n), .inl (nI f)] (some (.inl (sp_nx (sp_next (μ 38) (fun q => μ (30 + q) f) n)))) μ := by
  have key : ∀ (Post : vx_P) (ini : Bool), Post (some (.inl (sp_nx (sp_next (μ 38) (fun q => μ (30 + q) f) n)))) ad 82 vx_lay μ → vx_J RX1 cX1_nextLender 6 (some (.int)) ini d 0 0 Post ad 0 0 82 vx_lay μ 0 [(0, vx_r 28), (1, .inl (nI n)), (2, .inl (nI f))] [] := by
    intro Post ini hP
    have loop : ∀ (r g nx : Nat), g + r = n + 1 → 1 ≤ g → nx = sp_next (μ 38) (fun q => μ (30 + q) f) (g - 1) → vx_J RX1 cX1_nextLender 6 (some (.int)) ini d 0 0 Post ad 0 0 82 vx_lay μ 5 [(4, .inl (nI g)), (3, .inl (sp_nx nx)), (0, vx_r 28), (1, .inl (nI n)), (2, .inl (nI f))] [] := by
      intro r
      induction r with
      | zero =>
        intro g nx hg h1 hx
        refine vx_iload dX1_nextLender_5 rfl ?_
        refine vx_iload_n dX1_nextLender_7 rfl ?_
        refine vx_icmp_gt (tgt := 72) dX1_nextLender_8 (by decide) (fun _ => ?_) (fun h => absurd (by show (nI (n) < nI (g)); rw [nI_ltI (by omega) (by omega)]; omega) h)
        refine vx_iload_n dX1_nextLender_72 rfl ?_
        exact vx_ret (ty := .int) dX1_nextLender_73 rfl rfl (Nat.le_refl 0) (Nat.le_refl 0) (vx_pst hP (by rw [hx, show g - 1 = n by omega]) rfl)
      | succ r ih =>
        intro g nx hg h1 hx
        have hle : nx ≤ 7 := by rw [hx]; exact Nat.le_trans (sp_next_le _ _ _) (by omega)
        refine vx_iload dX1_nextLender_5 rfl ?_
        refine vx_iload_n dX1_nextLender_7 rfl ?_
        refine vx_icmp_gt (tgt := 72) dX1_nextLender_8 (by decide) (fun h => absurd h (by show ¬ (nI (n) < nI (g)); rw [nI_ltI (by omega) (by omega)]; omega)) (fun _ => ?_)
        refine vx_aload_n dX1_nextLender_11 rfl ?_
        refine vx_getR (ci := 1) (T := TX1) (n := 2) (j := 1) (a := 28) (r := 38) dX1_nextLender_12 rfl lay_X1 (by decide) wd_210 (by decide) ly_28 rfl ?_
        refine vx_iload dX1_nextLender_15 rfl ?_
        refine vx_callX (vs := [vx_r 38, .inl (nI g)]) (st := []) (r0 := (some (.inl (μ 38 g)))) (μ0 := μ) dX1_nextLender_17 ((c_X8_at (d - 1) ad 82 vx_lay μ 38 8 (by decide) ly_38 (by decide) (nI g)).to (by first | rfl | (exact congrArg (fun z => some (Sum.inl z)) (sp_at_nI (k := g) _ (by omega) (by decide)))) rfl) nst_10 wd_109 wd_45 hy_X8_at wd_108 (by omega) (Nat.le_of_ble_eq_true rfl) (Nat.le_of_ble_eq_true rfl) (Nat.le_refl 0) (Nat.le_refl 0) ?_
        refine vx_eq (μ2 := μ) (ls2 := [(4, .inl (nI g)), (3, .inl (sp_nx nx)), (0, vx_r 28), (1, .inl (nI n)), (2, .inl (nI f))]) (st2 := [.inl (μ 38 g)]) rfl rfl rfl ?_
        refine vx_iconst (v := (-1)) dX1_nextLender_20 (by decide) ?_
        refine vx_icmp_ne (tgt := 28) dX1_nextLender_21 (by decide) (fun c_21 => ?_) (fun c_21 => ?_)
        · have cg : ¬ μ 38 g = -1 := c_21
          refine vx_iconst (v := 0) dX1_nextLender_28 (by decide) ?_
          refine vx_istore (ls2 := [(5, .inl 0), (4, .inl (nI g)), (3, .inl (sp_nx nx)), (0, vx_r 28), (1, .inl (nI n)), (2, .inl (nI f))]) dX1_nextLender_29 (by decide) rfl ?_
          refine vx_iload dX1_nextLender_31 rfl ?_
          refine vx_if_eq (tgt := 66) dX1_nextLender_33 (by decide) (fun _ => ?_) (fun h => absurd h (by decide))
          refine vx_iinc (v := (nI (g + 1))) (ls2 := [(4, .inl (nI (g + 1))), (5, .inl 0), (3, .inl (sp_nx nx)), (0, vx_r 28), (1, .inl (nI n)), (2, .inl (nI f))]) dX1_nextLender_66 rfl (nI_1 _) (by decide) rfl ?_
          refine vx_goto (tgt := 5) dX1_nextLender_69 (by decide) ?_
          refine vx_keep (ls2 := [(4, .inl (nI (g + 1))), (3, .inl (sp_nx nx)), (0, vx_r 28), (1, .inl (nI n)), (2, .inl (nI f))]) ⟨rfl, rfl, rfl, rfl, rfl, trivial⟩ ?_
          exact ih (g + 1) nx (by omega) (by omega) (by rw [sp_next_s h1, ← hx, if_neg]; first | (exact fun h => cg h.1) | (rintro ⟨_, h | h⟩ <;> first | exact hnx h | exact Int32.not_lt.mpr c_60 h))
        · have cg : μ 38 g = -1 := c_21
          refine vx_iconst (v := 1) dX1_nextLender_24 (by decide) ?_
          refine vx_goto (tgt := 29) dX1_nextLender_25 (by decide) ?_
          refine vx_istore (ls2 := [(5, .inl 1), (4, .inl (nI g)), (3, .inl (sp_nx nx)), (0, vx_r 28), (1, .inl (nI n)), (2, .inl (nI f))]) dX1_nextLender_29 (by decide) rfl ?_
          refine vx_iload dX1_nextLender_31 rfl ?_
          refine vx_if_eq (tgt := 66) dX1_nextLender_33 (by decide) (fun h => absurd h (by decide)) (fun _ => ?_)
          by_cases hnx : nx = 0
          · refine vx_eq (ls2 := [(5, .inl 1), (4, .inl (nI g)), (3, .inl (-1)), (0, vx_r 28), (1, .inl (nI n)), (2, .inl (nI f))]) rfl (by rw [hnx]; rfl) rfl ?_
            refine vx_iload_n dX1_nextLender_36 rfl ?_
            refine vx_iconst (v := (-1)) dX1_nextLender_37 (by decide) ?_
            refine vx_icmp_eq (tgt := 63) dX1_nextLender_38 (by decide) (fun _ => ?_) (fun h => absurd h (by decide))
            refine vx_iload dX1_nextLender_63 rfl ?_
            refine vx_istore_n (ls2 := [(3, .inl (nI g)), (5, .inl 1), (4, .inl (nI g)), (0, vx_r 28), (1, .inl (nI n)), (2, .inl (nI f))]) dX1_nextLender_65 (by decide) rfl ?_
            refine vx_iinc (v := (nI (g + 1))) (ls2 := [(4, .inl (nI (g + 1))), (3, .inl (nI g)), (5, .inl 1), (0, vx_r 28), (1, .inl (nI n)), (2, .inl (nI f))]) dX1_nextLender_66 rfl (nI_1 _) (by decide) rfl ?_
            refine vx_goto (tgt := 5) dX1_nextLender_69 (by decide) ?_
            refine vx_keep (ls2 := [(4, .inl (nI (g + 1))), (3, .inl (nI g)), (0, vx_r 28), (1, .inl (nI n)), (2, .inl (nI f))]) ⟨rfl, rfl, rfl, rfl, rfl, trivial⟩ ?_
            refine vx_eq (ls2 := [(4, .inl (nI (g + 1))), (3, .inl (sp_nx g)), (0, vx_r 28), (1, .inl (nI n)), (2, .inl (nI f))]) rfl (by rw [sp_nxp (show ¬ g = 0 by omega)]) rfl ?_
            exact ih (g + 1) g (by omega) (by omega) (by rw [sp_next_s h1, ← hx, if_pos (by first | exact ⟨cg, Or.inl hnx⟩ | exact ⟨cg, Or.inr (Int32.not_le.mp c_60)⟩)])
          · refine vx_eq (ls2 := [(5, .inl 1), (4, .inl (nI g)), (3, .inl (nI nx)), (0, vx_r 28), (1, .inl (nI n)), (2, .inl (nI f))]) rfl (by rw [sp_nxp hnx]) rfl ?_
            refine vx_iload_n dX1_nextLender_36 rfl ?_
            refine vx_iconst (v := (-1)) dX1_nextLender_37 (by decide) ?_
            refine vx_icmp_eq (tgt := 63) dX1_nextLender_38 (by decide) (fun h => absurd h (show ¬ nI nx = -1 from sp_nm1 hle)) (fun _ => ?_)
            refine vx_aload_n dX1_nextLender_41 rfl ?_
            refine vx_getR (ci := 1) (T := TX1) (n := 2) (j := 0) (a := 28) (r := 29) dX1_nextLender_42 rfl lay_X1 (by decide) wd_208 (by decide) ly_28 rfl ?_
            refine vx_iload dX1_nextLender_45 rfl ?_
            refine vx_iload_n dX1_nextLender_47 rfl ?_
            refine vx_callX (vs := [vx_r 29, .inl (nI g), .inl (nI f)]) (st := []) (r0 := (some (.inl (μ (30 + g) f)))) (μ0 := μ) dX1_nextLender_48 ((c_X8_at_ (d - 1) ad 82 vx_lay μ 29 8 8 [30, 31, 32, 33, 34, 35, 36, 37] (by decide) ly_29 (by decide) (by decide) rfl rows_29 (nI g) (nI f)).to (congrArg (fun z => some (Sum.inl z)) (sp_at2_30 _ (a := g) (b := f) (by omega) (by omega))) rfl) nst_11 wd_568 wd_45 hy_X8_at_ wd_567 (by omega) (Nat.le_of_ble_eq_true rfl) (Nat.le_of_ble_eq_true rfl) (Nat.le_refl 0) (Nat.le_refl 0) ?_
            refine vx_eq (μ2 := μ) (ls2 := [(5, .inl 1), (4, .inl (nI g)), (3, .inl (nI nx)), (0, vx_r 28), (1, .inl (nI n)), (2, .inl (nI f))]) (st2 := [.inl (μ (30 + g) f)]) rfl rfl rfl ?_
            refine vx_aload_n dX1_nextLender_51 rfl ?_
            refine vx_getR (ci := 1) (T := TX1) (n := 2) (j := 0) (a := 28) (r := 29) dX1_nextLender_52 rfl lay_X1 (by decide) wd_208 (by decide) ly_28 rfl ?_
            refine vx_iload_n dX1_nextLender_55 rfl ?_
            refine vx_iload_n dX1_nextLender_56 rfl ?_
            refine vx_callX (vs := [vx_r 29, .inl (nI nx), .inl (nI f)]) (st := [.inl (μ (30 + g) f)]) (r0 := (some (.inl (μ (30 + nx) f)))) (μ0 := μ) dX1_nextLender_57 ((c_X8_at_ (d - 1) ad 82 vx_lay μ 29 8 8 [30, 31, 32, 33, 34, 35, 36, 37] (by decide) ly_29 (by decide) (by decide) rfl rows_29 (nI nx) (nI f)).to (congrArg (fun z => some (Sum.inl z)) (sp_at2_30 _ (a := nx) (b := f) (by omega) (by omega))) rfl) nst_11 wd_568 wd_45 hy_X8_at_ wd_567 (by omega) (Nat.le_of_ble_eq_true rfl) (Nat.le_of_ble_eq_true rfl) (Nat.le_refl 0) (Nat.le_refl 0) ?_
            refine vx_eq (μ2 := μ) (ls2 := [(5, .inl 1), (4, .inl (nI g)), (3, .inl (nI nx)), (0, vx_r 28), (1, .inl (nI n)), (2, .inl (nI f))]) (st2 := [.inl (μ (30 + nx) f), .inl (μ (30 + g) f)]) rfl rfl rfl ?_
            refine vx_icmp_le (tgt := 66) dX1_nextLender_60 (by decide) (fun c_60 => ?_) (fun c_60 => ?_)
            · refine vx_iinc (v := (nI (g + 1))) (ls2 := [(4, .inl (nI (g + 1))), (5, .inl 1), (3, .inl (nI nx)), (0, vx_r 28), (1, .inl (nI n)), (2, .inl (nI f))]) dX1_nextLender_66 rfl (nI_1 _) (by decide) rfl ?_
              refine vx_goto (tgt := 5) dX1_nextLender_69 (by decide) ?_
              refine vx_keep (ls2 := [(4, .inl (nI (g + 1))), (3, .inl (nI nx)), (0, vx_r 28), (1, .inl (nI n)), (2, .inl (nI f))]) ⟨rfl, rfl, rfl, rfl, rfl, trivial⟩ ?_
              refine vx_eq (ls2 := [(4, .inl (nI (g + 1))), (3, .inl (sp_nx nx)), (0, vx_r 28), (1, .inl (nI n)), (2, .inl (nI f))]) rfl (by rw [sp_nxp hnx]) rfl ?_
              exact ih (g + 1) nx (by omega) (by omega) (by rw [sp_next_s h1, ← hx, if_neg]; first | (exact fun h => cg h.1) | (rintro ⟨_, h | h⟩ <;> first | exact hnx h | exact Int32.not_lt.mpr c_60 h))
            · refine vx_iload dX1_nextLender_63 rfl ?_
              refine vx_istore_n (ls2 := [(3, .inl (nI g)), (5, .inl 1), (4, .inl (nI g)), (0, vx_r 28), (1, .inl (nI n)), (2, .inl (nI f))]) dX1_nextLender_65 (by decide) rfl ?_
              refine vx_iinc (v := (nI (g + 1))) (ls2 := [(4, .inl (nI (g + 1))), (3, .inl (nI g)), (5, .inl 1), (0, vx_r 28), (1, .inl (nI n)), (2, .inl (nI f))]) dX1_nextLender_66 rfl (nI_1 _) (by decide) rfl ?_
              refine vx_goto (tgt := 5) dX1_nextLender_69 (by decide) ?_
              refine vx_keep (ls2 := [(4, .inl (nI (g + 1))), (3, .inl (nI g)), (0, vx_r 28), (1, .inl (nI n)), (2, .inl (nI f))]) ⟨rfl, rfl, rfl, rfl, rfl, trivial⟩ ?_
              refine vx_eq (ls2 := [(4, .inl (nI (g + 1))), (3, .inl (sp_nx g)), (0, vx_r 28), (1, .inl (nI n)), (2, .inl (nI f))]) rfl (by rw [sp_nxp (show ¬ g = 0 by omega)]) rfl ?_
              exact ih (g + 1) g (by omega) (by omega) (by rw [sp_next_s h1, ← hx, if_pos (by first | exact ⟨cg, Or.inl hnx⟩ | exact ⟨cg, Or.inr (Int32.not_le.mp c_60)⟩)])
    refine vx_iconst (v := (-1)) dX1_nextLender_0 (by decide) ?_
    refine vx_istore_n (ls2 := [(3, .inl (-1)), (0, vx_r 28), (1, .inl (nI n)), (2, .inl (nI f))]) dX1_nextLender_1 (by decide) rfl ?_
    refine vx_iconst (v := 1) dX1_nextLender_2 (by decide) ?_
    refine vx_istore (ls2 := [(4, .inl 1), (3, .inl (-1)), (0, vx_r 28), (1, .inl (nI n)), (2, .inl (nI f))]) dX1_nextLender_3 (by decide) rfl ?_
    refine vx_keep (ls2 := [(4, .inl (nI 1)), (3, .inl (sp_nx 0)), (0, vx_r 28), (1, .inl (nI n)), (2, .inl (nI f))]) ⟨rfl, rfl, rfl, rfl, rfl, trivial⟩ ?_
    exact loop n 1 0 (by omega) (by omega) rfl
  exact vx_J.M pn_X1_nextLender (Nat.le_of_ble_eq_true rfl) (key _ _ ⟨rfl, rfl, rfl, rfl, rfl⟩)
end
