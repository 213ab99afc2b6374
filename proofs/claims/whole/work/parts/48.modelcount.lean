section
def mo_dn (f : Nat → Int32) : Nat → Nat
  | 0 => 0
  | k + 1 => mo_dn f k + if f (k + 1) = 0 then 1 else 0
theorem mo_dn_s {f : Nat → Int32} {i : Nat} (hi : 1 ≤ i) : mo_dn f (i + 1 - 1) = mo_dn f (i - 1) + if f i = 0 then 1 else 0 := by
  obtain ⟨j, rfl⟩ : ∃ j, i = j + 1 := ⟨i - 1, by omega⟩
  rfl
def mo_c1 (μ : vx_mem) : Int32 := if μ 54 36 ≤ 0 then μ 54 35 else μ 54 37
def mo_c6 (μ : vx_mem) (f : Nat) : Int32 := if ¬ μ 54 36 ≤ 0 then 1 else if ¬ mo_wrk μ then 0 else if μ 65 f ≤ μ 54 34 then 3 else 2
def mo_cnt (μ : vx_mem) (n f : Nat) (x : Int32) : Int32 := if x = 0 then μ 54 34 else if x = 1 then mo_c1 μ else if x = 2 then μ 54 36 else if x = 3 then μ 54 38 else if x = 4 then μ 54 18 else if x = 5 then nI (mo_dn (μ 61) n) else if x = 6 then mo_c6 μ f else -1
set_option maxRecDepth 20000 in
set_option maxHeartbeats 2000000 in
theorem c_X9_count (d : Nat) (hd : 1 ≤ d) (ad : Nat → Nat) (μ : vx_mem) (ht : μ 54 0 = 0) (n : Nat) (hk : mo_ck μ n) (f tu L fo : Nat) (hw : mo_go μ n f tu L fo) (x : Int32) : vx_Mf yX9_count cX9_count 4 (some (.int)) d ad 82 vx_lay μ [vx_r 54, .inl x] (some (.inl (mo_cnt μ n f x))) μ := by
  have key : ∀ (Post : vx_P) (ini : Bool), Post (some (.inl (mo_cnt μ n f x))) ad 82 vx_lay μ → vx_J RX9 cX9_count 4 (some (.int)) ini d 0 0 Post ad 0 0 82 vx_lay μ 0 [(0, vx_r 54), (1, .inl x)] [] := by
    intro Post ini hP
    have hc := hk.1
    have hn := hk.2.1
    have loop : ∀ (r g : Nat) (y : Int32), g + r = n + 1 → 1 ≤ g → y = nI (mo_dn (μ 61) (g - 1)) → vx_J RX9 cX9_count 4 (some (.int)) ini d 0 0 Post ad 0 0 82 vx_lay μ 9 [(3, .inl (nI g)), (2, .inl y), (0, vx_r 54), (1, .inl x)] [] := by
      intro r
      induction r with
      | zero =>
        intro g y hg h1 hy
        have hy2 : y = nI (mo_dn (μ 61) n) := by rw [hy, show g - 1 = n by omega]
        refine vx_iload_n dX9_count_9 rfl ?_
        refine vx_aload_n dX9_count_10 rfl ?_
        refine vx_getI (ci := 9) (T := TX9) (n := 56) (j := 18) (a := 54) (v := (nI n)) dX9_count_11 rfl lay_X9 (by decide) wd_754 (by decide) ly_54 rfl hc ?_
        refine vx_icmp_gt (tgt := 39) dX9_count_14 (by decide) (fun _ => ?_) (fun h => absurd (by show (nI (n) < nI (g)); rw [nI_ltI (by omega) (by omega)]; omega) h)
        refine vx_iload_n dX9_count_39 rfl ?_
        by_cases e40_0 : x = 0
        · refine vx_eq (st2 := [.inl 0]) rfl rfl (by rw [e40_0]) ?_
          refine vx_tabIn (tgt := 84) dX9_count_40 (by decide) (by decide) rfl (by decide) ?_
          refine vx_aload_n dX9_count_84 rfl ?_
          refine vx_getI (ci := 9) (T := TX9) (n := 56) (j := 34) (a := 54) (v := (μ 54 34)) dX9_count_85 rfl lay_X9 (by decide) wd_770 (by decide) ly_54 rfl rfl ?_
          exact vx_ret (ty := .int) dX9_count_88 rfl rfl (Nat.le_refl 0) (Nat.le_refl 0) (vx_pst hP (by unfold mo_cnt; rw [e40_0]; rfl) rfl)
        by_cases e40_1 : x = 1
        · refine vx_eq (st2 := [.inl 1]) rfl rfl (by rw [e40_1]) ?_
          refine vx_tabIn (tgt := 89) dX9_count_40 (by decide) (by decide) rfl (by decide) ?_
          refine vx_aload_n dX9_count_89 rfl ?_
          refine vx_getI (ci := 9) (T := TX9) (n := 56) (j := 36) (a := 54) (v := (μ 54 36)) dX9_count_90 rfl lay_X9 (by decide) wd_772 (by decide) ly_54 rfl rfl ?_
          refine vx_if_le (tgt := 103) dX9_count_93 (by decide) (fun c_93 => ?_) (fun c_93 => ?_)
          · refine vx_aload_n dX9_count_103 rfl ?_
            refine vx_getI (ci := 9) (T := TX9) (n := 56) (j := 35) (a := 54) (v := (μ 54 35)) dX9_count_104 rfl lay_X9 (by decide) wd_771 (by decide) ly_54 rfl rfl ?_
            exact vx_ret (ty := .int) dX9_count_107 rfl rfl (Nat.le_refl 0) (Nat.le_refl 0) (vx_pst hP (by unfold mo_cnt; rw [e40_1]; show _ = some (Sum.inl (mo_c1 μ)); unfold mo_c1; rw [if_pos c_93]) rfl)
          · refine vx_aload_n dX9_count_96 rfl ?_
            refine vx_getI (ci := 9) (T := TX9) (n := 56) (j := 37) (a := 54) (v := (μ 54 37)) dX9_count_97 rfl lay_X9 (by decide) wd_773 (by decide) ly_54 rfl rfl ?_
            refine vx_goto (tgt := 107) dX9_count_100 (by decide) ?_
            exact vx_ret (ty := .int) dX9_count_107 rfl rfl (Nat.le_refl 0) (Nat.le_refl 0) (vx_pst hP (by unfold mo_cnt; rw [e40_1]; show _ = some (Sum.inl (mo_c1 μ)); unfold mo_c1; rw [if_neg c_93]) rfl)
        by_cases e40_2 : x = 2
        · refine vx_eq (st2 := [.inl 2]) rfl rfl (by rw [e40_2]) ?_
          refine vx_tabIn (tgt := 108) dX9_count_40 (by decide) (by decide) rfl (by decide) ?_
          refine vx_aload_n dX9_count_108 rfl ?_
          refine vx_getI (ci := 9) (T := TX9) (n := 56) (j := 36) (a := 54) (v := (μ 54 36)) dX9_count_109 rfl lay_X9 (by decide) wd_772 (by decide) ly_54 rfl rfl ?_
          exact vx_ret (ty := .int) dX9_count_112 rfl rfl (Nat.le_refl 0) (Nat.le_refl 0) (vx_pst hP (by unfold mo_cnt; rw [e40_2]; rfl) rfl)
        by_cases e40_3 : x = 3
        · refine vx_eq (st2 := [.inl 3]) rfl rfl (by rw [e40_3]) ?_
          refine vx_tabIn (tgt := 113) dX9_count_40 (by decide) (by decide) rfl (by decide) ?_
          refine vx_aload_n dX9_count_113 rfl ?_
          refine vx_getI (ci := 9) (T := TX9) (n := 56) (j := 38) (a := 54) (v := (μ 54 38)) dX9_count_114 rfl lay_X9 (by decide) wd_774 (by decide) ly_54 rfl rfl ?_
          exact vx_ret (ty := .int) dX9_count_117 rfl rfl (Nat.le_refl 0) (Nat.le_refl 0) (vx_pst hP (by unfold mo_cnt; rw [e40_3]; rfl) rfl)
        by_cases e40_4 : x = 4
        · refine vx_eq (st2 := [.inl 4]) rfl rfl (by rw [e40_4]) ?_
          refine vx_tabIn (tgt := 118) dX9_count_40 (by decide) (by decide) rfl (by decide) ?_
          refine vx_aload_n dX9_count_118 rfl ?_
          refine vx_getI (ci := 9) (T := TX9) (n := 56) (j := 18) (a := 54) (v := (nI n)) dX9_count_119 rfl lay_X9 (by decide) wd_754 (by decide) ly_54 rfl hc ?_
          exact vx_ret (ty := .int) dX9_count_122 rfl rfl (Nat.le_refl 0) (Nat.le_refl 0) (vx_pst hP (by unfold mo_cnt; rw [e40_4, ← hc]; rfl) rfl)
        by_cases e40_5 : x = 5
        · refine vx_eq (st2 := [.inl 5]) rfl rfl (by rw [e40_5]) ?_
          refine vx_tabIn (tgt := 123) dX9_count_40 (by decide) (by decide) rfl (by decide) ?_
          refine vx_iload_n dX9_count_123 rfl ?_
          exact vx_ret (ty := .int) dX9_count_124 rfl rfl (Nat.le_refl 0) (Nat.le_refl 0) (vx_pst hP (by unfold mo_cnt; rw [e40_5, hy2]; rfl) rfl)
        by_cases e40_6 : x = 6
        · refine vx_eq (st2 := [.inl 6]) rfl rfl (by rw [e40_6]) ?_
          refine vx_tabIn (tgt := 125) dX9_count_40 (by decide) (by decide) rfl (by decide) ?_
          refine vx_aload_n dX9_count_125 rfl ?_
          refine vx_getI (ci := 9) (T := TX9) (n := 56) (j := 36) (a := 54) (v := (μ 54 36)) dX9_count_126 rfl lay_X9 (by decide) wd_772 (by decide) ly_54 rfl rfl ?_
          refine vx_if_le (tgt := 136) dX9_count_129 (by decide) (fun c_129 => ?_) (fun c_129 => ?_)
          · refine vx_aload_n dX9_count_136 rfl ?_
            refine vx_callV (b := 54) (vs := []) (st := []) (r0 := (some (.inl (if mo_wrk μ then 1 else 0)))) (μ0 := μ) dX9_count_137 (c_X9_isAtWork (d - 1) ad μ) wd_1031 wd_1034 wd_54 hy_X9_isAtWork wd_1033 wd_41 (by decide) ly_54 rfl rfl (by omega) (Nat.le_of_ble_eq_true rfl) (Nat.le_of_ble_eq_true rfl) (Nat.le_refl 0) (Nat.le_refl 0) ?_
            refine vx_eq (μ2 := μ) (ls2 := [(3, .inl (nI g)), (2, .inl y), (0, vx_r 54), (1, .inl x)]) (st2 := [.inl (if mo_wrk μ then 1 else 0)]) rfl rfl rfl ?_
            refine vx_if_ne (tgt := 147) dX9_count_140 (by decide) (fun c_140 => ?_) (fun c_140 => ?_)
            · have hwk : mo_wrk μ := sp_one c_140
              have hg9 := hw hwk
              have htu7 : tu < 7 := by have := hg9.2.2.2.2.1; have := hg9.2.2.2.2.2.1; omega
              have hf8 : f < 8 := by have := hg9.2.1; omega
              refine vx_aload_n dX9_count_147 rfl ?_
              refine vx_getI (ci := 9) (T := TX9) (n := 56) (j := 34) (a := 54) (v := (μ 54 34)) dX9_count_148 rfl lay_X9 (by decide) wd_770 (by decide) ly_54 rfl rfl ?_
              refine vx_aload_n dX9_count_151 rfl ?_
              refine vx_getR (ci := 9) (T := TX9) (n := 56) (j := 24) (a := 54) (r := 65) dX9_count_152 rfl lay_X9 (by decide) wd_760 (by decide) ly_54 rfl ?_
              refine vx_aload_n dX9_count_155 rfl ?_
              refine vx_getR (ci := 9) (T := TX9) (n := 56) (j := 39) (a := 54) (r := 74) dX9_count_156 rfl lay_X9 (by decide) wd_775 (by decide) ly_54 rfl ?_
              refine vx_aload_n dX9_count_159 rfl ?_
              refine vx_getI (ci := 9) (T := TX9) (n := 56) (j := 48) (a := 54) (v := (nI tu)) dX9_count_160 rfl lay_X9 (by decide) wd_784 (by decide) ly_54 rfl (hw hwk).2.2.1 ?_
              refine vx_iald (a := 74) (n := 7) (v := (nI f)) dX9_count_163 (by decide) ly_74 (vp_in_nI (by omega) (by omega)) (by rw [nI_clamp (by omega)]; exact (hw hwk).2.2.2.2.2.2.1) ?_
              refine vx_iald (a := 65) (n := 8) (v := (μ 65 f)) dX9_count_164 (by decide) ly_65 (vp_in_nI (by omega) (by omega)) (by rw [nI_clamp (by omega)] <;> rfl) ?_
              refine vx_icmp_ge (tgt := 172) dX9_count_165 (by decide) (fun c_165 => ?_) (fun c_165 => ?_)
              · refine vx_iconst (v := 3) dX9_count_172 (by decide) ?_
                exact vx_ret (ty := .int) dX9_count_173 rfl rfl (Nat.le_refl 0) (Nat.le_refl 0) (vx_pst hP (by unfold mo_cnt; rw [e40_6]; show _ = some (Sum.inl (mo_c6 μ f)); unfold mo_c6; rw [if_neg (fun q => q c_129), if_neg (fun q => q hwk), if_pos c_165]) rfl)
              · refine vx_iconst (v := 2) dX9_count_168 (by decide) ?_
                refine vx_goto (tgt := 173) dX9_count_169 (by decide) ?_
                exact vx_ret (ty := .int) dX9_count_173 rfl rfl (Nat.le_refl 0) (Nat.le_refl 0) (vx_pst hP (by unfold mo_cnt; rw [e40_6]; show _ = some (Sum.inl (mo_c6 μ f)); unfold mo_c6; rw [if_neg (fun q => q c_129), if_neg (fun q => q hwk), if_neg c_165]) rfl)
            · refine vx_iconst (v := 0) dX9_count_143 (by decide) ?_
              refine vx_goto (tgt := 173) dX9_count_144 (by decide) ?_
              exact vx_ret (ty := .int) dX9_count_173 rfl rfl (Nat.le_refl 0) (Nat.le_refl 0) (vx_pst hP (by unfold mo_cnt; rw [e40_6]; show _ = some (Sum.inl (mo_c6 μ f)); unfold mo_c6; rw [if_neg (fun q => q c_129), if_pos (fun q => by rw [if_pos q] at c_140; exact absurd c_140 (by decide))]) rfl)
          · refine vx_iconst (v := 1) dX9_count_132 (by decide) ?_
            refine vx_goto (tgt := 173) dX9_count_133 (by decide) ?_
            exact vx_ret (ty := .int) dX9_count_173 rfl rfl (Nat.le_refl 0) (Nat.le_refl 0) (vx_pst hP (by unfold mo_cnt; rw [e40_6]; show _ = some (Sum.inl (mo_c6 μ f)); unfold mo_c6; rw [if_pos c_129]) rfl)
        refine vx_tabOut (tgt := 174) dX9_count_40 (by have t0 : (x).toInt ≠ 0 := fun q => e40_0 (Int32.toInt_inj.mp (q.trans (by decide))); have t1 : (x).toInt ≠ 1 := fun q => e40_1 (Int32.toInt_inj.mp (q.trans (by decide))); have t2 : (x).toInt ≠ 2 := fun q => e40_2 (Int32.toInt_inj.mp (q.trans (by decide))); have t3 : (x).toInt ≠ 3 := fun q => e40_3 (Int32.toInt_inj.mp (q.trans (by decide))); have t4 : (x).toInt ≠ 4 := fun q => e40_4 (Int32.toInt_inj.mp (q.trans (by decide))); have t5 : (x).toInt ≠ 5 := fun q => e40_5 (Int32.toInt_inj.mp (q.trans (by decide))); have t6 : (x).toInt ≠ 6 := fun q => e40_6 (Int32.toInt_inj.mp (q.trans (by decide))); omega) (by decide) ?_
        refine vx_iconst (v := (-1)) dX9_count_174 (by decide) ?_
        exact vx_ret (ty := .int) dX9_count_175 rfl rfl (Nat.le_refl 0) (Nat.le_refl 0) (vx_pst hP (by unfold mo_cnt; rw [if_neg e40_0, if_neg e40_1, if_neg e40_2, if_neg e40_3, if_neg e40_4, if_neg e40_5, if_neg e40_6]) rfl)
      | succ r ih =>
        intro g y hg h1 hy
        refine vx_iload_n dX9_count_9 rfl ?_
        refine vx_aload_n dX9_count_10 rfl ?_
        refine vx_getI (ci := 9) (T := TX9) (n := 56) (j := 18) (a := 54) (v := (nI n)) dX9_count_11 rfl lay_X9 (by decide) wd_754 (by decide) ly_54 rfl hc ?_
        refine vx_icmp_gt (tgt := 39) dX9_count_14 (by decide) (fun h => absurd h (by show ¬ (nI (n) < nI (g)); rw [nI_ltI (by omega) (by omega)]; omega)) (fun _ => ?_)
        refine vx_iload_n dX9_count_17 rfl ?_
        refine vx_aload_n dX9_count_18 rfl ?_
        refine vx_iload_n dX9_count_19 rfl ?_
        refine vx_callV (b := 54) (vs := [.inl (nI g)]) (st := [.inl y]) (r0 := (some (.inl (if (μ 61 g) = 0 then 1 else 0)))) (μ0 := μ) dX9_count_20 (c_X9_isDone (d - 1) ad μ g (by omega)) wd_973 wd_976 wd_54 hy_X9_isDone wd_975 wd_31 (by decide) ly_54 rfl rfl (by omega) (Nat.le_of_ble_eq_true rfl) (Nat.le_of_ble_eq_true rfl) (Nat.le_refl 0) (Nat.le_refl 0) ?_
        refine vx_eq (μ2 := μ) (ls2 := [(3, .inl (nI g)), (2, .inl y), (0, vx_r 54), (1, .inl x)]) (st2 := [.inl (if (μ 61 g) = 0 then 1 else 0), .inl y]) rfl rfl rfl ?_
        refine vx_if_eq (tgt := 30) dX9_count_23 (by decide) (fun c_23 => ?_) (fun c_23 => ?_)
        · refine vx_iconst (v := 0) dX9_count_30 (by decide) ?_
          refine vx_iadd dX9_count_31 ?_
          refine vx_istore_n (ls2 := [(2, .inl (y + 0)), (3, .inl (nI g)), (0, vx_r 54), (1, .inl x)]) dX9_count_32 (by decide) rfl ?_
          refine vx_iinc (v := (nI (g + 1))) (ls2 := [(3, .inl (nI (g + 1))), (2, .inl (y + 0)), (0, vx_r 54), (1, .inl x)]) dX9_count_33 rfl (nI_1 _) (by decide) rfl ?_
          refine vx_goto (tgt := 9) dX9_count_36 (by decide) ?_
          refine vx_keep (ls2 := [(3, .inl (nI (g + 1))), (2, .inl (y + 0)), (0, vx_r 54), (1, .inl x)]) ⟨rfl, rfl, rfl, rfl, trivial⟩ ?_
          exact ih (g + 1) _ (by omega) (by omega) (by rw [mo_dn_s h1, hy, if_neg (fun q => by rw [if_pos q] at c_23; exact absurd c_23 (by decide))]; exact nI_add _ 0)
        · refine vx_iconst (v := 1) dX9_count_26 (by decide) ?_
          refine vx_goto (tgt := 31) dX9_count_27 (by decide) ?_
          refine vx_iadd dX9_count_31 ?_
          refine vx_istore_n (ls2 := [(2, .inl (y + 1)), (3, .inl (nI g)), (0, vx_r 54), (1, .inl x)]) dX9_count_32 (by decide) rfl ?_
          refine vx_iinc (v := (nI (g + 1))) (ls2 := [(3, .inl (nI (g + 1))), (2, .inl (y + 1)), (0, vx_r 54), (1, .inl x)]) dX9_count_33 rfl (nI_1 _) (by decide) rfl ?_
          refine vx_goto (tgt := 9) dX9_count_36 (by decide) ?_
          refine vx_keep (ls2 := [(3, .inl (nI (g + 1))), (2, .inl (y + 1)), (0, vx_r 54), (1, .inl x)]) ⟨rfl, rfl, rfl, rfl, trivial⟩ ?_
          exact ih (g + 1) _ (by omega) (by omega) (by rw [mo_dn_s h1, hy, if_pos (sp_one c_23)]; exact nI_1 _)
    refine vx_aload_n dX9_count_0 rfl ?_
    refine vx_iconst (v := 0) dX9_count_1 (by decide) ?_
    refine vx_putI (ci := 9) (T := TX9) (n := 56) (j := 0) (a := 54) (ty := .int) (μ2 := (va_up μ 54 (upd (μ 54) 0 0))) dX9_count_2 rfl lay_X9 tyX9_ok nmX9 (by decide) wd_736 rfl rfl rfl rfl (by decide) ly_54 rfl rfl ?_
    refine vx_eq (μ2 := μ) (by rw [sp_ups ht, vx_up_id]) rfl rfl ?_
    refine vx_iconst (v := 0) dX9_count_5 (by decide) ?_
    refine vx_istore_n (ls2 := [(2, .inl 0), (0, vx_r 54), (1, .inl x)]) dX9_count_6 (by decide) rfl ?_
    refine vx_iconst (v := 1) dX9_count_7 (by decide) ?_
    refine vx_istore_n (ls2 := [(3, .inl 1), (2, .inl 0), (0, vx_r 54), (1, .inl x)]) dX9_count_8 (by decide) rfl ?_
    exact loop n 1 0 (by omega) (by omega) rfl
  exact vx_J.M pn_X9_count (Nat.le_of_ble_eq_true rfl) (key _ _ ⟨rfl, rfl, rfl, rfl, rfl⟩)
end
