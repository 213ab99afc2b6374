section
def mo_gg (gv old : Nat → Int32) : Nat → Int32 := fun g => if 1 ≤ g ∧ g ≤ 7 then (if gv g = -1 then 0 else gv g) else old g
theorem mo_gg0 (f : Nat) (old : Nat → Int32) : upd (upd (upd (upd (upd (upd (upd old 1 0) 2 0) 3 0) 4 0) 5 0) 6 0) 7 0 = mo_gg (sp_cn f) old := by
  have hc : ∀ g, (if sp_cn f g = -1 then (0 : Int32) else sp_cn f g) = 0 := by
    intro g
    unfold sp_cn upd
    by_cases h : g = f
    · simp [h]
    · simp [h]
  funext g
  unfold mo_gg
  rw [hc]
  unfold upd
  (repeat' split) <;> first | rfl | (exfalso; omega)
theorem mo_ggs (gv old : Nat → Int32) {b : Nat} {h : Int32} (h1 : 1 ≤ b) (h7 : b ≤ 7) (hh : ¬ h = -1) : upd (mo_gg gv old) b h = mo_gg (upd gv b h) old := by
  funext g
  unfold upd mo_gg
  by_cases e : g = b
  · subst e
    simp [h1, h7, hh]
  · simp [e]
theorem sp_min_comm (x y : Int32) : sp_min x y = sp_min y x := by
  apply Int32.toInt_inj.mp
  rw [sp_min_int, sp_min_int]
  omega
theorem sp_max_comm (x y : Int32) : sp_max x y = sp_max y x := by
  apply Int32.toInt_inj.mp
  rw [sp_max_int, sp_max_int]
  omega
theorem sp_cn_ask {k n : Nat} (h1 : 1 ≤ k) (h2 : k ≤ n) : sp_ask (sp_cn k) n = 1 := by
  have h0 : ∀ m, sp_ask (fun _ => (-1 : Int32)) m = 0 := by
    intro m
    induction m with
    | zero => rfl
    | succ m ih =>
      unfold sp_ask
      rw [ih, if_pos rfl]
  unfold sp_cn
  rw [sp_ask_put h1 rfl (by decide) h2, h0]
theorem sp_cn_in {k n : Nat} : ∀ g, 1 ≤ g → g ≤ n → sp_cn k g = -1 ∨ zz_in (sp_cn k g) 0 12 := by
  intro g _ _
  unfold sp_cn upd
  by_cases e : g = k
  · rw [if_pos e]; exact Or.inr ⟨by decide, by decide⟩
  · rw [if_neg e]; exact Or.inl rfl
def mo_ow (μ : vx_mem) (f : Nat) : Nat → Int32 := fun q => if q < 8 then μ 72 (8 * q + f) else 0
def mo_G (μ : vx_mem) (n f : Nat) : (Nat → Int32) × Int32 := sp_mus (μ 64) (mo_ow μ f) (μ 56 0) n (sp_cn f) (sp_min (μ 63 f) (μ 56 0)) (n - 1)
/-- what the model's numbers are within -/
def mo_ck (μ : vx_mem) (n : Nat) : Prop := μ 54 18 = nI n ∧ n ≤ 7 ∧ zz_in (μ 56 0) 1 20 ∧ ∀ g, 1 ≤ g → g ≤ n → zz_in (μ 63 g) 0 12 ∧ zz_in (μ 64 g) 0 12
theorem mo_bt1 {f g : Nat} (hf : f < 32) (hg : g < 32) : bt ((1 : Int32) <<< (nI f &&& 31)) g = decide (g = f) := by
  rw [b_shl f hf 1 hg, mb_1]
  by_cases h : f ≤ g
  · by_cases e : g = f
    · simp [e]
    · simp [h, e, show ¬ g - f = 0 by omega]
  · simp [h, show ¬ g = f by omega]
set_option maxRecDepth 20000 in
set_option maxHeartbeats 2000000 in
theorem c_X9_gangs (d : Nat) (hd : 1 ≤ d) (ad : Nat → Nat) (μ : vx_mem) (n : Nat) (hk : mo_ck μ n) (f : Nat) (h1 : 1 ≤ f) (h2 : f ≤ n) : vx_Mf yX9_gangs cX9_gangs 7 none d ad 82 vx_lay μ [vx_r 54, .inl (nI f)] none (va_up (va_up μ 54 (upd (μ 54) 33 (mo_G μ n f).2)) 73 (mo_gg (mo_G μ n f).1 (μ 73))) := by
  have key : ∀ (Post : vx_P) (ini : Bool), Post none ad 82 vx_lay (va_up (va_up μ 54 (upd (μ 54) 33 (mo_G μ n f).2)) 73 (mo_gg (mo_G μ n f).1 (μ 73))) → vx_J RX9 cX9_gangs 7 none ini d 0 0 Post ad 0 0 82 vx_lay μ 0 [(0, vx_r 54), (1, .inl (nI f))] [] := by
    intro Post ini hP
    have hc := hk.1
    have hn := hk.2.1
    have hm := hk.2.2.1
    have ho := (hk.2.2.2 f h1 h2).1
    have hl : ∀ g, 1 ≤ g → g ≤ n → zz_in (μ 64 g) 0 12 := fun g a b => (hk.2.2.2 g a b).2
    have hg0 : 0 ≤ (sp_min (μ 63 f) (μ 56 0)).toInt ∧ (sp_min (μ 63 f) (μ 56 0)).toInt ≤ (μ 56 0).toInt := by rw [sp_min_int]; unfold zz_in at hm ho; omega
    have outer : ∀ (r t : Nat) (ak : Int32) (gv : Nat → Int32) (gang : Int32), t + r + 1 = n → (sp_mus (μ 64) (mo_ow μ f) (μ 56 0) n (sp_cn f) (sp_min (μ 63 f) (μ 56 0)) t) = (gv, gang) → (∀ g, 1 ≤ g → g ≤ 7 → (bt ak g = false ↔ gv g = -1)) → vx_J RX9 cX9_gangs 7 none ini d 0 0 Post ad 0 0 82 vx_lay (va_up (va_up μ 54 (upd (μ 54) 33 gang)) 73 (mo_gg gv (μ 73))) 49 [(4, .inl (nI (t + 1))), (3, .inl ak), (0, vx_r 54), (1, .inl (nI f)), (2, .inl (μ 56 0))] [] := by
      intro r
      induction r with
      | zero =>
        intro t ak gv gang ht hsm hak
        refine vx_iload dX9_gangs_49 rfl ?_
        refine vx_aload_n dX9_gangs_51 rfl ?_
        refine vx_getI (ci := 9) (T := TX9) (n := 56) (j := 18) (a := 54) (v := (nI n)) dX9_gangs_52 rfl lay_X9 (by decide) wd_754 (by decide) ly_54 rfl hc ?_
        refine vx_icmp_ge (tgt := 177) dX9_gangs_55 (by decide) (fun _ => ?_) (fun h => absurd (by show (nI (n) ≤ nI ((t + 1))); rw [nI_leI (by omega) (by omega)]; omega) h)
        exact vx_vret dX9_gangs_177 rfl (Nat.le_refl 0) (Nat.le_refl 0) (vx_pst hP rfl (by unfold mo_G; rw [show n - 1 = t by omega, hsm]))
      | succ r ih =>
        intro t ak gv gang ht hsm hak
        have hok := sp_mus_ok (ow := mo_ow μ f) (g0 := sp_min (μ 63 f) (μ 56 0)) hl hm hg0 (sp_cn_in (k := f)) (sp_cn_ask h1 h2) t (by omega)
        rw [hsm] at hok
        obtain ⟨i1, i2, i3, i4, i5⟩ := hok
        dsimp only at i1 i2 i3 i4 i5
        have hz := (sp_next_pos (ow := mo_ow μ f) (sp_ask_free (gv := gv) (n := n) (by omega))).1
        have hle := sp_next_le gv (mo_ow μ f) n
        have inner : ∀ (q g nx : Nat), g + q = n + 1 → 1 ≤ g → nx = sp_next gv (mo_ow μ f) (g - 1) → vx_J RX9 cX9_gangs 7 none ini d 0 0 Post ad 0 0 82 vx_lay (va_up (va_up μ 54 (upd (μ 54) 33 gang)) 73 (mo_gg gv (μ 73))) 64 [(6, .inl (nI g)), (5, .inl (sp_nx nx)), (4, .inl (nI (t + 1))), (3, .inl ak), (0, vx_r 54), (1, .inl (nI f)), (2, .inl (μ 56 0))] [] := by
          intro q
          induction q with
          | zero =>
            intro g nx hg hg1 hx
            have hb : nx = sp_next gv (mo_ow μ f) n := by rw [hx, show g - 1 = n by omega]
            rw [← hb] at hz hle
            have hlb := hl nx (by omega) hle
            have hh : ¬ sp_min (μ 64 nx) (μ 56 0 - gang) = -1 := by
              intro e
              unfold zz_in at hlb hm
              have a1 : (μ 56 0 - gang).toInt = (μ 56 0).toInt - gang.toInt := zz_sub (by omega) (by omega)
              have a2 := sp_min_int (μ 64 nx) (μ 56 0 - gang)
              rw [e, a1] at a2
              have a3 : (-1 : Int32).toInt = -1 := by decide
              omega
            refine vx_iload dX9_gangs_64 rfl ?_
            refine vx_aload_n dX9_gangs_66 rfl ?_
            refine vx_getI (ci := 9) (T := TX9) (n := 56) (j := 18) (a := 54) (v := (nI n)) dX9_gangs_67 rfl lay_X9 (by decide) wd_754 (by decide) ly_54 rfl hc ?_
            refine vx_icmp_gt (tgt := 125) dX9_gangs_70 (by decide) (fun _ => ?_) (fun h => absurd (by show (nI (n) < nI (g)); rw [nI_ltI (by omega) (by omega)]; omega) h)
            refine vx_eq (ls2 := [(6, .inl (nI g)), (5, .inl (nI nx)), (4, .inl (nI (t + 1))), (3, .inl ak), (0, vx_r 54), (1, .inl (nI f)), (2, .inl (μ 56 0))]) rfl (by rw [sp_nxp hz]) rfl ?_
            refine vx_iload_n dX9_gangs_125 rfl ?_
            refine vx_iconst (v := 1) dX9_gangs_126 (by decide) ?_
            refine vx_iload dX9_gangs_127 rfl ?_
            refine vx_ishl dX9_gangs_129 ?_
            refine vx_ior dX9_gangs_130 ?_
            refine vx_istore_n (ls2 := [(3, .inl (ak ||| (1 <<< ((nI nx) &&& 31)))), (6, .inl (nI g)), (5, .inl (nI nx)), (4, .inl (nI (t + 1))), (0, vx_r 54), (1, .inl (nI f)), (2, .inl (μ 56 0))]) dX9_gangs_131 (by decide) rfl ?_
            refine vx_aload_n dX9_gangs_132 rfl ?_
            refine vx_getR (ci := 9) (T := TX9) (n := 56) (j := 32) (a := 54) (r := 73) dX9_gangs_133 rfl lay_X9 (by decide) wd_768 (by decide) ly_54 rfl ?_
            refine vx_iload dX9_gangs_136 rfl ?_
            refine vx_aload_n dX9_gangs_138 rfl ?_
            refine vx_getR (ci := 9) (T := TX9) (n := 56) (j := 23) (a := 54) (r := 64) dX9_gangs_139 rfl lay_X9 (by decide) wd_759 (by decide) ly_54 rfl ?_
            refine vx_iload dX9_gangs_142 rfl ?_
            refine vx_iald (a := 64) (n := 8) (v := (μ 64 nx)) dX9_gangs_144 (by decide) ly_64 (vp_in_nI (by omega) (by omega)) (by rw [nI_clamp (by omega)] <;> rfl) ?_
            refine vx_iload_n dX9_gangs_145 rfl ?_
            refine vx_aload_n dX9_gangs_146 rfl ?_
            refine vx_getI (ci := 9) (T := TX9) (n := 56) (j := 33) (a := 54) (v := gang) dX9_gangs_147 rfl lay_X9 (by decide) wd_769 (by decide) ly_54 rfl rfl ?_
            refine vx_isub dX9_gangs_150 ?_
            refine vx_mmin dX9_gangs_151 wd_985 (by omega) (Nat.le_of_ble_eq_true rfl) (Nat.le_refl 0) (Nat.le_refl 0) ?_
            refine vx_eq (st2 := [.inl (sp_min (μ 64 nx) ((μ 56 0) - gang)), .inl (nI nx), vx_r 73]) rfl rfl rfl ?_
            refine vx_iast (a := 73) (n := 8) (μ2 := (va_up (va_up μ 54 (upd (μ 54) 33 gang)) 73 (upd (mo_gg gv (μ 73)) nx (sp_min (μ 64 nx) ((μ 56 0) - gang))))) dX9_gangs_154 (by decide) ly_73 (vp_in_nI (by omega) (by omega)) (by rw [nI_clamp (by omega)]; try exact vx_m1) ?_
            refine vx_aload_n dX9_gangs_155 rfl ?_
            refine vx_dup dX9_gangs_156 ?_
            refine vx_getI (ci := 9) (T := TX9) (n := 56) (j := 33) (a := 54) (v := gang) dX9_gangs_157 rfl lay_X9 (by decide) wd_769 (by decide) ly_54 rfl rfl ?_
            refine vx_aload_n dX9_gangs_160 rfl ?_
            refine vx_getR (ci := 9) (T := TX9) (n := 56) (j := 32) (a := 54) (r := 73) dX9_gangs_161 rfl lay_X9 (by decide) wd_768 (by decide) ly_54 rfl ?_
            refine vx_iload dX9_gangs_164 rfl ?_
            refine vx_iald (a := 73) (n := 8) (v := (sp_min (μ 64 nx) ((μ 56 0) - gang))) dX9_gangs_166 (by decide) ly_73 (vp_in_nI (by omega) (by omega)) (by rw [nI_clamp (by omega)]; show upd _ nx _ nx = _; simp [upd]) ?_
            refine vx_iadd dX9_gangs_167 ?_
            refine vx_putI (ci := 9) (T := TX9) (n := 56) (j := 33) (a := 54) (ty := .int) (μ2 := (va_up (va_up μ 54 (upd (μ 54) 33 (gang + (sp_min (μ 64 nx) ((μ 56 0) - gang))))) 73 (upd (mo_gg gv (μ 73)) nx (sp_min (μ 64 nx) ((μ 56 0) - gang))))) dX9_gangs_168 rfl lay_X9 tyX9_ok nmX9 (by decide) wd_769 rfl rfl rfl rfl (by decide) ly_54 rfl ((congrArg (fun z => va_up (va_up (va_up μ 54 (upd (μ 54) 33 gang)) 73 (upd (mo_gg gv (μ 73)) nx (sp_min (μ 64 nx) ((μ 56 0) - gang)))) 54 z) (sp_uu (f := (μ 54)) (k := 33))).trans ((vx_m2 (by decide)).trans (congrArg (fun m => va_up m 73 (upd (mo_gg gv (μ 73)) nx (sp_min (μ 64 nx) ((μ 56 0) - gang)))) vx_m1))) ?_
            refine vx_iinc (v := (nI ((t + 1) + 1))) (ls2 := [(4, .inl (nI ((t + 1) + 1))), (3, .inl (ak ||| (1 <<< ((nI nx) &&& 31)))), (6, .inl (nI g)), (5, .inl (nI nx)), (0, vx_r 54), (1, .inl (nI f)), (2, .inl (μ 56 0))]) dX9_gangs_171 rfl (nI_1 _) (by decide) rfl ?_
            refine vx_goto (tgt := 49) dX9_gangs_174 (by decide) ?_
            refine vx_keep (ls2 := [(4, .inl (nI ((t + 1) + 1))), (3, .inl (ak ||| (1 <<< ((nI nx) &&& 31)))), (0, vx_r 54), (1, .inl (nI f)), (2, .inl (μ 56 0))]) ⟨rfl, rfl, rfl, rfl, rfl, trivial⟩ ?_
            refine vx_eq (μ2 := (va_up (va_up μ 54 (upd (μ 54) 33 (gang + (sp_min (μ 64 nx) ((μ 56 0) - gang))))) 73 (mo_gg (upd gv nx (sp_min (μ 64 nx) ((μ 56 0) - gang))) (μ 73)))) (by rw [mo_ggs _ _ (show 1 ≤ nx by omega) (show nx ≤ 7 by omega) hh]) rfl rfl ?_
            exact ih (t + 1) _ _ _ (by omega) (by
              show (upd (sp_mus (μ 64) (mo_ow μ f) (μ 56 0) n (sp_cn f) (sp_min (μ 63 f) (μ 56 0)) t).1 (sp_next (sp_mus (μ 64) (mo_ow μ f) (μ 56 0) n (sp_cn f) (sp_min (μ 63 f) (μ 56 0)) t).1 (mo_ow μ f) n) (sp_min (μ 64 (sp_next (sp_mus (μ 64) (mo_ow μ f) (μ 56 0) n (sp_cn f) (sp_min (μ 63 f) (μ 56 0)) t).1 (mo_ow μ f) n)) (μ 56 0 - (sp_mus (μ 64) (mo_ow μ f) (μ 56 0) n (sp_cn f) (sp_min (μ 63 f) (μ 56 0)) t).2)), (sp_mus (μ 64) (mo_ow μ f) (μ 56 0) n (sp_cn f) (sp_min (μ 63 f) (μ 56 0)) t).2 + sp_min (μ 64 (sp_next (sp_mus (μ 64) (mo_ow μ f) (μ 56 0) n (sp_cn f) (sp_min (μ 63 f) (μ 56 0)) t).1 (mo_ow μ f) n)) (μ 56 0 - (sp_mus (μ 64) (mo_ow μ f) (μ 56 0) n (sp_cn f) (sp_min (μ 63 f) (μ 56 0)) t).2)) = _
              rw [hsm]
              show (upd gv (sp_next gv (mo_ow μ f) n) (sp_min (μ 64 (sp_next gv (mo_ow μ f) n)) (μ 56 0 - gang)), gang + sp_min (μ 64 (sp_next gv (mo_ow μ f) n)) (μ 56 0 - gang)) = _
              rw [← hb]) (fun g a1 a7 => by
              rw [mb_or _ (by omega) (by omega)]
              by_cases e : g = nx
              · simp [e, upd, hh]
              · simp [e, upd, hak g a1 a7])
          | succ q ihq =>
            intro g nx hg hg1 hx
            have hle2 : nx ≤ 7 := by rw [hx]; exact Nat.le_trans (sp_next_le _ _ _) (by omega)
            have hnle : nx ≤ g - 1 := by rw [hx]; exact sp_next_le _ _ _
            have hwg : mo_ow μ f g = μ 72 (8 * g + f) := if_pos (by omega)
            have hwx : mo_ow μ f nx = μ 72 (8 * nx + f) := if_pos (by omega)
            refine vx_iload dX9_gangs_64 rfl ?_
            refine vx_aload_n dX9_gangs_66 rfl ?_
            refine vx_getI (ci := 9) (T := TX9) (n := 56) (j := 18) (a := 54) (v := (nI n)) dX9_gangs_67 rfl lay_X9 (by decide) wd_754 (by decide) ly_54 rfl hc ?_
            refine vx_icmp_gt (tgt := 125) dX9_gangs_70 (by decide) (fun h => absurd h (by show ¬ (nI (n) < nI (g)); rw [nI_ltI (by omega) (by omega)]; omega)) (fun _ => ?_)
            refine vx_iload_n dX9_gangs_73 rfl ?_
            refine vx_iload dX9_gangs_74 rfl ?_
            refine vx_ishr dX9_gangs_76 ?_
            refine vx_iconst (v := 1) dX9_gangs_77 (by decide) ?_
            refine vx_iand dX9_gangs_78 ?_
            refine vx_if_ne (tgt := 119) dX9_gangs_79 (by decide) (fun c_79 => ?_) (fun c_79 => ?_)
            · have cg : ¬ gv g = -1 := fun e => c_79 ((mb_bit0 _ (by omega)).mpr ((hak g (by omega) (by omega)).mpr e))
              refine vx_iinc (v := (nI (g + 1))) (ls2 := [(6, .inl (nI (g + 1))), (5, .inl (sp_nx nx)), (4, .inl (nI (t + 1))), (3, .inl ak), (0, vx_r 54), (1, .inl (nI f)), (2, .inl (μ 56 0))]) dX9_gangs_119 rfl (nI_1 _) (by decide) rfl ?_
              refine vx_goto (tgt := 64) dX9_gangs_122 (by decide) ?_
              refine vx_keep (ls2 := [(6, .inl (nI (g + 1))), (5, .inl (sp_nx nx)), (4, .inl (nI (t + 1))), (3, .inl ak), (0, vx_r 54), (1, .inl (nI f)), (2, .inl (μ 56 0))]) ⟨rfl, rfl, rfl, rfl, rfl, rfl, rfl, trivial⟩ ?_
              exact ihq (g + 1) nx (by omega) (by omega) (by rw [sp_next_s hg1, ← hx, if_neg]; exact fun h => cg h.1)
            · have cg : gv g = -1 := (hak g (by omega) (by omega)).mp ((mb_bit0 _ (by omega)).mp c_79)
              by_cases hnx : nx = 0
              · refine vx_eq (ls2 := [(6, .inl (nI g)), (5, .inl (-1)), (4, .inl (nI (t + 1))), (3, .inl ak), (0, vx_r 54), (1, .inl (nI f)), (2, .inl (μ 56 0))]) rfl (by rw [hnx]; rfl) rfl ?_
                refine vx_iload dX9_gangs_82 rfl ?_
                refine vx_iconst (v := (-1)) dX9_gangs_84 (by decide) ?_
                refine vx_icmp_eq (tgt := 115) dX9_gangs_85 (by decide) (fun _ => ?_) (fun h => absurd h (by decide))
                refine vx_iload dX9_gangs_115 rfl ?_
                refine vx_istore (ls2 := [(5, .inl (nI g)), (6, .inl (nI g)), (4, .inl (nI (t + 1))), (3, .inl ak), (0, vx_r 54), (1, .inl (nI f)), (2, .inl (μ 56 0))]) dX9_gangs_117 (by decide) rfl ?_
                refine vx_iinc (v := (nI (g + 1))) (ls2 := [(6, .inl (nI (g + 1))), (5, .inl (nI g)), (4, .inl (nI (t + 1))), (3, .inl ak), (0, vx_r 54), (1, .inl (nI f)), (2, .inl (μ 56 0))]) dX9_gangs_119 rfl (nI_1 _) (by decide) rfl ?_
                refine vx_goto (tgt := 64) dX9_gangs_122 (by decide) ?_
                refine vx_keep (ls2 := [(6, .inl (nI (g + 1))), (5, .inl (nI g)), (4, .inl (nI (t + 1))), (3, .inl ak), (0, vx_r 54), (1, .inl (nI f)), (2, .inl (μ 56 0))]) ⟨rfl, rfl, rfl, rfl, rfl, rfl, rfl, trivial⟩ ?_
                refine vx_eq (ls2 := [(6, .inl (nI (g + 1))), (5, .inl (sp_nx g)), (4, .inl (nI (t + 1))), (3, .inl ak), (0, vx_r 54), (1, .inl (nI f)), (2, .inl (μ 56 0))]) rfl (by rw [sp_nxp (show ¬ g = 0 by omega)]) rfl ?_
                exact ihq (g + 1) g (by omega) (by omega) (by rw [sp_next_s hg1, ← hx, if_pos ⟨cg, Or.inl hnx⟩])
              · refine vx_eq (ls2 := [(6, .inl (nI g)), (5, .inl (nI nx)), (4, .inl (nI (t + 1))), (3, .inl ak), (0, vx_r 54), (1, .inl (nI f)), (2, .inl (μ 56 0))]) rfl (by rw [sp_nxp hnx]) rfl ?_
                refine vx_iload dX9_gangs_82 rfl ?_
                refine vx_iconst (v := (-1)) dX9_gangs_84 (by decide) ?_
                refine vx_icmp_eq (tgt := 115) dX9_gangs_85 (by decide) (fun h => absurd h (show ¬ nI nx = -1 from sp_nm1 hle2)) (fun _ => ?_)
                refine vx_aload_n dX9_gangs_88 rfl ?_
                refine vx_getR (ci := 9) (T := TX9) (n := 56) (j := 31) (a := 54) (r := 72) dX9_gangs_89 rfl lay_X9 (by decide) wd_767 (by decide) ly_54 rfl ?_
                refine vx_bipush (v := 8) dX9_gangs_92 (by decide) ?_
                refine vx_iload dX9_gangs_94 rfl ?_
                refine vx_imul dX9_gangs_96 ?_
                refine vx_eq (st2 := [.inl (nI (8 * g)), vx_r 72]) rfl rfl (by rw [show (8 : Int32) = nI 8 from rfl, pk_mul]) ?_
                refine vx_iload_n dX9_gangs_97 rfl ?_
                refine vx_iadd dX9_gangs_98 ?_
                refine vx_eq (st2 := [.inl (nI ((8 * g) + f)), vx_r 72]) rfl rfl (by rw [nI_add]) ?_
                refine vx_iald (a := 72) (n := 64) (v := (μ 72 ((8 * g) + f))) dX9_gangs_99 (by decide) ly_72 (vp_in_nI (by omega) (by omega)) (by rw [nI_clamp (by omega)] <;> rfl) ?_
                refine vx_aload_n dX9_gangs_100 rfl ?_
                refine vx_getR (ci := 9) (T := TX9) (n := 56) (j := 31) (a := 54) (r := 72) dX9_gangs_101 rfl lay_X9 (by decide) wd_767 (by decide) ly_54 rfl ?_
                refine vx_bipush (v := 8) dX9_gangs_104 (by decide) ?_
                refine vx_iload dX9_gangs_106 rfl ?_
                refine vx_imul dX9_gangs_108 ?_
                refine vx_eq (st2 := [.inl (nI (8 * nx)), vx_r 72, .inl (μ 72 ((8 * g) + f))]) rfl rfl (by rw [show (8 : Int32) = nI 8 from rfl, pk_mul]) ?_
                refine vx_iload_n dX9_gangs_109 rfl ?_
                refine vx_iadd dX9_gangs_110 ?_
                refine vx_eq (st2 := [.inl (nI ((8 * nx) + f)), vx_r 72, .inl (μ 72 ((8 * g) + f))]) rfl rfl (by rw [nI_add]) ?_
                refine vx_iald (a := 72) (n := 64) (v := (μ 72 ((8 * nx) + f))) dX9_gangs_111 (by decide) ly_72 (vp_in_nI (by omega) (by omega)) (by rw [nI_clamp (by omega)] <;> rfl) ?_
                refine vx_icmp_le (tgt := 119) dX9_gangs_112 (by decide) (fun c_112 => ?_) (fun c_112 => ?_)
                · refine vx_iinc (v := (nI (g + 1))) (ls2 := [(6, .inl (nI (g + 1))), (5, .inl (nI nx)), (4, .inl (nI (t + 1))), (3, .inl ak), (0, vx_r 54), (1, .inl (nI f)), (2, .inl (μ 56 0))]) dX9_gangs_119 rfl (nI_1 _) (by decide) rfl ?_
                  refine vx_goto (tgt := 64) dX9_gangs_122 (by decide) ?_
                  refine vx_keep (ls2 := [(6, .inl (nI (g + 1))), (5, .inl (nI nx)), (4, .inl (nI (t + 1))), (3, .inl ak), (0, vx_r 54), (1, .inl (nI f)), (2, .inl (μ 56 0))]) ⟨rfl, rfl, rfl, rfl, rfl, rfl, rfl, trivial⟩ ?_
                  refine vx_eq (ls2 := [(6, .inl (nI (g + 1))), (5, .inl (sp_nx nx)), (4, .inl (nI (t + 1))), (3, .inl ak), (0, vx_r 54), (1, .inl (nI f)), (2, .inl (μ 56 0))]) rfl (by rw [sp_nxp hnx]) rfl ?_
                  exact ihq (g + 1) nx (by omega) (by omega) (by rw [sp_next_s hg1, ← hx, if_neg]; rintro ⟨_, h | h⟩; exact hnx h; rw [hwg, hwx] at h; exact Int32.not_lt.mpr c_112 h)
                · refine vx_iload dX9_gangs_115 rfl ?_
                  refine vx_istore (ls2 := [(5, .inl (nI g)), (6, .inl (nI g)), (4, .inl (nI (t + 1))), (3, .inl ak), (0, vx_r 54), (1, .inl (nI f)), (2, .inl (μ 56 0))]) dX9_gangs_117 (by decide) rfl ?_
                  refine vx_iinc (v := (nI (g + 1))) (ls2 := [(6, .inl (nI (g + 1))), (5, .inl (nI g)), (4, .inl (nI (t + 1))), (3, .inl ak), (0, vx_r 54), (1, .inl (nI f)), (2, .inl (μ 56 0))]) dX9_gangs_119 rfl (nI_1 _) (by decide) rfl ?_
                  refine vx_goto (tgt := 64) dX9_gangs_122 (by decide) ?_
                  refine vx_keep (ls2 := [(6, .inl (nI (g + 1))), (5, .inl (nI g)), (4, .inl (nI (t + 1))), (3, .inl ak), (0, vx_r 54), (1, .inl (nI f)), (2, .inl (μ 56 0))]) ⟨rfl, rfl, rfl, rfl, rfl, rfl, rfl, trivial⟩ ?_
                  refine vx_eq (ls2 := [(6, .inl (nI (g + 1))), (5, .inl (sp_nx g)), (4, .inl (nI (t + 1))), (3, .inl ak), (0, vx_r 54), (1, .inl (nI f)), (2, .inl (μ 56 0))]) rfl (by rw [sp_nxp (show ¬ g = 0 by omega)]) rfl ?_
                  exact ihq (g + 1) g (by omega) (by omega) (by rw [sp_next_s hg1, ← hx, if_pos ⟨cg, Or.inr (by rw [hwg, hwx]; exact Int32.not_le.mp c_112)⟩])
        refine vx_iload dX9_gangs_49 rfl ?_
        refine vx_aload_n dX9_gangs_51 rfl ?_
        refine vx_getI (ci := 9) (T := TX9) (n := 56) (j := 18) (a := 54) (v := (nI n)) dX9_gangs_52 rfl lay_X9 (by decide) wd_754 (by decide) ly_54 rfl hc ?_
        refine vx_icmp_ge (tgt := 177) dX9_gangs_55 (by decide) (fun h => absurd h (by show ¬ (nI (n) ≤ nI ((t + 1))); rw [nI_leI (by omega) (by omega)]; omega)) (fun _ => ?_)
        refine vx_iconst (v := (-1)) dX9_gangs_58 (by decide) ?_
        refine vx_istore (ls2 := [(5, .inl (-1)), (4, .inl (nI (t + 1))), (3, .inl ak), (0, vx_r 54), (1, .inl (nI f)), (2, .inl (μ 56 0))]) dX9_gangs_59 (by decide) rfl ?_
        refine vx_iconst (v := 1) dX9_gangs_61 (by decide) ?_
        refine vx_istore (ls2 := [(6, .inl 1), (5, .inl (-1)), (4, .inl (nI (t + 1))), (3, .inl ak), (0, vx_r 54), (1, .inl (nI f)), (2, .inl (μ 56 0))]) dX9_gangs_62 (by decide) rfl ?_
        refine vx_keep (ls2 := [(6, .inl (nI 1)), (5, .inl (sp_nx 0)), (4, .inl (nI (t + 1))), (3, .inl ak), (0, vx_r 54), (1, .inl (nI f)), (2, .inl (μ 56 0))]) ⟨rfl, rfl, rfl, rfl, rfl, rfl, rfl, trivial⟩ ?_
        exact inner n 1 0 (by omega) (by omega) rfl
    refine vx_aload_n dX9_gangs_0 rfl ?_
    refine vx_getR (ci := 9) (T := TX9) (n := 56) (j := 3) (a := 54) (r := 56) dX9_gangs_1 rfl lay_X9 (by decide) wd_739 (by decide) ly_54 rfl ?_
    refine vx_iconst (v := 0) dX9_gangs_4 (by decide) ?_
    refine vx_iald (a := 56) (n := 12) (v := (μ 56 0)) dX9_gangs_5 (by decide) ly_56 (by unfold vp_in; decide) rfl ?_
    refine vx_istore_n (ls2 := [(2, .inl (μ 56 0)), (0, vx_r 54), (1, .inl (nI f))]) dX9_gangs_6 (by decide) rfl ?_
    refine vx_iconst (v := 1) dX9_gangs_7 (by decide) ?_
    refine vx_istore_n (ls2 := [(3, .inl 1), (2, .inl (μ 56 0)), (0, vx_r 54), (1, .inl (nI f))]) dX9_gangs_8 (by decide) rfl ?_
    refine vx_iload_n dX9_gangs_9 rfl ?_
    refine vx_bipush (v := 7) dX9_gangs_10 (by decide) ?_
    refine vx_icmp_gt (tgt := 28) dX9_gangs_12 (by decide) (fun h => absurd h (by decide)) (fun _ => ?_)
    refine vx_aload_n dX9_gangs_15 rfl ?_
    refine vx_getR (ci := 9) (T := TX9) (n := 56) (j := 32) (a := 54) (r := 73) dX9_gangs_16 rfl lay_X9 (by decide) wd_768 (by decide) ly_54 rfl ?_
    refine vx_iload_n dX9_gangs_19 rfl ?_
    refine vx_iconst (v := 0) dX9_gangs_20 (by decide) ?_
    refine vx_iast (a := 73) (n := 8) (μ2 := (va_up μ 73 (upd (μ 73) 1 0))) dX9_gangs_21 (by decide) ly_73 (by unfold vp_in; decide) rfl ?_
    refine vx_iinc (v := 2) (ls2 := [(3, .inl 2), (2, .inl (μ 56 0)), (0, vx_r 54), (1, .inl (nI f))]) dX9_gangs_22 rfl (by decide) (by decide) rfl ?_
    refine vx_goto (tgt := 9) dX9_gangs_25 (by decide) ?_
    refine vx_iload_n dX9_gangs_9 rfl ?_
    refine vx_bipush (v := 7) dX9_gangs_10 (by decide) ?_
    refine vx_icmp_gt (tgt := 28) dX9_gangs_12 (by decide) (fun h => absurd h (by decide)) (fun _ => ?_)
    refine vx_aload_n dX9_gangs_15 rfl ?_
    refine vx_getR (ci := 9) (T := TX9) (n := 56) (j := 32) (a := 54) (r := 73) dX9_gangs_16 rfl lay_X9 (by decide) wd_768 (by decide) ly_54 rfl ?_
    refine vx_iload_n dX9_gangs_19 rfl ?_
    refine vx_iconst (v := 0) dX9_gangs_20 (by decide) ?_
    refine vx_iast (a := 73) (n := 8) (μ2 := (va_up μ 73 (upd (upd (μ 73) 1 0) 2 0))) dX9_gangs_21 (by decide) ly_73 (by unfold vp_in; decide) vx_m1 ?_
    refine vx_iinc (v := 3) (ls2 := [(3, .inl 3), (2, .inl (μ 56 0)), (0, vx_r 54), (1, .inl (nI f))]) dX9_gangs_22 rfl (by decide) (by decide) rfl ?_
    refine vx_goto (tgt := 9) dX9_gangs_25 (by decide) ?_
    refine vx_iload_n dX9_gangs_9 rfl ?_
    refine vx_bipush (v := 7) dX9_gangs_10 (by decide) ?_
    refine vx_icmp_gt (tgt := 28) dX9_gangs_12 (by decide) (fun h => absurd h (by decide)) (fun _ => ?_)
    refine vx_aload_n dX9_gangs_15 rfl ?_
    refine vx_getR (ci := 9) (T := TX9) (n := 56) (j := 32) (a := 54) (r := 73) dX9_gangs_16 rfl lay_X9 (by decide) wd_768 (by decide) ly_54 rfl ?_
    refine vx_iload_n dX9_gangs_19 rfl ?_
    refine vx_iconst (v := 0) dX9_gangs_20 (by decide) ?_
    refine vx_iast (a := 73) (n := 8) (μ2 := (va_up μ 73 (upd (upd (upd (μ 73) 1 0) 2 0) 3 0))) dX9_gangs_21 (by decide) ly_73 (by unfold vp_in; decide) vx_m1 ?_
    refine vx_iinc (v := 4) (ls2 := [(3, .inl 4), (2, .inl (μ 56 0)), (0, vx_r 54), (1, .inl (nI f))]) dX9_gangs_22 rfl (by decide) (by decide) rfl ?_
    refine vx_goto (tgt := 9) dX9_gangs_25 (by decide) ?_
    refine vx_iload_n dX9_gangs_9 rfl ?_
    refine vx_bipush (v := 7) dX9_gangs_10 (by decide) ?_
    refine vx_icmp_gt (tgt := 28) dX9_gangs_12 (by decide) (fun h => absurd h (by decide)) (fun _ => ?_)
    refine vx_aload_n dX9_gangs_15 rfl ?_
    refine vx_getR (ci := 9) (T := TX9) (n := 56) (j := 32) (a := 54) (r := 73) dX9_gangs_16 rfl lay_X9 (by decide) wd_768 (by decide) ly_54 rfl ?_
    refine vx_iload_n dX9_gangs_19 rfl ?_
    refine vx_iconst (v := 0) dX9_gangs_20 (by decide) ?_
    refine vx_iast (a := 73) (n := 8) (μ2 := (va_up μ 73 (upd (upd (upd (upd (μ 73) 1 0) 2 0) 3 0) 4 0))) dX9_gangs_21 (by decide) ly_73 (by unfold vp_in; decide) vx_m1 ?_
    refine vx_iinc (v := 5) (ls2 := [(3, .inl 5), (2, .inl (μ 56 0)), (0, vx_r 54), (1, .inl (nI f))]) dX9_gangs_22 rfl (by decide) (by decide) rfl ?_
    refine vx_goto (tgt := 9) dX9_gangs_25 (by decide) ?_
    refine vx_iload_n dX9_gangs_9 rfl ?_
    refine vx_bipush (v := 7) dX9_gangs_10 (by decide) ?_
    refine vx_icmp_gt (tgt := 28) dX9_gangs_12 (by decide) (fun h => absurd h (by decide)) (fun _ => ?_)
    refine vx_aload_n dX9_gangs_15 rfl ?_
    refine vx_getR (ci := 9) (T := TX9) (n := 56) (j := 32) (a := 54) (r := 73) dX9_gangs_16 rfl lay_X9 (by decide) wd_768 (by decide) ly_54 rfl ?_
    refine vx_iload_n dX9_gangs_19 rfl ?_
    refine vx_iconst (v := 0) dX9_gangs_20 (by decide) ?_
    refine vx_iast (a := 73) (n := 8) (μ2 := (va_up μ 73 (upd (upd (upd (upd (upd (μ 73) 1 0) 2 0) 3 0) 4 0) 5 0))) dX9_gangs_21 (by decide) ly_73 (by unfold vp_in; decide) vx_m1 ?_
    refine vx_iinc (v := 6) (ls2 := [(3, .inl 6), (2, .inl (μ 56 0)), (0, vx_r 54), (1, .inl (nI f))]) dX9_gangs_22 rfl (by decide) (by decide) rfl ?_
    refine vx_goto (tgt := 9) dX9_gangs_25 (by decide) ?_
    refine vx_iload_n dX9_gangs_9 rfl ?_
    refine vx_bipush (v := 7) dX9_gangs_10 (by decide) ?_
    refine vx_icmp_gt (tgt := 28) dX9_gangs_12 (by decide) (fun h => absurd h (by decide)) (fun _ => ?_)
    refine vx_aload_n dX9_gangs_15 rfl ?_
    refine vx_getR (ci := 9) (T := TX9) (n := 56) (j := 32) (a := 54) (r := 73) dX9_gangs_16 rfl lay_X9 (by decide) wd_768 (by decide) ly_54 rfl ?_
    refine vx_iload_n dX9_gangs_19 rfl ?_
    refine vx_iconst (v := 0) dX9_gangs_20 (by decide) ?_
    refine vx_iast (a := 73) (n := 8) (μ2 := (va_up μ 73 (upd (upd (upd (upd (upd (upd (μ 73) 1 0) 2 0) 3 0) 4 0) 5 0) 6 0))) dX9_gangs_21 (by decide) ly_73 (by unfold vp_in; decide) vx_m1 ?_
    refine vx_iinc (v := 7) (ls2 := [(3, .inl 7), (2, .inl (μ 56 0)), (0, vx_r 54), (1, .inl (nI f))]) dX9_gangs_22 rfl (by decide) (by decide) rfl ?_
    refine vx_goto (tgt := 9) dX9_gangs_25 (by decide) ?_
    refine vx_iload_n dX9_gangs_9 rfl ?_
    refine vx_bipush (v := 7) dX9_gangs_10 (by decide) ?_
    refine vx_icmp_gt (tgt := 28) dX9_gangs_12 (by decide) (fun h => absurd h (by decide)) (fun _ => ?_)
    refine vx_aload_n dX9_gangs_15 rfl ?_
    refine vx_getR (ci := 9) (T := TX9) (n := 56) (j := 32) (a := 54) (r := 73) dX9_gangs_16 rfl lay_X9 (by decide) wd_768 (by decide) ly_54 rfl ?_
    refine vx_iload_n dX9_gangs_19 rfl ?_
    refine vx_iconst (v := 0) dX9_gangs_20 (by decide) ?_
    refine vx_iast (a := 73) (n := 8) (μ2 := (va_up μ 73 (upd (upd (upd (upd (upd (upd (upd (μ 73) 1 0) 2 0) 3 0) 4 0) 5 0) 6 0) 7 0))) dX9_gangs_21 (by decide) ly_73 (by unfold vp_in; decide) vx_m1 ?_
    refine vx_iinc (v := 8) (ls2 := [(3, .inl 8), (2, .inl (μ 56 0)), (0, vx_r 54), (1, .inl (nI f))]) dX9_gangs_22 rfl (by decide) (by decide) rfl ?_
    refine vx_goto (tgt := 9) dX9_gangs_25 (by decide) ?_
    refine vx_iload_n dX9_gangs_9 rfl ?_
    refine vx_bipush (v := 7) dX9_gangs_10 (by decide) ?_
    refine vx_icmp_gt (tgt := 28) dX9_gangs_12 (by decide) (fun _ => ?_) (fun h => absurd h (by decide))
    refine vx_aload_n dX9_gangs_28 rfl ?_
    refine vx_iload_n dX9_gangs_29 rfl ?_
    refine vx_aload_n dX9_gangs_30 rfl ?_
    refine vx_getR (ci := 9) (T := TX9) (n := 56) (j := 22) (a := 54) (r := 63) dX9_gangs_31 rfl lay_X9 (by decide) wd_758 (by decide) ly_54 rfl ?_
    refine vx_iload_n dX9_gangs_34 rfl ?_
    refine vx_iald (a := 63) (n := 8) (v := (μ 63 f)) dX9_gangs_35 (by decide) ly_63 (vp_in_nI (by omega) (by omega)) (by rw [nI_clamp (by omega)] <;> rfl) ?_
    refine vx_mmin dX9_gangs_36 wd_985 (by omega) (Nat.le_of_ble_eq_true rfl) (Nat.le_refl 0) (Nat.le_refl 0) ?_
    refine vx_putI (ci := 9) (T := TX9) (n := 56) (j := 33) (a := 54) (ty := .int) (μ2 := (va_up (va_up μ 54 (upd (μ 54) 33 (if (μ 63 f) < (μ 56 0) then (μ 63 f) else (μ 56 0)))) 73 (upd (upd (upd (upd (upd (upd (upd (μ 73) 1 0) 2 0) 3 0) 4 0) 5 0) 6 0) 7 0))) dX9_gangs_39 rfl lay_X9 tyX9_ok nmX9 (by decide) wd_769 rfl rfl rfl rfl (by decide) ly_54 rfl (vx_m2 (by decide)) ?_
    refine vx_iconst (v := 1) dX9_gangs_42 (by decide) ?_
    refine vx_iload_n dX9_gangs_43 rfl ?_
    refine vx_ishl dX9_gangs_44 ?_
    refine vx_istore_n (ls2 := [(3, .inl (1 <<< ((nI f) &&& 31))), (2, .inl (μ 56 0)), (0, vx_r 54), (1, .inl (nI f))]) dX9_gangs_45 (by decide) rfl ?_
    refine vx_iconst (v := 1) dX9_gangs_46 (by decide) ?_
    refine vx_istore (ls2 := [(4, .inl 1), (3, .inl (1 <<< ((nI f) &&& 31))), (2, .inl (μ 56 0)), (0, vx_r 54), (1, .inl (nI f))]) dX9_gangs_47 (by decide) rfl ?_
    refine vx_keep (ls2 := [(4, .inl 1), (3, .inl (1 <<< ((nI f) &&& 31))), (0, vx_r 54), (1, .inl (nI f)), (2, .inl (μ 56 0))]) ⟨rfl, rfl, rfl, rfl, rfl, trivial⟩ ?_
    refine vx_eq (μ2 := (va_up (va_up μ 54 (upd (μ 54) 33 (sp_min (μ 63 f) (μ 56 0)))) 73 (mo_gg (sp_cn f) (μ 73)))) (by rw [mo_gg0 f, ← sp_min_comm (μ 56 0) (μ 63 f)]; rfl) rfl rfl ?_
    exact outer (n - 1) 0 _ _ _ (by omega) rfl (fun g a1 a7 => by
      rw [mo_bt1 (by omega) (by omega)]
      unfold sp_cn upd
      by_cases e : g = f <;> simp [e])
  exact vx_J.M pn_X9_gangs (Nat.le_of_ble_eq_true rfl) (key _ _ ⟨rfl, rfl, rfl, rfl, rfl⟩)
def mo_speed (μ : vx_mem) (n f : Nat) : Int32 := sp_max 1 (μ 56 1 * (mo_G μ n f).2 / μ 56 0)
set_option maxRecDepth 20000 in
set_option maxHeartbeats 2000000 in
theorem c_X9_speedOf (d : Nat) (hd : 2 ≤ d) (ad : Nat → Nat) (μ : vx_mem) (n : Nat) (hk : mo_ck μ n) (f : Nat) (h1 : 1 ≤ f) (h2 : f ≤ n) : vx_Mf yX9_speedOf cX9_speedOf 2 (some (.int)) d ad 82 vx_lay μ [vx_r 54, .inl (nI f)] (some (.inl (mo_speed μ n f))) (va_up (va_up μ 54 (upd (μ 54) 33 (mo_G μ n f).2)) 73 (mo_gg (mo_G μ n f).1 (μ 73))) := by
  have key : ∀ (Post : vx_P) (ini : Bool), Post (some (.inl (mo_speed μ n f))) ad 82 vx_lay (va_up (va_up μ 54 (upd (μ 54) 33 (mo_G μ n f).2)) 73 (mo_gg (mo_G μ n f).1 (μ 73))) → vx_J RX9 cX9_speedOf 2 (some (.int)) ini d 0 0 Post ad 0 0 82 vx_lay μ 0 [(0, vx_r 54), (1, .inl (nI f))] [] := by
    intro Post ini hP
    have hn := hk.2.1
    refine vx_aload_n dX9_speedOf_0 rfl ?_
    refine vx_iload_n dX9_speedOf_1 rfl ?_
    refine vx_callV (b := 54) (vs := [.inl (nI f)]) (st := []) (r0 := none) (μ0 := (va_up (va_up μ 54 (upd (μ 54) 33 (mo_G μ n f).2)) 73 (mo_gg (mo_G μ n f).1 (μ 73)))) dX9_speedOf_2 (c_X9_gangs (d - 1) (by omega) ad μ n hk f (by omega) (by omega)) wd_981 wd_984 wd_54 hy_X9_gangs wd_983 wd_33 (by decide) ly_54 rfl rfl (by omega) (Nat.le_of_ble_eq_true rfl) (Nat.le_of_ble_eq_true rfl) (Nat.le_refl 0) (Nat.le_refl 0) ?_
    refine vx_eq (μ2 := (va_up (va_up μ 54 (upd (μ 54) 33 (mo_G μ n f).2)) 73 (mo_gg (mo_G μ n f).1 (μ 73)))) (ls2 := [(0, vx_r 54), (1, .inl (nI f))]) (st2 := []) rfl rfl rfl ?_
    refine vx_iconst (v := 1) dX9_speedOf_5 (by decide) ?_
    refine vx_aload_n dX9_speedOf_6 rfl ?_
    refine vx_getR (ci := 9) (T := TX9) (n := 56) (j := 3) (a := 54) (r := 56) dX9_speedOf_7 rfl lay_X9 (by decide) wd_739 (by decide) ly_54 rfl ?_
    refine vx_iconst (v := 1) dX9_speedOf_10 (by decide) ?_
    refine vx_iald (a := 56) (n := 12) (v := (μ 56 1)) dX9_speedOf_11 (by decide) ly_56 (by unfold vp_in; decide) rfl ?_
    refine vx_aload_n dX9_speedOf_12 rfl ?_
    refine vx_getI (ci := 9) (T := TX9) (n := 56) (j := 33) (a := 54) (v := (mo_G μ n f).2) dX9_speedOf_13 rfl lay_X9 (by decide) wd_769 (by decide) ly_54 rfl rfl ?_
    refine vx_imul dX9_speedOf_16 ?_
    refine vx_aload_n dX9_speedOf_17 rfl ?_
    refine vx_getR (ci := 9) (T := TX9) (n := 56) (j := 3) (a := 54) (r := 56) dX9_speedOf_18 rfl lay_X9 (by decide) wd_739 (by decide) ly_54 rfl ?_
    refine vx_iconst (v := 0) dX9_speedOf_21 (by decide) ?_
    refine vx_iald (a := 56) (n := 12) (v := (μ 56 0)) dX9_speedOf_22 (by decide) ly_56 (by unfold vp_in; decide) rfl ?_
    refine vx_idiv dX9_speedOf_23 (by intro e; have q := hk.2.2.1; unfold zz_in at q; rw [e] at q; exact absurd q.1 (by decide)) ?_
    refine vx_mmax dX9_speedOf_24 wd_986 (by omega) (Nat.le_of_ble_eq_true rfl) (Nat.le_refl 0) (Nat.le_refl 0) ?_
    exact vx_ret (ty := .int) dX9_speedOf_27 rfl rfl (Nat.le_refl 0) (Nat.le_refl 0) (vx_pst hP rfl rfl)
  exact vx_J.M pn_X9_speedOf (Nat.le_of_ble_eq_true rfl) (key _ _ ⟨rfl, rfl, rfl, rfl, rfl⟩)
end
