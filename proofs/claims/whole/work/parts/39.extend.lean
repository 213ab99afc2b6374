section
theorem sp_one {p : Prop} {inst : Decidable p} (h : ¬ (if p then (1 : Int32) else 0) = 0) : p := by
  by_cases q : p
  · exact q
  · exact absurd (if_neg q) h
def sp_kee (td ls : Int32) (μ : vx_mem) : vx_mem := va_up (va_up μ 39 (upd (upd (μ 39) 11 td) 10 ls)) 46 (sp_cp (μ 46) (μ 45))
abbrev sp_en (μ : vx_mem) (pl k : Nat) (td : Int32) : Int32 := sp_lea μ k (td + sp_btw μ pl k)
abbrev sp_su (μ : vx_mem) (pl k : Nat) (td ls : Int32) : Int32 := ls + sp_los μ k (sp_lea μ k (td + sp_btw μ pl k))
/-- whether k is tried behind len farms, the last at pl -/
abbrev sp_try (len pl c : Nat) (td ls : Int32) (k : Nat) (μ : vx_mem) : Prop := ¬ sp_btw μ pl k = -1 ∧ sp_mc μ k len c ∧ sp_bea μ (sp_en μ pl k td) (sp_su μ pl k td ls)
def sp_sub (E : Nat → Int32 → Int32 → vx_mem → vx_mem) (len pl : Nat) (td ls : Int32) (k : Nat) (μ : vx_mem) : vx_mem := E k (sp_en μ pl k td) (sp_su μ pl k td ls) (va_up (va_up μ 43 (upd (μ 43) k 0)) 45 (upd (μ 45) len (nI k)))
def sp_stp (E : Nat → Int32 → Int32 → vx_mem → vx_mem) (len pl c : Nat) (td ls : Int32) (k : Nat) (μ : vx_mem) : vx_mem := if sp_try len pl c td ls k μ then va_up (sp_sub E len pl td ls k μ) 43 (upd (sp_sub E len pl td ls k μ 43) k 1) else μ
def sp_lop (E : Nat → Int32 → Int32 → vx_mem → vx_mem) (len pl c : Nat) (td ls : Int32) : Nat → vx_mem → vx_mem
  | 0, μ => μ
  | k + 1, μ => sp_stp E len pl c td ls (k + 1) (sp_lop E len pl c td ls k μ)
def sp_ext : Nat → Nat → Nat → Nat → Int32 → Int32 → vx_mem → vx_mem
  | 0, _, _, _, td, ls, μ => sp_kee td ls μ
  | f + 1, len, pl, c, td, ls, μ => sp_lop (fun k en su m => sp_ext f (len + 1) k c en su m) len pl c td ls 7 μ
/-- what the search leaves as it was -/
def sp_fr (m m' : vx_mem) : Prop := (∀ p, p ≠ 39 → p ≠ 43 → p ≠ 45 → p ≠ 46 → m' p = m p) ∧ ∀ j, j ≠ 10 → j ≠ 11 → m' 39 j = m 39 j
theorem sp_fr.rf {m : vx_mem} : sp_fr m m := ⟨fun _ _ _ _ _ => rfl, fun _ _ _ => rfl⟩
theorem sp_fr.tr {a b c : vx_mem} (h : sp_fr a b) (h2 : sp_fr b c) : sp_fr a c := ⟨fun p q1 q2 q3 q4 => (h2.1 p q1 q2 q3 q4).trans (h.1 p q1 q2 q3 q4), fun j q1 q2 => (h2.2 j q1 q2).trans (h.2 j q1 q2)⟩
theorem sp_fr.up {m : vx_mem} {p : Nat} {f : Nat → Int32} (h : p = 43 ∨ p = 45 ∨ p = 46) : sp_fr m (va_up m p f) := by
  refine ⟨fun q h1 h2 h3 h4 => ?_, fun j _ _ => ?_⟩
  · unfold va_up
    rw [if_neg (by omega)]
  · unfold va_up
    rw [if_neg (by omega)]
theorem sp_fr_kee (td ls : Int32) (μ : vx_mem) : sp_fr μ (sp_kee td ls μ) := by
  refine ⟨fun q h1 h2 h3 h4 => ?_, fun j h1 h2 => ?_⟩
  · unfold sp_kee va_up
    rw [if_neg h4, if_neg h1]
  · unfold sp_kee va_up upd
    simp [h1, h2]
theorem sp_fr_stp {E : Nat → Int32 → Int32 → vx_mem → vx_mem} (hE : ∀ k en su m, sp_fr m (E k en su m)) {len pl c : Nat} {td ls : Int32} {k : Nat} {μ : vx_mem} : sp_fr μ (sp_stp E len pl c td ls k μ) := by
  unfold sp_stp
  split
  · unfold sp_sub
    exact (((sp_fr.up (Or.inl rfl)).tr (sp_fr.up (Or.inr (Or.inl rfl)))).tr (hE _ _ _ _)).tr (sp_fr.up (Or.inl rfl))
  · exact sp_fr.rf
theorem sp_fr_lop {E : Nat → Int32 → Int32 → vx_mem → vx_mem} (hE : ∀ k en su m, sp_fr m (E k en su m)) {len pl c : Nat} {td ls : Int32} {μ : vx_mem} : ∀ k, sp_fr μ (sp_lop E len pl c td ls k μ)
  | 0 => sp_fr.rf
  | k + 1 => (sp_fr_lop hE k).tr (sp_fr_stp hE)
theorem sp_fr_ext : ∀ (f len pl c : Nat) (td ls : Int32) (μ : vx_mem), sp_fr μ (sp_ext f len pl c td ls μ)
  | 0, _, _, _, td, ls, μ => sp_fr_kee td ls μ
  | f + 1, len, pl, c, td, ls, μ => sp_fr_lop (fun k en su m => sp_fr_ext f (len + 1) k c en su m) 7

set_option maxRecDepth 20000 in
set_option maxHeartbeats 2000000 in
theorem c_X6_extend : ∀ (f d : Nat) (hd : f + 4 ≤ d) (ad : Nat → Nat) (μ : vx_mem) (len pl c g : Nat) (hlen : len + f = g) (hg7 : g ≤ 7) (hg : μ 39 9 = nI g) (hc : μ 39 6 = nI c) (hc7 : c < 7) (hpl : pl < 8) (td ls : Int32), vx_Mf yX6_extend cX6_extend 10 none d ad 82 vx_lay μ [vx_r 39, vx_r 18, .inl (nI len), .inl (nI pl), .inl td, .inl ls] none (sp_ext f len pl c td ls μ) := by
  intro f
  induction f with
  | zero =>
    intro d hd ad μ len pl c g hlen hg7 hg hc hc7 hpl td ls
    have key : ∀ (Post : vx_P) (ini : Bool), Post none ad 82 vx_lay (sp_ext 0 len pl c td ls μ) → vx_J RX6 cX6_extend 10 none ini d 0 0 Post ad 0 0 82 vx_lay μ 0 [(0, vx_r 39), (1, vx_r 18), (2, .inl (nI len)), (3, .inl (nI pl)), (4, .inl td), (5, .inl ls)] [] := by
      intro Post ini hP
      refine vx_iload_n dX6_extend_0 rfl ?_
      refine vx_aload_n dX6_extend_1 rfl ?_
      refine vx_getI (ci := 6) (T := TX6) (n := 12) (j := 9) (a := 39) (v := (nI g)) dX6_extend_2 rfl lay_X6 (by decide) wd_243 (by decide) ly_39 rfl hg ?_
      refine vx_icmp_ge (tgt := 14) dX6_extend_5 (by decide) (fun _ => ?_) (fun h => absurd (by show (nI (g) ≤ nI (len)); rw [nI_leI (by omega) (by omega)]; omega) h)
      refine vx_aload_n dX6_extend_14 rfl ?_
      refine vx_iload dX6_extend_15 rfl ?_
      refine vx_iload dX6_extend_17 rfl ?_
      refine vx_callV (b := 39) (vs := [.inl td, .inl ls]) (st := []) (r0 := none) (μ0 := (sp_kee td ls μ)) dX6_extend_19 (c_X6_keepAsBest (d - 1) (by omega) ad μ td ls) wd_599 wd_602 wd_51 hy_X6_keepAsBest wd_601 wd_10 (by decide) ly_39 rfl rfl (by omega) (Nat.le_of_ble_eq_true rfl) (Nat.le_of_ble_eq_true rfl) (Nat.le_refl 0) (Nat.le_refl 0) ?_
      refine vx_eq (μ2 := (sp_kee td ls μ)) (ls2 := [(0, vx_r 39), (1, vx_r 18), (2, .inl (nI len)), (3, .inl (nI pl)), (4, .inl td), (5, .inl ls)]) (st2 := []) rfl rfl rfl ?_
      exact vx_vret dX6_extend_22 rfl (Nat.le_refl 0) (Nat.le_refl 0) (vx_pst hP rfl rfl)
    exact vx_J.M pn_X6_extend (Nat.le_of_ble_eq_true rfl) (key _ _ ⟨rfl, rfl, rfl, rfl, rfl⟩)
  | succ f ih =>
    intro d hd ad μ len pl c g hlen hg7 hg hc hc7 hpl td ls
    have key : ∀ (Post : vx_P) (ini : Bool), Post none ad 82 vx_lay (sp_ext (f + 1) len pl c td ls μ) → vx_J RX6 cX6_extend 10 none ini d 0 0 Post ad 0 0 82 vx_lay μ 0 [(0, vx_r 39), (1, vx_r 18), (2, .inl (nI len)), (3, .inl (nI pl)), (4, .inl td), (5, .inl ls)] [] := by
      intro Post ini hP
      have loop : ∀ (r i : Nat) (m : vx_mem), i + r = 8 → 1 ≤ i → m = (sp_lop (fun k en su m => sp_ext f (len + 1) k c en su m) len pl c td ls (i - 1) μ) → vx_J RX6 cX6_extend 10 none ini d 0 0 Post ad 0 0 82 vx_lay m 26 [(6, .inl (nI i)), (0, vx_r 39), (1, vx_r 18), (2, .inl (nI len)), (3, .inl (nI pl)), (4, .inl td), (5, .inl ls)] [] := by
        intro r
        induction r with
        | zero =>
          intro i m hi h1 hm
          refine vx_iload dX6_extend_26 rfl ?_
          refine vx_bipush (v := 7) dX6_extend_28 (by decide) ?_
          refine vx_icmp_gt (tgt := 139) dX6_extend_30 (by decide) (fun _ => ?_) (fun h => absurd (by show (nI (7) < nI (i)); rw [nI_ltI (by omega) (by omega)]; omega) h)
          exact vx_vret dX6_extend_139 rfl (Nat.le_refl 0) (Nat.le_refl 0) (vx_pst hP rfl (by rw [hm, show i - 1 = 7 by omega]; rfl))
        | succ r ihr =>
          intro i m hi h1 hm
          have hfr : sp_fr μ m := by rw [hm]; exact sp_fr_lop (fun k en su m => sp_fr_ext f (len + 1) k c en su m) (i - 1)
          have hgm : m 39 9 = nI g := (hfr.2 9 (by decide) (by decide)).trans hg
          have hcm : m 39 6 = nI c := (hfr.2 6 (by decide) (by decide)).trans hc
          have hnx : (sp_lop (fun k en su m => sp_ext f (len + 1) k c en su m) len pl c td ls (i + 1 - 1) μ) = sp_stp (fun k en su m => sp_ext f (len + 1) k c en su m) len pl c td ls i m := by
            obtain ⟨j, rfl⟩ : ∃ j, i = j + 1 := ⟨i - 1, by omega⟩
            rw [hm]; rfl
          refine vx_iload dX6_extend_26 rfl ?_
          refine vx_bipush (v := 7) dX6_extend_28 (by decide) ?_
          refine vx_icmp_gt (tgt := 139) dX6_extend_30 (by decide) (fun h => absurd h (by show ¬ (nI (7) < nI (i)); rw [nI_ltI (by omega) (by omega)]; omega)) (fun _ => ?_)
          refine vx_aload_n dX6_extend_33 rfl ?_
          refine vx_iload_n dX6_extend_34 rfl ?_
          refine vx_iload dX6_extend_35 rfl ?_
          refine vx_callV (b := 18) (vs := [.inl (nI pl), .inl (nI i)]) (st := []) (r0 := (some (.inl (sp_btw m pl i)))) (μ0 := m) dX6_extend_37 (c_X5_between (d - 1) (by omega) ad m pl i (by omega) (by omega)) wd_603 wd_606 wd_49 hy_X5_between wd_604 wd_605 (by decide) ly_18 rfl rfl (by omega) (Nat.le_of_ble_eq_true rfl) (Nat.le_of_ble_eq_true rfl) (Nat.le_refl 0) (Nat.le_refl 0) ?_
          refine vx_eq (μ2 := m) (ls2 := [(6, .inl (nI i)), (0, vx_r 39), (1, vx_r 18), (2, .inl (nI len)), (3, .inl (nI pl)), (4, .inl td), (5, .inl ls)]) (st2 := [.inl (sp_btw m pl i)]) rfl rfl rfl ?_
          refine vx_istore (ls2 := [(7, .inl (sp_btw m pl i)), (6, .inl (nI i)), (0, vx_r 39), (1, vx_r 18), (2, .inl (nI len)), (3, .inl (nI pl)), (4, .inl td), (5, .inl ls)]) dX6_extend_40 (by decide) rfl ?_
          refine vx_iload dX6_extend_42 rfl ?_
          refine vx_iconst (v := (-1)) dX6_extend_44 (by decide) ?_
          refine vx_icmp_eq (tgt := 133) dX6_extend_45 (by decide) (fun c_45 => ?_) (fun c_45 => ?_)
          · refine vx_iinc (v := (nI (i + 1))) (ls2 := [(6, .inl (nI (i + 1))), (7, .inl (sp_btw m pl i)), (0, vx_r 39), (1, vx_r 18), (2, .inl (nI len)), (3, .inl (nI pl)), (4, .inl td), (5, .inl ls)]) dX6_extend_133 rfl (nI_1 _) (by decide) rfl ?_
            refine vx_goto (tgt := 26) dX6_extend_136 (by decide) ?_
            refine vx_keep (ls2 := [(6, .inl (nI (i + 1))), (0, vx_r 39), (1, vx_r 18), (2, .inl (nI len)), (3, .inl (nI pl)), (4, .inl td), (5, .inl ls)]) ⟨rfl, rfl, rfl, rfl, rfl, rfl, rfl, trivial⟩ ?_
            exact ihr (i + 1) _ (by omega) (by omega) (by rw [hnx]; unfold sp_stp; rw [if_neg (show ¬ sp_try len pl c td ls i m from fun h => h.1 c_45)])
          · refine vx_aload_n dX6_extend_48 rfl ?_
            refine vx_iload dX6_extend_49 rfl ?_
            refine vx_iload_n dX6_extend_51 rfl ?_
            refine vx_callV (b := 39) (vs := [.inl (nI i), .inl (nI len)]) (st := []) (r0 := (some (.inl (if sp_mc m i len c then 1 else 0)))) (μ0 := m) dX6_extend_52 (c_X6_mayCome (d - 1) (by omega) ad m i (by omega) len (by omega) c hcm hc7) wd_608 wd_611 wd_51 hy_X6_mayCome wd_610 wd_11 (by decide) ly_39 rfl rfl (by omega) (Nat.le_of_ble_eq_true rfl) (Nat.le_of_ble_eq_true rfl) (Nat.le_refl 0) (Nat.le_refl 0) ?_
            refine vx_eq (μ2 := m) (ls2 := [(7, .inl (sp_btw m pl i)), (6, .inl (nI i)), (0, vx_r 39), (1, vx_r 18), (2, .inl (nI len)), (3, .inl (nI pl)), (4, .inl td), (5, .inl ls)]) (st2 := [.inl (if sp_mc m i len c then 1 else 0)]) rfl rfl rfl ?_
            refine vx_if_eq (tgt := 133) dX6_extend_55 (by decide) (fun c_55 => ?_) (fun c_55 => ?_)
            · refine vx_iinc (v := (nI (i + 1))) (ls2 := [(6, .inl (nI (i + 1))), (7, .inl (sp_btw m pl i)), (0, vx_r 39), (1, vx_r 18), (2, .inl (nI len)), (3, .inl (nI pl)), (4, .inl td), (5, .inl ls)]) dX6_extend_133 rfl (nI_1 _) (by decide) rfl ?_
              refine vx_goto (tgt := 26) dX6_extend_136 (by decide) ?_
              refine vx_keep (ls2 := [(6, .inl (nI (i + 1))), (0, vx_r 39), (1, vx_r 18), (2, .inl (nI len)), (3, .inl (nI pl)), (4, .inl td), (5, .inl ls)]) ⟨rfl, rfl, rfl, rfl, rfl, rfl, rfl, trivial⟩ ?_
              exact ihr (i + 1) _ (by omega) (by omega) (by rw [hnx]; unfold sp_stp; rw [if_neg (show ¬ sp_try len pl c td ls i m from fun h => by rw [if_pos h.2.1] at c_55; exact absurd c_55 (by decide))])
            · refine vx_aload_n dX6_extend_58 rfl ?_
              refine vx_iload dX6_extend_59 rfl ?_
              refine vx_iload dX6_extend_61 rfl ?_
              refine vx_iload dX6_extend_63 rfl ?_
              refine vx_iadd dX6_extend_65 ?_
              refine vx_callV (b := 39) (vs := [.inl (nI i), .inl (td + (sp_btw m pl i))]) (st := []) (r0 := (some (.inl (sp_lea m i (td + (sp_btw m pl i)))))) (μ0 := m) dX6_extend_66 (c_X6_leaves (d - 1) (by omega) ad m i (by omega) (td + (sp_btw m pl i))) wd_612 wd_615 wd_51 hy_X6_leaves wd_613 wd_614 (by decide) ly_39 rfl rfl (by omega) (Nat.le_of_ble_eq_true rfl) (Nat.le_of_ble_eq_true rfl) (Nat.le_refl 0) (Nat.le_refl 0) ?_
              refine vx_eq (μ2 := m) (ls2 := [(7, .inl (sp_btw m pl i)), (6, .inl (nI i)), (0, vx_r 39), (1, vx_r 18), (2, .inl (nI len)), (3, .inl (nI pl)), (4, .inl td), (5, .inl ls)]) (st2 := [.inl (sp_lea m i (td + (sp_btw m pl i)))]) rfl rfl rfl ?_
              refine vx_istore (ls2 := [(8, .inl (sp_lea m i (td + (sp_btw m pl i)))), (7, .inl (sp_btw m pl i)), (6, .inl (nI i)), (0, vx_r 39), (1, vx_r 18), (2, .inl (nI len)), (3, .inl (nI pl)), (4, .inl td), (5, .inl ls)]) dX6_extend_69 (by decide) rfl ?_
              refine vx_iload dX6_extend_71 rfl ?_
              refine vx_aload_n dX6_extend_73 rfl ?_
              refine vx_iload dX6_extend_74 rfl ?_
              refine vx_iload dX6_extend_76 rfl ?_
              refine vx_callV (b := 39) (vs := [.inl (nI i), .inl (sp_lea m i (td + (sp_btw m pl i)))]) (st := [.inl ls]) (r0 := (some (.inl (sp_los m i (sp_lea m i (td + (sp_btw m pl i))))))) (μ0 := m) dX6_extend_78 (c_X6_lossOf (d - 1) (by omega) ad m i (by omega) (sp_lea m i (td + (sp_btw m pl i)))) wd_621 wd_624 wd_51 hy_X6_lossOf wd_622 wd_623 (by decide) ly_39 rfl rfl (by omega) (Nat.le_of_ble_eq_true rfl) (Nat.le_of_ble_eq_true rfl) (Nat.le_refl 0) (Nat.le_refl 0) ?_
              refine vx_eq (μ2 := m) (ls2 := [(8, .inl (sp_lea m i (td + (sp_btw m pl i)))), (7, .inl (sp_btw m pl i)), (6, .inl (nI i)), (0, vx_r 39), (1, vx_r 18), (2, .inl (nI len)), (3, .inl (nI pl)), (4, .inl td), (5, .inl ls)]) (st2 := [.inl (sp_los m i (sp_lea m i (td + (sp_btw m pl i)))), .inl ls]) rfl rfl rfl ?_
              refine vx_iadd dX6_extend_81 ?_
              refine vx_istore (ls2 := [(9, .inl (ls + (sp_los m i (sp_lea m i (td + (sp_btw m pl i)))))), (8, .inl (sp_lea m i (td + (sp_btw m pl i)))), (7, .inl (sp_btw m pl i)), (6, .inl (nI i)), (0, vx_r 39), (1, vx_r 18), (2, .inl (nI len)), (3, .inl (nI pl)), (4, .inl td), (5, .inl ls)]) dX6_extend_82 (by decide) rfl ?_
              refine vx_aload_n dX6_extend_84 rfl ?_
              refine vx_iload dX6_extend_85 rfl ?_
              refine vx_iload dX6_extend_87 rfl ?_
              refine vx_callV (b := 39) (vs := [.inl (sp_lea m i (td + (sp_btw m pl i))), .inl (ls + (sp_los m i (sp_lea m i (td + (sp_btw m pl i)))))]) (st := []) (r0 := (some (.inl (if sp_bea m (sp_lea m i (td + (sp_btw m pl i))) (ls + (sp_los m i (sp_lea m i (td + (sp_btw m pl i))))) then 1 else 0)))) (μ0 := m) dX6_extend_89 (c_X6_beatsBest (d - 1) ad m (sp_lea m i (td + (sp_btw m pl i))) (ls + (sp_los m i (sp_lea m i (td + (sp_btw m pl i)))))) wd_625 wd_628 wd_51 hy_X6_beatsBest wd_627 wd_12 (by decide) ly_39 rfl rfl (by omega) (Nat.le_of_ble_eq_true rfl) (Nat.le_of_ble_eq_true rfl) (Nat.le_refl 0) (Nat.le_refl 0) ?_
              refine vx_eq (μ2 := m) (ls2 := [(9, .inl (ls + (sp_los m i (sp_lea m i (td + (sp_btw m pl i)))))), (8, .inl (sp_lea m i (td + (sp_btw m pl i)))), (7, .inl (sp_btw m pl i)), (6, .inl (nI i)), (0, vx_r 39), (1, vx_r 18), (2, .inl (nI len)), (3, .inl (nI pl)), (4, .inl td), (5, .inl ls)]) (st2 := [.inl (if sp_bea m (sp_lea m i (td + (sp_btw m pl i))) (ls + (sp_los m i (sp_lea m i (td + (sp_btw m pl i))))) then 1 else 0)]) rfl rfl rfl ?_
              refine vx_if_eq (tgt := 133) dX6_extend_92 (by decide) (fun c_92 => ?_) (fun c_92 => ?_)
              · refine vx_iinc (v := (nI (i + 1))) (ls2 := [(6, .inl (nI (i + 1))), (9, .inl (ls + (sp_los m i (sp_lea m i (td + (sp_btw m pl i)))))), (8, .inl (sp_lea m i (td + (sp_btw m pl i)))), (7, .inl (sp_btw m pl i)), (0, vx_r 39), (1, vx_r 18), (2, .inl (nI len)), (3, .inl (nI pl)), (4, .inl td), (5, .inl ls)]) dX6_extend_133 rfl (nI_1 _) (by decide) rfl ?_
                refine vx_goto (tgt := 26) dX6_extend_136 (by decide) ?_
                refine vx_keep (ls2 := [(6, .inl (nI (i + 1))), (0, vx_r 39), (1, vx_r 18), (2, .inl (nI len)), (3, .inl (nI pl)), (4, .inl td), (5, .inl ls)]) ⟨rfl, rfl, rfl, rfl, rfl, rfl, rfl, trivial⟩ ?_
                exact ihr (i + 1) _ (by omega) (by omega) (by rw [hnx]; unfold sp_stp; rw [if_neg (show ¬ sp_try len pl c td ls i m from fun h => by rw [if_pos h.2.2] at c_92; exact absurd c_92 (by decide))])
              · refine vx_aload_n dX6_extend_95 rfl ?_
                refine vx_getR (ci := 6) (T := TX6) (n := 12) (j := 7) (a := 39) (r := 45) dX6_extend_96 rfl lay_X6 (by decide) wd_239 (by decide) ly_39 rfl ?_
                refine vx_iload_n dX6_extend_99 rfl ?_
                refine vx_iload dX6_extend_100 rfl ?_
                refine vx_callX (vs := [vx_r 45, .inl (nI len), .inl (nI i)]) (st := []) (r0 := none) (μ0 := (va_up m 45 (upd (m 45) len (nI i)))) dX6_extend_102 ((c_X8_put (d - 1) ad 82 vx_lay m 45 7 (by decide) ly_45 (by decide) (nI len) (nI i)).to rfl (congrArg (fun z => va_up m 45 z) (sp_put_nI (k := len) _ _ (by omega) (by decide)))) nst_12 wd_102 wd_45 hy_X8_put wd_101 (by omega) (Nat.le_of_ble_eq_true rfl) (Nat.le_of_ble_eq_true rfl) (Nat.le_refl 0) (Nat.le_refl 0) ?_
                refine vx_eq (μ2 := (va_up m 45 (upd (m 45) len (nI i)))) (ls2 := [(9, .inl (ls + (sp_los m i (sp_lea m i (td + (sp_btw m pl i)))))), (8, .inl (sp_lea m i (td + (sp_btw m pl i)))), (7, .inl (sp_btw m pl i)), (6, .inl (nI i)), (0, vx_r 39), (1, vx_r 18), (2, .inl (nI len)), (3, .inl (nI pl)), (4, .inl td), (5, .inl ls)]) (st2 := []) rfl rfl rfl ?_
                refine vx_aload_n dX6_extend_105 rfl ?_
                refine vx_iload dX6_extend_106 rfl ?_
                refine vx_iconst (v := 0) dX6_extend_108 (by decide) ?_
                refine vx_callV (b := 39) (vs := [.inl (nI i), .inl 0]) (st := []) (r0 := none) (μ0 := (va_up (va_up m 43 (upd (m 43) i 0)) 45 (upd (m 45) len (nI i)))) dX6_extend_109 ((c_X6_setWaits (d - 1) ad 82 vx_lay (va_up m 45 (upd (m 45) len (nI i))) (by decide) ly_39 (by decide) ly_43 i (by omega) 0 (by decide)).to rfl (vx_m2 (by decide))) wd_228 wd_231 wd_51 hy_X6_setWaits wd_230 wd_2 (by decide) ly_39 rfl rfl (by omega) (Nat.le_of_ble_eq_true rfl) (Nat.le_of_ble_eq_true rfl) (Nat.le_refl 0) (Nat.le_refl 0) ?_
                refine vx_eq (μ2 := (va_up (va_up m 43 (upd (m 43) i 0)) 45 (upd (m 45) len (nI i)))) (ls2 := [(9, .inl (ls + (sp_los m i (sp_lea m i (td + (sp_btw m pl i)))))), (8, .inl (sp_lea m i (td + (sp_btw m pl i)))), (7, .inl (sp_btw m pl i)), (6, .inl (nI i)), (0, vx_r 39), (1, vx_r 18), (2, .inl (nI len)), (3, .inl (nI pl)), (4, .inl td), (5, .inl ls)]) (st2 := []) rfl rfl rfl ?_
                refine vx_aload_n dX6_extend_112 rfl ?_
                refine vx_aload_n dX6_extend_113 rfl ?_
                refine vx_iload_n dX6_extend_114 rfl ?_
                refine vx_iconst (v := 1) dX6_extend_115 (by decide) ?_
                refine vx_iadd dX6_extend_116 ?_
                refine vx_eq (st2 := [.inl (nI (len + 1)), vx_r 18, vx_r 39]) rfl rfl (by rw [nI_1]) ?_
                refine vx_iload dX6_extend_117 rfl ?_
                refine vx_iload dX6_extend_119 rfl ?_
                refine vx_iload dX6_extend_121 rfl ?_
                refine vx_callS (vs := [vx_r 39, vx_r 18, .inl (nI (len + 1)), .inl (nI i), .inl (sp_lea m i (td + (sp_btw m pl i))), .inl (ls + (sp_los m i (sp_lea m i (td + (sp_btw m pl i)))))]) (st := []) (r0 := none) (μ0 := (sp_ext f (len + 1) i c (sp_lea m i (td + (sp_btw m pl i))) (ls + (sp_los m i (sp_lea m i (td + (sp_btw m pl i))))) (va_up (va_up m 43 (upd (m 43) i 0)) 45 (upd (m 45) len (nI i))))) dX6_extend_123 (ih (d - 1) (by omega) ad (va_up (va_up m 43 (upd (m 43) i 0)) 45 (upd (m 45) len (nI i))) (len + 1) i c g (by omega) hg7 hgm hcm hc7 (by omega) (sp_lea m i (td + (sp_btw m pl i))) (ls + (sp_los m i (sp_lea m i (td + (sp_btw m pl i)))))) wd_596 wd_598 wd_51 hy_X6_extend wd_597 (by omega) (Nat.le_of_ble_eq_true rfl) (Nat.le_of_ble_eq_true rfl) (Nat.le_refl 0) (Nat.le_refl 0) ?_
                refine vx_eq (μ2 := (sp_ext f (len + 1) i c (sp_lea m i (td + (sp_btw m pl i))) (ls + (sp_los m i (sp_lea m i (td + (sp_btw m pl i))))) (va_up (va_up m 43 (upd (m 43) i 0)) 45 (upd (m 45) len (nI i))))) (ls2 := [(9, .inl (ls + (sp_los m i (sp_lea m i (td + (sp_btw m pl i)))))), (8, .inl (sp_lea m i (td + (sp_btw m pl i)))), (7, .inl (sp_btw m pl i)), (6, .inl (nI i)), (0, vx_r 39), (1, vx_r 18), (2, .inl (nI len)), (3, .inl (nI pl)), (4, .inl td), (5, .inl ls)]) (st2 := []) rfl rfl rfl ?_
                refine vx_aload_n dX6_extend_126 rfl ?_
                refine vx_iload dX6_extend_127 rfl ?_
                refine vx_iconst (v := 1) dX6_extend_129 (by decide) ?_
                refine vx_callV (b := 39) (vs := [.inl (nI i), .inl 1]) (st := []) (r0 := none) (μ0 := (va_up (sp_ext f (len + 1) i c (sp_lea m i (td + (sp_btw m pl i))) (ls + (sp_los m i (sp_lea m i (td + (sp_btw m pl i))))) (va_up (va_up m 43 (upd (m 43) i 0)) 45 (upd (m 45) len (nI i)))) 43 (upd ((sp_ext f (len + 1) i c (sp_lea m i (td + (sp_btw m pl i))) (ls + (sp_los m i (sp_lea m i (td + (sp_btw m pl i))))) (va_up (va_up m 43 (upd (m 43) i 0)) 45 (upd (m 45) len (nI i)))) 43) i 1))) dX6_extend_130 (c_X6_setWaits (d - 1) ad 82 vx_lay (sp_ext f (len + 1) i c (sp_lea m i (td + (sp_btw m pl i))) (ls + (sp_los m i (sp_lea m i (td + (sp_btw m pl i))))) (va_up (va_up m 43 (upd (m 43) i 0)) 45 (upd (m 45) len (nI i)))) (by decide) ly_39 (by decide) ly_43 i (by omega) 1 (by decide)) wd_228 wd_231 wd_51 hy_X6_setWaits wd_230 wd_2 (by decide) ly_39 rfl rfl (by omega) (Nat.le_of_ble_eq_true rfl) (Nat.le_of_ble_eq_true rfl) (Nat.le_refl 0) (Nat.le_refl 0) ?_
                refine vx_eq (μ2 := (va_up (sp_ext f (len + 1) i c (sp_lea m i (td + (sp_btw m pl i))) (ls + (sp_los m i (sp_lea m i (td + (sp_btw m pl i))))) (va_up (va_up m 43 (upd (m 43) i 0)) 45 (upd (m 45) len (nI i)))) 43 (upd ((sp_ext f (len + 1) i c (sp_lea m i (td + (sp_btw m pl i))) (ls + (sp_los m i (sp_lea m i (td + (sp_btw m pl i))))) (va_up (va_up m 43 (upd (m 43) i 0)) 45 (upd (m 45) len (nI i)))) 43) i 1))) (ls2 := [(9, .inl (ls + (sp_los m i (sp_lea m i (td + (sp_btw m pl i)))))), (8, .inl (sp_lea m i (td + (sp_btw m pl i)))), (7, .inl (sp_btw m pl i)), (6, .inl (nI i)), (0, vx_r 39), (1, vx_r 18), (2, .inl (nI len)), (3, .inl (nI pl)), (4, .inl td), (5, .inl ls)]) (st2 := []) rfl rfl rfl ?_
                refine vx_iinc (v := (nI (i + 1))) (ls2 := [(6, .inl (nI (i + 1))), (9, .inl (ls + (sp_los m i (sp_lea m i (td + (sp_btw m pl i)))))), (8, .inl (sp_lea m i (td + (sp_btw m pl i)))), (7, .inl (sp_btw m pl i)), (0, vx_r 39), (1, vx_r 18), (2, .inl (nI len)), (3, .inl (nI pl)), (4, .inl td), (5, .inl ls)]) dX6_extend_133 rfl (nI_1 _) (by decide) rfl ?_
                refine vx_goto (tgt := 26) dX6_extend_136 (by decide) ?_
                refine vx_keep (ls2 := [(6, .inl (nI (i + 1))), (0, vx_r 39), (1, vx_r 18), (2, .inl (nI len)), (3, .inl (nI pl)), (4, .inl td), (5, .inl ls)]) ⟨rfl, rfl, rfl, rfl, rfl, rfl, rfl, trivial⟩ ?_
                have htry : sp_try len pl c td ls i m := ⟨c_45, sp_one c_55, sp_one c_92⟩
                exact ihr (i + 1) _ (by omega) (by omega) (by rw [hnx]; unfold sp_stp; rw [if_pos htry]; rfl)
      refine vx_iload_n dX6_extend_0 rfl ?_
      refine vx_aload_n dX6_extend_1 rfl ?_
      refine vx_getI (ci := 6) (T := TX6) (n := 12) (j := 9) (a := 39) (v := (nI g)) dX6_extend_2 rfl lay_X6 (by decide) wd_243 (by decide) ly_39 rfl hg ?_
      refine vx_icmp_ge (tgt := 14) dX6_extend_5 (by decide) (fun h => absurd h (by show ¬ (nI (g) ≤ nI (len)); rw [nI_leI (by omega) (by omega)]; omega)) (fun _ => ?_)
      refine vx_iload_n dX6_extend_8 rfl ?_
      refine vx_bipush (v := 7) dX6_extend_9 (by decide) ?_
      refine vx_icmp_lt (tgt := 23) dX6_extend_11 (by decide) (fun _ => ?_) (fun h => absurd (by show (nI (len) < nI (7)); rw [nI_ltI (by omega) (by omega)]; omega) h)
      refine vx_iconst (v := 1) dX6_extend_23 (by decide) ?_
      refine vx_istore (ls2 := [(6, .inl 1), (0, vx_r 39), (1, vx_r 18), (2, .inl (nI len)), (3, .inl (nI pl)), (4, .inl td), (5, .inl ls)]) dX6_extend_24 (by decide) rfl ?_
      exact loop 7 1 μ (by omega) (by omega) rfl
    exact vx_J.M pn_X6_extend (Nat.le_of_ble_eq_true rfl) (key _ _ ⟨rfl, rfl, rfl, rfl, rfl⟩)
end
