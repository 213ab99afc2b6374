section
theorem sr_S_sort {ω : Nat → Bool} {F : List Nat} : ∀ i j, i < (sr_S ω F).length → j < (sr_S ω F).length → ((sr_S ω F).getD i 0 < (sr_S ω F).getD j 0 ↔ i < j) := by
  have hp : (sr_S ω F).Pairwise (fun a b => a < b) := List.Pairwise.filter _ (by decide)
  rw [List.pairwise_iff_getElem] at hp
  intro i j hi hj
  rw [List.getD_eq_getElem?_getD, List.getD_eq_getElem?_getD, List.getElem?_eq_getElem hi, List.getElem?_eq_getElem hj]
  show (sr_S ω F)[i] < (sr_S ω F)[j] ↔ i < j
  rcases Nat.lt_trichotomy i j with h | h | h
  · have := hp i j hi hj h
    exact ⟨fun _ => h, fun _ => this⟩
  · subst h
    exact ⟨fun z => absurd z (Nat.lt_irrefl _), fun z => absurd z (Nat.lt_irrefl _)⟩
  · have := hp j i hj hi h
    exact ⟨fun z => by omega, fun z => by omega⟩
theorem sr_getD_appl {F a : List Nat} {j : Nat} (h : j < F.length) : (F ++ a).getD j 0 = F.getD j 0 := by
  rw [List.getD_eq_getElem?_getD, List.getElem?_append_left h, ← List.getD_eq_getElem?_getD]
theorem sr_getD_appr {F a : List Nat} {j : Nat} (h : ¬ j < F.length) : (F ++ a).getD j 0 = a.getD (j - F.length) 0 := by
  rw [List.getD_eq_getElem?_getD, List.getElem?_append_right (by omega), ← List.getD_eq_getElem?_getD]
theorem sr_getD_all {q : Nat → Prop} {a : List Nat} (h : ∀ x, x ∈ a → q x) {j : Nat} (hj : j < a.length) : q (a.getD j 0) := by
  rw [List.getD_eq_getElem?_getD, List.getElem?_eq_getElem hj]
  exact h _ (List.getElem_mem _)
theorem nI_nm1 {n : Nat} (h : n < 2 ^ 31) : ¬ nI n = -1 := fun z => absurd (z ▸ nI_pos' h : (0 : Int32) ≤ -1) (by decide)
/-- the best so far -/
def sr_mB (P : sr_P) (ω0 : Nat → Bool) (p d0 g : Nat) (μ : vx_mem) (b e : Int32) : sr_B → Prop
  | none => b = -1
  | some (o, l, t) => b = nI l ∧ e = nI t ∧ l ≤ 400000 * 7 ∧ t ≤ 5000 ∧ o.length = g ∧ (∀ j, j < g → μ 81 j = nI (o.getD j 0)) ∧ (∀ j, j < g → o.getD j 0 < 8 ∧ ω0 (o.getD j 0) = true) ∧ sr_go P p d0 0 o = some (t, l)
theorem sr_mB_up {P : sr_P} {ω0 : Nat → Bool} {p d0 g : Nat} {μ μ' : vx_mem} {b e : Int32} {B : sr_B} (h : sr_mB P ω0 p d0 g μ b e B) (e1 : μ' 81 = μ 81) : sr_mB P ω0 p d0 g μ' b e B := by
  rcases B with _ | ⟨o, l, t⟩
  · exact h
  · unfold sr_mB at h ⊢
    rw [e1]
    exact h
def mo_f1 (μ μ2 : vx_mem) : Prop := (∀ q, q ≠ 54 → q ≠ 81 → μ2 q = μ q) ∧ ∀ j, j < 53 ∨ 54 < j → μ2 54 j = μ 54 j
def mo_f2 (μ μ2 : vx_mem) : Prop := (∀ q, q ≠ 54 → q ≠ 79 → q ≠ 81 → μ2 q = μ q) ∧ ∀ j, j < 53 ∨ 54 < j → μ2 54 j = μ 54 j
def mo_scr (μ μ2 : vx_mem) : Prop := (∀ q, q ≠ 54 → q ≠ 73 → q ≠ 79 → q ≠ 80 → q ≠ 81 → μ2 q = μ q) ∧ ∀ j, j < 33 ∨ (33 < j ∧ j < 51) ∨ 54 < j → μ2 54 j = μ 54 j
theorem mo_f12 {μ μ1 μ2 : vx_mem} (h : mo_f1 μ μ1) (h2 : mo_f2 μ1 μ2) : mo_f2 μ μ2 := ⟨fun q a b c => (h2.1 q a b c).trans (h.1 q a c), fun j hj => (h2.2 j hj).trans (h.2 j hj)⟩
theorem mo_f1G {μ : vx_mem} {G : Nat → Int32} (hG : ∀ j, j < 53 ∨ 54 < j → G j = μ 54 j) : mo_f1 μ (va_up μ 54 G) := ⟨fun q a _ => by unfold va_up; rw [if_neg a], hG⟩
theorem mo_f1G2 {μ : vx_mem} {G C : Nat → Int32} (hG : ∀ j, j < 53 ∨ 54 < j → G j = μ 54 j) : mo_f1 μ (va_up (va_up μ 54 G) 81 C) := ⟨fun q a b => by unfold va_up; rw [if_neg b, if_neg a], hG⟩
def mo_sf (g old : Nat → Int32) (k : Nat) : Nat → Int32 := fun j => if 1 ≤ j ∧ j < k then g j else old j
theorem mo_sf1 (g old : Nat → Int32) : mo_sf g old 1 = old := by
  funext j
  unfold mo_sf
  rw [if_neg (by omega)]
theorem mo_sfs {g old : Nat → Int32} {k : Nat} (h : 1 ≤ k) : upd (mo_sf g old k) k (g k) = mo_sf g old (k + 1) := by
  funext j
  unfold upd mo_sf
  by_cases e : j = k
  · rw [if_pos e, if_pos (by omega), e]
  · rw [if_neg e]
    by_cases h2 : 1 ≤ j ∧ j < k
    · rw [if_pos h2, if_pos (by omega)]
    · rw [if_neg h2, if_neg (by omega)]

set_option maxRecDepth 20000 in
set_option maxHeartbeats 2000000 in
theorem mo_p_cp {d : Nat} {ad : Nat → Nat} {μ : vx_mem} {m : Nat} (hm7 : m ≤ 7) (hmany : μ 54 51 = nI m) {b e : Int32} {Post : vx_P} {ini : Bool} (hJ : vx_J RX9 cX9_plan 5 (some (.int)) ini d 0 0 Post ad 0 0 82 vx_lay (va_up μ 81 (sp_fil (μ 79) (μ 81) m)) 140 [(2, .inl e), (1, .inl b), (0, vx_r 54)] []) : ∀ r k, k + r = m → vx_J RX9 cX9_plan 5 (some (.int)) ini d 0 0 Post ad 0 0 82 vx_lay (va_up μ 81 (sp_fil (μ 79) (μ 81) k)) 111 [(4, .inl (nI k)), (2, .inl e), (1, .inl b), (0, vx_r 54)] [] := by
  intro r
  induction r with
  | zero =>
    intro k hk
    refine vx_iload dX9_plan_111 rfl ?_
    refine vx_aload_n dX9_plan_113 rfl ?_
    refine vx_getI (ci := 9) (T := TX9) (n := 56) (j := 51) (a := 54) (v := (nI m)) dX9_plan_114 rfl lay_X9 (by decide) wd_787 (by decide) ly_54 rfl hmany ?_
    refine vx_icmp_ge (tgt := 140) dX9_plan_117 (by decide) (fun _ => ?_) (fun h => absurd (by show (nI (m) ≤ nI (k)); rw [nI_leI (by omega) (by omega)]; omega) h)
    refine vx_keep (ls2 := [(2, .inl e), (1, .inl b), (0, vx_r 54)]) ⟨rfl, rfl, rfl, trivial⟩ ?_
    rw [show k = m by omega]
    exact hJ
  | succ r ih =>
    intro k hk
    refine vx_iload dX9_plan_111 rfl ?_
    refine vx_aload_n dX9_plan_113 rfl ?_
    refine vx_getI (ci := 9) (T := TX9) (n := 56) (j := 51) (a := 54) (v := (nI m)) dX9_plan_114 rfl lay_X9 (by decide) wd_787 (by decide) ly_54 rfl hmany ?_
    refine vx_icmp_ge (tgt := 140) dX9_plan_117 (by decide) (fun h => absurd h (by show ¬ (nI (m) ≤ nI (k)); rw [nI_leI (by omega) (by omega)]; omega)) (fun _ => ?_)
    refine vx_aload_n dX9_plan_120 rfl ?_
    refine vx_getR (ci := 9) (T := TX9) (n := 56) (j := 55) (a := 54) (r := 81) dX9_plan_121 rfl lay_X9 (by decide) wd_791 (by decide) ly_54 rfl ?_
    refine vx_iload dX9_plan_124 rfl ?_
    refine vx_aload_n dX9_plan_126 rfl ?_
    refine vx_getR (ci := 9) (T := TX9) (n := 56) (j := 49) (a := 54) (r := 79) dX9_plan_127 rfl lay_X9 (by decide) wd_785 (by decide) ly_54 rfl ?_
    refine vx_iload dX9_plan_130 rfl ?_
    refine vx_iald (a := 79) (n := 7) (v := (μ 79 k)) dX9_plan_132 (by decide) ly_79 (vp_in_nI (by omega) (by omega)) (by rw [nI_clamp (by omega)] <;> rfl) ?_
    refine vx_iast (a := 81) (n := 7) (μ2 := (va_up μ 81 (upd (sp_fil (μ 79) (μ 81) k) k (μ 79 k)))) dX9_plan_133 (by decide) ly_81 (vp_in_nI (by omega) (by omega)) (by rw [nI_clamp (by omega)]; try exact vx_m1) ?_
    refine vx_iinc (v := (nI (k + 1))) (ls2 := [(4, .inl (nI (k + 1))), (2, .inl e), (1, .inl b), (0, vx_r 54)]) dX9_plan_134 rfl (nI_1 _) (by decide) rfl ?_
    refine vx_goto (tgt := 111) dX9_plan_137 (by decide) ?_
    refine vx_keep (ls2 := [(4, .inl (nI (k + 1))), (2, .inl e), (1, .inl b), (0, vx_r 54)]) ⟨rfl, rfl, rfl, rfl, trivial⟩ ?_
    refine vx_eq (μ2 := (va_up μ 81 (sp_fil (μ 79) (μ 81) (k + 1)))) (by rw [sp_fils (μ 79) _ _ rfl]) rfl rfl ?_
    exact ih (k + 1) (by omega)
set_option maxRecDepth 20000 in
set_option maxHeartbeats 2000000 in
theorem mo_p_one {d : Nat} (hd : 4 ≤ d) {ad : Nat → Nat} {P : sr_P} {ω0 : Nat → Bool} {m : Nat} (hm7 : m ≤ 7) {p d0 : Nat} (hp8 : p < 8) (hd9 : d0 ≤ 1000) {μ : vx_mem} (hs : sr_ml P ω0 μ) {os : List Nat} (hm : os.length = m) (hmany : μ 54 51 = nI m) (hT : ∀ j, j < m → μ 79 j = nI (os.getD j 0)) (hos : ∀ j, j < m → os.getD j 0 < 8 ∧ ω0 (os.getD j 0) = true) (hp : μ 54 35 = nI p) (hd0 : μ 54 34 = nI d0) {B : sr_B} {b e : Int32} (hB : sr_mB P ω0 p d0 m μ b e B) : ∃ (μ2 : vx_mem) (b2 e2 : Int32), mo_f1 μ μ2 ∧ sr_mB P ω0 p d0 m μ2 b2 e2 (sr_con P p d0 0 [] B os) ∧ ∀ (Post : vx_P) (ini : Bool), vx_J RX9 cX9_plan 5 (some (.int)) ini d 0 0 Post ad 0 0 82 vx_lay μ2 140 [(2, .inl e2), (1, .inl b2), (0, vx_r 54)] [] → vx_J RX9 cX9_plan 5 (some (.int)) ini d 0 0 Post ad 0 0 82 vx_lay μ 58 [(3, .inl 1), (2, .inl e), (1, .inl b), (0, vx_r 54)] [] := by
  obtain ⟨G, x, hG, hM, hh⟩ := c_X9_goes (d - 1) (by omega) ad μ hs hm hm7 hmany hT hos p d0 hp hp8 hd0 hd9
  rcases hh with ⟨h1, rfl⟩ | ⟨e1, l1, h1, h2, h3, rfl, g53, g54⟩
  · refine ⟨va_up μ 54 G, b, e, mo_f1G hG, ?_, fun Post ini hJ => ?_⟩
    · unfold sr_con
      rw [h1]
      exact sr_mB_up hB rfl
    refine vx_iload_n dX9_plan_58 rfl ?_
    refine vx_if_eq (tgt := 148) dX9_plan_59 (by decide) (fun h => absurd h (by decide)) (fun _ => ?_)
    refine vx_aload_n dX9_plan_62 rfl ?_
    refine vx_callV (b := 54) (vs := []) (st := []) (r0 := (some (.inl 0))) (μ0 := (va_up μ 54 G)) dX9_plan_63 (hM) wd_987 wd_990 wd_54 hy_X9_goes wd_989 wd_34 (by decide) ly_54 rfl rfl (by omega) (Nat.le_of_ble_eq_true rfl) (Nat.le_of_ble_eq_true rfl) (Nat.le_refl 0) (Nat.le_refl 0) ?_
    refine vx_eq (μ2 := (va_up μ 54 G)) (ls2 := [(3, .inl 1), (2, .inl e), (1, .inl b), (0, vx_r 54)]) (st2 := [.inl 0]) rfl rfl rfl ?_
    refine vx_if_eq (tgt := 140) dX9_plan_66 (by decide) (fun _ => ?_) (fun h => absurd h (by decide))
    refine vx_keep (ls2 := [(2, .inl e), (1, .inl b), (0, vx_r 54)]) ⟨rfl, rfl, rfl, trivial⟩ ?_
    exact hJ
  · have hG51 : G 51 = nI m := (hG 51 (by omega)).trans hmany
    have hbest : sr_mB P ω0 p d0 m (va_up (va_up μ 54 G) 81 (sp_fil (μ 79) (μ 81) m)) (nI l1) (nI e1) (some ([] ++ os, l1, e1)) := by
      refine ⟨rfl, rfl, h3, h2, hm, fun j hj => ?_, hos, h1⟩
      show sp_fil (μ 79) (μ 81) m j = _
      unfold sp_fil
      rw [if_pos hj]
      exact hT j hj
    have hcp := fun (Post : vx_P) (ini : Bool) (hJ : vx_J RX9 cX9_plan 5 (some (.int)) ini d 0 0 Post ad 0 0 82 vx_lay (va_up (va_up μ 54 G) 81 (sp_fil (μ 79) (μ 81) m)) 140 [(2, .inl (nI e1)), (1, .inl (nI l1)), (0, vx_r 54)] []) => mo_p_cp (d := d) (μ := va_up μ 54 G) hm7 hG51 hJ m 0 (by omega)
    have ecp : va_up μ 54 G = va_up (va_up μ 54 G) 81 (sp_fil (μ 79) (μ 81) 0) := by
      rw [sp_fil0]
      exact (vx_up_id (va_up μ 54 G) 81).symm
    rcases B with _ | ⟨o, bl, be⟩
    · have hb1 : b = -1 := hB
      subst hb1
      refine ⟨va_up (va_up μ 54 G) 81 (sp_fil (μ 79) (μ 81) m), nI l1, nI e1, mo_f1G2 hG, ?_, fun Post ini hJ => ?_⟩
      · unfold sr_con
        rw [h1]
        exact hbest
      refine vx_iload_n dX9_plan_58 rfl ?_
      refine vx_if_eq (tgt := 148) dX9_plan_59 (by decide) (fun h => absurd h (by decide)) (fun _ => ?_)
      refine vx_aload_n dX9_plan_62 rfl ?_
      refine vx_callV (b := 54) (vs := []) (st := []) (r0 := (some (.inl 1))) (μ0 := (va_up μ 54 G)) dX9_plan_63 (hM) wd_987 wd_990 wd_54 hy_X9_goes wd_989 wd_34 (by decide) ly_54 rfl rfl (by omega) (Nat.le_of_ble_eq_true rfl) (Nat.le_of_ble_eq_true rfl) (Nat.le_refl 0) (Nat.le_refl 0) ?_
      refine vx_eq (μ2 := (va_up μ 54 G)) (ls2 := [(3, .inl 1), (2, .inl e), (1, .inl (-1)), (0, vx_r 54)]) (st2 := [.inl 1]) rfl rfl rfl ?_
      refine vx_if_eq (tgt := 140) dX9_plan_66 (by decide) (fun h => absurd h (by decide)) (fun _ => ?_)
      refine vx_iload_n dX9_plan_69 rfl ?_
      refine vx_iconst (v := (-1)) dX9_plan_70 (by decide) ?_
      refine vx_icmp_eq (tgt := 98) dX9_plan_71 (by decide) (fun _ => ?_) (fun h => absurd h (by decide))
      refine vx_aload_n dX9_plan_98 rfl ?_
      refine vx_getI (ci := 9) (T := TX9) (n := 56) (j := 53) (a := 54) (v := (nI l1)) dX9_plan_99 rfl lay_X9 (by decide) wd_789 (by decide) ly_54 rfl g53 ?_
      refine vx_istore_n (ls2 := [(1, .inl (nI l1)), (3, .inl 1), (2, .inl e), (0, vx_r 54)]) dX9_plan_102 (by decide) rfl ?_
      refine vx_aload_n dX9_plan_103 rfl ?_
      refine vx_getI (ci := 9) (T := TX9) (n := 56) (j := 54) (a := 54) (v := (nI e1)) dX9_plan_104 rfl lay_X9 (by decide) wd_790 (by decide) ly_54 rfl g54 ?_
      refine vx_istore_n (ls2 := [(2, .inl (nI e1)), (1, .inl (nI l1)), (3, .inl 1), (0, vx_r 54)]) dX9_plan_107 (by decide) rfl ?_
      refine vx_iconst (v := 0) dX9_plan_108 (by decide) ?_
      refine vx_istore (ls2 := [(4, .inl 0), (2, .inl (nI e1)), (1, .inl (nI l1)), (3, .inl 1), (0, vx_r 54)]) dX9_plan_109 (by decide) rfl ?_
      refine vx_keep (ls2 := [(4, .inl 0), (2, .inl (nI e1)), (1, .inl (nI l1)), (0, vx_r 54)]) ⟨rfl, rfl, rfl, rfl, trivial⟩ ?_
      refine vx_eq (μ2 := (va_up (va_up μ 54 G) 81 (sp_fil (μ 79) (μ 81) 0))) ecp rfl rfl ?_
      exact hcp Post ini hJ
    · obtain ⟨hb1, hb2, hb3, hb4, hb5⟩ := id hB
      subst hb1
      subst hb2
      have hbn := nI_nm1 (n := bl) (by omega)
      by_cases hbt : sr_bt l1 e1 (some (o, bl, be)) = true
      · refine ⟨va_up (va_up μ 54 G) 81 (sp_fil (μ 79) (μ 81) m), nI l1, nI e1, mo_f1G2 hG, ?_, fun Post ini hJ => ?_⟩
        · unfold sr_con
          rw [h1]
          dsimp only
          rw [if_pos hbt]
          exact hbest
        · unfold sr_bt at hbt
          rw [decide_eq_true_eq] at hbt
          by_cases hq : l1 < bl
          · refine vx_iload_n dX9_plan_58 rfl ?_
            refine vx_if_eq (tgt := 148) dX9_plan_59 (by decide) (fun h => absurd h (by decide)) (fun _ => ?_)
            refine vx_aload_n dX9_plan_62 rfl ?_
            refine vx_callV (b := 54) (vs := []) (st := []) (r0 := (some (.inl 1))) (μ0 := (va_up μ 54 G)) dX9_plan_63 (hM) wd_987 wd_990 wd_54 hy_X9_goes wd_989 wd_34 (by decide) ly_54 rfl rfl (by omega) (Nat.le_of_ble_eq_true rfl) (Nat.le_of_ble_eq_true rfl) (Nat.le_refl 0) (Nat.le_refl 0) ?_
            refine vx_eq (μ2 := (va_up μ 54 G)) (ls2 := [(3, .inl 1), (2, .inl (nI be)), (1, .inl (nI bl)), (0, vx_r 54)]) (st2 := [.inl 1]) rfl rfl rfl ?_
            refine vx_if_eq (tgt := 140) dX9_plan_66 (by decide) (fun h => absurd h (by decide)) (fun _ => ?_)
            refine vx_iload_n dX9_plan_69 rfl ?_
            refine vx_iconst (v := (-1)) dX9_plan_70 (by decide) ?_
            refine vx_icmp_eq (tgt := 98) dX9_plan_71 (by decide) (fun h => absurd h hbn) (fun _ => ?_)
            refine vx_aload_n dX9_plan_74 rfl ?_
            refine vx_getI (ci := 9) (T := TX9) (n := 56) (j := 53) (a := 54) (v := (nI l1)) dX9_plan_75 rfl lay_X9 (by decide) wd_789 (by decide) ly_54 rfl g53 ?_
            refine vx_iload_n dX9_plan_78 rfl ?_
            refine vx_icmp_lt (tgt := 98) dX9_plan_79 (by decide) (fun _ => ?_) (fun h => absurd (by show (nI (l1) < nI (bl)); rw [nI_ltI (by omega) (by omega)]; omega) h)
            refine vx_aload_n dX9_plan_98 rfl ?_
            refine vx_getI (ci := 9) (T := TX9) (n := 56) (j := 53) (a := 54) (v := (nI l1)) dX9_plan_99 rfl lay_X9 (by decide) wd_789 (by decide) ly_54 rfl g53 ?_
            refine vx_istore_n (ls2 := [(1, .inl (nI l1)), (3, .inl 1), (2, .inl (nI be)), (0, vx_r 54)]) dX9_plan_102 (by decide) rfl ?_
            refine vx_aload_n dX9_plan_103 rfl ?_
            refine vx_getI (ci := 9) (T := TX9) (n := 56) (j := 54) (a := 54) (v := (nI e1)) dX9_plan_104 rfl lay_X9 (by decide) wd_790 (by decide) ly_54 rfl g54 ?_
            refine vx_istore_n (ls2 := [(2, .inl (nI e1)), (1, .inl (nI l1)), (3, .inl 1), (0, vx_r 54)]) dX9_plan_107 (by decide) rfl ?_
            refine vx_iconst (v := 0) dX9_plan_108 (by decide) ?_
            refine vx_istore (ls2 := [(4, .inl 0), (2, .inl (nI e1)), (1, .inl (nI l1)), (3, .inl 1), (0, vx_r 54)]) dX9_plan_109 (by decide) rfl ?_
            refine vx_keep (ls2 := [(4, .inl 0), (2, .inl (nI e1)), (1, .inl (nI l1)), (0, vx_r 54)]) ⟨rfl, rfl, rfl, rfl, trivial⟩ ?_
            refine vx_eq (μ2 := (va_up (va_up μ 54 G) 81 (sp_fil (μ 79) (μ 81) 0))) ecp rfl rfl ?_
            exact hcp Post ini hJ
          · obtain ⟨hq1, hq2⟩ := hbt.resolve_left hq
            refine vx_iload_n dX9_plan_58 rfl ?_
            refine vx_if_eq (tgt := 148) dX9_plan_59 (by decide) (fun h => absurd h (by decide)) (fun _ => ?_)
            refine vx_aload_n dX9_plan_62 rfl ?_
            refine vx_callV (b := 54) (vs := []) (st := []) (r0 := (some (.inl 1))) (μ0 := (va_up μ 54 G)) dX9_plan_63 (hM) wd_987 wd_990 wd_54 hy_X9_goes wd_989 wd_34 (by decide) ly_54 rfl rfl (by omega) (Nat.le_of_ble_eq_true rfl) (Nat.le_of_ble_eq_true rfl) (Nat.le_refl 0) (Nat.le_refl 0) ?_
            refine vx_eq (μ2 := (va_up μ 54 G)) (ls2 := [(3, .inl 1), (2, .inl (nI be)), (1, .inl (nI bl)), (0, vx_r 54)]) (st2 := [.inl 1]) rfl rfl rfl ?_
            refine vx_if_eq (tgt := 140) dX9_plan_66 (by decide) (fun h => absurd h (by decide)) (fun _ => ?_)
            refine vx_iload_n dX9_plan_69 rfl ?_
            refine vx_iconst (v := (-1)) dX9_plan_70 (by decide) ?_
            refine vx_icmp_eq (tgt := 98) dX9_plan_71 (by decide) (fun h => absurd h hbn) (fun _ => ?_)
            refine vx_aload_n dX9_plan_74 rfl ?_
            refine vx_getI (ci := 9) (T := TX9) (n := 56) (j := 53) (a := 54) (v := (nI l1)) dX9_plan_75 rfl lay_X9 (by decide) wd_789 (by decide) ly_54 rfl g53 ?_
            refine vx_iload_n dX9_plan_78 rfl ?_
            refine vx_icmp_lt (tgt := 98) dX9_plan_79 (by decide) (fun h => absurd h (by show ¬ (nI (l1) < nI (bl)); rw [nI_ltI (by omega) (by omega)]; omega)) (fun _ => ?_)
            refine vx_aload_n dX9_plan_82 rfl ?_
            refine vx_getI (ci := 9) (T := TX9) (n := 56) (j := 53) (a := 54) (v := (nI l1)) dX9_plan_83 rfl lay_X9 (by decide) wd_789 (by decide) ly_54 rfl g53 ?_
            refine vx_iload_n dX9_plan_86 rfl ?_
            refine vx_icmp_ne (tgt := 140) dX9_plan_87 (by decide) (fun h => absurd (by show (nI (l1) = nI (bl)); rw [nI_eq (by omega) (by omega)]; omega) h) (fun _ => ?_)
            refine vx_aload_n dX9_plan_90 rfl ?_
            refine vx_getI (ci := 9) (T := TX9) (n := 56) (j := 54) (a := 54) (v := (nI e1)) dX9_plan_91 rfl lay_X9 (by decide) wd_790 (by decide) ly_54 rfl g54 ?_
            refine vx_iload_n dX9_plan_94 rfl ?_
            refine vx_icmp_ge (tgt := 140) dX9_plan_95 (by decide) (fun h => absurd h (by show ¬ (nI (be) ≤ nI (e1)); rw [nI_leI (by omega) (by omega)]; omega)) (fun _ => ?_)
            refine vx_aload_n dX9_plan_98 rfl ?_
            refine vx_getI (ci := 9) (T := TX9) (n := 56) (j := 53) (a := 54) (v := (nI l1)) dX9_plan_99 rfl lay_X9 (by decide) wd_789 (by decide) ly_54 rfl g53 ?_
            refine vx_istore_n (ls2 := [(1, .inl (nI l1)), (3, .inl 1), (2, .inl (nI be)), (0, vx_r 54)]) dX9_plan_102 (by decide) rfl ?_
            refine vx_aload_n dX9_plan_103 rfl ?_
            refine vx_getI (ci := 9) (T := TX9) (n := 56) (j := 54) (a := 54) (v := (nI e1)) dX9_plan_104 rfl lay_X9 (by decide) wd_790 (by decide) ly_54 rfl g54 ?_
            refine vx_istore_n (ls2 := [(2, .inl (nI e1)), (1, .inl (nI l1)), (3, .inl 1), (0, vx_r 54)]) dX9_plan_107 (by decide) rfl ?_
            refine vx_iconst (v := 0) dX9_plan_108 (by decide) ?_
            refine vx_istore (ls2 := [(4, .inl 0), (2, .inl (nI e1)), (1, .inl (nI l1)), (3, .inl 1), (0, vx_r 54)]) dX9_plan_109 (by decide) rfl ?_
            refine vx_keep (ls2 := [(4, .inl 0), (2, .inl (nI e1)), (1, .inl (nI l1)), (0, vx_r 54)]) ⟨rfl, rfl, rfl, rfl, trivial⟩ ?_
            refine vx_eq (μ2 := (va_up (va_up μ 54 G) 81 (sp_fil (μ 79) (μ 81) 0))) ecp rfl rfl ?_
            exact hcp Post ini hJ
      · refine ⟨va_up μ 54 G, nI bl, nI be, mo_f1G hG, ?_, fun Post ini hJ => ?_⟩
        · unfold sr_con
          rw [h1]
          dsimp only
          rw [if_neg hbt]
          exact sr_mB_up hB rfl
        · unfold sr_bt at hbt
          rw [decide_eq_true_eq] at hbt
          by_cases hq : l1 = bl
          · refine vx_iload_n dX9_plan_58 rfl ?_
            refine vx_if_eq (tgt := 148) dX9_plan_59 (by decide) (fun h => absurd h (by decide)) (fun _ => ?_)
            refine vx_aload_n dX9_plan_62 rfl ?_
            refine vx_callV (b := 54) (vs := []) (st := []) (r0 := (some (.inl 1))) (μ0 := (va_up μ 54 G)) dX9_plan_63 (hM) wd_987 wd_990 wd_54 hy_X9_goes wd_989 wd_34 (by decide) ly_54 rfl rfl (by omega) (Nat.le_of_ble_eq_true rfl) (Nat.le_of_ble_eq_true rfl) (Nat.le_refl 0) (Nat.le_refl 0) ?_
            refine vx_eq (μ2 := (va_up μ 54 G)) (ls2 := [(3, .inl 1), (2, .inl (nI be)), (1, .inl (nI bl)), (0, vx_r 54)]) (st2 := [.inl 1]) rfl rfl rfl ?_
            refine vx_if_eq (tgt := 140) dX9_plan_66 (by decide) (fun h => absurd h (by decide)) (fun _ => ?_)
            refine vx_iload_n dX9_plan_69 rfl ?_
            refine vx_iconst (v := (-1)) dX9_plan_70 (by decide) ?_
            refine vx_icmp_eq (tgt := 98) dX9_plan_71 (by decide) (fun h => absurd h hbn) (fun _ => ?_)
            refine vx_aload_n dX9_plan_74 rfl ?_
            refine vx_getI (ci := 9) (T := TX9) (n := 56) (j := 53) (a := 54) (v := (nI l1)) dX9_plan_75 rfl lay_X9 (by decide) wd_789 (by decide) ly_54 rfl g53 ?_
            refine vx_iload_n dX9_plan_78 rfl ?_
            refine vx_icmp_lt (tgt := 98) dX9_plan_79 (by decide) (fun h => absurd h (by show ¬ (nI (l1) < nI (bl)); rw [nI_ltI (by omega) (by omega)]; omega)) (fun _ => ?_)
            refine vx_aload_n dX9_plan_82 rfl ?_
            refine vx_getI (ci := 9) (T := TX9) (n := 56) (j := 53) (a := 54) (v := (nI l1)) dX9_plan_83 rfl lay_X9 (by decide) wd_789 (by decide) ly_54 rfl g53 ?_
            refine vx_iload_n dX9_plan_86 rfl ?_
            refine vx_icmp_ne (tgt := 140) dX9_plan_87 (by decide) (fun h => absurd (by show (nI (l1) = nI (bl)); rw [nI_eq (by omega) (by omega)]; omega) h) (fun _ => ?_)
            refine vx_aload_n dX9_plan_90 rfl ?_
            refine vx_getI (ci := 9) (T := TX9) (n := 56) (j := 54) (a := 54) (v := (nI e1)) dX9_plan_91 rfl lay_X9 (by decide) wd_790 (by decide) ly_54 rfl g54 ?_
            refine vx_iload_n dX9_plan_94 rfl ?_
            refine vx_icmp_ge (tgt := 140) dX9_plan_95 (by decide) (fun _ => ?_) (fun h => absurd (by show (nI (be) ≤ nI (e1)); rw [nI_leI (by omega) (by omega)]; omega) h)
            refine vx_keep (ls2 := [(2, .inl (nI be)), (1, .inl (nI bl)), (0, vx_r 54)]) ⟨rfl, rfl, rfl, trivial⟩ ?_
            exact hJ
          · refine vx_iload_n dX9_plan_58 rfl ?_
            refine vx_if_eq (tgt := 148) dX9_plan_59 (by decide) (fun h => absurd h (by decide)) (fun _ => ?_)
            refine vx_aload_n dX9_plan_62 rfl ?_
            refine vx_callV (b := 54) (vs := []) (st := []) (r0 := (some (.inl 1))) (μ0 := (va_up μ 54 G)) dX9_plan_63 (hM) wd_987 wd_990 wd_54 hy_X9_goes wd_989 wd_34 (by decide) ly_54 rfl rfl (by omega) (Nat.le_of_ble_eq_true rfl) (Nat.le_of_ble_eq_true rfl) (Nat.le_refl 0) (Nat.le_refl 0) ?_
            refine vx_eq (μ2 := (va_up μ 54 G)) (ls2 := [(3, .inl 1), (2, .inl (nI be)), (1, .inl (nI bl)), (0, vx_r 54)]) (st2 := [.inl 1]) rfl rfl rfl ?_
            refine vx_if_eq (tgt := 140) dX9_plan_66 (by decide) (fun h => absurd h (by decide)) (fun _ => ?_)
            refine vx_iload_n dX9_plan_69 rfl ?_
            refine vx_iconst (v := (-1)) dX9_plan_70 (by decide) ?_
            refine vx_icmp_eq (tgt := 98) dX9_plan_71 (by decide) (fun h => absurd h hbn) (fun _ => ?_)
            refine vx_aload_n dX9_plan_74 rfl ?_
            refine vx_getI (ci := 9) (T := TX9) (n := 56) (j := 53) (a := 54) (v := (nI l1)) dX9_plan_75 rfl lay_X9 (by decide) wd_789 (by decide) ly_54 rfl g53 ?_
            refine vx_iload_n dX9_plan_78 rfl ?_
            refine vx_icmp_lt (tgt := 98) dX9_plan_79 (by decide) (fun h => absurd h (by show ¬ (nI (l1) < nI (bl)); rw [nI_ltI (by omega) (by omega)]; omega)) (fun _ => ?_)
            refine vx_aload_n dX9_plan_82 rfl ?_
            refine vx_getI (ci := 9) (T := TX9) (n := 56) (j := 53) (a := 54) (v := (nI l1)) dX9_plan_83 rfl lay_X9 (by decide) wd_789 (by decide) ly_54 rfl g53 ?_
            refine vx_iload_n dX9_plan_86 rfl ?_
            refine vx_icmp_ne (tgt := 140) dX9_plan_87 (by decide) (fun _ => ?_) (fun h => absurd h (by show ¬ (nI (l1) = nI (bl)); rw [nI_eq (by omega) (by omega)]; omega))
            refine vx_keep (ls2 := [(2, .inl (nI be)), (1, .inl (nI bl)), (0, vx_r 54)]) ⟨rfl, rfl, rfl, trivial⟩ ?_
            exact hJ
def mo_tr (μ : vx_mem) (F a : List Nat) : Prop := (∀ j, j < F.length → μ 79 j = nI (F.getD j 0)) ∧ ∀ j, j < a.length → μ 79 (F.length + j) = nI (a.getD j 0)
theorem mo_tr_T {μ : vx_mem} {F a : List Nat} {m : Nat} (h : mo_tr μ F a) (hm : F.length + a.length = m) : ∀ j, j < m → μ 79 j = nI ((F ++ a).getD j 0) := by
  intro j hj
  by_cases h1 : j < F.length
  · rw [sr_getD_appl h1]
    exact h.1 j h1
  · rw [sr_getD_appr h1]
    have := h.2 (j - F.length) (by omega)
    rw [show F.length + (j - F.length) = j by omega] at this
    exact this
theorem sr_ml_f2 {P : sr_P} {ω0 : Nat → Bool} {μ μ2 : vx_mem} (h : sr_ml P ω0 μ) (hf : mo_f2 μ μ2) : sr_ml P ω0 μ2 := sr_ml_up h (fun p hp => hf.1 p (by omega) (by omega) (by omega))
set_option maxRecDepth 20000 in
set_option maxHeartbeats 2000000 in
theorem mo_p_loop {d : Nat} (hd : 4 ≤ d) {ad : Nat → Nat} {P : sr_P} {ω0 : Nat → Bool} {m : Nat} (hm7 : m ≤ 7) {p d0 : Nat} (hp8 : p < 8) (hd9 : d0 ≤ 1000) {F S : List Nat} (hm : F.length + S.length = m) (hF : ∀ x, x ∈ F → x < 8 ∧ ω0 x = true) (hS : ∀ x, x ∈ S → x < 8 ∧ ω0 x = true) : ∀ (L : List (List Nat)) (a : List Nat) (μ : vx_mem) (B : sr_B) (b e : Int32), sr_ch S.length S (a :: L) → sr_ml P ω0 μ → μ 54 51 = nI m → μ 54 52 = nI F.length → μ 54 35 = nI p → μ 54 34 = nI d0 → mo_tr μ F a → sr_mB P ω0 p d0 m μ b e B → ∃ (μ2 : vx_mem) (b2 e2 : Int32), mo_f2 μ μ2 ∧ sr_mB P ω0 p d0 m μ2 b2 e2 (((a :: L).map (F ++ ·)).foldl (sr_con P p d0 0 []) B) ∧ ∀ (Post : vx_P) (ini : Bool), vx_J RX9 cX9_plan 5 (some (.int)) ini d 0 0 Post ad 0 0 82 vx_lay μ2 148 [(2, .inl e2), (1, .inl b2), (0, vx_r 54)] [] → vx_J RX9 cX9_plan 5 (some (.int)) ini d 0 0 Post ad 0 0 82 vx_lay μ 58 [(3, .inl 1), (2, .inl e), (1, .inl b), (0, vx_r 54)] [] := by
  have go : ∀ (a : List Nat) (μ : vx_mem) (B : sr_B) (b e : Int32), sr_gd S.length S a → sr_ml P ω0 μ → μ 54 51 = nI m → μ 54 52 = nI F.length → μ 54 35 = nI p → μ 54 34 = nI d0 → mo_tr μ F a → sr_mB P ω0 p d0 m μ b e B → ∃ (μ1 : vx_mem) (b1 e1 : Int32), mo_f1 μ μ1 ∧ sr_mB P ω0 p d0 m μ1 b1 e1 (sr_con P p d0 0 [] B (F ++ a)) ∧ (∀ (Post : vx_P) (ini : Bool), vx_J RX9 cX9_plan 5 (some (.int)) ini d 0 0 Post ad 0 0 82 vx_lay μ1 140 [(2, .inl e1), (1, .inl b1), (0, vx_r 54)] [] → vx_J RX9 cX9_plan 5 (some (.int)) ini d 0 0 Post ad 0 0 82 vx_lay μ 58 [(3, .inl 1), (2, .inl e), (1, .inl b), (0, vx_r 54)] []) ∧ ∃ T x, (∀ j, j < F.length → T j = μ1 79 j) ∧ vx_Mf yX9_goesOn cX9_goesOn 5 (some (.boolean)) (d - 1) ad 82 vx_lay μ1 [vx_r 54] (some (.inl x)) (va_up μ1 79 T) ∧ ((sr_nx a = none ∧ x = 0) ∨ ∃ s', sr_nx a = some s' ∧ x = 1 ∧ ∀ j, j < a.length → T (F.length + j) = nI (s'.getD j 0)) := by
    intro a μ B b e hg hs h51 h52 hp hd0 htr hB
    have ha : a.length = S.length := hg.1
    have hl : F.length + a.length = m := by omega
    obtain ⟨μ1, b1, e1, f1, hB1, hJ1⟩ := mo_p_one hd (ad := ad) hm7 hp8 hd9 hs (os := F ++ a) (by rw [List.length_append]; exact hl) h51 (mo_tr_T htr hl) (fun j hj => by
      by_cases h1 : j < F.length
      · rw [sr_getD_appl h1]
        exact sr_getD_all (q := fun x => x < 8 ∧ ω0 x = true) hF h1
      · rw [sr_getD_appr h1]
        exact sr_getD_all (q := fun x => x < 8 ∧ ω0 x = true) (fun x hx => hS x (hg.2.2 x hx)) (by omega)) hp hd0 hB
    have e79 : μ1 79 = μ 79 := f1.1 79 (by decide) (by decide)
    exact ⟨μ1, b1, e1, f1, hB1, hJ1, c_X9_goesOn (d - 1) (by omega) ad μ1 hm7 (by omega : F.length ≤ m) ((f1.2 51 (by omega)).trans h51) ((f1.2 52 (by omega)).trans h52) (by omega) hg.2.1 (fun x hx => (hS x (hg.2.2 x hx)).1) (fun j hj => by rw [e79]; exact htr.2 j hj)⟩
  intro L
  induction L with
  | nil =>
    intro a μ B b e hch hs h51 h52 hp hd0 htr hB
    obtain ⟨hg, hnx⟩ := hch
    obtain ⟨μ1, b1, e1, f1, hB1, hJ1, T, x, hT0, hM, hx⟩ := go a μ B b e hg hs h51 h52 hp hd0 htr hB
    have hx0 : x = 0 := by
      rcases hx with ⟨_, h⟩ | ⟨s', h, _⟩
      · exact h
      · rw [hnx] at h; cases h
    subst hx0
    refine ⟨va_up μ1 79 T, b1, e1, mo_f12 f1 ⟨fun q _ a2 _ => by unfold va_up; rw [if_neg a2], fun j _ => rfl⟩, sr_mB_up hB1 rfl, fun Post ini hJ => ?_⟩
    refine hJ1 Post ini ?_
    refine vx_aload_n dX9_plan_140 rfl ?_
    refine vx_callV (b := 54) (vs := []) (st := []) (r0 := (some (.inl 0))) (μ0 := (va_up μ1 79 T)) dX9_plan_141 (hM) wd_995 wd_998 wd_54 hy_X9_goesOn wd_997 wd_36 (by decide) ly_54 rfl rfl (by omega) (Nat.le_of_ble_eq_true rfl) (Nat.le_of_ble_eq_true rfl) (Nat.le_refl 0) (Nat.le_refl 0) ?_
    refine vx_eq (μ2 := (va_up μ1 79 T)) (ls2 := [(2, .inl e1), (1, .inl b1), (0, vx_r 54)]) (st2 := [.inl 0]) rfl rfl rfl ?_
    refine vx_istore_n (ls2 := [(3, .inl 0), (2, .inl e1), (1, .inl b1), (0, vx_r 54)]) dX9_plan_144 (by decide) rfl ?_
    refine vx_goto (tgt := 58) dX9_plan_145 (by decide) ?_
    refine vx_iload_n dX9_plan_58 rfl ?_
    refine vx_if_eq (tgt := 148) dX9_plan_59 (by decide) (fun _ => ?_) (fun h => absurd h (by decide))
    refine vx_keep (ls2 := [(2, .inl e1), (1, .inl b1), (0, vx_r 54)]) ⟨rfl, rfl, rfl, trivial⟩ ?_
    exact hJ
  | cons a2 L ih =>
    intro a μ B b e hch hs h51 h52 hp hd0 htr hB
    obtain ⟨hg, hnx, hch2⟩ := hch
    obtain ⟨μ1, b1, e1, f1, hB1, hJ1, T, x, hT0, hM, hx⟩ := go a μ B b e hg hs h51 h52 hp hd0 htr hB
    obtain ⟨hx1, hT1⟩ : x = 1 ∧ ∀ j, j < a.length → T (F.length + j) = nI (a2.getD j 0) := by
      rcases hx with ⟨h, _⟩ | ⟨s', h, h1, h2⟩
      · rw [hnx] at h; cases h
      · rw [hnx] at h; cases h; exact ⟨h1, h2⟩
    subst hx1
    have e79 : μ1 79 = μ 79 := f1.1 79 (by decide) (by decide)
    have f2 : mo_f2 μ (va_up μ1 79 T) := mo_f12 f1 ⟨fun q _ a2 _ => by unfold va_up; rw [if_neg a2], fun j _ => rfl⟩
    have ha2 : a2.length = S.length := by
      cases L with
      | nil => exact hch2.1.1
      | cons _ _ => exact hch2.1.1
    obtain ⟨μ2, b2, e2, f3, hB2, hJ2⟩ := ih a2 (va_up μ1 79 T) _ b1 e1 hch2 (sr_ml_f2 hs f2) ((f2.2 51 (by omega)).trans h51) ((f2.2 52 (by omega)).trans h52) ((f2.2 35 (by omega)).trans hp) ((f2.2 34 (by omega)).trans hd0) ⟨fun j hj => (hT0 j hj).trans (by rw [e79]; exact htr.1 j hj), fun j hj => hT1 j (by rw [hg.1]; omega)⟩ (sr_mB_up hB1 (μ' := va_up μ1 79 T) rfl)
    refine ⟨μ2, b2, e2, ⟨fun q x1 x2 x3 => (f3.1 q x1 x2 x3).trans (f2.1 q x1 x2 x3), fun j hj => (f3.2 j hj).trans (f2.2 j hj)⟩, hB2, fun Post ini hJ => ?_⟩
    refine hJ1 Post ini ?_
    refine vx_aload_n dX9_plan_140 rfl ?_
    refine vx_callV (b := 54) (vs := []) (st := []) (r0 := (some (.inl 1))) (μ0 := (va_up μ1 79 T)) dX9_plan_141 (hM) wd_995 wd_998 wd_54 hy_X9_goesOn wd_997 wd_36 (by decide) ly_54 rfl rfl (by omega) (Nat.le_of_ble_eq_true rfl) (Nat.le_of_ble_eq_true rfl) (Nat.le_refl 0) (Nat.le_refl 0) ?_
    refine vx_eq (μ2 := (va_up μ1 79 T)) (ls2 := [(2, .inl e1), (1, .inl b1), (0, vx_r 54)]) (st2 := [.inl 1]) rfl rfl rfl ?_
    refine vx_istore_n (ls2 := [(3, .inl 1), (2, .inl e1), (1, .inl b1), (0, vx_r 54)]) dX9_plan_144 (by decide) rfl ?_
    refine vx_goto (tgt := 58) dX9_plan_145 (by decide) ?_
    refine vx_keep (ls2 := [(3, .inl 1), (2, .inl e1), (1, .inl b1), (0, vx_r 54)]) ⟨rfl, rfl, rfl, rfl, trivial⟩ ?_
    exact hJ2 Post ini hJ
set_option maxRecDepth 20000 in
set_option maxHeartbeats 2000000 in
theorem mo_p_spd {d : Nat} (hd : 3 ≤ d) {ad : Nat → Nat} {μ : vx_mem} {n : Nat} (hk : mo_ck μ n) : ∀ (r f : Nat) (A X : Nat → Int32), f + r = n + 1 → 1 ≤ f → (∀ j, j ≠ 33 → A j = μ 54 j) → ∃ (A2 X2 : Nat → Int32), (∀ j, j ≠ 33 → A2 j = μ 54 j) ∧ ∀ (Post : vx_P) (ini : Bool), vx_J RX9 cX9_plan 5 (some (.int)) ini d 0 0 Post ad 0 0 82 vx_lay (va_up (va_up (va_up μ 54 A2) 73 X2) 80 (mo_sf (mo_speed μ n) (μ 80) (n + 1))) 52 [(0, vx_r 54)] [] → vx_J RX9 cX9_plan 5 (some (.int)) ini d 0 0 Post ad 0 0 82 vx_lay (va_up (va_up (va_up μ 54 A) 73 X) 80 (mo_sf (mo_speed μ n) (μ 80) f)) 27 [(1, .inl (nI f)), (0, vx_r 54)] [] := by
  have hn7 := hk.2.1
  intro r
  induction r with
  | zero =>
    intro f A X hf h1 hA
    have hA18 : A 18 = nI n := (hA 18 (by decide)).trans hk.1
    refine ⟨A, X, hA, fun Post ini hJ => ?_⟩
    refine vx_iload_n dX9_plan_27 rfl ?_
    refine vx_aload_n dX9_plan_28 rfl ?_
    refine vx_getI (ci := 9) (T := TX9) (n := 56) (j := 18) (a := 54) (v := (nI n)) dX9_plan_29 rfl lay_X9 (by decide) wd_754 (by decide) ly_54 rfl hA18 ?_
    refine vx_icmp_gt (tgt := 52) dX9_plan_32 (by decide) (fun _ => ?_) (fun h => absurd (by show (nI (n) < nI (f)); rw [nI_ltI (by omega) (by omega)]; omega) h)
    refine vx_keep (ls2 := [(0, vx_r 54)]) ⟨rfl, trivial⟩ ?_
    rw [show f = n + 1 by omega]
    exact hJ
  | succ r ih =>
    intro f A X hf h1 hA
    have hA18 : A 18 = nI n := (hA 18 (by decide)).trans hk.1
    obtain ⟨M, hM⟩ : ∃ M, M = (va_up (va_up (va_up μ 54 A) 73 X) 80 (mo_sf (mo_speed μ n) (μ 80) f)) := ⟨_, rfl⟩
    obtain ⟨A2, X2, h2, h3⟩ := ih (f + 1) (upd A 33 (mo_G M n f).2) (mo_gg (mo_G M n f).1 X) (by omega) (by omega) (fun j hj => by rw [pk_un hj]; exact hA j hj)
    refine ⟨A2, X2, h2, fun Post ini hJ => ?_⟩
    have hJ2 := h3 Post ini hJ
    subst hM
    refine vx_iload_n dX9_plan_27 rfl ?_
    refine vx_aload_n dX9_plan_28 rfl ?_
    refine vx_getI (ci := 9) (T := TX9) (n := 56) (j := 18) (a := 54) (v := (nI n)) dX9_plan_29 rfl lay_X9 (by decide) wd_754 (by decide) ly_54 rfl hA18 ?_
    refine vx_icmp_gt (tgt := 52) dX9_plan_32 (by decide) (fun h => absurd h (by show ¬ (nI (n) < nI (f)); rw [nI_ltI (by omega) (by omega)]; omega)) (fun _ => ?_)
    refine vx_aload_n dX9_plan_35 rfl ?_
    refine vx_getR (ci := 9) (T := TX9) (n := 56) (j := 50) (a := 54) (r := 80) dX9_plan_36 rfl lay_X9 (by decide) wd_786 (by decide) ly_54 rfl ?_
    refine vx_iload_n dX9_plan_39 rfl ?_
    refine vx_aload_n dX9_plan_40 rfl ?_
    refine vx_iload_n dX9_plan_41 rfl ?_
    refine vx_callV (b := 54) (vs := [.inl (nI f)]) (st := [.inl (nI f), vx_r 80]) (r0 := (some (.inl (mo_speed μ n f)))) (μ0 := (va_up (va_up (va_up μ 54 (upd A 33 (mo_G (va_up (va_up (va_up μ 54 A) 73 X) 80 (mo_sf (mo_speed μ n) (μ 80) f)) n f).2)) 73 (mo_gg (mo_G (va_up (va_up (va_up μ 54 A) 73 X) 80 (mo_sf (mo_speed μ n) (μ 80) f)) n f).1 X)) 80 (mo_sf (mo_speed μ n) (μ 80) f))) dX9_plan_42 (((c_X9_speedOf (d - 1) (by omega) ad (va_up (va_up (va_up μ 54 A) 73 X) 80 (mo_sf (mo_speed μ n) (μ 80) f)) n (by obtain ⟨k1, k2, k3, k4⟩ := hk; exact ⟨hA18, k2, k3, k4⟩) f h1 (by omega)).to (r' := some (.inl (mo_speed μ n f))) rfl rfl).to rfl ((congrArg (fun m => va_up m 73 (mo_gg (mo_G (va_up (va_up (va_up μ 54 A) 73 X) 80 (mo_sf (mo_speed μ n) (μ 80) f)) n f).1 X)) ((vx_m2 (by decide)).trans (congrArg (fun m => va_up m 80 (mo_sf (mo_speed μ n) (μ 80) f)) ((vx_m2 (by decide)).trans (congrArg (fun m => va_up m 73 X) vx_m1))))).trans ((vx_m2 (by decide)).trans (congrArg (fun m => va_up m 80 (mo_sf (mo_speed μ n) (μ 80) f)) vx_m1)))) wd_977 wd_980 wd_54 hy_X9_speedOf wd_979 wd_32 (by decide) ly_54 rfl rfl (by omega) (Nat.le_of_ble_eq_true rfl) (Nat.le_of_ble_eq_true rfl) (Nat.le_refl 0) (Nat.le_refl 0) ?_
    refine vx_eq (μ2 := (va_up (va_up (va_up μ 54 (upd A 33 (mo_G (va_up (va_up (va_up μ 54 A) 73 X) 80 (mo_sf (mo_speed μ n) (μ 80) f)) n f).2)) 73 (mo_gg (mo_G (va_up (va_up (va_up μ 54 A) 73 X) 80 (mo_sf (mo_speed μ n) (μ 80) f)) n f).1 X)) 80 (mo_sf (mo_speed μ n) (μ 80) f))) (ls2 := [(1, .inl (nI f)), (0, vx_r 54)]) (st2 := [.inl (mo_speed μ n f), .inl (nI f), vx_r 80]) rfl rfl rfl ?_
    refine vx_iast (a := 80) (n := 8) (μ2 := (va_up (va_up (va_up μ 54 (upd A 33 (mo_G (va_up (va_up (va_up μ 54 A) 73 X) 80 (mo_sf (mo_speed μ n) (μ 80) f)) n f).2)) 73 (mo_gg (mo_G (va_up (va_up (va_up μ 54 A) 73 X) 80 (mo_sf (mo_speed μ n) (μ 80) f)) n f).1 X)) 80 (upd (mo_sf (mo_speed μ n) (μ 80) f) f (mo_speed μ n f)))) dX9_plan_45 (by decide) ly_80 (vp_in_nI (by omega) (by omega)) (by rw [nI_clamp (by omega)]; try exact vx_m1) ?_
    refine vx_iinc (v := (nI (f + 1))) (ls2 := [(1, .inl (nI (f + 1))), (0, vx_r 54)]) dX9_plan_46 rfl (nI_1 _) (by decide) rfl ?_
    refine vx_goto (tgt := 27) dX9_plan_49 (by decide) ?_
    refine vx_keep (ls2 := [(1, .inl (nI (f + 1))), (0, vx_r 54)]) ⟨rfl, rfl, trivial⟩ ?_
    refine vx_eq (μ2 := (va_up (va_up (va_up μ 54 (upd A 33 (mo_G (va_up (va_up (va_up μ 54 A) 73 X) 80 (mo_sf (mo_speed μ n) (μ 80) f)) n f).2)) 73 (mo_gg (mo_G (va_up (va_up (va_up μ 54 A) 73 X) 80 (mo_sf (mo_speed μ n) (μ 80) f)) n f).1 X)) 80 (mo_sf (mo_speed μ n) (μ 80) (f + 1)))) (by rw [mo_sfs h1]) rfl rfl ?_
    exact hJ2
def mo_plR (P : sr_P) (ω0 : Nat → Bool) (p d0 m : Nat) (μ : vx_mem) (r : Int32) (μ' : vx_mem) : sr_B → Prop
  | none => r = -1 ∧ mo_scr μ μ'
  | some (o, l, e) => r = nI l ∧ l ≤ 400000 * 7 ∧ o.length = m ∧ (∀ j, j < m → o.getD j 0 < 8 ∧ ω0 (o.getD j 0) = true) ∧ sr_go P p d0 0 o = some (e, l) ∧ ∃ μ1, mo_scr μ μ1 ∧ μ' = mo_cmM μ1 P p d0 o m m
set_option maxRecDepth 20000 in
set_option maxHeartbeats 2000000 in
theorem c_X9_plan (d : Nat) (hd : 6 ≤ d) (ad : Nat → Nat) (μ : vx_mem) (ht : μ 54 0 = 0) (n : Nat) (hk : mo_ck μ n) (p fi : Nat) (hp : μ 54 35 = nI p) (hpn : p ≤ n) (hfi : μ 56 4 = nI fi) (hfi8 : fi < 8) (d0 : Nat) (hd0 : μ 54 34 = nI d0) (hd9 : d0 ≤ 1000) (wy : Nat) (hwy : μ 54 36 = nI wy) (hwy9 : wy < 1000) {P : sr_P} (hs : ∀ μ2 : vx_mem, (∀ q, q = 71 ∨ q = 65 ∨ q = 66 ∨ q = 61 ∨ q = 56 → μ2 q = μ q) → (∀ k, 1 ≤ k → k ≤ n → μ2 80 k = mo_speed μ n k) → sr_ml P (mo_w μ n) μ2) : ∃ r μ', vx_Mf yX9_plan cX9_plan 5 (some (.int)) d ad 82 vx_lay μ [vx_r 54] (some (.inl r)) μ' ∧ (((((sr_F (mo_w μ n) p fi) ++ (sr_S (mo_w μ n) (sr_F (mo_w μ n) p fi))).length = 0 ∨ 0 < wy) ∧ r = -1 ∧ mo_scr μ μ') ∨ (¬ (((sr_F (mo_w μ n) p fi) ++ (sr_S (mo_w μ n) (sr_F (mo_w μ n) p fi))).length = 0 ∨ 0 < wy) ∧ mo_plR P (mo_w μ n) p d0 ((sr_F (mo_w μ n) p fi) ++ (sr_S (mo_w μ n) (sr_F (mo_w μ n) p fi))).length μ r μ' (((sr_pm (sr_S (mo_w μ n) (sr_F (mo_w μ n) p fi)).length (sr_S (mo_w μ n) (sr_F (mo_w μ n) p fi))).map ((sr_F (mo_w μ n) p fi) ++ ·)).foldl (sr_con P p d0 0 []) none))) := by
  have hn7 := hk.2.1
  have h0 : sr_Fok (mo_w μ n) [] := ⟨List.nodup_nil, fun x hx => by cases hx⟩
  have hFok : sr_Fok (mo_w μ n) (sr_F (mo_w μ n) p fi) := sr_Fok_ad (sr_Fok_ad h0 (fun h => mo_w_17 hn7 h)) (fun h => mo_w_17 hn7 h)
  have hlen := sr_S_len (sr_F (mo_w μ n) p fi) hFok
  have h17 : (sr_17.filter (mo_w μ n)).length ≤ 7 := List.length_filter_le _ _
  have hFO := c_X9_firstOrder (d - 1) (by omega) ad μ n hk.1 hn7 p fi hp hpn hfi hfi8
  have hSin : ∀ x, x ∈ (sr_S (mo_w μ n) (sr_F (mo_w μ n) p fi)) → x < 8 ∧ (mo_w μ n) x = true := by
    intro x hx
    have h1 := List.mem_filter.mp hx
    have h2 := h1.2
    rw [sr_w1_at] at h2
    simp only [Bool.and_eq_true] at h2
    exact ⟨(sr_17_lt h1.1).2, h2.1⟩
  have hFin : ∀ x, x ∈ (sr_F (mo_w μ n) p fi) → x < 8 ∧ (mo_w μ n) x = true := fun x hx => ⟨(sr_17_lt (hFok.2 x hx).1).2, (hFok.2 x hx).2⟩
  obtain ⟨R, hR1, hR2⟩ := sr_ord (S := (sr_S (mo_w μ n) (sr_F (mo_w μ n) p fi))) rfl (by omega) sr_S_sort
  rw [hR1]
  generalize hωe : (mo_w μ n) = ω0 at *
  generalize hFe : sr_F ω0 p fi = F at *
  generalize hSe : sr_S ω0 F = S at *
  obtain ⟨m, hm⟩ : ∃ m, m = (F ++ S).length := ⟨_, rfl⟩
  have hm2 : F.length + S.length = m := by rw [hm, List.length_append]
  have hm7 : m ≤ 7 := by omega
  rw [← hm] at hFO
  simp only [← hm]
  have hscr : mo_scr μ (va_up (va_up μ 54 (mo_mf (μ 54) m F.length)) 79 (mo_lst (F ++ S) (μ 79))) := ⟨fun q a1 _ a3 _ _ => by unfold va_up; rw [if_neg a3, if_neg a1], fun j hj => by show upd (upd (μ 54) 51 _) 52 _ j = _; rw [pk_un (by omega), pk_un (by omega)]⟩
  have e36 : (mo_mf (μ 54) m F.length) 36 = nI wy := hwy
  by_cases hm0 : m = 0
  · have hA : m = 0 := hm0
    have key : ∀ (Post : vx_P) (ini : Bool), Post (some (.inl (-1))) ad 82 vx_lay (va_up (va_up μ 54 (mo_mf (μ 54) m F.length)) 79 (mo_lst (F ++ S) (μ 79))) → vx_J RX9 cX9_plan 5 (some (.int)) ini d 0 0 Post ad 0 0 82 vx_lay μ 0 [(0, vx_r 54)] [] := by
      intro Post ini hP
      refine vx_aload_n dX9_plan_0 rfl ?_
      refine vx_iconst (v := 0) dX9_plan_1 (by decide) ?_
      refine vx_putI (ci := 9) (T := TX9) (n := 56) (j := 0) (a := 54) (ty := .int) (μ2 := (va_up μ 54 (upd (μ 54) 0 0))) dX9_plan_2 rfl lay_X9 tyX9_ok nmX9 (by decide) wd_736 rfl rfl rfl rfl (by decide) ly_54 rfl rfl ?_
      refine vx_eq (μ2 := μ) (by rw [sp_ups ht, vx_up_id]) rfl rfl ?_
      refine vx_aload_n dX9_plan_5 rfl ?_
      refine vx_callV (b := 54) (vs := []) (st := []) (r0 := none) (μ0 := (va_up (va_up μ 54 (mo_mf (μ 54) m F.length)) 79 (mo_lst (F ++ S) (μ 79)))) dX9_plan_6 (hFO) wd_969 wd_972 wd_54 hy_X9_firstOrder wd_971 wd_30 (by decide) ly_54 rfl rfl (by omega) (Nat.le_of_ble_eq_true rfl) (Nat.le_of_ble_eq_true rfl) (Nat.le_refl 0) (Nat.le_refl 0) ?_
      refine vx_eq (μ2 := (va_up (va_up μ 54 (mo_mf (μ 54) m F.length)) 79 (mo_lst (F ++ S) (μ 79)))) (ls2 := [(0, vx_r 54)]) (st2 := []) rfl rfl rfl ?_
      refine vx_aload_n dX9_plan_9 rfl ?_
      refine vx_getI (ci := 9) (T := TX9) (n := 56) (j := 51) (a := 54) (v := (nI m)) dX9_plan_10 rfl lay_X9 (by decide) wd_787 (by decide) ly_54 rfl rfl ?_
      refine vx_if_eq (tgt := 23) dX9_plan_13 (by decide) (fun _ => ?_) (fun h => absurd (by rw [hm0]; rfl) h)
      refine vx_iconst (v := (-1)) dX9_plan_23 (by decide) ?_
      exact vx_ret (ty := .int) dX9_plan_24 rfl rfl (Nat.le_refl 0) (Nat.le_refl 0) (vx_pst hP rfl rfl)
    exact ⟨-1, _, vx_J.M pn_X9_plan (Nat.le_of_ble_eq_true rfl) (key _ _ ⟨rfl, rfl, rfl, rfl, rfl⟩), Or.inl ⟨Or.inl hm0, rfl, hscr⟩⟩
  · by_cases hw0 : 0 < wy
    · have hA := hm0
      have key : ∀ (Post : vx_P) (ini : Bool), Post (some (.inl (-1))) ad 82 vx_lay (va_up (va_up μ 54 (mo_mf (μ 54) m F.length)) 79 (mo_lst (F ++ S) (μ 79))) → vx_J RX9 cX9_plan 5 (some (.int)) ini d 0 0 Post ad 0 0 82 vx_lay μ 0 [(0, vx_r 54)] [] := by
        intro Post ini hP
        refine vx_aload_n dX9_plan_0 rfl ?_
        refine vx_iconst (v := 0) dX9_plan_1 (by decide) ?_
        refine vx_putI (ci := 9) (T := TX9) (n := 56) (j := 0) (a := 54) (ty := .int) (μ2 := (va_up μ 54 (upd (μ 54) 0 0))) dX9_plan_2 rfl lay_X9 tyX9_ok nmX9 (by decide) wd_736 rfl rfl rfl rfl (by decide) ly_54 rfl rfl ?_
        refine vx_eq (μ2 := μ) (by rw [sp_ups ht, vx_up_id]) rfl rfl ?_
        refine vx_aload_n dX9_plan_5 rfl ?_
        refine vx_callV (b := 54) (vs := []) (st := []) (r0 := none) (μ0 := (va_up (va_up μ 54 (mo_mf (μ 54) m F.length)) 79 (mo_lst (F ++ S) (μ 79)))) dX9_plan_6 (hFO) wd_969 wd_972 wd_54 hy_X9_firstOrder wd_971 wd_30 (by decide) ly_54 rfl rfl (by omega) (Nat.le_of_ble_eq_true rfl) (Nat.le_of_ble_eq_true rfl) (Nat.le_refl 0) (Nat.le_refl 0) ?_
        refine vx_eq (μ2 := (va_up (va_up μ 54 (mo_mf (μ 54) m F.length)) 79 (mo_lst (F ++ S) (μ 79)))) (ls2 := [(0, vx_r 54)]) (st2 := []) rfl rfl rfl ?_
        refine vx_aload_n dX9_plan_9 rfl ?_
        refine vx_getI (ci := 9) (T := TX9) (n := 56) (j := 51) (a := 54) (v := (nI m)) dX9_plan_10 rfl lay_X9 (by decide) wd_787 (by decide) ly_54 rfl rfl ?_
        refine vx_if_eq (tgt := 23) dX9_plan_13 (by decide) (fun h => absurd h (nI_ne0 (by omega) (by omega))) (fun _ => ?_)
        refine vx_aload_n dX9_plan_16 rfl ?_
        refine vx_getI (ci := 9) (T := TX9) (n := 56) (j := 36) (a := 54) (v := (nI wy)) dX9_plan_17 rfl lay_X9 (by decide) wd_772 (by decide) ly_54 rfl e36 ?_
        refine vx_if_le (tgt := 25) dX9_plan_20 (by decide) (fun h => absurd h (nI_nle (by omega) (by omega))) (fun _ => ?_)
        refine vx_iconst (v := (-1)) dX9_plan_23 (by decide) ?_
        exact vx_ret (ty := .int) dX9_plan_24 rfl rfl (Nat.le_refl 0) (Nat.le_refl 0) (vx_pst hP rfl rfl)
      exact ⟨-1, _, vx_J.M pn_X9_plan (Nat.le_of_ble_eq_true rfl) (key _ _ ⟨rfl, rfl, rfl, rfl, rfl⟩), Or.inl ⟨Or.inr hw0, rfl, hscr⟩⟩
    · have hw00 : wy = 0 := by omega
      have hk1 : mo_ck (va_up (va_up μ 54 (mo_mf (μ 54) m F.length)) 79 (mo_lst (F ++ S) (μ 79))) n := by obtain ⟨k1, k2, k3, k4⟩ := hk; exact ⟨k1, k2, k3, k4⟩
      obtain ⟨A2, X2, hA2, hJs⟩ := mo_p_spd (d := d) (ad := ad) (by omega) hk1 n 1 (mo_mf (μ 54) m F.length) ((va_up (va_up μ 54 (mo_mf (μ 54) m F.length)) 79 (mo_lst (F ++ S) (μ 79))) 73) (by omega) (by omega) (fun _ _ => rfl)
      obtain ⟨M2, hM2⟩ : ∃ M2, M2 = (va_up (va_up (va_up (va_up (va_up μ 54 (mo_mf (μ 54) m F.length)) 79 (mo_lst (F ++ S) (μ 79))) 54 A2) 73 X2) 80 (mo_sf (mo_speed (va_up (va_up μ 54 (mo_mf (μ 54) m F.length)) 79 (mo_lst (F ++ S) (μ 79))) n) ((va_up (va_up μ 54 (mo_mf (μ 54) m F.length)) 79 (mo_lst (F ++ S) (μ 79))) 80) (n + 1))) := ⟨_, rfl⟩
      have hml : sr_ml P ω0 M2 := by
        refine hs M2 (fun q hq => ?_) (fun k k1 k2 => ?_)
        · rw [hM2]
          rcases hq with rfl | rfl | rfl | rfl | rfl <;> rfl
        · rw [hM2]
          show mo_sf _ _ (n + 1) k = _
          unfold mo_sf
          rw [if_pos (by omega)]
          rfl
      have h54 : ∀ j, j ≠ 33 → M2 54 j = mo_mf (μ 54) m F.length j := fun j hj => by rw [hM2]; exact hA2 j hj
      have h79 : M2 79 = mo_lst (F ++ S) (μ 79) := by rw [hM2]; rfl
      have htr : mo_tr M2 F S := by
        unfold mo_tr
        rw [h79]
        refine ⟨fun j hj => ?_, fun j hj => ?_⟩
        · rw [mo_lst_at (by rw [List.length_append]; omega), sr_getD_appl hj]
        · rw [mo_lst_at (by rw [List.length_append]; omega), sr_getD_appr (by omega), show F.length + j - F.length = j by omega]
      obtain ⟨μ2, b2, e2, f2, hB2, hJ2⟩ := mo_p_loop (d := d) (by omega) (ad := ad) hm7 (p := p) (d0 := d0) (by omega) hd9 hm2 hFin hSin R S M2 none (-1) 0 hR2 hml (h54 51 (by decide)) (h54 52 (by decide)) ((h54 35 (by decide)).trans hp) ((h54 34 (by decide)).trans hd0) htr rfl
      have hscr2 : mo_scr μ μ2 := by
        refine ⟨fun q a1 a2 a3 a4 a5 => ?_, fun j hj => ?_⟩
        · rw [f2.1 q a1 a3 a5, hM2]
          unfold va_up
          rw [if_neg a4, if_neg a2, if_neg a1, if_neg a3, if_neg a1]
        · rw [f2.2 j (by omega), h54 j (by omega)]
          show upd (upd (μ 54) 51 _) 52 _ j = _
          rw [pk_un (by omega), pk_un (by omega)]
      have eM1 : (va_up (va_up μ 54 (mo_mf (μ 54) m F.length)) 79 (mo_lst (F ++ S) (μ 79))) = va_up (va_up (va_up (va_up (va_up μ 54 (mo_mf (μ 54) m F.length)) 79 (mo_lst (F ++ S) (μ 79))) 54 (mo_mf (μ 54) m F.length)) 73 ((va_up (va_up μ 54 (mo_mf (μ 54) m F.length)) 79 (mo_lst (F ++ S) (μ 79))) 73)) 80 (mo_sf (mo_speed (va_up (va_up μ 54 (mo_mf (μ 54) m F.length)) 79 (mo_lst (F ++ S) (μ 79))) n) ((va_up (va_up μ 54 (mo_mf (μ 54) m F.length)) 79 (mo_lst (F ++ S) (μ 79))) 80) 1) := by
        rw [mo_sf1]
        funext q
        unfold va_up
        by_cases q1 : q = 80
        · subst q1; rfl
        · rw [if_neg q1]
          by_cases q2 : q = 73
          · subst q2; rfl
          · rw [if_neg q2]
            by_cases q3 : q = 54
            · subst q3; rfl
            · rw [if_neg q3, if_neg q3]
      have hst : ∀ (Post : vx_P) (ini : Bool), vx_J RX9 cX9_plan 5 (some (.int)) ini d 0 0 Post ad 0 0 82 vx_lay μ2 148 [(2, .inl e2), (1, .inl b2), (0, vx_r 54)] [] → vx_J RX9 cX9_plan 5 (some (.int)) ini d 0 0 Post ad 0 0 82 vx_lay μ 0 [(0, vx_r 54)] [] := by
        intro Post ini hJ
        have hJ3 := hJ2 Post ini hJ
        rw [hM2] at hJ3
        have hJ4 := hJs Post ini
        refine vx_aload_n dX9_plan_0 rfl ?_
        refine vx_iconst (v := 0) dX9_plan_1 (by decide) ?_
        refine vx_putI (ci := 9) (T := TX9) (n := 56) (j := 0) (a := 54) (ty := .int) (μ2 := (va_up μ 54 (upd (μ 54) 0 0))) dX9_plan_2 rfl lay_X9 tyX9_ok nmX9 (by decide) wd_736 rfl rfl rfl rfl (by decide) ly_54 rfl rfl ?_
        refine vx_eq (μ2 := μ) (by rw [sp_ups ht, vx_up_id]) rfl rfl ?_
        refine vx_aload_n dX9_plan_5 rfl ?_
        refine vx_callV (b := 54) (vs := []) (st := []) (r0 := none) (μ0 := (va_up (va_up μ 54 (mo_mf (μ 54) m F.length)) 79 (mo_lst (F ++ S) (μ 79)))) dX9_plan_6 (hFO) wd_969 wd_972 wd_54 hy_X9_firstOrder wd_971 wd_30 (by decide) ly_54 rfl rfl (by omega) (Nat.le_of_ble_eq_true rfl) (Nat.le_of_ble_eq_true rfl) (Nat.le_refl 0) (Nat.le_refl 0) ?_
        refine vx_eq (μ2 := (va_up (va_up μ 54 (mo_mf (μ 54) m F.length)) 79 (mo_lst (F ++ S) (μ 79)))) (ls2 := [(0, vx_r 54)]) (st2 := []) rfl rfl rfl ?_
        refine vx_aload_n dX9_plan_9 rfl ?_
        refine vx_getI (ci := 9) (T := TX9) (n := 56) (j := 51) (a := 54) (v := (nI m)) dX9_plan_10 rfl lay_X9 (by decide) wd_787 (by decide) ly_54 rfl rfl ?_
        refine vx_if_eq (tgt := 23) dX9_plan_13 (by decide) (fun h => absurd h (nI_ne0 (by omega) (by omega))) (fun _ => ?_)
        refine vx_aload_n dX9_plan_16 rfl ?_
        refine vx_getI (ci := 9) (T := TX9) (n := 56) (j := 36) (a := 54) (v := (nI wy)) dX9_plan_17 rfl lay_X9 (by decide) wd_772 (by decide) ly_54 rfl e36 ?_
        refine vx_if_le (tgt := 25) dX9_plan_20 (by decide) (fun _ => ?_) (fun h => absurd (by rw [hw00]; decide) h)
        refine vx_iconst (v := 1) dX9_plan_25 (by decide) ?_
        refine vx_istore_n (ls2 := [(1, .inl 1), (0, vx_r 54)]) dX9_plan_26 (by decide) rfl ?_
        refine vx_keep (ls2 := [(1, .inl 1), (0, vx_r 54)]) ⟨rfl, rfl, trivial⟩ ?_
        refine vx_eq (μ2 := _) eM1 rfl rfl ?_
        refine hJ4 ?_
        refine vx_iconst (v := (-1)) dX9_plan_52 (by decide) ?_
        refine vx_istore_n (ls2 := [(1, .inl (-1)), (0, vx_r 54)]) dX9_plan_53 (by decide) rfl ?_
        refine vx_iconst (v := 0) dX9_plan_54 (by decide) ?_
        refine vx_istore_n (ls2 := [(2, .inl 0), (1, .inl (-1)), (0, vx_r 54)]) dX9_plan_55 (by decide) rfl ?_
        refine vx_iconst (v := 1) dX9_plan_56 (by decide) ?_
        refine vx_istore_n (ls2 := [(3, .inl 1), (2, .inl 0), (1, .inl (-1)), (0, vx_r 54)]) dX9_plan_57 (by decide) rfl ?_
        refine vx_keep (ls2 := [(3, .inl 1), (2, .inl 0), (1, .inl (-1)), (0, vx_r 54)]) ⟨rfl, rfl, rfl, rfl, trivial⟩ ?_
        exact hJ3
      generalize hBe : ((S :: R).map (F ++ ·)).foldl (sr_con P p d0 0 []) none = B at hB2 ⊢
      rcases B with _ | ⟨o, l, t⟩
      · have hb : b2 = -1 := hB2
        subst hb
        have key : ∀ (Post : vx_P) (ini : Bool), Post (some (.inl (-1))) ad 82 vx_lay μ2 → vx_J RX9 cX9_plan 5 (some (.int)) ini d 0 0 Post ad 0 0 82 vx_lay μ 0 [(0, vx_r 54)] [] := by
          intro Post ini hP
          refine hst Post ini ?_
          refine vx_iload_n dX9_plan_148 rfl ?_
          refine vx_iconst (v := (-1)) dX9_plan_149 (by decide) ?_
          refine vx_icmp_ne (tgt := 155) dX9_plan_150 (by decide) (fun h => absurd h (by decide)) (fun _ => ?_)
          refine vx_iconst (v := (-1)) dX9_plan_153 (by decide) ?_
          exact vx_ret (ty := .int) dX9_plan_154 rfl rfl (Nat.le_refl 0) (Nat.le_refl 0) (vx_pst hP rfl rfl)
        exact ⟨-1, _, vx_J.M pn_X9_plan (Nat.le_of_ble_eq_true rfl) (key _ _ ⟨rfl, rfl, rfl, rfl, rfl⟩), Or.inr ⟨fun z => z.elim hm0 hw0, rfl, hscr2⟩⟩
      · obtain ⟨q1, q2, q3, q4, q5, q6, q7, q8⟩ := hB2
        subst q1
        have hbn := nI_nm1 (n := l) (by omega)
        have hcm := c_X9_comes (d - 1) (by omega) ad μ2 (sr_ml_f2 hml f2) q5 hm7 ((f2.2 51 (by omega)).trans (h54 51 (by decide))) q6 q7 p d0 ((f2.2 35 (by omega)).trans ((h54 35 (by decide)).trans hp)) (by omega) ((f2.2 34 (by omega)).trans ((h54 34 (by decide)).trans hd0)) hd9 (fun k hk => sr_go_ne o _ _ _ _ _ q8 k (by omega))
        have key : ∀ (Post : vx_P) (ini : Bool), Post (some (.inl (nI l))) ad 82 vx_lay (mo_cmM μ2 P p d0 o m m) → vx_J RX9 cX9_plan 5 (some (.int)) ini d 0 0 Post ad 0 0 82 vx_lay μ 0 [(0, vx_r 54)] [] := by
          intro Post ini hP
          refine hst Post ini ?_
          refine vx_iload_n dX9_plan_148 rfl ?_
          refine vx_iconst (v := (-1)) dX9_plan_149 (by decide) ?_
          refine vx_icmp_ne (tgt := 155) dX9_plan_150 (by decide) (fun _ => ?_) (fun h => absurd h hbn)
          refine vx_aload_n dX9_plan_155 rfl ?_
          refine vx_callV (b := 54) (vs := []) (st := []) (r0 := none) (μ0 := (mo_cmM μ2 P p d0 o m m)) dX9_plan_156 (hcm) wd_1003 wd_1006 wd_54 hy_X9_comes wd_1005 wd_38 (by decide) ly_54 rfl rfl (by omega) (Nat.le_of_ble_eq_true rfl) (Nat.le_of_ble_eq_true rfl) (Nat.le_refl 0) (Nat.le_refl 0) ?_
          refine vx_eq (μ2 := (mo_cmM μ2 P p d0 o m m)) (ls2 := [(2, .inl e2), (1, .inl (nI l)), (0, vx_r 54)]) (st2 := []) rfl rfl rfl ?_
          refine vx_iload_n dX9_plan_159 rfl ?_
          exact vx_ret (ty := .int) dX9_plan_160 rfl rfl (Nat.le_refl 0) (Nat.le_refl 0) (vx_pst hP rfl rfl)
        exact ⟨nI l, _, vx_J.M pn_X9_plan (Nat.le_of_ble_eq_true rfl) (key _ _ ⟨rfl, rfl, rfl, rfl, rfl⟩), Or.inr ⟨fun z => z.elim hm0 hw0, rfl, q3, q5, q7, q8, μ2, hscr2, rfl⟩⟩
end
