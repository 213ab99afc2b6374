section
/-- what the model's search reads and doesn't write -/
def sr_ml (P : sr_P) (ω0 : Nat → Bool) (μ : vx_mem) : Prop :=
  (∀ p k, p < 8 → k < 8 → ω0 k = true → (p = k → P.1 p k = 1) ∧ (¬ p = k → μ 71 (8 * p + k) = nI (P.1 p k)) ∧ P.1 p k ≤ 10) ∧
  (∀ k, k < 8 → ω0 k = true → μ 65 k = nI (P.2.1 k) ∧ P.2.1 k ≤ 99 ∧ μ 66 k = nI (P.2.2.1 k) ∧ P.2.2.1 k ≤ 99 ∧ (μ 61 k + μ 80 k - 1) / μ 80 k = nI (P.2.2.2.1 k) ∧ P.2.2.2.1 k ≤ 300 ∧ ¬ μ 80 k = 0) ∧
  (μ 56 3 = nI P.2.2.2.2 ∧ P.2.2.2.2 ≤ 99)
theorem sr_ml_up {P : sr_P} {ω0 : Nat → Bool} {μ μ' : vx_mem} (h : sr_ml P ω0 μ) (h1 : ∀ p, p = 71 ∨ p = 65 ∨ p = 66 ∨ p = 61 ∨ p = 80 ∨ p = 56 → μ' p = μ p) : sr_ml P ω0 μ' := by
  unfold sr_ml at h ⊢
  rw [h1 71 (by omega), h1 65 (by omega), h1 66 (by omega), h1 61 (by omega), h1 80 (by omega), h1 56 (by omega)]
  exact h
theorem sr_drop {os : List Nat} {k : Nat} (h : k < os.length) : os.drop k = os.getD k 0 :: os.drop (k + 1) := by
  rw [List.drop_eq_getElem_cons h, List.getD_eq_getElem?_getD, List.getElem?_eq_getElem h]
  rfl

set_option maxRecDepth 20000 in
set_option maxHeartbeats 2000000 in
theorem c_X9_swaps (d : Nat) (ad : Nat → Nat) (μ : vx_mem) (a b : Nat) (ha : a < 7) (hb : b < 7) : vx_Mf yX9_swaps cX9_swaps 4 none d ad 82 vx_lay μ [vx_r 54, .inl (nI a), .inl (nI b)] none (va_up μ 79 (upd (upd (μ 79) a (μ 79 b)) b (μ 79 a))) := by
  have key : ∀ (Post : vx_P) (ini : Bool), Post none ad 82 vx_lay (va_up μ 79 (upd (upd (μ 79) a (μ 79 b)) b (μ 79 a))) → vx_J RX9 cX9_swaps 4 none ini d 0 0 Post ad 0 0 82 vx_lay μ 0 [(0, vx_r 54), (1, .inl (nI a)), (2, .inl (nI b))] [] := by
    intro Post ini hP
    refine vx_aload_n dX9_swaps_0 rfl ?_
    refine vx_getR (ci := 9) (T := TX9) (n := 56) (j := 49) (a := 54) (r := 79) dX9_swaps_1 rfl lay_X9 (by decide) wd_785 (by decide) ly_54 rfl ?_
    refine vx_iload_n dX9_swaps_4 rfl ?_
    refine vx_iald (a := 79) (n := 7) (v := (μ 79 a)) dX9_swaps_5 (by decide) ly_79 (vp_in_nI (by omega) (by omega)) (by rw [nI_clamp (by omega)] <;> rfl) ?_
    refine vx_istore_n (ls2 := [(3, .inl (μ 79 a)), (0, vx_r 54), (1, .inl (nI a)), (2, .inl (nI b))]) dX9_swaps_6 (by decide) rfl ?_
    refine vx_aload_n dX9_swaps_7 rfl ?_
    refine vx_getR (ci := 9) (T := TX9) (n := 56) (j := 49) (a := 54) (r := 79) dX9_swaps_8 rfl lay_X9 (by decide) wd_785 (by decide) ly_54 rfl ?_
    refine vx_iload_n dX9_swaps_11 rfl ?_
    refine vx_aload_n dX9_swaps_12 rfl ?_
    refine vx_getR (ci := 9) (T := TX9) (n := 56) (j := 49) (a := 54) (r := 79) dX9_swaps_13 rfl lay_X9 (by decide) wd_785 (by decide) ly_54 rfl ?_
    refine vx_iload_n dX9_swaps_16 rfl ?_
    refine vx_iald (a := 79) (n := 7) (v := (μ 79 b)) dX9_swaps_17 (by decide) ly_79 (vp_in_nI (by omega) (by omega)) (by rw [nI_clamp (by omega)] <;> rfl) ?_
    refine vx_iast (a := 79) (n := 7) (μ2 := (va_up μ 79 (upd (μ 79) a (μ 79 b)))) dX9_swaps_18 (by decide) ly_79 (vp_in_nI (by omega) (by omega)) (by rw [nI_clamp (by omega)]; try exact rfl) ?_
    refine vx_aload_n dX9_swaps_19 rfl ?_
    refine vx_getR (ci := 9) (T := TX9) (n := 56) (j := 49) (a := 54) (r := 79) dX9_swaps_20 rfl lay_X9 (by decide) wd_785 (by decide) ly_54 rfl ?_
    refine vx_iload_n dX9_swaps_23 rfl ?_
    refine vx_iload_n dX9_swaps_24 rfl ?_
    refine vx_iast (a := 79) (n := 7) (μ2 := (va_up μ 79 (upd (upd (μ 79) a (μ 79 b)) b (μ 79 a)))) dX9_swaps_25 (by decide) ly_79 (vp_in_nI (by omega) (by omega)) (by rw [nI_clamp (by omega)]; try exact vx_m1) ?_
    exact vx_vret dX9_swaps_26 rfl (Nat.le_refl 0) (Nat.le_refl 0) (vx_pst hP rfl rfl)
  exact vx_J.M pn_X9_swaps (Nat.le_of_ble_eq_true rfl) (key _ _ ⟨rfl, rfl, rfl, rfl, rfl⟩)
set_option maxRecDepth 20000 in
set_option maxHeartbeats 2000000 in
theorem mo_goloop {dd : Nat} (hdd : 2 ≤ dd) {ad : Nat → Nat} {μ : vx_mem} {P : sr_P} {ω0 : Nat → Bool} (hs : sr_ml P ω0 μ) {os : List Nat} {m : Nat} (hm : os.length = m) (hm7 : m ≤ 7) (hmany : μ 54 51 = nI m) (hT : ∀ j, j < m → μ 79 j = nI (os.getD j 0)) (hos : ∀ j, j < m → os.getD j 0 < 8 ∧ ω0 (os.getD j 0) = true) : ∀ (r k p d l : Nat), k + r = m → p < 8 → d ≤ 1000 + 409 * k → l ≤ 400000 * k → ∃ G, (∀ j, j < 53 ∨ 54 < j → G j = μ 54 j) ∧
    ((sr_go P p d l (os.drop k) = none ∧ ∀ (Post : vx_P) (ini : Bool), Post (some (.inl 0)) ad 82 vx_lay (va_up μ 54 G) → vx_J RX9 cX9_goes 6 (some (.boolean)) ini dd 0 0 Post ad 0 0 82 vx_lay (va_up μ 54 (upd (μ 54) 53 (nI l))) 17 [(3, .inl (nI k)), (2, .inl (nI d)), (1, .inl (nI p)), (0, vx_r 54)] []) ∨
    ∃ e l', sr_go P p d l (os.drop k) = some (e, l') ∧ e ≤ 5000 ∧ l' ≤ 400000 * 7 ∧ G 53 = nI l' ∧ G 54 = nI e ∧ ∀ (Post : vx_P) (ini : Bool), Post (some (.inl 1)) ad 82 vx_lay (va_up μ 54 G) → vx_J RX9 cX9_goes 6 (some (.boolean)) ini dd 0 0 Post ad 0 0 82 vx_lay (va_up μ 54 (upd (μ 54) 53 (nI l))) 17 [(3, .inl (nI k)), (2, .inl (nI d)), (1, .inl (nI p)), (0, vx_r 54)] []) := by
  intro r
  induction r with
  | zero =>
    intro k p d l hk hp8 hd hl
    refine ⟨upd (upd (μ 54) 53 (nI l)) 54 (nI d), fun j hj => by rw [pk_un (by omega), pk_un (by omega)], Or.inr ⟨d, l, ?_, by omega, by omega, rfl, rfl, fun Post ini hP => ?_⟩⟩
    · rw [List.drop_eq_nil_of_le (by omega)]
      rfl
    · refine vx_iload_n dX9_goes_17 rfl ?_
      refine vx_aload_n dX9_goes_18 rfl ?_
      refine vx_getI (ci := 9) (T := TX9) (n := 56) (j := 51) (a := 54) (v := (nI m)) dX9_goes_19 rfl lay_X9 (by decide) wd_787 (by decide) ly_54 rfl hmany ?_
      refine vx_icmp_ge (tgt := 134) dX9_goes_22 (by decide) (fun _ => ?_) (fun h => absurd (by show (nI (m) ≤ nI (k)); rw [nI_leI (by omega) (by omega)]; omega) h)
      refine vx_aload_n dX9_goes_134 rfl ?_
      refine vx_iload_n dX9_goes_135 rfl ?_
      refine vx_putI (ci := 9) (T := TX9) (n := 56) (j := 54) (a := 54) (ty := .int) (μ2 := (va_up μ 54 (upd (upd (μ 54) 53 (nI l)) 54 (nI d)))) dX9_goes_136 rfl lay_X9 tyX9_ok nmX9 (by decide) wd_790 rfl rfl rfl rfl (by decide) ly_54 rfl vx_m1 ?_
      refine vx_iconst (v := 1) dX9_goes_139 (by decide) ?_
      exact vx_ret (ty := .boolean) dX9_goes_140 rfl rfl (Nat.le_refl 0) (Nat.le_refl 0) (vx_pst hP rfl rfl)
  | succ r ih =>
    intro k p d l hk hp8 hd hl
    have hTk := hT k (by omega)
    obtain ⟨hf8, hwf⟩ := hos k (by omega)
    rw [sr_drop (by omega)]
    generalize hf : os.getD k 0 = f at hTk hf8 hwf
    obtain ⟨w1, w2, w3⟩ := hs.1 p f hp8 hf8 hwf
    obtain ⟨b1, b2, b3, b4, b5, b6, b7⟩ := hs.2.1 f hf8 hwf
    obtain ⟨b8, b9⟩ := hs.2.2
    by_cases h0 : P.1 p f = 0
    · refine ⟨upd (μ 54) 53 (nI l), fun j hj => by rw [pk_un (by omega)], Or.inl ⟨?_, fun Post ini hP => ?_⟩⟩
      · show (if P.1 p f = 0 then none else _) = none
        rw [if_pos h0]
      · refine vx_iload_n dX9_goes_17 rfl ?_
        refine vx_aload_n dX9_goes_18 rfl ?_
        refine vx_getI (ci := 9) (T := TX9) (n := 56) (j := 51) (a := 54) (v := (nI m)) dX9_goes_19 rfl lay_X9 (by decide) wd_787 (by decide) ly_54 rfl hmany ?_
        refine vx_icmp_ge (tgt := 134) dX9_goes_22 (by decide) (fun h => absurd h (by show ¬ (nI (m) ≤ nI (k)); rw [nI_leI (by omega) (by omega)]; omega)) (fun _ => ?_)
        refine vx_aload_n dX9_goes_25 rfl ?_
        refine vx_getR (ci := 9) (T := TX9) (n := 56) (j := 49) (a := 54) (r := 79) dX9_goes_26 rfl lay_X9 (by decide) wd_785 (by decide) ly_54 rfl ?_
        refine vx_iload_n dX9_goes_29 rfl ?_
        refine vx_iald (a := 79) (n := 7) (v := (nI f)) dX9_goes_30 (by decide) ly_79 (vp_in_nI (by omega) (by omega)) (by rw [nI_clamp (by omega)]; exact hTk) ?_
        refine vx_istore (ls2 := [(4, .inl (nI f)), (3, .inl (nI k)), (2, .inl (nI d)), (1, .inl (nI p)), (0, vx_r 54)]) dX9_goes_31 (by decide) rfl ?_
        refine vx_iload dX9_goes_33 rfl ?_
        refine vx_iload_n dX9_goes_35 rfl ?_
        refine vx_icmp_ne (tgt := 43) dX9_goes_36 (by decide) (fun c_36 => ?_) (fun c_36 => ?_)
        · have hne : ¬ p = f := fun z => c_36 (by rw [z])
          refine vx_aload_n dX9_goes_43 rfl ?_
          refine vx_getR (ci := 9) (T := TX9) (n := 56) (j := 30) (a := 54) (r := 71) dX9_goes_44 rfl lay_X9 (by decide) wd_766 (by decide) ly_54 rfl ?_
          refine vx_bipush (v := 8) dX9_goes_47 (by decide) ?_
          refine vx_iload_n dX9_goes_49 rfl ?_
          refine vx_imul dX9_goes_50 ?_
          refine vx_eq (st2 := [.inl (nI (8 * p)), vx_r 71]) rfl rfl (by rw [show (8 : Int32) = nI 8 from rfl, pk_mul]) ?_
          refine vx_iload dX9_goes_51 rfl ?_
          refine vx_iadd dX9_goes_53 ?_
          refine vx_eq (st2 := [.inl (nI ((8 * p) + f)), vx_r 71]) rfl rfl (by rw [nI_add]) ?_
          refine vx_iald (a := 71) (n := 64) (v := (nI (P.1 p f))) dX9_goes_54 (by decide) ly_71 (vp_in_nI (by omega) (by omega)) (by rw [nI_clamp (by omega)]; exact (w2 hne)) ?_
          refine vx_istore (ls2 := [(5, .inl (nI (P.1 p f))), (4, .inl (nI f)), (3, .inl (nI k)), (2, .inl (nI d)), (1, .inl (nI p)), (0, vx_r 54)]) dX9_goes_55 (by decide) rfl ?_
          refine vx_iload dX9_goes_57 rfl ?_
          refine vx_if_ne (tgt := 64) dX9_goes_59 (by decide) (fun h => absurd (by rw [h0]; rfl) h) (fun _ => ?_)
          refine vx_iconst (v := 0) dX9_goes_62 (by decide) ?_
          exact vx_ret (ty := .boolean) dX9_goes_63 rfl rfl (Nat.le_refl 0) (Nat.le_refl 0) (vx_pst hP rfl rfl)
        · have heq : p = f := ((nI_eq (by omega) (by omega)).mp c_36).symm
          refine vx_iconst (v := 1) dX9_goes_39 (by decide) ?_
          refine vx_goto (tgt := 55) dX9_goes_40 (by decide) ?_
          refine vx_eq (st2 := [.inl (nI (P.1 p f))]) rfl rfl (by rw [w1 heq]; rfl) ?_
          refine vx_istore (ls2 := [(5, .inl (nI (P.1 p f))), (4, .inl (nI f)), (3, .inl (nI k)), (2, .inl (nI d)), (1, .inl (nI p)), (0, vx_r 54)]) dX9_goes_55 (by decide) rfl ?_
          refine vx_iload dX9_goes_57 rfl ?_
          refine vx_if_ne (tgt := 64) dX9_goes_59 (by decide) (fun h => absurd (by rw [h0]; rfl) h) (fun _ => ?_)
          refine vx_iconst (v := 0) dX9_goes_62 (by decide) ?_
          exact vx_ret (ty := .boolean) dX9_goes_63 rfl rfl (Nat.le_refl 0) (Nat.le_refl 0) (vx_pst hP rfl rfl)
    · have hd1 : (sr_d P p d f) ≤ 1000 + 409 * (k + 1) := by
        unfold sr_d
        have : max (d + P.1 p f - 1) (P.2.1 f) ≤ d + 109 := by omega
        omega
      have hmm : P.2.2.2.2 * ((sr_d P p d f) - P.2.2.1 f - 1) ≤ 99 * 4000 := Nat.mul_le_mul b9 (by omega)
      have hl1 : (sr_l P (sr_d P p d f) l f) ≤ 400000 * (k + 1) := by
        unfold sr_l
        omega
      have ego : sr_go P p d l (f :: os.drop (k + 1)) = sr_go P f (sr_d P p d f) (sr_l P (sr_d P p d f) l f) (os.drop (k + 1)) := if_neg h0
      rw [ego]
      obtain ⟨G, hG, hh⟩ := ih (k + 1) f (sr_d P p d f) (sr_l P (sr_d P p d f) l f) (by omega) hf8 hd1 hl1
      rcases hh with ⟨h1, hJ⟩ | ⟨e, l', h1, h2, h3, h4, h5, hJ⟩
      · refine ⟨G, hG, Or.inl ⟨h1, fun Post ini hP => ?_⟩⟩
        refine vx_iload_n dX9_goes_17 rfl ?_
        refine vx_aload_n dX9_goes_18 rfl ?_
        refine vx_getI (ci := 9) (T := TX9) (n := 56) (j := 51) (a := 54) (v := (nI m)) dX9_goes_19 rfl lay_X9 (by decide) wd_787 (by decide) ly_54 rfl hmany ?_
        refine vx_icmp_ge (tgt := 134) dX9_goes_22 (by decide) (fun h => absurd h (by show ¬ (nI (m) ≤ nI (k)); rw [nI_leI (by omega) (by omega)]; omega)) (fun _ => ?_)
        refine vx_aload_n dX9_goes_25 rfl ?_
        refine vx_getR (ci := 9) (T := TX9) (n := 56) (j := 49) (a := 54) (r := 79) dX9_goes_26 rfl lay_X9 (by decide) wd_785 (by decide) ly_54 rfl ?_
        refine vx_iload_n dX9_goes_29 rfl ?_
        refine vx_iald (a := 79) (n := 7) (v := (nI f)) dX9_goes_30 (by decide) ly_79 (vp_in_nI (by omega) (by omega)) (by rw [nI_clamp (by omega)]; exact hTk) ?_
        refine vx_istore (ls2 := [(4, .inl (nI f)), (3, .inl (nI k)), (2, .inl (nI d)), (1, .inl (nI p)), (0, vx_r 54)]) dX9_goes_31 (by decide) rfl ?_
        refine vx_iload dX9_goes_33 rfl ?_
        refine vx_iload_n dX9_goes_35 rfl ?_
        refine vx_icmp_ne (tgt := 43) dX9_goes_36 (by decide) (fun c_36_1 => ?_) (fun c_36_1 => ?_)
        · have hne : ¬ p = f := fun z => c_36_1 (by rw [z])
          refine vx_aload_n dX9_goes_43 rfl ?_
          refine vx_getR (ci := 9) (T := TX9) (n := 56) (j := 30) (a := 54) (r := 71) dX9_goes_44 rfl lay_X9 (by decide) wd_766 (by decide) ly_54 rfl ?_
          refine vx_bipush (v := 8) dX9_goes_47 (by decide) ?_
          refine vx_iload_n dX9_goes_49 rfl ?_
          refine vx_imul dX9_goes_50 ?_
          refine vx_eq (st2 := [.inl (nI (8 * p)), vx_r 71]) rfl rfl (by rw [show (8 : Int32) = nI 8 from rfl, pk_mul]) ?_
          refine vx_iload dX9_goes_51 rfl ?_
          refine vx_iadd dX9_goes_53 ?_
          refine vx_eq (st2 := [.inl (nI ((8 * p) + f)), vx_r 71]) rfl rfl (by rw [nI_add]) ?_
          refine vx_iald (a := 71) (n := 64) (v := (nI (P.1 p f))) dX9_goes_54 (by decide) ly_71 (vp_in_nI (by omega) (by omega)) (by rw [nI_clamp (by omega)]; exact (w2 hne)) ?_
          refine vx_istore (ls2 := [(5, .inl (nI (P.1 p f))), (4, .inl (nI f)), (3, .inl (nI k)), (2, .inl (nI d)), (1, .inl (nI p)), (0, vx_r 54)]) dX9_goes_55 (by decide) rfl ?_
          refine vx_iload dX9_goes_57 rfl ?_
          refine vx_if_ne (tgt := 64) dX9_goes_59 (by decide) (fun _ => ?_) (fun h => absurd h (nI_ne0 (by omega) (by omega)))
          refine vx_iload_n dX9_goes_64 rfl ?_
          refine vx_iload dX9_goes_65 rfl ?_
          refine vx_iadd dX9_goes_67 ?_
          refine vx_eq (st2 := [.inl (nI (d + (P.1 p f)))]) rfl rfl (by rw [nI_add]) ?_
          refine vx_iconst (v := 1) dX9_goes_68 (by decide) ?_
          refine vx_isub dX9_goes_69 ?_
          refine vx_eq (st2 := [.inl (nI (d + P.1 p f - 1))]) rfl rfl (by rw [show (1 : Int32) = nI 1 from rfl, pk_sub (by omega)]) ?_
          refine vx_aload_n dX9_goes_70 rfl ?_
          refine vx_getR (ci := 9) (T := TX9) (n := 56) (j := 24) (a := 54) (r := 65) dX9_goes_71 rfl lay_X9 (by decide) wd_760 (by decide) ly_54 rfl ?_
          refine vx_iload dX9_goes_74 rfl ?_
          refine vx_iald (a := 65) (n := 8) (v := (nI (P.2.1 f))) dX9_goes_76 (by decide) ly_65 (vp_in_nI (by omega) (by omega)) (by rw [nI_clamp (by omega)]; exact b1) ?_
          refine vx_mmax dX9_goes_77 wd_986 (by omega) (Nat.le_of_ble_eq_true rfl) (Nat.le_refl 0) (Nat.le_refl 0) ?_
          refine vx_eq (st2 := [.inl (nI (max (d + P.1 p f - 1) (P.2.1 f)))]) rfl rfl (by rw [show (if (nI (d + P.1 p f - 1)) < (nI (P.2.1 f)) then (nI (P.2.1 f)) else (nI (d + P.1 p f - 1))) = nI (max (d + P.1 p f - 1) (P.2.1 f)) from sr_max (by omega) (by omega)]) ?_
          refine vx_istore_n (ls2 := [(2, .inl (nI (max (d + P.1 p f - 1) (P.2.1 f)))), (5, .inl (nI (P.1 p f))), (4, .inl (nI f)), (3, .inl (nI k)), (1, .inl (nI p)), (0, vx_r 54)]) dX9_goes_80 (by decide) rfl ?_
          refine vx_iload_n dX9_goes_81 rfl ?_
          refine vx_aload_n dX9_goes_82 rfl ?_
          refine vx_getR (ci := 9) (T := TX9) (n := 56) (j := 20) (a := 54) (r := 61) dX9_goes_83 rfl lay_X9 (by decide) wd_756 (by decide) ly_54 rfl ?_
          refine vx_iload dX9_goes_86 rfl ?_
          refine vx_iald (a := 61) (n := 8) (v := (μ 61 f)) dX9_goes_88 (by decide) ly_61 (vp_in_nI (by omega) (by omega)) (by rw [nI_clamp (by omega)] <;> rfl) ?_
          refine vx_aload_n dX9_goes_89 rfl ?_
          refine vx_getR (ci := 9) (T := TX9) (n := 56) (j := 50) (a := 54) (r := 80) dX9_goes_90 rfl lay_X9 (by decide) wd_786 (by decide) ly_54 rfl ?_
          refine vx_iload dX9_goes_93 rfl ?_
          refine vx_iald (a := 80) (n := 8) (v := (μ 80 f)) dX9_goes_95 (by decide) ly_80 (vp_in_nI (by omega) (by omega)) (by rw [nI_clamp (by omega)] <;> rfl) ?_
          refine vx_iadd dX9_goes_96 ?_
          refine vx_iconst (v := 1) dX9_goes_97 (by decide) ?_
          refine vx_isub dX9_goes_98 ?_
          refine vx_aload_n dX9_goes_99 rfl ?_
          refine vx_getR (ci := 9) (T := TX9) (n := 56) (j := 50) (a := 54) (r := 80) dX9_goes_100 rfl lay_X9 (by decide) wd_786 (by decide) ly_54 rfl ?_
          refine vx_iload dX9_goes_103 rfl ?_
          refine vx_iald (a := 80) (n := 8) (v := (μ 80 f)) dX9_goes_105 (by decide) ly_80 (vp_in_nI (by omega) (by omega)) (by rw [nI_clamp (by omega)] <;> rfl) ?_
          refine vx_idiv dX9_goes_106 b7 ?_
          refine vx_iadd dX9_goes_107 ?_
          refine vx_eq (st2 := [.inl (nI (sr_d P p d f))]) rfl rfl (by rw [b5, nI_add]; rfl) ?_
          refine vx_istore_n (ls2 := [(2, .inl (nI (sr_d P p d f))), (5, .inl (nI (P.1 p f))), (4, .inl (nI f)), (3, .inl (nI k)), (1, .inl (nI p)), (0, vx_r 54)]) dX9_goes_108 (by decide) rfl ?_
          refine vx_aload_n dX9_goes_109 rfl ?_
          refine vx_dup dX9_goes_110 ?_
          refine vx_getI (ci := 9) (T := TX9) (n := 56) (j := 53) (a := 54) (v := (nI l)) dX9_goes_111 rfl lay_X9 (by decide) wd_789 (by decide) ly_54 rfl rfl ?_
          refine vx_aload_n dX9_goes_114 rfl ?_
          refine vx_iload_n dX9_goes_115 rfl ?_
          refine vx_iload dX9_goes_116 rfl ?_
          refine vx_callV (b := 54) (vs := [.inl (nI (sr_d P p d f)), .inl (nI f)]) (st := [.inl (nI l), vx_r 54]) (r0 := (some (.inl (μ 56 3 * sp_max 0 (nI (sr_d P p d f) - nI (P.2.2.1 f) - 1))))) (μ0 := (va_up μ 54 (upd (μ 54) 53 (nI l)))) dX9_goes_118 ((c_X9_lossOf (dd - 1) (by omega) ad (va_up μ 54 (upd (μ 54) 53 (nI l))) (nI (sr_d P p d f)) f (by omega)).to (by rw [show (va_up μ 54 (upd (μ 54) 53 (nI l))) 66 f = nI (P.2.2.1 f) from b3]; rfl) rfl) wd_991 wd_994 wd_54 hy_X9_lossOf wd_993 wd_35 (by decide) ly_54 rfl rfl (by omega) (Nat.le_of_ble_eq_true rfl) (Nat.le_of_ble_eq_true rfl) (Nat.le_refl 0) (Nat.le_refl 0) ?_
          refine vx_eq (μ2 := (va_up μ 54 (upd (μ 54) 53 (nI l)))) (ls2 := [(2, .inl (nI (sr_d P p d f))), (5, .inl (nI (P.1 p f))), (4, .inl (nI f)), (3, .inl (nI k)), (1, .inl (nI p)), (0, vx_r 54)]) (st2 := [.inl (μ 56 3 * sp_max 0 (nI (sr_d P p d f) - nI (P.2.2.1 f) - 1)), .inl (nI l), vx_r 54]) rfl rfl rfl ?_
          refine vx_iadd dX9_goes_121 ?_
          refine vx_eq (st2 := [.inl (nI (sr_l P (sr_d P p d f) l f)), vx_r 54]) rfl rfl (by rw [b8, (sr_pos (by omega) (by omega)).2, pk_mul, nI_add]; rfl) ?_
          refine vx_putI (ci := 9) (T := TX9) (n := 56) (j := 53) (a := 54) (ty := .int) (μ2 := (va_up μ 54 (upd (μ 54) 53 (nI (sr_l P (sr_d P p d f) l f))))) dX9_goes_122 rfl lay_X9 tyX9_ok nmX9 (by decide) wd_789 rfl rfl rfl rfl (by decide) ly_54 rfl ((congrArg (fun z_ => va_up (va_up μ 54 (upd (μ 54) 53 (nI l))) 54 z_) (sp_uu (f := (μ 54)) (k := 53))).trans vx_m1) ?_
          refine vx_iload dX9_goes_125 rfl ?_
          refine vx_istore_n (ls2 := [(1, .inl (nI f)), (2, .inl (nI (sr_d P p d f))), (5, .inl (nI (P.1 p f))), (4, .inl (nI f)), (3, .inl (nI k)), (0, vx_r 54)]) dX9_goes_127 (by decide) rfl ?_
          refine vx_iinc (v := (nI (k + 1))) (ls2 := [(3, .inl (nI (k + 1))), (1, .inl (nI f)), (2, .inl (nI (sr_d P p d f))), (5, .inl (nI (P.1 p f))), (4, .inl (nI f)), (0, vx_r 54)]) dX9_goes_128 rfl (nI_1 _) (by decide) rfl ?_
          refine vx_goto (tgt := 17) dX9_goes_131 (by decide) ?_
          refine vx_keep (ls2 := [(3, .inl (nI (k + 1))), (2, .inl (nI (sr_d P p d f))), (1, .inl (nI f)), (0, vx_r 54)]) ⟨rfl, rfl, rfl, rfl, trivial⟩ ?_
          exact hJ Post ini hP
        · have heq : p = f := ((nI_eq (by omega) (by omega)).mp c_36_1).symm
          refine vx_iconst (v := 1) dX9_goes_39 (by decide) ?_
          refine vx_goto (tgt := 55) dX9_goes_40 (by decide) ?_
          refine vx_eq (st2 := [.inl (nI (P.1 p f))]) rfl rfl (by rw [w1 heq]; rfl) ?_
          refine vx_istore (ls2 := [(5, .inl (nI (P.1 p f))), (4, .inl (nI f)), (3, .inl (nI k)), (2, .inl (nI d)), (1, .inl (nI p)), (0, vx_r 54)]) dX9_goes_55 (by decide) rfl ?_
          refine vx_iload dX9_goes_57 rfl ?_
          refine vx_if_ne (tgt := 64) dX9_goes_59 (by decide) (fun _ => ?_) (fun h => absurd h (nI_ne0 (by omega) (by omega)))
          refine vx_iload_n dX9_goes_64 rfl ?_
          refine vx_iload dX9_goes_65 rfl ?_
          refine vx_iadd dX9_goes_67 ?_
          refine vx_eq (st2 := [.inl (nI (d + (P.1 p f)))]) rfl rfl (by rw [nI_add]) ?_
          refine vx_iconst (v := 1) dX9_goes_68 (by decide) ?_
          refine vx_isub dX9_goes_69 ?_
          refine vx_eq (st2 := [.inl (nI (d + P.1 p f - 1))]) rfl rfl (by rw [show (1 : Int32) = nI 1 from rfl, pk_sub (by omega)]) ?_
          refine vx_aload_n dX9_goes_70 rfl ?_
          refine vx_getR (ci := 9) (T := TX9) (n := 56) (j := 24) (a := 54) (r := 65) dX9_goes_71 rfl lay_X9 (by decide) wd_760 (by decide) ly_54 rfl ?_
          refine vx_iload dX9_goes_74 rfl ?_
          refine vx_iald (a := 65) (n := 8) (v := (nI (P.2.1 f))) dX9_goes_76 (by decide) ly_65 (vp_in_nI (by omega) (by omega)) (by rw [nI_clamp (by omega)]; exact b1) ?_
          refine vx_mmax dX9_goes_77 wd_986 (by omega) (Nat.le_of_ble_eq_true rfl) (Nat.le_refl 0) (Nat.le_refl 0) ?_
          refine vx_eq (st2 := [.inl (nI (max (d + P.1 p f - 1) (P.2.1 f)))]) rfl rfl (by rw [show (if (nI (d + P.1 p f - 1)) < (nI (P.2.1 f)) then (nI (P.2.1 f)) else (nI (d + P.1 p f - 1))) = nI (max (d + P.1 p f - 1) (P.2.1 f)) from sr_max (by omega) (by omega)]) ?_
          refine vx_istore_n (ls2 := [(2, .inl (nI (max (d + P.1 p f - 1) (P.2.1 f)))), (5, .inl (nI (P.1 p f))), (4, .inl (nI f)), (3, .inl (nI k)), (1, .inl (nI p)), (0, vx_r 54)]) dX9_goes_80 (by decide) rfl ?_
          refine vx_iload_n dX9_goes_81 rfl ?_
          refine vx_aload_n dX9_goes_82 rfl ?_
          refine vx_getR (ci := 9) (T := TX9) (n := 56) (j := 20) (a := 54) (r := 61) dX9_goes_83 rfl lay_X9 (by decide) wd_756 (by decide) ly_54 rfl ?_
          refine vx_iload dX9_goes_86 rfl ?_
          refine vx_iald (a := 61) (n := 8) (v := (μ 61 f)) dX9_goes_88 (by decide) ly_61 (vp_in_nI (by omega) (by omega)) (by rw [nI_clamp (by omega)] <;> rfl) ?_
          refine vx_aload_n dX9_goes_89 rfl ?_
          refine vx_getR (ci := 9) (T := TX9) (n := 56) (j := 50) (a := 54) (r := 80) dX9_goes_90 rfl lay_X9 (by decide) wd_786 (by decide) ly_54 rfl ?_
          refine vx_iload dX9_goes_93 rfl ?_
          refine vx_iald (a := 80) (n := 8) (v := (μ 80 f)) dX9_goes_95 (by decide) ly_80 (vp_in_nI (by omega) (by omega)) (by rw [nI_clamp (by omega)] <;> rfl) ?_
          refine vx_iadd dX9_goes_96 ?_
          refine vx_iconst (v := 1) dX9_goes_97 (by decide) ?_
          refine vx_isub dX9_goes_98 ?_
          refine vx_aload_n dX9_goes_99 rfl ?_
          refine vx_getR (ci := 9) (T := TX9) (n := 56) (j := 50) (a := 54) (r := 80) dX9_goes_100 rfl lay_X9 (by decide) wd_786 (by decide) ly_54 rfl ?_
          refine vx_iload dX9_goes_103 rfl ?_
          refine vx_iald (a := 80) (n := 8) (v := (μ 80 f)) dX9_goes_105 (by decide) ly_80 (vp_in_nI (by omega) (by omega)) (by rw [nI_clamp (by omega)] <;> rfl) ?_
          refine vx_idiv dX9_goes_106 b7 ?_
          refine vx_iadd dX9_goes_107 ?_
          refine vx_eq (st2 := [.inl (nI (sr_d P p d f))]) rfl rfl (by rw [b5, nI_add]; rfl) ?_
          refine vx_istore_n (ls2 := [(2, .inl (nI (sr_d P p d f))), (5, .inl (nI (P.1 p f))), (4, .inl (nI f)), (3, .inl (nI k)), (1, .inl (nI p)), (0, vx_r 54)]) dX9_goes_108 (by decide) rfl ?_
          refine vx_aload_n dX9_goes_109 rfl ?_
          refine vx_dup dX9_goes_110 ?_
          refine vx_getI (ci := 9) (T := TX9) (n := 56) (j := 53) (a := 54) (v := (nI l)) dX9_goes_111 rfl lay_X9 (by decide) wd_789 (by decide) ly_54 rfl rfl ?_
          refine vx_aload_n dX9_goes_114 rfl ?_
          refine vx_iload_n dX9_goes_115 rfl ?_
          refine vx_iload dX9_goes_116 rfl ?_
          refine vx_callV (b := 54) (vs := [.inl (nI (sr_d P p d f)), .inl (nI f)]) (st := [.inl (nI l), vx_r 54]) (r0 := (some (.inl (μ 56 3 * sp_max 0 (nI (sr_d P p d f) - nI (P.2.2.1 f) - 1))))) (μ0 := (va_up μ 54 (upd (μ 54) 53 (nI l)))) dX9_goes_118 ((c_X9_lossOf (dd - 1) (by omega) ad (va_up μ 54 (upd (μ 54) 53 (nI l))) (nI (sr_d P p d f)) f (by omega)).to (by rw [show (va_up μ 54 (upd (μ 54) 53 (nI l))) 66 f = nI (P.2.2.1 f) from b3]; rfl) rfl) wd_991 wd_994 wd_54 hy_X9_lossOf wd_993 wd_35 (by decide) ly_54 rfl rfl (by omega) (Nat.le_of_ble_eq_true rfl) (Nat.le_of_ble_eq_true rfl) (Nat.le_refl 0) (Nat.le_refl 0) ?_
          refine vx_eq (μ2 := (va_up μ 54 (upd (μ 54) 53 (nI l)))) (ls2 := [(2, .inl (nI (sr_d P p d f))), (5, .inl (nI (P.1 p f))), (4, .inl (nI f)), (3, .inl (nI k)), (1, .inl (nI p)), (0, vx_r 54)]) (st2 := [.inl (μ 56 3 * sp_max 0 (nI (sr_d P p d f) - nI (P.2.2.1 f) - 1)), .inl (nI l), vx_r 54]) rfl rfl rfl ?_
          refine vx_iadd dX9_goes_121 ?_
          refine vx_eq (st2 := [.inl (nI (sr_l P (sr_d P p d f) l f)), vx_r 54]) rfl rfl (by rw [b8, (sr_pos (by omega) (by omega)).2, pk_mul, nI_add]; rfl) ?_
          refine vx_putI (ci := 9) (T := TX9) (n := 56) (j := 53) (a := 54) (ty := .int) (μ2 := (va_up μ 54 (upd (μ 54) 53 (nI (sr_l P (sr_d P p d f) l f))))) dX9_goes_122 rfl lay_X9 tyX9_ok nmX9 (by decide) wd_789 rfl rfl rfl rfl (by decide) ly_54 rfl ((congrArg (fun z_ => va_up (va_up μ 54 (upd (μ 54) 53 (nI l))) 54 z_) (sp_uu (f := (μ 54)) (k := 53))).trans vx_m1) ?_
          refine vx_iload dX9_goes_125 rfl ?_
          refine vx_istore_n (ls2 := [(1, .inl (nI f)), (2, .inl (nI (sr_d P p d f))), (5, .inl (nI (P.1 p f))), (4, .inl (nI f)), (3, .inl (nI k)), (0, vx_r 54)]) dX9_goes_127 (by decide) rfl ?_
          refine vx_iinc (v := (nI (k + 1))) (ls2 := [(3, .inl (nI (k + 1))), (1, .inl (nI f)), (2, .inl (nI (sr_d P p d f))), (5, .inl (nI (P.1 p f))), (4, .inl (nI f)), (0, vx_r 54)]) dX9_goes_128 rfl (nI_1 _) (by decide) rfl ?_
          refine vx_goto (tgt := 17) dX9_goes_131 (by decide) ?_
          refine vx_keep (ls2 := [(3, .inl (nI (k + 1))), (2, .inl (nI (sr_d P p d f))), (1, .inl (nI f)), (0, vx_r 54)]) ⟨rfl, rfl, rfl, rfl, trivial⟩ ?_
          exact hJ Post ini hP
      · refine ⟨G, hG, Or.inr ⟨e, l', h1, h2, h3, h4, h5, fun Post ini hP => ?_⟩⟩
        refine vx_iload_n dX9_goes_17 rfl ?_
        refine vx_aload_n dX9_goes_18 rfl ?_
        refine vx_getI (ci := 9) (T := TX9) (n := 56) (j := 51) (a := 54) (v := (nI m)) dX9_goes_19 rfl lay_X9 (by decide) wd_787 (by decide) ly_54 rfl hmany ?_
        refine vx_icmp_ge (tgt := 134) dX9_goes_22 (by decide) (fun h => absurd h (by show ¬ (nI (m) ≤ nI (k)); rw [nI_leI (by omega) (by omega)]; omega)) (fun _ => ?_)
        refine vx_aload_n dX9_goes_25 rfl ?_
        refine vx_getR (ci := 9) (T := TX9) (n := 56) (j := 49) (a := 54) (r := 79) dX9_goes_26 rfl lay_X9 (by decide) wd_785 (by decide) ly_54 rfl ?_
        refine vx_iload_n dX9_goes_29 rfl ?_
        refine vx_iald (a := 79) (n := 7) (v := (nI f)) dX9_goes_30 (by decide) ly_79 (vp_in_nI (by omega) (by omega)) (by rw [nI_clamp (by omega)]; exact hTk) ?_
        refine vx_istore (ls2 := [(4, .inl (nI f)), (3, .inl (nI k)), (2, .inl (nI d)), (1, .inl (nI p)), (0, vx_r 54)]) dX9_goes_31 (by decide) rfl ?_
        refine vx_iload dX9_goes_33 rfl ?_
        refine vx_iload_n dX9_goes_35 rfl ?_
        refine vx_icmp_ne (tgt := 43) dX9_goes_36 (by decide) (fun c_36_2 => ?_) (fun c_36_2 => ?_)
        · have hne : ¬ p = f := fun z => c_36_2 (by rw [z])
          refine vx_aload_n dX9_goes_43 rfl ?_
          refine vx_getR (ci := 9) (T := TX9) (n := 56) (j := 30) (a := 54) (r := 71) dX9_goes_44 rfl lay_X9 (by decide) wd_766 (by decide) ly_54 rfl ?_
          refine vx_bipush (v := 8) dX9_goes_47 (by decide) ?_
          refine vx_iload_n dX9_goes_49 rfl ?_
          refine vx_imul dX9_goes_50 ?_
          refine vx_eq (st2 := [.inl (nI (8 * p)), vx_r 71]) rfl rfl (by rw [show (8 : Int32) = nI 8 from rfl, pk_mul]) ?_
          refine vx_iload dX9_goes_51 rfl ?_
          refine vx_iadd dX9_goes_53 ?_
          refine vx_eq (st2 := [.inl (nI ((8 * p) + f)), vx_r 71]) rfl rfl (by rw [nI_add]) ?_
          refine vx_iald (a := 71) (n := 64) (v := (nI (P.1 p f))) dX9_goes_54 (by decide) ly_71 (vp_in_nI (by omega) (by omega)) (by rw [nI_clamp (by omega)]; exact (w2 hne)) ?_
          refine vx_istore (ls2 := [(5, .inl (nI (P.1 p f))), (4, .inl (nI f)), (3, .inl (nI k)), (2, .inl (nI d)), (1, .inl (nI p)), (0, vx_r 54)]) dX9_goes_55 (by decide) rfl ?_
          refine vx_iload dX9_goes_57 rfl ?_
          refine vx_if_ne (tgt := 64) dX9_goes_59 (by decide) (fun _ => ?_) (fun h => absurd h (nI_ne0 (by omega) (by omega)))
          refine vx_iload_n dX9_goes_64 rfl ?_
          refine vx_iload dX9_goes_65 rfl ?_
          refine vx_iadd dX9_goes_67 ?_
          refine vx_eq (st2 := [.inl (nI (d + (P.1 p f)))]) rfl rfl (by rw [nI_add]) ?_
          refine vx_iconst (v := 1) dX9_goes_68 (by decide) ?_
          refine vx_isub dX9_goes_69 ?_
          refine vx_eq (st2 := [.inl (nI (d + P.1 p f - 1))]) rfl rfl (by rw [show (1 : Int32) = nI 1 from rfl, pk_sub (by omega)]) ?_
          refine vx_aload_n dX9_goes_70 rfl ?_
          refine vx_getR (ci := 9) (T := TX9) (n := 56) (j := 24) (a := 54) (r := 65) dX9_goes_71 rfl lay_X9 (by decide) wd_760 (by decide) ly_54 rfl ?_
          refine vx_iload dX9_goes_74 rfl ?_
          refine vx_iald (a := 65) (n := 8) (v := (nI (P.2.1 f))) dX9_goes_76 (by decide) ly_65 (vp_in_nI (by omega) (by omega)) (by rw [nI_clamp (by omega)]; exact b1) ?_
          refine vx_mmax dX9_goes_77 wd_986 (by omega) (Nat.le_of_ble_eq_true rfl) (Nat.le_refl 0) (Nat.le_refl 0) ?_
          refine vx_eq (st2 := [.inl (nI (max (d + P.1 p f - 1) (P.2.1 f)))]) rfl rfl (by rw [show (if (nI (d + P.1 p f - 1)) < (nI (P.2.1 f)) then (nI (P.2.1 f)) else (nI (d + P.1 p f - 1))) = nI (max (d + P.1 p f - 1) (P.2.1 f)) from sr_max (by omega) (by omega)]) ?_
          refine vx_istore_n (ls2 := [(2, .inl (nI (max (d + P.1 p f - 1) (P.2.1 f)))), (5, .inl (nI (P.1 p f))), (4, .inl (nI f)), (3, .inl (nI k)), (1, .inl (nI p)), (0, vx_r 54)]) dX9_goes_80 (by decide) rfl ?_
          refine vx_iload_n dX9_goes_81 rfl ?_
          refine vx_aload_n dX9_goes_82 rfl ?_
          refine vx_getR (ci := 9) (T := TX9) (n := 56) (j := 20) (a := 54) (r := 61) dX9_goes_83 rfl lay_X9 (by decide) wd_756 (by decide) ly_54 rfl ?_
          refine vx_iload dX9_goes_86 rfl ?_
          refine vx_iald (a := 61) (n := 8) (v := (μ 61 f)) dX9_goes_88 (by decide) ly_61 (vp_in_nI (by omega) (by omega)) (by rw [nI_clamp (by omega)] <;> rfl) ?_
          refine vx_aload_n dX9_goes_89 rfl ?_
          refine vx_getR (ci := 9) (T := TX9) (n := 56) (j := 50) (a := 54) (r := 80) dX9_goes_90 rfl lay_X9 (by decide) wd_786 (by decide) ly_54 rfl ?_
          refine vx_iload dX9_goes_93 rfl ?_
          refine vx_iald (a := 80) (n := 8) (v := (μ 80 f)) dX9_goes_95 (by decide) ly_80 (vp_in_nI (by omega) (by omega)) (by rw [nI_clamp (by omega)] <;> rfl) ?_
          refine vx_iadd dX9_goes_96 ?_
          refine vx_iconst (v := 1) dX9_goes_97 (by decide) ?_
          refine vx_isub dX9_goes_98 ?_
          refine vx_aload_n dX9_goes_99 rfl ?_
          refine vx_getR (ci := 9) (T := TX9) (n := 56) (j := 50) (a := 54) (r := 80) dX9_goes_100 rfl lay_X9 (by decide) wd_786 (by decide) ly_54 rfl ?_
          refine vx_iload dX9_goes_103 rfl ?_
          refine vx_iald (a := 80) (n := 8) (v := (μ 80 f)) dX9_goes_105 (by decide) ly_80 (vp_in_nI (by omega) (by omega)) (by rw [nI_clamp (by omega)] <;> rfl) ?_
          refine vx_idiv dX9_goes_106 b7 ?_
          refine vx_iadd dX9_goes_107 ?_
          refine vx_eq (st2 := [.inl (nI (sr_d P p d f))]) rfl rfl (by rw [b5, nI_add]; rfl) ?_
          refine vx_istore_n (ls2 := [(2, .inl (nI (sr_d P p d f))), (5, .inl (nI (P.1 p f))), (4, .inl (nI f)), (3, .inl (nI k)), (1, .inl (nI p)), (0, vx_r 54)]) dX9_goes_108 (by decide) rfl ?_
          refine vx_aload_n dX9_goes_109 rfl ?_
          refine vx_dup dX9_goes_110 ?_
          refine vx_getI (ci := 9) (T := TX9) (n := 56) (j := 53) (a := 54) (v := (nI l)) dX9_goes_111 rfl lay_X9 (by decide) wd_789 (by decide) ly_54 rfl rfl ?_
          refine vx_aload_n dX9_goes_114 rfl ?_
          refine vx_iload_n dX9_goes_115 rfl ?_
          refine vx_iload dX9_goes_116 rfl ?_
          refine vx_callV (b := 54) (vs := [.inl (nI (sr_d P p d f)), .inl (nI f)]) (st := [.inl (nI l), vx_r 54]) (r0 := (some (.inl (μ 56 3 * sp_max 0 (nI (sr_d P p d f) - nI (P.2.2.1 f) - 1))))) (μ0 := (va_up μ 54 (upd (μ 54) 53 (nI l)))) dX9_goes_118 ((c_X9_lossOf (dd - 1) (by omega) ad (va_up μ 54 (upd (μ 54) 53 (nI l))) (nI (sr_d P p d f)) f (by omega)).to (by rw [show (va_up μ 54 (upd (μ 54) 53 (nI l))) 66 f = nI (P.2.2.1 f) from b3]; rfl) rfl) wd_991 wd_994 wd_54 hy_X9_lossOf wd_993 wd_35 (by decide) ly_54 rfl rfl (by omega) (Nat.le_of_ble_eq_true rfl) (Nat.le_of_ble_eq_true rfl) (Nat.le_refl 0) (Nat.le_refl 0) ?_
          refine vx_eq (μ2 := (va_up μ 54 (upd (μ 54) 53 (nI l)))) (ls2 := [(2, .inl (nI (sr_d P p d f))), (5, .inl (nI (P.1 p f))), (4, .inl (nI f)), (3, .inl (nI k)), (1, .inl (nI p)), (0, vx_r 54)]) (st2 := [.inl (μ 56 3 * sp_max 0 (nI (sr_d P p d f) - nI (P.2.2.1 f) - 1)), .inl (nI l), vx_r 54]) rfl rfl rfl ?_
          refine vx_iadd dX9_goes_121 ?_
          refine vx_eq (st2 := [.inl (nI (sr_l P (sr_d P p d f) l f)), vx_r 54]) rfl rfl (by rw [b8, (sr_pos (by omega) (by omega)).2, pk_mul, nI_add]; rfl) ?_
          refine vx_putI (ci := 9) (T := TX9) (n := 56) (j := 53) (a := 54) (ty := .int) (μ2 := (va_up μ 54 (upd (μ 54) 53 (nI (sr_l P (sr_d P p d f) l f))))) dX9_goes_122 rfl lay_X9 tyX9_ok nmX9 (by decide) wd_789 rfl rfl rfl rfl (by decide) ly_54 rfl ((congrArg (fun z_ => va_up (va_up μ 54 (upd (μ 54) 53 (nI l))) 54 z_) (sp_uu (f := (μ 54)) (k := 53))).trans vx_m1) ?_
          refine vx_iload dX9_goes_125 rfl ?_
          refine vx_istore_n (ls2 := [(1, .inl (nI f)), (2, .inl (nI (sr_d P p d f))), (5, .inl (nI (P.1 p f))), (4, .inl (nI f)), (3, .inl (nI k)), (0, vx_r 54)]) dX9_goes_127 (by decide) rfl ?_
          refine vx_iinc (v := (nI (k + 1))) (ls2 := [(3, .inl (nI (k + 1))), (1, .inl (nI f)), (2, .inl (nI (sr_d P p d f))), (5, .inl (nI (P.1 p f))), (4, .inl (nI f)), (0, vx_r 54)]) dX9_goes_128 rfl (nI_1 _) (by decide) rfl ?_
          refine vx_goto (tgt := 17) dX9_goes_131 (by decide) ?_
          refine vx_keep (ls2 := [(3, .inl (nI (k + 1))), (2, .inl (nI (sr_d P p d f))), (1, .inl (nI f)), (0, vx_r 54)]) ⟨rfl, rfl, rfl, rfl, trivial⟩ ?_
          exact hJ Post ini hP
        · have heq : p = f := ((nI_eq (by omega) (by omega)).mp c_36_2).symm
          refine vx_iconst (v := 1) dX9_goes_39 (by decide) ?_
          refine vx_goto (tgt := 55) dX9_goes_40 (by decide) ?_
          refine vx_eq (st2 := [.inl (nI (P.1 p f))]) rfl rfl (by rw [w1 heq]; rfl) ?_
          refine vx_istore (ls2 := [(5, .inl (nI (P.1 p f))), (4, .inl (nI f)), (3, .inl (nI k)), (2, .inl (nI d)), (1, .inl (nI p)), (0, vx_r 54)]) dX9_goes_55 (by decide) rfl ?_
          refine vx_iload dX9_goes_57 rfl ?_
          refine vx_if_ne (tgt := 64) dX9_goes_59 (by decide) (fun _ => ?_) (fun h => absurd h (nI_ne0 (by omega) (by omega)))
          refine vx_iload_n dX9_goes_64 rfl ?_
          refine vx_iload dX9_goes_65 rfl ?_
          refine vx_iadd dX9_goes_67 ?_
          refine vx_eq (st2 := [.inl (nI (d + (P.1 p f)))]) rfl rfl (by rw [nI_add]) ?_
          refine vx_iconst (v := 1) dX9_goes_68 (by decide) ?_
          refine vx_isub dX9_goes_69 ?_
          refine vx_eq (st2 := [.inl (nI (d + P.1 p f - 1))]) rfl rfl (by rw [show (1 : Int32) = nI 1 from rfl, pk_sub (by omega)]) ?_
          refine vx_aload_n dX9_goes_70 rfl ?_
          refine vx_getR (ci := 9) (T := TX9) (n := 56) (j := 24) (a := 54) (r := 65) dX9_goes_71 rfl lay_X9 (by decide) wd_760 (by decide) ly_54 rfl ?_
          refine vx_iload dX9_goes_74 rfl ?_
          refine vx_iald (a := 65) (n := 8) (v := (nI (P.2.1 f))) dX9_goes_76 (by decide) ly_65 (vp_in_nI (by omega) (by omega)) (by rw [nI_clamp (by omega)]; exact b1) ?_
          refine vx_mmax dX9_goes_77 wd_986 (by omega) (Nat.le_of_ble_eq_true rfl) (Nat.le_refl 0) (Nat.le_refl 0) ?_
          refine vx_eq (st2 := [.inl (nI (max (d + P.1 p f - 1) (P.2.1 f)))]) rfl rfl (by rw [show (if (nI (d + P.1 p f - 1)) < (nI (P.2.1 f)) then (nI (P.2.1 f)) else (nI (d + P.1 p f - 1))) = nI (max (d + P.1 p f - 1) (P.2.1 f)) from sr_max (by omega) (by omega)]) ?_
          refine vx_istore_n (ls2 := [(2, .inl (nI (max (d + P.1 p f - 1) (P.2.1 f)))), (5, .inl (nI (P.1 p f))), (4, .inl (nI f)), (3, .inl (nI k)), (1, .inl (nI p)), (0, vx_r 54)]) dX9_goes_80 (by decide) rfl ?_
          refine vx_iload_n dX9_goes_81 rfl ?_
          refine vx_aload_n dX9_goes_82 rfl ?_
          refine vx_getR (ci := 9) (T := TX9) (n := 56) (j := 20) (a := 54) (r := 61) dX9_goes_83 rfl lay_X9 (by decide) wd_756 (by decide) ly_54 rfl ?_
          refine vx_iload dX9_goes_86 rfl ?_
          refine vx_iald (a := 61) (n := 8) (v := (μ 61 f)) dX9_goes_88 (by decide) ly_61 (vp_in_nI (by omega) (by omega)) (by rw [nI_clamp (by omega)] <;> rfl) ?_
          refine vx_aload_n dX9_goes_89 rfl ?_
          refine vx_getR (ci := 9) (T := TX9) (n := 56) (j := 50) (a := 54) (r := 80) dX9_goes_90 rfl lay_X9 (by decide) wd_786 (by decide) ly_54 rfl ?_
          refine vx_iload dX9_goes_93 rfl ?_
          refine vx_iald (a := 80) (n := 8) (v := (μ 80 f)) dX9_goes_95 (by decide) ly_80 (vp_in_nI (by omega) (by omega)) (by rw [nI_clamp (by omega)] <;> rfl) ?_
          refine vx_iadd dX9_goes_96 ?_
          refine vx_iconst (v := 1) dX9_goes_97 (by decide) ?_
          refine vx_isub dX9_goes_98 ?_
          refine vx_aload_n dX9_goes_99 rfl ?_
          refine vx_getR (ci := 9) (T := TX9) (n := 56) (j := 50) (a := 54) (r := 80) dX9_goes_100 rfl lay_X9 (by decide) wd_786 (by decide) ly_54 rfl ?_
          refine vx_iload dX9_goes_103 rfl ?_
          refine vx_iald (a := 80) (n := 8) (v := (μ 80 f)) dX9_goes_105 (by decide) ly_80 (vp_in_nI (by omega) (by omega)) (by rw [nI_clamp (by omega)] <;> rfl) ?_
          refine vx_idiv dX9_goes_106 b7 ?_
          refine vx_iadd dX9_goes_107 ?_
          refine vx_eq (st2 := [.inl (nI (sr_d P p d f))]) rfl rfl (by rw [b5, nI_add]; rfl) ?_
          refine vx_istore_n (ls2 := [(2, .inl (nI (sr_d P p d f))), (5, .inl (nI (P.1 p f))), (4, .inl (nI f)), (3, .inl (nI k)), (1, .inl (nI p)), (0, vx_r 54)]) dX9_goes_108 (by decide) rfl ?_
          refine vx_aload_n dX9_goes_109 rfl ?_
          refine vx_dup dX9_goes_110 ?_
          refine vx_getI (ci := 9) (T := TX9) (n := 56) (j := 53) (a := 54) (v := (nI l)) dX9_goes_111 rfl lay_X9 (by decide) wd_789 (by decide) ly_54 rfl rfl ?_
          refine vx_aload_n dX9_goes_114 rfl ?_
          refine vx_iload_n dX9_goes_115 rfl ?_
          refine vx_iload dX9_goes_116 rfl ?_
          refine vx_callV (b := 54) (vs := [.inl (nI (sr_d P p d f)), .inl (nI f)]) (st := [.inl (nI l), vx_r 54]) (r0 := (some (.inl (μ 56 3 * sp_max 0 (nI (sr_d P p d f) - nI (P.2.2.1 f) - 1))))) (μ0 := (va_up μ 54 (upd (μ 54) 53 (nI l)))) dX9_goes_118 ((c_X9_lossOf (dd - 1) (by omega) ad (va_up μ 54 (upd (μ 54) 53 (nI l))) (nI (sr_d P p d f)) f (by omega)).to (by rw [show (va_up μ 54 (upd (μ 54) 53 (nI l))) 66 f = nI (P.2.2.1 f) from b3]; rfl) rfl) wd_991 wd_994 wd_54 hy_X9_lossOf wd_993 wd_35 (by decide) ly_54 rfl rfl (by omega) (Nat.le_of_ble_eq_true rfl) (Nat.le_of_ble_eq_true rfl) (Nat.le_refl 0) (Nat.le_refl 0) ?_
          refine vx_eq (μ2 := (va_up μ 54 (upd (μ 54) 53 (nI l)))) (ls2 := [(2, .inl (nI (sr_d P p d f))), (5, .inl (nI (P.1 p f))), (4, .inl (nI f)), (3, .inl (nI k)), (1, .inl (nI p)), (0, vx_r 54)]) (st2 := [.inl (μ 56 3 * sp_max 0 (nI (sr_d P p d f) - nI (P.2.2.1 f) - 1)), .inl (nI l), vx_r 54]) rfl rfl rfl ?_
          refine vx_iadd dX9_goes_121 ?_
          refine vx_eq (st2 := [.inl (nI (sr_l P (sr_d P p d f) l f)), vx_r 54]) rfl rfl (by rw [b8, (sr_pos (by omega) (by omega)).2, pk_mul, nI_add]; rfl) ?_
          refine vx_putI (ci := 9) (T := TX9) (n := 56) (j := 53) (a := 54) (ty := .int) (μ2 := (va_up μ 54 (upd (μ 54) 53 (nI (sr_l P (sr_d P p d f) l f))))) dX9_goes_122 rfl lay_X9 tyX9_ok nmX9 (by decide) wd_789 rfl rfl rfl rfl (by decide) ly_54 rfl ((congrArg (fun z_ => va_up (va_up μ 54 (upd (μ 54) 53 (nI l))) 54 z_) (sp_uu (f := (μ 54)) (k := 53))).trans vx_m1) ?_
          refine vx_iload dX9_goes_125 rfl ?_
          refine vx_istore_n (ls2 := [(1, .inl (nI f)), (2, .inl (nI (sr_d P p d f))), (5, .inl (nI (P.1 p f))), (4, .inl (nI f)), (3, .inl (nI k)), (0, vx_r 54)]) dX9_goes_127 (by decide) rfl ?_
          refine vx_iinc (v := (nI (k + 1))) (ls2 := [(3, .inl (nI (k + 1))), (1, .inl (nI f)), (2, .inl (nI (sr_d P p d f))), (5, .inl (nI (P.1 p f))), (4, .inl (nI f)), (0, vx_r 54)]) dX9_goes_128 rfl (nI_1 _) (by decide) rfl ?_
          refine vx_goto (tgt := 17) dX9_goes_131 (by decide) ?_
          refine vx_keep (ls2 := [(3, .inl (nI (k + 1))), (2, .inl (nI (sr_d P p d f))), (1, .inl (nI f)), (0, vx_r 54)]) ⟨rfl, rfl, rfl, rfl, trivial⟩ ?_
          exact hJ Post ini hP
set_option maxRecDepth 20000 in
set_option maxHeartbeats 2000000 in
theorem c_X9_goes (dd : Nat) (hdd : 2 ≤ dd) (ad : Nat → Nat) (μ : vx_mem) {P : sr_P} {ω0 : Nat → Bool} (hs : sr_ml P ω0 μ) {os : List Nat} {m : Nat} (hm : os.length = m) (hm7 : m ≤ 7) (hmany : μ 54 51 = nI m) (hT : ∀ j, j < m → μ 79 j = nI (os.getD j 0)) (hos : ∀ j, j < m → os.getD j 0 < 8 ∧ ω0 (os.getD j 0) = true) (p d : Nat) (hp : μ 54 35 = nI p) (hp8 : p < 8) (hd : μ 54 34 = nI d) (hd9 : d ≤ 1000) :
    ∃ G x, (∀ j, j < 53 ∨ 54 < j → G j = μ 54 j) ∧ vx_Mf yX9_goes cX9_goes 6 (some (.boolean)) dd ad 82 vx_lay μ [vx_r 54] (some (.inl x)) (va_up μ 54 G) ∧
    ((sr_go P p d 0 os = none ∧ x = 0) ∨ ∃ e l', sr_go P p d 0 os = some (e, l') ∧ e ≤ 5000 ∧ l' ≤ 400000 * 7 ∧ x = 1 ∧ G 53 = nI l' ∧ G 54 = nI e) := by
  obtain ⟨G, hG, hh⟩ := mo_goloop hdd (ad := ad) hs hm hm7 hmany hT hos m 0 p d 0 (by omega) hp8 (by omega) (by omega)
  rw [List.drop_zero] at hh
  rcases hh with ⟨h1, hJ⟩ | ⟨e, l', h1, h2, h3, h4, h5, hJ⟩
  · refine ⟨G, 0, hG, ?_, Or.inl ⟨h1, rfl⟩⟩
    have key : ∀ (Post : vx_P) (ini : Bool), Post (some (.inl 0)) ad 82 vx_lay (va_up μ 54 G) → vx_J RX9 cX9_goes 6 (some (.boolean)) ini dd 0 0 Post ad 0 0 82 vx_lay μ 0 [(0, vx_r 54)] [] := by
      intro Post ini hP
      refine vx_aload_n dX9_goes_0 rfl ?_
      refine vx_getI (ci := 9) (T := TX9) (n := 56) (j := 35) (a := 54) (v := (nI p)) dX9_goes_1 rfl lay_X9 (by decide) wd_771 (by decide) ly_54 rfl hp ?_
      refine vx_istore_n (ls2 := [(1, .inl (nI p)), (0, vx_r 54)]) dX9_goes_4 (by decide) rfl ?_
      refine vx_aload_n dX9_goes_5 rfl ?_
      refine vx_getI (ci := 9) (T := TX9) (n := 56) (j := 34) (a := 54) (v := (nI d)) dX9_goes_6 rfl lay_X9 (by decide) wd_770 (by decide) ly_54 rfl hd ?_
      refine vx_istore_n (ls2 := [(2, .inl (nI d)), (1, .inl (nI p)), (0, vx_r 54)]) dX9_goes_9 (by decide) rfl ?_
      refine vx_aload_n dX9_goes_10 rfl ?_
      refine vx_iconst (v := 0) dX9_goes_11 (by decide) ?_
      refine vx_putI (ci := 9) (T := TX9) (n := 56) (j := 53) (a := 54) (ty := .int) (μ2 := (va_up μ 54 (upd (μ 54) 53 0))) dX9_goes_12 rfl lay_X9 tyX9_ok nmX9 (by decide) wd_789 rfl rfl rfl rfl (by decide) ly_54 rfl rfl ?_
      refine vx_iconst (v := 0) dX9_goes_15 (by decide) ?_
      refine vx_istore_n (ls2 := [(3, .inl 0), (2, .inl (nI d)), (1, .inl (nI p)), (0, vx_r 54)]) dX9_goes_16 (by decide) rfl ?_
      exact hJ Post ini hP
    exact vx_J.M pn_X9_goes (Nat.le_of_ble_eq_true rfl) (key _ _ ⟨rfl, rfl, rfl, rfl, rfl⟩)
  · refine ⟨G, 1, hG, ?_, Or.inr ⟨e, l', h1, h2, h3, rfl, h4, h5⟩⟩
    have key : ∀ (Post : vx_P) (ini : Bool), Post (some (.inl 1)) ad 82 vx_lay (va_up μ 54 G) → vx_J RX9 cX9_goes 6 (some (.boolean)) ini dd 0 0 Post ad 0 0 82 vx_lay μ 0 [(0, vx_r 54)] [] := by
      intro Post ini hP
      refine vx_aload_n dX9_goes_0 rfl ?_
      refine vx_getI (ci := 9) (T := TX9) (n := 56) (j := 35) (a := 54) (v := (nI p)) dX9_goes_1 rfl lay_X9 (by decide) wd_771 (by decide) ly_54 rfl hp ?_
      refine vx_istore_n (ls2 := [(1, .inl (nI p)), (0, vx_r 54)]) dX9_goes_4 (by decide) rfl ?_
      refine vx_aload_n dX9_goes_5 rfl ?_
      refine vx_getI (ci := 9) (T := TX9) (n := 56) (j := 34) (a := 54) (v := (nI d)) dX9_goes_6 rfl lay_X9 (by decide) wd_770 (by decide) ly_54 rfl hd ?_
      refine vx_istore_n (ls2 := [(2, .inl (nI d)), (1, .inl (nI p)), (0, vx_r 54)]) dX9_goes_9 (by decide) rfl ?_
      refine vx_aload_n dX9_goes_10 rfl ?_
      refine vx_iconst (v := 0) dX9_goes_11 (by decide) ?_
      refine vx_putI (ci := 9) (T := TX9) (n := 56) (j := 53) (a := 54) (ty := .int) (μ2 := (va_up μ 54 (upd (μ 54) 53 0))) dX9_goes_12 rfl lay_X9 tyX9_ok nmX9 (by decide) wd_789 rfl rfl rfl rfl (by decide) ly_54 rfl rfl ?_
      refine vx_iconst (v := 0) dX9_goes_15 (by decide) ?_
      refine vx_istore_n (ls2 := [(3, .inl 0), (2, .inl (nI d)), (1, .inl (nI p)), (0, vx_r 54)]) dX9_goes_16 (by decide) rfl ?_
      exact hJ Post ini hP
    exact vx_J.M pn_X9_goes (Nat.le_of_ble_eq_true rfl) (key _ _ ⟨rfl, rfl, rfl, rfl, rfl⟩)
end
