section
theorem sr_m1 {k : Nat} (h : 1 ≤ k) : nI k + (-1) = nI (k - 1) := by
  obtain ⟨j, rfl⟩ : ∃ j, k = j + 1 := ⟨k - 1, by omega⟩
  exact pk_m1 j
theorem sr_m1lt {c : Nat} (h : c < 8) : nI c + (-1) < nI c := by
  rcases c with _ | c
  · decide
  · rw [pk_m1]
    exact nI_lt (by omega) (by omega)
theorem sr_m2lt {m c : Nat} (hm : m < 8) (hc : c < 8) (h : m < c + 2) : nI m - 2 < nI c := by
  rw [Int32.lt_iff_toInt_lt, show (2 : Int32) = nI 2 from rfl, pk_sub_toInt (by omega) (by omega), nI_toInt (by omega)]
  omega
/-- the part behind K turned round, t steps from both ends -/
def mo_rv (U : Nat → Int32) (K m t : Nat) : Nat → Int32 := fun j => if (K < j ∧ j < K + 1 + t) ∨ (m ≤ j + t ∧ j < m) then U (m + K - j) else U j
def mo_rf (U : Nat → Int32) (K m : Nat) : Nat → Int32 := fun j => if K < j ∧ j < m then U (m + K - j) else U j
theorem mo_rv0 (U : Nat → Int32) (K m : Nat) : mo_rv U K m 0 = U := by
  funext j
  unfold mo_rv
  rw [if_neg (by omega)]
theorem mo_rv_s {U : Nat → Int32} {K m t a b : Nat} (ha : a = K + 1 + t) (hb : b + 1 + t = m) (h : a < b) : upd (upd (mo_rv U K m t) a (mo_rv U K m t b)) b (mo_rv U K m t a) = mo_rv U K m (t + 1) := by
  funext j
  have e1 : mo_rv U K m t b = U b := by unfold mo_rv; rw [if_neg (by omega)]
  have e2 : mo_rv U K m t a = U a := by unfold mo_rv; rw [if_neg (by omega)]
  rw [e1, e2]
  by_cases h1 : j = b
  · rw [h1, pk_us]
    unfold mo_rv
    rw [if_pos (by omega), show m + K - b = a by omega]
  · rw [pk_un h1]
    by_cases h2 : j = a
    · rw [h2, pk_us]
      unfold mo_rv
      rw [if_pos (by omega), show m + K - a = b by omega]
    · rw [pk_un h2]
      unfold mo_rv
      by_cases h3 : (K < j ∧ j < K + 1 + t) ∨ (m ≤ j + t ∧ j < m)
      · rw [if_pos h3, if_pos (by omega)]
      · rw [if_neg h3, if_neg (by omega)]
theorem mo_rv_e {U : Nat → Int32} {K m t a b : Nat} (ha : a = K + 1 + t) (hb : b + 1 + t = m) (h : b ≤ a) (hab : a ≤ b + 1) : mo_rv U K m t = mo_rf U K m := by
  funext j
  unfold mo_rv mo_rf
  by_cases h3 : (K < j ∧ j < K + 1 + t) ∨ (m ≤ j + t ∧ j < m)
  · rw [if_pos h3, if_pos (by omega)]
  · rw [if_neg h3]
    by_cases h4 : K < j ∧ j < m
    · rw [if_pos h4]
      congr 1
      omega
    · rw [if_neg h4]

set_option maxRecDepth 20000 in
set_option maxHeartbeats 2000000 in
theorem mo_g_end {d : Nat} (hd : 1 ≤ d) {ad : Nat → Nat} {μ : vx_mem} {m c : Nat} (hm7 : m ≤ 7) (hcm : c ≤ m) (hmany : μ 54 51 = nI m) (hfix : μ 54 52 = nI c) {Post : vx_P} {ini : Bool} {x : Int32} (hx : x < nI c) (hP : Post (some (.inl 0)) ad 82 vx_lay μ) : vx_J RX9 cX9_goesOn 5 (some (.boolean)) ini d 0 0 Post ad 0 0 82 vx_lay μ 7 [(1, .inl x), (0, vx_r 54)] [] := by
  refine vx_iload_n dX9_goesOn_7 rfl ?_
  refine vx_aload_n dX9_goesOn_8 rfl ?_
  refine vx_getI (ci := 9) (T := TX9) (n := 56) (j := 52) (a := 54) (v := (nI c)) dX9_goesOn_9 rfl lay_X9 (by decide) wd_788 (by decide) ly_54 rfl hfix ?_
  refine vx_icmp_lt (tgt := 38) dX9_goesOn_12 (by decide) (fun _ => ?_) (fun h => absurd hx h)
  refine vx_iload_n dX9_goesOn_38 rfl ?_
  refine vx_aload_n dX9_goesOn_39 rfl ?_
  refine vx_getI (ci := 9) (T := TX9) (n := 56) (j := 52) (a := 54) (v := (nI c)) dX9_goesOn_40 rfl lay_X9 (by decide) wd_788 (by decide) ly_54 rfl hfix ?_
  refine vx_icmp_ge (tgt := 48) dX9_goesOn_43 (by decide) (fun h => absurd h (Int32.not_le.mpr hx)) (fun _ => ?_)
  refine vx_iconst (v := 0) dX9_goesOn_46 (by decide) ?_
  exact vx_ret (ty := .boolean) dX9_goesOn_47 rfl rfl (Nat.le_refl 0) (Nat.le_refl 0) (vx_pst hP rfl rfl)
set_option maxRecDepth 20000 in
set_option maxHeartbeats 2000000 in
theorem mo_g_dn {d : Nat} (hd : 1 ≤ d) {ad : Nat → Nat} {μ : vx_mem} {m c : Nat} (hm7 : m ≤ 7) (hcm : c ≤ m) (hmany : μ 54 51 = nI m) (hfix : μ 54 52 = nI c) {Post : vx_P} {ini : Bool} {a : Nat} (hca : c ≤ a) (hds : ∀ j, a ≤ j → j + 1 < m → ¬ μ 79 j ≤ μ 79 (j + 1)) (hA : vx_J RX9 cX9_goesOn 5 (some (.boolean)) ini d 0 0 Post ad 0 0 82 vx_lay μ 7 [(1, .inl ((nI a) + (-1))), (0, vx_r 54)] []) : ∀ r k, k = a + r → k + 1 < m → vx_J RX9 cX9_goesOn 5 (some (.boolean)) ini d 0 0 Post ad 0 0 82 vx_lay μ 7 [(1, .inl (nI k)), (0, vx_r 54)] [] := by
  intro r
  induction r with
  | zero =>
    intro k hk hkm
    rw [Nat.add_zero] at hk
    subst hk
    refine vx_iload_n dX9_goesOn_7 rfl ?_
    refine vx_aload_n dX9_goesOn_8 rfl ?_
    refine vx_getI (ci := 9) (T := TX9) (n := 56) (j := 52) (a := 54) (v := (nI c)) dX9_goesOn_9 rfl lay_X9 (by decide) wd_788 (by decide) ly_54 rfl hfix ?_
    refine vx_icmp_lt (tgt := 38) dX9_goesOn_12 (by decide) (fun h => absurd h (by show ¬ (nI (k) < nI (c)); rw [nI_ltI (by omega) (by omega)]; omega)) (fun _ => ?_)
    refine vx_aload_n dX9_goesOn_15 rfl ?_
    refine vx_getR (ci := 9) (T := TX9) (n := 56) (j := 49) (a := 54) (r := 79) dX9_goesOn_16 rfl lay_X9 (by decide) wd_785 (by decide) ly_54 rfl ?_
    refine vx_iload_n dX9_goesOn_19 rfl ?_
    refine vx_iald (a := 79) (n := 7) (v := (μ 79 k)) dX9_goesOn_20 (by decide) ly_79 (vp_in_nI (by omega) (by omega)) (by rw [nI_clamp (by omega)] <;> rfl) ?_
    refine vx_aload_n dX9_goesOn_21 rfl ?_
    refine vx_getR (ci := 9) (T := TX9) (n := 56) (j := 49) (a := 54) (r := 79) dX9_goesOn_22 rfl lay_X9 (by decide) wd_785 (by decide) ly_54 rfl ?_
    refine vx_iload_n dX9_goesOn_25 rfl ?_
    refine vx_iconst (v := 1) dX9_goesOn_26 (by decide) ?_
    refine vx_iadd dX9_goesOn_27 ?_
    refine vx_eq (st2 := [.inl (nI (k + 1)), vx_r 79, .inl (μ 79 k)]) rfl rfl (by rw [nI_1]) ?_
    refine vx_iald (a := 79) (n := 7) (v := (μ 79 (k + 1))) dX9_goesOn_28 (by decide) ly_79 (vp_in_nI (by omega) (by omega)) (by rw [nI_clamp (by omega)] <;> rfl) ?_
    refine vx_icmp_le (tgt := 38) dX9_goesOn_29 (by decide) (fun h => absurd h (hds k (by omega) (by omega))) (fun _ => ?_)
    refine vx_iinc (v := ((nI k) + (-1))) (ls2 := [(1, .inl ((nI k) + (-1))), (0, vx_r 54)]) dX9_goesOn_32 rfl rfl (by decide) rfl ?_
    refine vx_goto (tgt := 7) dX9_goesOn_35 (by decide) ?_
    exact hA
  | succ r ih =>
    intro k hk hkm
    refine vx_iload_n dX9_goesOn_7 rfl ?_
    refine vx_aload_n dX9_goesOn_8 rfl ?_
    refine vx_getI (ci := 9) (T := TX9) (n := 56) (j := 52) (a := 54) (v := (nI c)) dX9_goesOn_9 rfl lay_X9 (by decide) wd_788 (by decide) ly_54 rfl hfix ?_
    refine vx_icmp_lt (tgt := 38) dX9_goesOn_12 (by decide) (fun h => absurd h (by show ¬ (nI (k) < nI (c)); rw [nI_ltI (by omega) (by omega)]; omega)) (fun _ => ?_)
    refine vx_aload_n dX9_goesOn_15 rfl ?_
    refine vx_getR (ci := 9) (T := TX9) (n := 56) (j := 49) (a := 54) (r := 79) dX9_goesOn_16 rfl lay_X9 (by decide) wd_785 (by decide) ly_54 rfl ?_
    refine vx_iload_n dX9_goesOn_19 rfl ?_
    refine vx_iald (a := 79) (n := 7) (v := (μ 79 k)) dX9_goesOn_20 (by decide) ly_79 (vp_in_nI (by omega) (by omega)) (by rw [nI_clamp (by omega)] <;> rfl) ?_
    refine vx_aload_n dX9_goesOn_21 rfl ?_
    refine vx_getR (ci := 9) (T := TX9) (n := 56) (j := 49) (a := 54) (r := 79) dX9_goesOn_22 rfl lay_X9 (by decide) wd_785 (by decide) ly_54 rfl ?_
    refine vx_iload_n dX9_goesOn_25 rfl ?_
    refine vx_iconst (v := 1) dX9_goesOn_26 (by decide) ?_
    refine vx_iadd dX9_goesOn_27 ?_
    refine vx_eq (st2 := [.inl (nI (k + 1)), vx_r 79, .inl (μ 79 k)]) rfl rfl (by rw [nI_1]) ?_
    refine vx_iald (a := 79) (n := 7) (v := (μ 79 (k + 1))) dX9_goesOn_28 (by decide) ly_79 (vp_in_nI (by omega) (by omega)) (by rw [nI_clamp (by omega)] <;> rfl) ?_
    refine vx_icmp_le (tgt := 38) dX9_goesOn_29 (by decide) (fun h => absurd h (hds k (by omega) (by omega))) (fun _ => ?_)
    refine vx_iinc (v := ((nI k) + (-1))) (ls2 := [(1, .inl ((nI k) + (-1))), (0, vx_r 54)]) dX9_goesOn_32 rfl rfl (by decide) rfl ?_
    refine vx_goto (tgt := 7) dX9_goesOn_35 (by decide) ?_
    refine vx_eq (ls2 := [(1, .inl (nI (k - 1))), (0, vx_r 54)]) rfl (by rw [sr_m1 (by omega)]) rfl ?_
    exact ih (k - 1) (by omega) (by omega)
set_option maxRecDepth 20000 in
set_option maxHeartbeats 2000000 in
theorem mo_g_no {d : Nat} (hd : 1 ≤ d) {ad : Nat → Nat} {μ : vx_mem} {m c : Nat} (hm7 : m ≤ 7) (hcm : c ≤ m) (hmany : μ 54 51 = nI m) (hfix : μ 54 52 = nI c) {Post : vx_P} {ini : Bool} (hds : ∀ j, c ≤ j → j + 1 < m → ¬ μ 79 j ≤ μ 79 (j + 1)) (hP : Post (some (.inl 0)) ad 82 vx_lay μ) : vx_J RX9 cX9_goesOn 5 (some (.boolean)) ini d 0 0 Post ad 0 0 82 vx_lay μ 0 [(0, vx_r 54)] [] := by
  refine vx_aload_n dX9_goesOn_0 rfl ?_
  refine vx_getI (ci := 9) (T := TX9) (n := 56) (j := 51) (a := 54) (v := (nI m)) dX9_goesOn_1 rfl lay_X9 (by decide) wd_787 (by decide) ly_54 rfl hmany ?_
  refine vx_iconst (v := 2) dX9_goesOn_4 (by decide) ?_
  refine vx_isub dX9_goesOn_5 ?_
  refine vx_istore_n (ls2 := [(1, .inl ((nI m) - 2)), (0, vx_r 54)]) dX9_goesOn_6 (by decide) rfl ?_
  by_cases h : c + 2 ≤ m
  · refine vx_eq (ls2 := [(1, .inl (nI (m - 2))), (0, vx_r 54)]) rfl (by rw [show (2 : Int32) = nI 2 from rfl, pk_sub (by omega)]) rfl ?_
    exact mo_g_dn hd hm7 hcm hmany hfix (Nat.le_refl c) hds (mo_g_end hd hm7 hcm hmany hfix (sr_m1lt (by omega)) hP) (m - 2 - c) (m - 2) (by omega) (by omega)
  · exact mo_g_end hd hm7 hcm hmany hfix (sr_m2lt (by omega) (by omega) (by omega)) hP
set_option maxRecDepth 20000 in
set_option maxHeartbeats 2000000 in
theorem mo_g_rev {d : Nat} (hd : 1 ≤ d) {ad : Nat → Nat} {μ : vx_mem} {m c : Nat} (hm7 : m ≤ 7) (hcm : c ≤ m) (hmany : μ 54 51 = nI m) (hfix : μ 54 52 = nI c) {Post : vx_P} {ini : Bool} {K I : Nat} (hcK : c ≤ K) (hKI : K < I) (hIm : I < m) (hP : Post (some (.inl 1)) ad 82 vx_lay (va_up μ 79 (mo_rf (upd (upd (μ 79) K (μ 79 I)) I (μ 79 K)) K m))) : ∀ r t, K + t + t + r = m - 1 → vx_J RX9 cX9_goesOn 5 (some (.boolean)) ini d 0 0 Post ad 0 0 82 vx_lay (va_up μ 79 (mo_rv (upd (upd (μ 79) K (μ 79 I)) I (μ 79 K)) K m t)) 94 [(4, .inl (nI (m - 1 - t))), (3, .inl (nI (K + 1 + t))), (0, vx_r 54)] [] := by
  intro r
  induction r using Nat.strongRecOn with | _ r ih => ?_
  intro t hr
  by_cases hlt : K + 1 + t < m - 1 - t
  · refine vx_iload_n dX9_goesOn_94 rfl ?_
    refine vx_iload dX9_goesOn_95 rfl ?_
    refine vx_icmp_ge (tgt := 116) dX9_goesOn_97 (by decide) (fun h => absurd h (by show ¬ (nI ((m - 1 - t)) ≤ nI ((K + 1 + t))); rw [nI_leI (by omega) (by omega)]; omega)) (fun _ => ?_)
    refine vx_aload_n dX9_goesOn_100 rfl ?_
    refine vx_iload_n dX9_goesOn_101 rfl ?_
    refine vx_iload dX9_goesOn_102 rfl ?_
    refine vx_callV (b := 54) (vs := [.inl (nI (K + 1 + t)), .inl (nI (m - 1 - t))]) (st := []) (r0 := none) (μ0 := (va_up μ 79 (mo_rv (upd (upd (μ 79) K (μ 79 I)) I (μ 79 K)) K m (t + 1)))) dX9_goesOn_104 (((c_X9_swaps (d - 1) ad (va_up μ 79 (mo_rv (upd (upd (μ 79) K (μ 79 I)) I (μ 79 K)) K m t)) (K + 1 + t) (m - 1 - t) (by omega) (by omega)).to rfl (congrArg (fun z => va_up (va_up μ 79 (mo_rv (upd (upd (μ 79) K (μ 79 I)) I (μ 79 K)) K m t)) 79 z) (mo_rv_s rfl (by omega) hlt))).to rfl vx_m1) wd_999 wd_1002 wd_54 hy_X9_swaps wd_1001 wd_37 (by decide) ly_54 rfl rfl (by omega) (Nat.le_of_ble_eq_true rfl) (Nat.le_of_ble_eq_true rfl) (Nat.le_refl 0) (Nat.le_refl 0) ?_
    refine vx_eq (μ2 := (va_up μ 79 (mo_rv (upd (upd (μ 79) K (μ 79 I)) I (μ 79 K)) K m (t + 1)))) (ls2 := [(4, .inl (nI (m - 1 - t))), (3, .inl (nI (K + 1 + t))), (0, vx_r 54)]) (st2 := []) rfl rfl rfl ?_
    refine vx_iinc (v := (nI ((K + 1 + t) + 1))) (ls2 := [(3, .inl (nI ((K + 1 + t) + 1))), (4, .inl (nI (m - 1 - t))), (0, vx_r 54)]) dX9_goesOn_107 rfl (nI_1 _) (by decide) rfl ?_
    refine vx_iinc (v := ((nI (m - 1 - t)) + (-1))) (ls2 := [(4, .inl ((nI (m - 1 - t)) + (-1))), (3, .inl (nI ((K + 1 + t) + 1))), (0, vx_r 54)]) dX9_goesOn_110 rfl rfl (by decide) rfl ?_
    refine vx_goto (tgt := 94) dX9_goesOn_113 (by decide) ?_
    refine vx_keep (ls2 := [(4, .inl ((nI (m - 1 - t)) + (-1))), (3, .inl (nI ((K + 1 + t) + 1))), (0, vx_r 54)]) ⟨rfl, rfl, rfl, trivial⟩ ?_
    refine vx_eq (ls2 := [(4, .inl (nI (m - 1 - (t + 1)))), (3, .inl (nI (K + 1 + (t + 1)))), (0, vx_r 54)]) rfl (by rw [sr_m1 (by omega), show m - 1 - t - 1 = m - 1 - (t + 1) by omega]; rfl) rfl ?_
    exact ih (r - 2) (by omega) (t + 1) (by omega)
  · refine vx_iload_n dX9_goesOn_94 rfl ?_
    refine vx_iload dX9_goesOn_95 rfl ?_
    refine vx_icmp_ge (tgt := 116) dX9_goesOn_97 (by decide) (fun _ => ?_) (fun h => absurd (by show (nI ((m - 1 - t)) ≤ nI ((K + 1 + t))); rw [nI_leI (by omega) (by omega)]; omega) h)
    refine vx_iconst (v := 1) dX9_goesOn_116 (by decide) ?_
    exact vx_ret (ty := .boolean) dX9_goesOn_117 rfl rfl (Nat.le_refl 0) (Nat.le_refl 0) (vx_pst hP rfl (by rw [mo_rv_e (a := K + 1 + t) (b := m - 1 - t) rfl (by omega) (by omega) (by omega)]))
set_option maxRecDepth 20000 in
set_option maxHeartbeats 2000000 in
theorem mo_g_i {d : Nat} (hd : 1 ≤ d) {ad : Nat → Nat} {μ : vx_mem} {m c : Nat} (hm7 : m ≤ 7) (hcm : c ≤ m) (hmany : μ 54 51 = nI m) (hfix : μ 54 52 = nI c) {Post : vx_P} {ini : Bool} {K I : Nat} (hcK : c ≤ K) (hKI : K < I) (hIm : I < m) (hi : ∀ j, I < j → j < m → μ 79 j < μ 79 K) (hI : ¬ μ 79 I < μ 79 K) (hP : Post (some (.inl 1)) ad 82 vx_lay (va_up μ 79 (mo_rf (upd (upd (μ 79) K (μ 79 I)) I (μ 79 K)) K m))) : ∀ r q, q = I + r → q < m → vx_J RX9 cX9_goesOn 5 (some (.boolean)) ini d 0 0 Post ad 0 0 82 vx_lay μ 55 [(2, .inl (nI q)), (1, .inl (nI K)), (0, vx_r 54)] [] := by
  intro r
  induction r with
  | zero =>
    intro q hq hqm
    rw [Nat.add_zero] at hq
    subst hq
    refine vx_aload_n dX9_goesOn_55 rfl ?_
    refine vx_getR (ci := 9) (T := TX9) (n := 56) (j := 49) (a := 54) (r := 79) dX9_goesOn_56 rfl lay_X9 (by decide) wd_785 (by decide) ly_54 rfl ?_
    refine vx_iload_n dX9_goesOn_59 rfl ?_
    refine vx_iald (a := 79) (n := 7) (v := (μ 79 q)) dX9_goesOn_60 (by decide) ly_79 (vp_in_nI (by omega) (by omega)) (by rw [nI_clamp (by omega)] <;> rfl) ?_
    refine vx_aload_n dX9_goesOn_61 rfl ?_
    refine vx_getR (ci := 9) (T := TX9) (n := 56) (j := 49) (a := 54) (r := 79) dX9_goesOn_62 rfl lay_X9 (by decide) wd_785 (by decide) ly_54 rfl ?_
    refine vx_iload_n dX9_goesOn_65 rfl ?_
    refine vx_iald (a := 79) (n := 7) (v := (μ 79 K)) dX9_goesOn_66 (by decide) ly_79 (vp_in_nI (by omega) (by omega)) (by rw [nI_clamp (by omega)] <;> rfl) ?_
    refine vx_icmp_ge (tgt := 76) dX9_goesOn_67 (by decide) (fun _ => ?_) (fun h => absurd (Int32.not_lt.mp hI) h)
    refine vx_aload_n dX9_goesOn_76 rfl ?_
    refine vx_iload_n dX9_goesOn_77 rfl ?_
    refine vx_iload_n dX9_goesOn_78 rfl ?_
    refine vx_callV (b := 54) (vs := [.inl (nI K), .inl (nI q)]) (st := []) (r0 := none) (μ0 := (va_up μ 79 (upd (upd (μ 79) K (μ 79 q)) q (μ 79 K)))) dX9_goesOn_79 (c_X9_swaps (d - 1) ad μ K q (by omega) (by omega)) wd_999 wd_1002 wd_54 hy_X9_swaps wd_1001 wd_37 (by decide) ly_54 rfl rfl (by omega) (Nat.le_of_ble_eq_true rfl) (Nat.le_of_ble_eq_true rfl) (Nat.le_refl 0) (Nat.le_refl 0) ?_
    refine vx_eq (μ2 := (va_up μ 79 (upd (upd (μ 79) K (μ 79 q)) q (μ 79 K)))) (ls2 := [(2, .inl (nI q)), (1, .inl (nI K)), (0, vx_r 54)]) (st2 := []) rfl rfl rfl ?_
    refine vx_iload_n dX9_goesOn_82 rfl ?_
    refine vx_iconst (v := 1) dX9_goesOn_83 (by decide) ?_
    refine vx_iadd dX9_goesOn_84 ?_
    refine vx_eq (st2 := [.inl (nI (K + 1))]) rfl rfl (by rw [nI_1]) ?_
    refine vx_istore_n (ls2 := [(3, .inl (nI (K + 1))), (2, .inl (nI q)), (1, .inl (nI K)), (0, vx_r 54)]) dX9_goesOn_85 (by decide) rfl ?_
    refine vx_aload_n dX9_goesOn_86 rfl ?_
    refine vx_getI (ci := 9) (T := TX9) (n := 56) (j := 51) (a := 54) (v := (nI m)) dX9_goesOn_87 rfl lay_X9 (by decide) wd_787 (by decide) ly_54 rfl hmany ?_
    refine vx_iconst (v := 1) dX9_goesOn_90 (by decide) ?_
    refine vx_isub dX9_goesOn_91 ?_
    refine vx_istore (ls2 := [(4, .inl ((nI m) - 1)), (3, .inl (nI (K + 1))), (2, .inl (nI q)), (1, .inl (nI K)), (0, vx_r 54)]) dX9_goesOn_92 (by decide) rfl ?_
    refine vx_keep (ls2 := [(4, .inl ((nI m) - 1)), (3, .inl (nI (K + 1))), (0, vx_r 54)]) ⟨rfl, rfl, rfl, trivial⟩ ?_
    refine vx_eq (ls2 := [(4, .inl (nI (m - 1 - 0))), (3, .inl (nI (K + 1 + 0))), (0, vx_r 54)]) (μ2 := (va_up μ 79 (mo_rv (upd (upd (μ 79) K (μ 79 q)) q (μ 79 K)) K m 0))) (by rw [mo_rv0]) (by rw [show (1 : Int32) = nI 1 from rfl, pk_sub (by omega)]; rfl) rfl ?_
    exact mo_g_rev hd hm7 hcm hmany hfix hcK hKI hIm hP (m - 1 - K) 0 (by omega)
  | succ r ih =>
    intro q hq hqm
    refine vx_aload_n dX9_goesOn_55 rfl ?_
    refine vx_getR (ci := 9) (T := TX9) (n := 56) (j := 49) (a := 54) (r := 79) dX9_goesOn_56 rfl lay_X9 (by decide) wd_785 (by decide) ly_54 rfl ?_
    refine vx_iload_n dX9_goesOn_59 rfl ?_
    refine vx_iald (a := 79) (n := 7) (v := (μ 79 q)) dX9_goesOn_60 (by decide) ly_79 (vp_in_nI (by omega) (by omega)) (by rw [nI_clamp (by omega)] <;> rfl) ?_
    refine vx_aload_n dX9_goesOn_61 rfl ?_
    refine vx_getR (ci := 9) (T := TX9) (n := 56) (j := 49) (a := 54) (r := 79) dX9_goesOn_62 rfl lay_X9 (by decide) wd_785 (by decide) ly_54 rfl ?_
    refine vx_iload_n dX9_goesOn_65 rfl ?_
    refine vx_iald (a := 79) (n := 7) (v := (μ 79 K)) dX9_goesOn_66 (by decide) ly_79 (vp_in_nI (by omega) (by omega)) (by rw [nI_clamp (by omega)] <;> rfl) ?_
    refine vx_icmp_ge (tgt := 76) dX9_goesOn_67 (by decide) (fun h => absurd h (Int32.not_le.mpr (hi q (by omega) (by omega)))) (fun _ => ?_)
    refine vx_iinc (v := ((nI q) + (-1))) (ls2 := [(2, .inl ((nI q) + (-1))), (1, .inl (nI K)), (0, vx_r 54)]) dX9_goesOn_70 rfl rfl (by decide) rfl ?_
    refine vx_goto (tgt := 55) dX9_goesOn_73 (by decide) ?_
    refine vx_eq (ls2 := [(2, .inl (nI (q - 1))), (1, .inl (nI K)), (0, vx_r 54)]) rfl (by rw [sr_m1 (by omega)]) rfl ?_
    exact ih (q - 1) (by omega) (by omega)
set_option maxRecDepth 20000 in
set_option maxHeartbeats 2000000 in
theorem mo_g_at {d : Nat} (hd : 1 ≤ d) {ad : Nat → Nat} {μ : vx_mem} {m c : Nat} (hm7 : m ≤ 7) (hcm : c ≤ m) (hmany : μ 54 51 = nI m) (hfix : μ 54 52 = nI c) {Post : vx_P} {ini : Bool} {K I : Nat} (hcK : c ≤ K) (hKI : K < I) (hIm : I < m) (hds : ∀ j, K < j → j + 1 < m → ¬ μ 79 j ≤ μ 79 (j + 1)) (hK1 : μ 79 K ≤ μ 79 (K + 1)) (hi : ∀ j, I < j → j < m → μ 79 j < μ 79 K) (hI : ¬ μ 79 I < μ 79 K) (hP : Post (some (.inl 1)) ad 82 vx_lay (va_up μ 79 (mo_rf (upd (upd (μ 79) K (μ 79 I)) I (μ 79 K)) K m))) : vx_J RX9 cX9_goesOn 5 (some (.boolean)) ini d 0 0 Post ad 0 0 82 vx_lay μ 7 [(1, .inl (nI K)), (0, vx_r 54)] [] := by
  refine vx_iload_n dX9_goesOn_7 rfl ?_
  refine vx_aload_n dX9_goesOn_8 rfl ?_
  refine vx_getI (ci := 9) (T := TX9) (n := 56) (j := 52) (a := 54) (v := (nI c)) dX9_goesOn_9 rfl lay_X9 (by decide) wd_788 (by decide) ly_54 rfl hfix ?_
  refine vx_icmp_lt (tgt := 38) dX9_goesOn_12 (by decide) (fun h => absurd h (by show ¬ (nI (K) < nI (c)); rw [nI_ltI (by omega) (by omega)]; omega)) (fun _ => ?_)
  refine vx_aload_n dX9_goesOn_15 rfl ?_
  refine vx_getR (ci := 9) (T := TX9) (n := 56) (j := 49) (a := 54) (r := 79) dX9_goesOn_16 rfl lay_X9 (by decide) wd_785 (by decide) ly_54 rfl ?_
  refine vx_iload_n dX9_goesOn_19 rfl ?_
  refine vx_iald (a := 79) (n := 7) (v := (μ 79 K)) dX9_goesOn_20 (by decide) ly_79 (vp_in_nI (by omega) (by omega)) (by rw [nI_clamp (by omega)] <;> rfl) ?_
  refine vx_aload_n dX9_goesOn_21 rfl ?_
  refine vx_getR (ci := 9) (T := TX9) (n := 56) (j := 49) (a := 54) (r := 79) dX9_goesOn_22 rfl lay_X9 (by decide) wd_785 (by decide) ly_54 rfl ?_
  refine vx_iload_n dX9_goesOn_25 rfl ?_
  refine vx_iconst (v := 1) dX9_goesOn_26 (by decide) ?_
  refine vx_iadd dX9_goesOn_27 ?_
  refine vx_eq (st2 := [.inl (nI (K + 1)), vx_r 79, .inl (μ 79 K)]) rfl rfl (by rw [nI_1]) ?_
  refine vx_iald (a := 79) (n := 7) (v := (μ 79 (K + 1))) dX9_goesOn_28 (by decide) ly_79 (vp_in_nI (by omega) (by omega)) (by rw [nI_clamp (by omega)] <;> rfl) ?_
  refine vx_icmp_le (tgt := 38) dX9_goesOn_29 (by decide) (fun _ => ?_) (fun h => absurd hK1 h)
  refine vx_iload_n dX9_goesOn_38 rfl ?_
  refine vx_aload_n dX9_goesOn_39 rfl ?_
  refine vx_getI (ci := 9) (T := TX9) (n := 56) (j := 52) (a := 54) (v := (nI c)) dX9_goesOn_40 rfl lay_X9 (by decide) wd_788 (by decide) ly_54 rfl hfix ?_
  refine vx_icmp_ge (tgt := 48) dX9_goesOn_43 (by decide) (fun _ => ?_) (fun h => absurd (by show (nI (c) ≤ nI (K)); rw [nI_leI (by omega) (by omega)]; omega) h)
  refine vx_aload_n dX9_goesOn_48 rfl ?_
  refine vx_getI (ci := 9) (T := TX9) (n := 56) (j := 51) (a := 54) (v := (nI m)) dX9_goesOn_49 rfl lay_X9 (by decide) wd_787 (by decide) ly_54 rfl hmany ?_
  refine vx_iconst (v := 1) dX9_goesOn_52 (by decide) ?_
  refine vx_isub dX9_goesOn_53 ?_
  refine vx_istore_n (ls2 := [(2, .inl ((nI m) - 1)), (1, .inl (nI K)), (0, vx_r 54)]) dX9_goesOn_54 (by decide) rfl ?_
  refine vx_eq (ls2 := [(2, .inl (nI (m - 1))), (1, .inl (nI K)), (0, vx_r 54)]) rfl (by rw [show (1 : Int32) = nI 1 from rfl, pk_sub (by omega)]) rfl ?_
  exact mo_g_i hd hm7 hcm hmany hfix hcK hKI hIm hi hI hP (m - 1 - I) (m - 1) (by omega) (by omega)
set_option maxRecDepth 20000 in
set_option maxHeartbeats 2000000 in
theorem mo_g_yes {d : Nat} (hd : 1 ≤ d) {ad : Nat → Nat} {μ : vx_mem} {m c : Nat} (hm7 : m ≤ 7) (hcm : c ≤ m) (hmany : μ 54 51 = nI m) (hfix : μ 54 52 = nI c) {Post : vx_P} {ini : Bool} {K I : Nat} (hcK : c ≤ K) (hKI : K < I) (hIm : I < m) (hds : ∀ j, K < j → j + 1 < m → ¬ μ 79 j ≤ μ 79 (j + 1)) (hK1 : μ 79 K ≤ μ 79 (K + 1)) (hi : ∀ j, I < j → j < m → μ 79 j < μ 79 K) (hI : ¬ μ 79 I < μ 79 K) (hP : Post (some (.inl 1)) ad 82 vx_lay (va_up μ 79 (mo_rf (upd (upd (μ 79) K (μ 79 I)) I (μ 79 K)) K m))) : vx_J RX9 cX9_goesOn 5 (some (.boolean)) ini d 0 0 Post ad 0 0 82 vx_lay μ 0 [(0, vx_r 54)] [] := by
  refine vx_aload_n dX9_goesOn_0 rfl ?_
  refine vx_getI (ci := 9) (T := TX9) (n := 56) (j := 51) (a := 54) (v := (nI m)) dX9_goesOn_1 rfl lay_X9 (by decide) wd_787 (by decide) ly_54 rfl hmany ?_
  refine vx_iconst (v := 2) dX9_goesOn_4 (by decide) ?_
  refine vx_isub dX9_goesOn_5 ?_
  refine vx_istore_n (ls2 := [(1, .inl ((nI m) - 2)), (0, vx_r 54)]) dX9_goesOn_6 (by decide) rfl ?_
  refine vx_eq (ls2 := [(1, .inl (nI (m - 2))), (0, vx_r 54)]) rfl (by rw [show (2 : Int32) = nI 2 from rfl, pk_sub (by omega)]) rfl ?_
  have hat := mo_g_at (d := d) (ad := ad) hd hm7 hcm hmany hfix hcK hKI hIm hds hK1 hi hI (ini := ini) hP
  by_cases h : K + 2 = m
  · rw [show m - 2 = K by omega]
    exact hat
  · exact mo_g_dn hd hm7 hcm hmany hfix (a := K + 1) (by omega) (fun j hj hj2 => hds j (by omega) hj2) (by rw [pk_m1]; exact hat) (m - 2 - (K + 1)) (m - 2) (by omega) (by omega)
set_option maxRecDepth 20000 in
set_option maxHeartbeats 2000000 in
theorem c_X9_goesOn (d : Nat) (hd : 1 ≤ d) (ad : Nat → Nat) (μ : vx_mem) {m c : Nat} (hm7 : m ≤ 7) (hcm : c ≤ m) (hmany : μ 54 51 = nI m) (hfix : μ 54 52 = nI c) {s : List Nat} (hs : s.length + c = m) (hn : s.Nodup) (hs8 : ∀ x, x ∈ s → x < 8) (hT : ∀ j, j < s.length → μ 79 (c + j) = nI (s.getD j 0)) :
    ∃ T x, (∀ j, j < c → T j = μ 79 j) ∧ vx_Mf yX9_goesOn cX9_goesOn 5 (some (.boolean)) d ad 82 vx_lay μ [vx_r 54] (some (.inl x)) (va_up μ 79 T) ∧ ((sr_nx s = none ∧ x = 0) ∨ ∃ s', sr_nx s = some s' ∧ x = 1 ∧ ∀ j, j < s.length → T (c + j) = nI (s'.getD j 0)) := by
  have h8 : ∀ j, j < s.length → s.getD j 0 < 8 := by
    intro j hj
    rw [List.getD_eq_getElem?_getD, List.getElem?_eq_getElem hj]
    exact hs8 _ (List.getElem_mem _)
  have hlt : ∀ i j, i < s.length → j < s.length → (μ 79 (c + i) < μ 79 (c + j) ↔ s.getD i 0 < s.getD j 0) := by
    intro i j hi hj
    have a := h8 i hi
    have b := h8 j hj
    rw [hT i hi, hT j hj, nI_ltI (by omega) (by omega)]
  rcases sr_dec s hn with hds | ⟨k, i, h1, h2, h3, h4, h5, h6, h7⟩
  · refine ⟨μ 79, 0, fun _ _ => rfl, ?_, Or.inl ⟨sr_ds_none s hds, rfl⟩⟩
    rw [vx_up_id]
    refine vx_J.M pn_X9_goesOn (Nat.le_of_ble_eq_true rfl) (mo_g_no hd hm7 hcm hmany hfix (fun j hj hj2 => ?_) ⟨rfl, rfl, rfl, rfl, rfl⟩)
    obtain ⟨j', rfl⟩ : ∃ j', j = c + j' := ⟨j - c, by omega⟩
    have := (hlt (j' + 1) j' (by omega) (by omega)).mpr (hds j' (by omega))
    exact Int32.not_le.mpr this
  · refine ⟨mo_rf (upd (upd (μ 79) (c + k) (μ 79 (c + i))) (c + i) (μ 79 (c + k))) (c + k) m, 1, ?_, ?_, Or.inr ⟨_, sr_nx_ki k s i h2 h3 h4 h6 (fun j a b => by have := h7 j a b; omega), rfl, ?_⟩⟩
    · intro j hj
      unfold mo_rf
      rw [if_neg (by omega), pk_un (by omega), pk_un (by omega)]
    · refine vx_J.M pn_X9_goesOn (Nat.le_of_ble_eq_true rfl) (mo_g_yes hd hm7 hcm hmany hfix (K := c + k) (I := c + i) (by omega) (by omega) (by omega) (fun j hj hj2 => ?_) ?_ (fun j hj hj2 => ?_) ?_ ⟨rfl, rfl, rfl, rfl, rfl⟩)
      · obtain ⟨j', rfl⟩ : ∃ j', j = c + j' := ⟨j - c, by omega⟩
        have hq := h4 (j' - (k + 1)) (by rw [List.length_drop]; omega)
        rw [List.getD_eq_getElem?_getD, List.getD_eq_getElem?_getD, List.getElem?_drop, List.getElem?_drop, ← List.getD_eq_getElem?_getD, ← List.getD_eq_getElem?_getD, show k + 1 + (j' - (k + 1) + 1) = j' + 1 by omega, show k + 1 + (j' - (k + 1)) = j' by omega] at hq
        exact Int32.not_le.mpr ((hlt (j' + 1) j' (by omega) (by omega)).mpr hq)
      · exact Int32.le_of_lt ((hlt k (k + 1) (by omega) (by omega)).mpr h5)
      · obtain ⟨j', rfl⟩ : ∃ j', j = c + j' := ⟨j - c, by omega⟩
        exact (hlt j' k (by omega) (by omega)).mpr (h7 j' (by omega) (by omega))
      · intro z
        have := (hlt i k (by omega) (by omega)).mp z
        omega
    · intro j hj
      rw [sr_nx_at h2 h3 hj]
      unfold mo_rf
      by_cases e1 : j < k
      · rw [if_pos e1, if_neg (by omega), pk_un (by omega), pk_un (by omega)]
        exact hT j hj
      · rw [if_neg e1]
        by_cases e2 : j = k
        · rw [if_pos e2, if_neg (by omega), pk_un (by omega), e2, pk_us]
          exact hT i h3
        · rw [if_neg e2, if_pos (by omega)]
          by_cases e3 : s.length + k - j = i
          · rw [if_pos e3, show m + (c + k) - (c + j) = c + i by omega, pk_us]
            exact hT k (by omega)
          · rw [if_neg e3, show m + (c + k) - (c + j) = c + (s.length + k - j) by omega, pk_un (by omega), pk_un (by omega)]
            exact hT _ (by omega)

end
