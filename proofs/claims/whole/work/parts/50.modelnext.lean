section
def mo_tk (F : Nat → Int32) (a b : Nat) (S K : Int32) : Nat → Int32 := upd (upd (upd (upd F 10 (nI a)) 11 (nI b)) 12 S) 13 K
theorem mo_tkE {F : Nat → Int32} {a b : Nat} {S : Int32} : upd (upd (upd F 10 (nI a)) 11 (nI b)) 12 S = mo_tk F a b S (F 13) := by
  unfold mo_tk
  exact (sp_ups rfl).symm
theorem mo_tkL {F : Nat → Int32} {a b c : Nat} {S K : Int32} : upd (upd (upd (upd (upd F 10 (nI a)) 11 (nI b)) 10 (nI c)) 13 K) 12 S = mo_tk F c b S K := by
  funext j
  unfold mo_tk upd
  by_cases h10 : j = 10
  · simp [h10]
  · by_cases h11 : j = 11
    · simp [h11]
    · by_cases h12 : j = 12
      · simp [h12]
      · simp [h10, h11, h12]
theorem mo_tkD0 {F : Nat → Int32} {a b : Nat} {S K : Int32} : upd (upd (upd (upd F 10 (nI a)) 11 (nI b)) 12 S) 13 K = mo_tk F a b S K := rfl
theorem mo_tkD {F : Nat → Int32} {a b c : Nat} {S K L : Int32} : upd (upd (mo_tk F a b S K) 13 L) 10 (nI c) = mo_tk F c b S L := by
  funext j
  unfold mo_tk upd
  by_cases h10 : j = 10
  · simp [h10]
  · by_cases h13 : j = 13
    · simp [h13]
    · simp [h10, h13]
theorem mo_tkO {F : Nat → Int32} {a b c : Nat} {S : Int32} : upd (upd (upd (upd F 10 (nI a)) 11 (nI b)) 10 (nI c)) 12 S = mo_tk F c b S (F 13) := by
  funext j
  unfold mo_tk upd
  by_cases h10 : j = 10
  · simp [h10]
  · by_cases h11 : j = 11
    · simp [h11]
    · by_cases h12 : j = 12
      · simp [h12]
      · by_cases h13 : j = 13
        · simp [h13]
        · simp [h10, h11, h12, h13]
/-- the number that digits tell, as the model holds it -/
def mo_num (t : Nat → Int32) (q : Nat) : Nat → Int32
  | 0 => 0
  | k + 1 => if mo_num t q k ≤ 9999 then 10 * mo_num t q k + t (q + k) - 48 else mo_num t q k
/-- the token behind the blanks from p on: where it ends, where it begins, its sort, its value -/
def mo_nx (t : Nat → Int32) (e q : Nat) (K : Int32) : Nat × Int32 × Int32 :=
  if ¬ q < e then (q, 3, K) else
  if ¬ sp_in (t q) 97 122 = 0 then (sp_run (sp_inB 97 122) t e q, (if sp_kind t q (sp_run (sp_inB 97 122) t e q) = -1 then 4 else 0), sp_kind t q (sp_run (sp_inB 97 122) t e q)) else
  if ¬ sp_in (t q) 48 57 = 0 then (sp_run (sp_inB 48 57) t e q, 1, mo_num t q (sp_run (sp_inB 48 57) t e q - q)) else
  (q + 1, (if t q = 59 then 2 else 4), K)
theorem sp_ba_lt {t : Nat → Int32} {e q : Nat} {x : Int32} (h : sp_ba t e q = x) (hx : ¬ x = -1) : q < e ∧ t q = x := by
  unfold sp_ba at h
  split at h
  · exact ⟨by assumption, h⟩
  · exact absurd h.symm hx
theorem sp_ba_in {t : Nat → Int32} {e q : Nat} {a b : Int32} (h : ¬ sp_in (sp_ba t e q) a b = 0) (hx : sp_in (-1) a b = 0) : q < e ∧ sp_inB a b (t q) = true := by
  unfold sp_ba at h
  split at h
  · exact ⟨by assumption, by unfold sp_inB; exact decide_eq_true h⟩
  · exact absurd hx h
theorem sp_ba_out {t : Nat → Int32} {e q : Nat} {a b : Int32} (h : sp_in (sp_ba t e q) a b = 0) : ¬ (q < e ∧ sp_inB a b (t q) = true) := by
  rintro ⟨h1, h2⟩
  unfold sp_ba at h
  rw [if_pos h1] at h
  unfold sp_inB at h2
  exact of_decide_eq_true h2 h
set_option maxRecDepth 20000 in
set_option maxHeartbeats 2000000 in
theorem mo_nl {d : Nat} (hd : 6 ≤ d) {ad : Nat → Nat} {μ : vx_mem} {e : Nat} (he : μ 54 9 = nI e) (he3 : e ≤ 300) {Post : vx_P} {ini : Bool} {q : Nat} {c : Int32} (hP : Post none ad 82 vx_lay (va_up μ 54 (mo_tk (μ 54) (sp_run (sp_inB 97 122) (μ 55) e q) q (if sp_kind (μ 55) q (sp_run (sp_inB 97 122) (μ 55) e q) = -1 then 4 else 0) (sp_kind (μ 55) q (sp_run (sp_inB 97 122) (μ 55) e q))))) : ∀ (r z : Nat), e - z ≤ r → q ≤ z → z ≤ e → sp_run (sp_inB 97 122) (μ 55) e q = sp_run (sp_inB 97 122) (μ 55) e z → vx_J RX9 cX9_next 2 none ini d 0 0 Post ad 0 0 82 vx_lay (va_up μ 54 (upd (upd (upd (μ 54) 10 (nI q)) 11 (nI q)) 10 (nI z))) 64 [(1, .inl c), (0, vx_r 54)] [] := by
  intro r
  induction r with
  | zero =>
    intro z hz hqz hze hr
    refine vx_aload_n dX9_next_64 rfl ?_
    refine vx_callV (b := 54) (vs := []) (st := []) (r0 := (some (.inl (sp_ba (μ 55) e z)))) (μ0 := (va_up μ 54 (upd (upd (upd (μ 54) 10 (nI q)) 11 (nI q)) 10 (nI z)))) dX9_next_65 (c_X9_here (d - 1) ad (va_up μ 54 (upd (upd (upd (μ 54) 10 (nI q)) 11 (nI q)) 10 (nI z))) (z) e rfl he (by omega) he3) wd_917 wd_920 wd_54 hy_X9_here wd_919 wd_25 (by decide) ly_54 rfl rfl (by omega) (Nat.le_of_ble_eq_true rfl) (Nat.le_of_ble_eq_true rfl) (Nat.le_refl 0) (Nat.le_refl 0) ?_
    refine vx_eq (μ2 := (va_up μ 54 (upd (upd (upd (μ 54) 10 (nI q)) 11 (nI q)) 10 (nI z)))) (ls2 := [(1, .inl c), (0, vx_r 54)]) (st2 := [.inl (sp_ba (μ 55) e z)]) rfl rfl rfl ?_
    refine vx_callS (vs := [.inl (sp_ba (μ 55) e z)]) (st := []) (r0 := (some (.inl (sp_in (sp_ba (μ 55) e z) 97 122)))) (μ0 := (va_up μ 54 (upd (upd (upd (μ 54) 10 (nI q)) 11 (nI q)) 10 (nI z)))) dX9_next_68 (c_X9_isSmall (d - 1) ad (va_up μ 54 (upd (upd (upd (μ 54) 10 (nI q)) 11 (nI q)) 10 (nI z))) (sp_ba (μ 55) e z)) wd_921 wd_923 wd_54 hy_X9_isSmall wd_922 (by omega) (Nat.le_of_ble_eq_true rfl) (Nat.le_of_ble_eq_true rfl) (Nat.le_refl 0) (Nat.le_refl 0) ?_
    refine vx_eq (μ2 := (va_up μ 54 (upd (upd (upd (μ 54) 10 (nI q)) 11 (nI q)) 10 (nI z)))) (ls2 := [(1, .inl c), (0, vx_r 54)]) (st2 := [.inl (sp_in (sp_ba (μ 55) e z) 97 122)]) rfl rfl rfl ?_
    refine vx_if_eq (tgt := 87) dX9_next_71 (by decide) (fun c_71 => ?_) (fun c_71 => ?_)
    · refine vx_aload_n dX9_next_87 rfl ?_
      refine vx_aload_n dX9_next_88 rfl ?_
      refine vx_callV (b := 54) (vs := []) (st := [vx_r 54]) (r0 := (some (.inl (sp_kind (μ 55) q z)))) (μ0 := (va_up μ 54 (upd (upd (upd (μ 54) 10 (nI q)) 11 (nI q)) 10 (nI z)))) dX9_next_89 (c_X9_wordOf (d - 1) (by omega) ad (va_up μ 54 (upd (upd (upd (μ 54) 10 (nI q)) 11 (nI q)) 10 (nI z))) q z rfl rfl hqz (by omega)) wd_924 wd_927 wd_54 hy_X9_wordOf wd_926 wd_26 (by decide) ly_54 rfl rfl (by omega) (Nat.le_of_ble_eq_true rfl) (Nat.le_of_ble_eq_true rfl) (Nat.le_refl 0) (Nat.le_refl 0) ?_
      refine vx_eq (μ2 := (va_up μ 54 (upd (upd (upd (μ 54) 10 (nI q)) 11 (nI q)) 10 (nI z)))) (ls2 := [(1, .inl c), (0, vx_r 54)]) (st2 := [.inl (sp_kind (μ 55) q z), vx_r 54]) rfl rfl rfl ?_
      refine vx_putI (ci := 9) (T := TX9) (n := 56) (j := 13) (a := 54) (ty := .int) (μ2 := (va_up μ 54 (upd (upd (upd (upd (μ 54) 10 (nI q)) 11 (nI q)) 10 (nI z)) 13 (sp_kind (μ 55) q z)))) dX9_next_92 rfl lay_X9 tyX9_ok nmX9 (by decide) wd_749 rfl rfl rfl rfl (by decide) ly_54 rfl vx_m1 ?_
      refine vx_aload_n dX9_next_95 rfl ?_
      refine vx_aload_n dX9_next_96 rfl ?_
      refine vx_getI (ci := 9) (T := TX9) (n := 56) (j := 13) (a := 54) (v := (sp_kind (μ 55) q z)) dX9_next_97 rfl lay_X9 (by decide) wd_749 (by decide) ly_54 rfl rfl ?_
      refine vx_iconst (v := (-1)) dX9_next_100 (by decide) ?_
      refine vx_icmp_ne (tgt := 108) dX9_next_101 (by decide) (fun c_101 => ?_) (fun c_101 => ?_)
      · refine vx_iconst (v := 0) dX9_next_108 (by decide) ?_
        refine vx_putI (ci := 9) (T := TX9) (n := 56) (j := 12) (a := 54) (ty := .int) (μ2 := (va_up μ 54 (upd (upd (upd (upd (upd (μ 54) 10 (nI q)) 11 (nI q)) 10 (nI z)) 13 (sp_kind (μ 55) q z)) 12 0))) dX9_next_109 rfl lay_X9 tyX9_ok nmX9 (by decide) wd_748 rfl rfl rfl rfl (by decide) ly_54 rfl vx_m1 ?_
        refine vx_goto (tgt := 216) dX9_next_112 (by decide) ?_
        exact vx_vret dX9_next_216 rfl (Nat.le_refl 0) (Nat.le_refl 0) (vx_pst hP rfl (by rw [hr, sp_run_e (sp_ba_out c_71), mo_tkL, if_neg c_101]))
      · refine vx_iconst (v := 4) dX9_next_104 (by decide) ?_
        refine vx_goto (tgt := 109) dX9_next_105 (by decide) ?_
        refine vx_putI (ci := 9) (T := TX9) (n := 56) (j := 12) (a := 54) (ty := .int) (μ2 := (va_up μ 54 (upd (upd (upd (upd (upd (μ 54) 10 (nI q)) 11 (nI q)) 10 (nI z)) 13 (sp_kind (μ 55) q z)) 12 4))) dX9_next_109 rfl lay_X9 tyX9_ok nmX9 (by decide) wd_748 rfl rfl rfl rfl (by decide) ly_54 rfl vx_m1 ?_
        refine vx_goto (tgt := 216) dX9_next_112 (by decide) ?_
        exact vx_vret dX9_next_216 rfl (Nat.le_refl 0) (Nat.le_refl 0) (vx_pst hP rfl (by rw [hr, sp_run_e (sp_ba_out c_71), mo_tkL, if_pos c_101]))
    · have hlt := sp_ba_in c_71 (by decide)
      exact absurd hlt.1 (by omega)
  | succ r ih =>
    intro z hz hqz hze hr
    refine vx_aload_n dX9_next_64 rfl ?_
    refine vx_callV (b := 54) (vs := []) (st := []) (r0 := (some (.inl (sp_ba (μ 55) e z)))) (μ0 := (va_up μ 54 (upd (upd (upd (μ 54) 10 (nI q)) 11 (nI q)) 10 (nI z)))) dX9_next_65 (c_X9_here (d - 1) ad (va_up μ 54 (upd (upd (upd (μ 54) 10 (nI q)) 11 (nI q)) 10 (nI z))) (z) e rfl he (by omega) he3) wd_917 wd_920 wd_54 hy_X9_here wd_919 wd_25 (by decide) ly_54 rfl rfl (by omega) (Nat.le_of_ble_eq_true rfl) (Nat.le_of_ble_eq_true rfl) (Nat.le_refl 0) (Nat.le_refl 0) ?_
    refine vx_eq (μ2 := (va_up μ 54 (upd (upd (upd (μ 54) 10 (nI q)) 11 (nI q)) 10 (nI z)))) (ls2 := [(1, .inl c), (0, vx_r 54)]) (st2 := [.inl (sp_ba (μ 55) e z)]) rfl rfl rfl ?_
    refine vx_callS (vs := [.inl (sp_ba (μ 55) e z)]) (st := []) (r0 := (some (.inl (sp_in (sp_ba (μ 55) e z) 97 122)))) (μ0 := (va_up μ 54 (upd (upd (upd (μ 54) 10 (nI q)) 11 (nI q)) 10 (nI z)))) dX9_next_68 (c_X9_isSmall (d - 1) ad (va_up μ 54 (upd (upd (upd (μ 54) 10 (nI q)) 11 (nI q)) 10 (nI z))) (sp_ba (μ 55) e z)) wd_921 wd_923 wd_54 hy_X9_isSmall wd_922 (by omega) (Nat.le_of_ble_eq_true rfl) (Nat.le_of_ble_eq_true rfl) (Nat.le_refl 0) (Nat.le_refl 0) ?_
    refine vx_eq (μ2 := (va_up μ 54 (upd (upd (upd (μ 54) 10 (nI q)) 11 (nI q)) 10 (nI z)))) (ls2 := [(1, .inl c), (0, vx_r 54)]) (st2 := [.inl (sp_in (sp_ba (μ 55) e z) 97 122)]) rfl rfl rfl ?_
    refine vx_if_eq (tgt := 87) dX9_next_71 (by decide) (fun c_71_1 => ?_) (fun c_71_1 => ?_)
    · refine vx_aload_n dX9_next_87 rfl ?_
      refine vx_aload_n dX9_next_88 rfl ?_
      refine vx_callV (b := 54) (vs := []) (st := [vx_r 54]) (r0 := (some (.inl (sp_kind (μ 55) q z)))) (μ0 := (va_up μ 54 (upd (upd (upd (μ 54) 10 (nI q)) 11 (nI q)) 10 (nI z)))) dX9_next_89 (c_X9_wordOf (d - 1) (by omega) ad (va_up μ 54 (upd (upd (upd (μ 54) 10 (nI q)) 11 (nI q)) 10 (nI z))) q z rfl rfl hqz (by omega)) wd_924 wd_927 wd_54 hy_X9_wordOf wd_926 wd_26 (by decide) ly_54 rfl rfl (by omega) (Nat.le_of_ble_eq_true rfl) (Nat.le_of_ble_eq_true rfl) (Nat.le_refl 0) (Nat.le_refl 0) ?_
      refine vx_eq (μ2 := (va_up μ 54 (upd (upd (upd (μ 54) 10 (nI q)) 11 (nI q)) 10 (nI z)))) (ls2 := [(1, .inl c), (0, vx_r 54)]) (st2 := [.inl (sp_kind (μ 55) q z), vx_r 54]) rfl rfl rfl ?_
      refine vx_putI (ci := 9) (T := TX9) (n := 56) (j := 13) (a := 54) (ty := .int) (μ2 := (va_up μ 54 (upd (upd (upd (upd (μ 54) 10 (nI q)) 11 (nI q)) 10 (nI z)) 13 (sp_kind (μ 55) q z)))) dX9_next_92 rfl lay_X9 tyX9_ok nmX9 (by decide) wd_749 rfl rfl rfl rfl (by decide) ly_54 rfl vx_m1 ?_
      refine vx_aload_n dX9_next_95 rfl ?_
      refine vx_aload_n dX9_next_96 rfl ?_
      refine vx_getI (ci := 9) (T := TX9) (n := 56) (j := 13) (a := 54) (v := (sp_kind (μ 55) q z)) dX9_next_97 rfl lay_X9 (by decide) wd_749 (by decide) ly_54 rfl rfl ?_
      refine vx_iconst (v := (-1)) dX9_next_100 (by decide) ?_
      refine vx_icmp_ne (tgt := 108) dX9_next_101 (by decide) (fun c_101_1 => ?_) (fun c_101_1 => ?_)
      · refine vx_iconst (v := 0) dX9_next_108 (by decide) ?_
        refine vx_putI (ci := 9) (T := TX9) (n := 56) (j := 12) (a := 54) (ty := .int) (μ2 := (va_up μ 54 (upd (upd (upd (upd (upd (μ 54) 10 (nI q)) 11 (nI q)) 10 (nI z)) 13 (sp_kind (μ 55) q z)) 12 0))) dX9_next_109 rfl lay_X9 tyX9_ok nmX9 (by decide) wd_748 rfl rfl rfl rfl (by decide) ly_54 rfl vx_m1 ?_
        refine vx_goto (tgt := 216) dX9_next_112 (by decide) ?_
        exact vx_vret dX9_next_216 rfl (Nat.le_refl 0) (Nat.le_refl 0) (vx_pst hP rfl (by rw [hr, sp_run_e (sp_ba_out c_71_1), mo_tkL, if_neg c_101_1]))
      · refine vx_iconst (v := 4) dX9_next_104 (by decide) ?_
        refine vx_goto (tgt := 109) dX9_next_105 (by decide) ?_
        refine vx_putI (ci := 9) (T := TX9) (n := 56) (j := 12) (a := 54) (ty := .int) (μ2 := (va_up μ 54 (upd (upd (upd (upd (upd (μ 54) 10 (nI q)) 11 (nI q)) 10 (nI z)) 13 (sp_kind (μ 55) q z)) 12 4))) dX9_next_109 rfl lay_X9 tyX9_ok nmX9 (by decide) wd_748 rfl rfl rfl rfl (by decide) ly_54 rfl vx_m1 ?_
        refine vx_goto (tgt := 216) dX9_next_112 (by decide) ?_
        exact vx_vret dX9_next_216 rfl (Nat.le_refl 0) (Nat.le_refl 0) (vx_pst hP rfl (by rw [hr, sp_run_e (sp_ba_out c_71_1), mo_tkL, if_pos c_101_1]))
    · have hlt := sp_ba_in c_71_1 (by decide)
      refine vx_aload_n dX9_next_74 rfl ?_
      refine vx_dup dX9_next_75 ?_
      refine vx_getI (ci := 9) (T := TX9) (n := 56) (j := 10) (a := 54) (v := (nI z)) dX9_next_76 rfl lay_X9 (by decide) wd_746 (by decide) ly_54 rfl rfl ?_
      refine vx_iconst (v := 1) dX9_next_79 (by decide) ?_
      refine vx_iadd dX9_next_80 ?_
      refine vx_eq (st2 := [.inl (nI (z + 1)), vx_r 54]) rfl rfl (by rw [nI_1]) ?_
      refine vx_putI (ci := 9) (T := TX9) (n := 56) (j := 10) (a := 54) (ty := .int) (μ2 := (va_up μ 54 (upd (upd (upd (μ 54) 10 (nI q)) 11 (nI q)) 10 (nI (z + 1))))) dX9_next_81 rfl lay_X9 tyX9_ok nmX9 (by decide) wd_746 rfl rfl rfl rfl (by decide) ly_54 rfl ((congrArg (fun z_ => va_up (va_up μ 54 (upd (upd (upd (μ 54) 10 (nI q)) 11 (nI q)) 10 (nI z))) 54 z_) (sp_uu (f := (upd (upd (μ 54) 10 (nI q)) 11 (nI q))) (k := 10))).trans vx_m1) ?_
      refine vx_goto (tgt := 64) dX9_next_84 (by decide) ?_
      exact ih (z + 1) (by omega) (by omega) (by omega) (hr.trans (sp_run_s hlt.1 hlt.2))
set_option maxRecDepth 20000 in
set_option maxHeartbeats 2000000 in
theorem mo_nd {d : Nat} (hd : 6 ≤ d) {ad : Nat → Nat} {μ : vx_mem} {e : Nat} (he : μ 54 9 = nI e) (he3 : e ≤ 300) {Post : vx_P} {ini : Bool} {q : Nat} {c : Int32} (hP : Post none ad 82 vx_lay (va_up μ 54 (mo_tk (μ 54) (sp_run (sp_inB 48 57) (μ 55) e q) q 1 (mo_num (μ 55) q (sp_run (sp_inB 48 57) (μ 55) e q - q))))) : ∀ (r k : Nat) (v : Int32), e - (q + k) ≤ r → q + k ≤ e → sp_run (sp_inB 48 57) (μ 55) e q = sp_run (sp_inB 48 57) (μ 55) e (q + k) → v = mo_num (μ 55) q k → vx_J RX9 cX9_next 2 none ini d 0 0 Post ad 0 0 82 vx_lay (va_up μ 54 (mo_tk (μ 54) (q + k) q 1 v)) 132 [(1, .inl c), (0, vx_r 54)] [] := by
  intro r
  induction r with
  | zero =>
    intro k v hz hze hr hv
    refine vx_aload_n dX9_next_132 rfl ?_
    refine vx_callV (b := 54) (vs := []) (st := []) (r0 := (some (.inl (sp_ba (μ 55) e (q + k))))) (μ0 := (va_up μ 54 (mo_tk (μ 54) (q + k) q 1 v))) dX9_next_133 (c_X9_here (d - 1) ad (va_up μ 54 (mo_tk (μ 54) (q + k) q 1 v)) ((q + k)) e rfl he (by omega) he3) wd_917 wd_920 wd_54 hy_X9_here wd_919 wd_25 (by decide) ly_54 rfl rfl (by omega) (Nat.le_of_ble_eq_true rfl) (Nat.le_of_ble_eq_true rfl) (Nat.le_refl 0) (Nat.le_refl 0) ?_
    refine vx_eq (μ2 := (va_up μ 54 (mo_tk (μ 54) (q + k) q 1 v))) (ls2 := [(1, .inl c), (0, vx_r 54)]) (st2 := [.inl (sp_ba (μ 55) e (q + k))]) rfl rfl rfl ?_
    refine vx_callS (vs := [.inl (sp_ba (μ 55) e (q + k))]) (st := []) (r0 := (some (.inl (sp_in (sp_ba (μ 55) e (q + k)) 48 57)))) (μ0 := (va_up μ 54 (mo_tk (μ 54) (q + k) q 1 v))) dX9_next_136 (c_X9_isDigit (d - 1) ad (va_up μ 54 (mo_tk (μ 54) (q + k) q 1 v)) (sp_ba (μ 55) e (q + k))) wd_931 wd_933 wd_54 hy_X9_isDigit wd_932 (by omega) (Nat.le_of_ble_eq_true rfl) (Nat.le_of_ble_eq_true rfl) (Nat.le_refl 0) (Nat.le_refl 0) ?_
    refine vx_eq (μ2 := (va_up μ 54 (mo_tk (μ 54) (q + k) q 1 v))) (ls2 := [(1, .inl c), (0, vx_r 54)]) (st2 := [.inl (sp_in (sp_ba (μ 55) e (q + k)) 48 57)]) rfl rfl rfl ?_
    refine vx_if_eq (tgt := 216) dX9_next_139 (by decide) (fun c_139 => ?_) (fun c_139 => ?_)
    · exact vx_vret dX9_next_216 rfl (Nat.le_refl 0) (Nat.le_refl 0) (vx_pst hP rfl (by rw [hr, sp_run_e (sp_ba_out c_139), hv, show q + k - q = k by omega]))
    · have hlt := sp_ba_in c_139 (by decide)
      exact absurd hlt.1 (by omega)
  | succ r ih =>
    intro k v hz hze hr hv
    refine vx_aload_n dX9_next_132 rfl ?_
    refine vx_callV (b := 54) (vs := []) (st := []) (r0 := (some (.inl (sp_ba (μ 55) e (q + k))))) (μ0 := (va_up μ 54 (mo_tk (μ 54) (q + k) q 1 v))) dX9_next_133 (c_X9_here (d - 1) ad (va_up μ 54 (mo_tk (μ 54) (q + k) q 1 v)) ((q + k)) e rfl he (by omega) he3) wd_917 wd_920 wd_54 hy_X9_here wd_919 wd_25 (by decide) ly_54 rfl rfl (by omega) (Nat.le_of_ble_eq_true rfl) (Nat.le_of_ble_eq_true rfl) (Nat.le_refl 0) (Nat.le_refl 0) ?_
    refine vx_eq (μ2 := (va_up μ 54 (mo_tk (μ 54) (q + k) q 1 v))) (ls2 := [(1, .inl c), (0, vx_r 54)]) (st2 := [.inl (sp_ba (μ 55) e (q + k))]) rfl rfl rfl ?_
    refine vx_callS (vs := [.inl (sp_ba (μ 55) e (q + k))]) (st := []) (r0 := (some (.inl (sp_in (sp_ba (μ 55) e (q + k)) 48 57)))) (μ0 := (va_up μ 54 (mo_tk (μ 54) (q + k) q 1 v))) dX9_next_136 (c_X9_isDigit (d - 1) ad (va_up μ 54 (mo_tk (μ 54) (q + k) q 1 v)) (sp_ba (μ 55) e (q + k))) wd_931 wd_933 wd_54 hy_X9_isDigit wd_932 (by omega) (Nat.le_of_ble_eq_true rfl) (Nat.le_of_ble_eq_true rfl) (Nat.le_refl 0) (Nat.le_refl 0) ?_
    refine vx_eq (μ2 := (va_up μ 54 (mo_tk (μ 54) (q + k) q 1 v))) (ls2 := [(1, .inl c), (0, vx_r 54)]) (st2 := [.inl (sp_in (sp_ba (μ 55) e (q + k)) 48 57)]) rfl rfl rfl ?_
    refine vx_if_eq (tgt := 216) dX9_next_139 (by decide) (fun c_139_1 => ?_) (fun c_139_1 => ?_)
    · exact vx_vret dX9_next_216 rfl (Nat.le_refl 0) (Nat.le_refl 0) (vx_pst hP rfl (by rw [hr, sp_run_e (sp_ba_out c_139_1), hv, show q + k - q = k by omega]))
    · have hlt := sp_ba_in c_139_1 (by decide)
      have hba : sp_ba (μ 55) e (q + k) = μ 55 (q + k) := if_pos hlt.1
      refine vx_aload_n dX9_next_142 rfl ?_
      refine vx_aload_n dX9_next_143 rfl ?_
      refine vx_getI (ci := 9) (T := TX9) (n := 56) (j := 13) (a := 54) (v := v) dX9_next_144 rfl lay_X9 (by decide) wd_749 (by decide) ly_54 rfl rfl ?_
      refine vx_sipush (v := 9999) dX9_next_147 (by decide) ?_
      refine vx_icmp_le (tgt := 160) dX9_next_150 (by decide) (fun c_150 => ?_) (fun c_150 => ?_)
      · refine vx_bipush (v := 10) dX9_next_160 (by decide) ?_
        refine vx_aload_n dX9_next_162 rfl ?_
        refine vx_getI (ci := 9) (T := TX9) (n := 56) (j := 13) (a := 54) (v := v) dX9_next_163 rfl lay_X9 (by decide) wd_749 (by decide) ly_54 rfl rfl ?_
        refine vx_imul dX9_next_166 ?_
        refine vx_aload_n dX9_next_167 rfl ?_
        refine vx_callV (b := 54) (vs := []) (st := [.inl (10 * v), vx_r 54]) (r0 := (some (.inl (sp_ba (μ 55) e (q + k))))) (μ0 := (va_up μ 54 (mo_tk (μ 54) (q + k) q 1 v))) dX9_next_168 (c_X9_here (d - 1) ad (va_up μ 54 (mo_tk (μ 54) (q + k) q 1 v)) ((q + k)) e rfl he (by omega) he3) wd_917 wd_920 wd_54 hy_X9_here wd_919 wd_25 (by decide) ly_54 rfl rfl (by omega) (Nat.le_of_ble_eq_true rfl) (Nat.le_of_ble_eq_true rfl) (Nat.le_refl 0) (Nat.le_refl 0) ?_
        refine vx_eq (μ2 := (va_up μ 54 (mo_tk (μ 54) (q + k) q 1 v))) (ls2 := [(1, .inl c), (0, vx_r 54)]) (st2 := [.inl (sp_ba (μ 55) e (q + k)), .inl (10 * v), vx_r 54]) rfl rfl rfl ?_
        refine vx_iadd dX9_next_171 ?_
        refine vx_bipush (v := 48) dX9_next_172 (by decide) ?_
        refine vx_isub dX9_next_174 ?_
        refine vx_putI (ci := 9) (T := TX9) (n := 56) (j := 13) (a := 54) (ty := .int) (μ2 := (va_up μ 54 (upd (mo_tk (μ 54) (q + k) q 1 v) 13 (((10 * v) + (sp_ba (μ 55) e (q + k))) - 48)))) dX9_next_175 rfl lay_X9 tyX9_ok nmX9 (by decide) wd_749 rfl rfl rfl rfl (by decide) ly_54 rfl vx_m1 ?_
        refine vx_aload_n dX9_next_178 rfl ?_
        refine vx_dup dX9_next_179 ?_
        refine vx_getI (ci := 9) (T := TX9) (n := 56) (j := 10) (a := 54) (v := (nI (q + k))) dX9_next_180 rfl lay_X9 (by decide) wd_746 (by decide) ly_54 rfl rfl ?_
        refine vx_iconst (v := 1) dX9_next_183 (by decide) ?_
        refine vx_iadd dX9_next_184 ?_
        refine vx_eq (st2 := [.inl (nI ((q + k) + 1)), vx_r 54]) rfl rfl (by rw [nI_1]) ?_
        refine vx_putI (ci := 9) (T := TX9) (n := 56) (j := 10) (a := 54) (ty := .int) (μ2 := (va_up μ 54 (upd (upd (mo_tk (μ 54) (q + k) q 1 v) 13 (((10 * v) + (sp_ba (μ 55) e (q + k))) - 48)) 10 (nI ((q + k) + 1))))) dX9_next_185 rfl lay_X9 tyX9_ok nmX9 (by decide) wd_746 rfl rfl rfl rfl (by decide) ly_54 rfl vx_m1 ?_
        refine vx_goto (tgt := 132) dX9_next_188 (by decide) ?_
        refine vx_eq (μ2 := (va_up μ 54 (mo_tk (μ 54) (q + k + 1) q 1 (((10 * v) + (sp_ba (μ 55) e (q + k))) - 48)))) (by rw [mo_tkD]) rfl rfl ?_
        exact ih (k + 1) _ (by omega) (by omega) (hr.trans (sp_run_s hlt.1 hlt.2)) (by show _ = (if mo_num (μ 55) q k ≤ 9999 then 10 * mo_num (μ 55) q k + μ 55 (q + k) - 48 else mo_num (μ 55) q k); rw [← hv, hba, if_pos c_150])
      · refine vx_aload_n dX9_next_153 rfl ?_
        refine vx_getI (ci := 9) (T := TX9) (n := 56) (j := 13) (a := 54) (v := v) dX9_next_154 rfl lay_X9 (by decide) wd_749 (by decide) ly_54 rfl rfl ?_
        refine vx_goto (tgt := 175) dX9_next_157 (by decide) ?_
        refine vx_putI (ci := 9) (T := TX9) (n := 56) (j := 13) (a := 54) (ty := .int) (μ2 := (va_up μ 54 (upd (mo_tk (μ 54) (q + k) q 1 v) 13 v))) dX9_next_175 rfl lay_X9 tyX9_ok nmX9 (by decide) wd_749 rfl rfl rfl rfl (by decide) ly_54 rfl vx_m1 ?_
        refine vx_aload_n dX9_next_178 rfl ?_
        refine vx_dup dX9_next_179 ?_
        refine vx_getI (ci := 9) (T := TX9) (n := 56) (j := 10) (a := 54) (v := (nI (q + k))) dX9_next_180 rfl lay_X9 (by decide) wd_746 (by decide) ly_54 rfl rfl ?_
        refine vx_iconst (v := 1) dX9_next_183 (by decide) ?_
        refine vx_iadd dX9_next_184 ?_
        refine vx_eq (st2 := [.inl (nI ((q + k) + 1)), vx_r 54]) rfl rfl (by rw [nI_1]) ?_
        refine vx_putI (ci := 9) (T := TX9) (n := 56) (j := 10) (a := 54) (ty := .int) (μ2 := (va_up μ 54 (upd (upd (mo_tk (μ 54) (q + k) q 1 v) 13 v) 10 (nI ((q + k) + 1))))) dX9_next_185 rfl lay_X9 tyX9_ok nmX9 (by decide) wd_746 rfl rfl rfl rfl (by decide) ly_54 rfl vx_m1 ?_
        refine vx_goto (tgt := 132) dX9_next_188 (by decide) ?_
        refine vx_eq (μ2 := (va_up μ 54 (mo_tk (μ 54) (q + k + 1) q 1 v))) (by rw [mo_tkD]) rfl rfl ?_
        exact ih (k + 1) _ (by omega) (by omega) (hr.trans (sp_run_s hlt.1 hlt.2)) (by show _ = (if mo_num (μ 55) q k ≤ 9999 then 10 * mo_num (μ 55) q k + μ 55 (q + k) - 48 else mo_num (μ 55) q k); rw [← hv, if_neg c_150])
set_option maxRecDepth 20000 in
set_option maxHeartbeats 2000000 in
theorem mo_nt {d : Nat} (hd : 6 ≤ d) {ad : Nat → Nat} {μ : vx_mem} {e : Nat} (he : μ 54 9 = nI e) (he3 : e ≤ 300) {Post : vx_P} {ini : Bool} {q : Nat} (hqe : q ≤ e) (hby : ∀ j, j < e → ¬ μ 55 j = -1) (hP : Post none ad 82 vx_lay (va_up μ 54 (mo_tk (μ 54) (mo_nx (μ 55) e q (μ 54 13)).1 q (mo_nx (μ 55) e q (μ 54 13)).2.1 (mo_nx (μ 55) e q (μ 54 13)).2.2))) (hbl : ¬ (q < e ∧ sp_bl (μ 55 q) = true)) : vx_J RX9 cX9_next 2 none ini d 0 0 Post ad 0 0 82 vx_lay (va_up μ 54 (upd (upd (μ 54) 10 (nI q)) 11 (nI q))) 39 [(0, vx_r 54)] [] := by
  refine vx_aload_n dX9_next_39 rfl ?_
  refine vx_callV (b := 54) (vs := []) (st := []) (r0 := (some (.inl (sp_ba (μ 55) e q)))) (μ0 := (va_up μ 54 (upd (upd (μ 54) 10 (nI q)) 11 (nI q)))) dX9_next_40 (c_X9_here (d - 1) ad (va_up μ 54 (upd (upd (μ 54) 10 (nI q)) 11 (nI q))) (q) e rfl he (by omega) he3) wd_917 wd_920 wd_54 hy_X9_here wd_919 wd_25 (by decide) ly_54 rfl rfl (by omega) (Nat.le_of_ble_eq_true rfl) (Nat.le_of_ble_eq_true rfl) (Nat.le_refl 0) (Nat.le_refl 0) ?_
  refine vx_eq (μ2 := (va_up μ 54 (upd (upd (μ 54) 10 (nI q)) 11 (nI q)))) (ls2 := [(0, vx_r 54)]) (st2 := [.inl (sp_ba (μ 55) e q)]) rfl rfl rfl ?_
  refine vx_istore_n (ls2 := [(1, .inl (sp_ba (μ 55) e q)), (0, vx_r 54)]) dX9_next_43 (by decide) rfl ?_
  by_cases hlt : q < e
  · refine vx_eq (ls2 := [(1, .inl (μ 55 q)), (0, vx_r 54)]) rfl (by rw [show sp_ba (μ 55) e q = μ 55 q from if_pos hlt]) rfl ?_
    refine vx_iload_n dX9_next_44 rfl ?_
    refine vx_iconst (v := (-1)) dX9_next_45 (by decide) ?_
    refine vx_icmp_ne (tgt := 57) dX9_next_46 (by decide) (fun _ => ?_) (fun h => absurd h (hby q hlt))
    refine vx_iload_n dX9_next_57 rfl ?_
    refine vx_callS (vs := [.inl (μ 55 q)]) (st := []) (r0 := (some (.inl (sp_in (μ 55 q) 97 122)))) (μ0 := (va_up μ 54 (upd (upd (μ 54) 10 (nI q)) 11 (nI q)))) dX9_next_58 (c_X9_isSmall (d - 1) ad (va_up μ 54 (upd (upd (μ 54) 10 (nI q)) 11 (nI q))) (μ 55 q)) wd_921 wd_923 wd_54 hy_X9_isSmall wd_922 (by omega) (Nat.le_of_ble_eq_true rfl) (Nat.le_of_ble_eq_true rfl) (Nat.le_refl 0) (Nat.le_refl 0) ?_
    refine vx_eq (μ2 := (va_up μ 54 (upd (upd (μ 54) 10 (nI q)) 11 (nI q)))) (ls2 := [(1, .inl (μ 55 q)), (0, vx_r 54)]) (st2 := [.inl (sp_in (μ 55 q) 97 122)]) rfl rfl rfl ?_
    refine vx_if_eq (tgt := 115) dX9_next_61 (by decide) (fun c_61 => ?_) (fun c_61 => ?_)
    · refine vx_iload_n dX9_next_115 rfl ?_
      refine vx_callS (vs := [.inl (μ 55 q)]) (st := []) (r0 := (some (.inl (sp_in (μ 55 q) 48 57)))) (μ0 := (va_up μ 54 (upd (upd (μ 54) 10 (nI q)) 11 (nI q)))) dX9_next_116 (c_X9_isDigit (d - 1) ad (va_up μ 54 (upd (upd (μ 54) 10 (nI q)) 11 (nI q))) (μ 55 q)) wd_931 wd_933 wd_54 hy_X9_isDigit wd_932 (by omega) (Nat.le_of_ble_eq_true rfl) (Nat.le_of_ble_eq_true rfl) (Nat.le_refl 0) (Nat.le_refl 0) ?_
      refine vx_eq (μ2 := (va_up μ 54 (upd (upd (μ 54) 10 (nI q)) 11 (nI q)))) (ls2 := [(1, .inl (μ 55 q)), (0, vx_r 54)]) (st2 := [.inl (sp_in (μ 55 q) 48 57)]) rfl rfl rfl ?_
      refine vx_if_eq (tgt := 191) dX9_next_119 (by decide) (fun c_119 => ?_) (fun c_119 => ?_)
      · refine vx_aload_n dX9_next_191 rfl ?_
        refine vx_dup dX9_next_192 ?_
        refine vx_getI (ci := 9) (T := TX9) (n := 56) (j := 10) (a := 54) (v := (nI q)) dX9_next_193 rfl lay_X9 (by decide) wd_746 (by decide) ly_54 rfl rfl ?_
        refine vx_iconst (v := 1) dX9_next_196 (by decide) ?_
        refine vx_iadd dX9_next_197 ?_
        refine vx_eq (st2 := [.inl (nI (q + 1)), vx_r 54]) rfl rfl (by rw [nI_1]) ?_
        refine vx_putI (ci := 9) (T := TX9) (n := 56) (j := 10) (a := 54) (ty := .int) (μ2 := (va_up μ 54 (upd (upd (upd (μ 54) 10 (nI q)) 11 (nI q)) 10 (nI (q + 1))))) dX9_next_198 rfl lay_X9 tyX9_ok nmX9 (by decide) wd_746 rfl rfl rfl rfl (by decide) ly_54 rfl vx_m1 ?_
        refine vx_aload_n dX9_next_201 rfl ?_
        refine vx_iload_n dX9_next_202 rfl ?_
        refine vx_bipush (v := 59) dX9_next_203 (by decide) ?_
        refine vx_icmp_ne (tgt := 212) dX9_next_205 (by decide) (fun c_205 => ?_) (fun c_205 => ?_)
        · refine vx_iconst (v := 4) dX9_next_212 (by decide) ?_
          refine vx_putI (ci := 9) (T := TX9) (n := 56) (j := 12) (a := 54) (ty := .int) (μ2 := (va_up μ 54 (upd (upd (upd (upd (μ 54) 10 (nI q)) 11 (nI q)) 10 (nI (q + 1))) 12 4))) dX9_next_213 rfl lay_X9 tyX9_ok nmX9 (by decide) wd_748 rfl rfl rfl rfl (by decide) ly_54 rfl vx_m1 ?_
          exact vx_vret dX9_next_216 rfl (Nat.le_refl 0) (Nat.le_refl 0) (vx_pst hP rfl (by rw [show mo_nx (μ 55) e q (μ 54 13) = (q + 1, (if μ 55 q = 59 then 2 else 4), μ 54 13) from by unfold mo_nx; rw [if_neg (fun h => h hlt), if_neg (fun h => h c_61), if_neg (fun h => h c_119)], mo_tkO, if_neg c_205]))
        · refine vx_iconst (v := 2) dX9_next_208 (by decide) ?_
          refine vx_goto (tgt := 213) dX9_next_209 (by decide) ?_
          refine vx_putI (ci := 9) (T := TX9) (n := 56) (j := 12) (a := 54) (ty := .int) (μ2 := (va_up μ 54 (upd (upd (upd (upd (μ 54) 10 (nI q)) 11 (nI q)) 10 (nI (q + 1))) 12 2))) dX9_next_213 rfl lay_X9 tyX9_ok nmX9 (by decide) wd_748 rfl rfl rfl rfl (by decide) ly_54 rfl vx_m1 ?_
          exact vx_vret dX9_next_216 rfl (Nat.le_refl 0) (Nat.le_refl 0) (vx_pst hP rfl (by rw [show mo_nx (μ 55) e q (μ 54 13) = (q + 1, (if μ 55 q = 59 then 2 else 4), μ 54 13) from by unfold mo_nx; rw [if_neg (fun h => h hlt), if_neg (fun h => h c_61), if_neg (fun h => h c_119)], mo_tkO, if_pos c_205]))
      · refine vx_aload_n dX9_next_122 rfl ?_
        refine vx_iconst (v := 1) dX9_next_123 (by decide) ?_
        refine vx_putI (ci := 9) (T := TX9) (n := 56) (j := 12) (a := 54) (ty := .int) (μ2 := (va_up μ 54 (upd (upd (upd (μ 54) 10 (nI q)) 11 (nI q)) 12 1))) dX9_next_124 rfl lay_X9 tyX9_ok nmX9 (by decide) wd_748 rfl rfl rfl rfl (by decide) ly_54 rfl vx_m1 ?_
        refine vx_aload_n dX9_next_127 rfl ?_
        refine vx_iconst (v := 0) dX9_next_128 (by decide) ?_
        refine vx_putI (ci := 9) (T := TX9) (n := 56) (j := 13) (a := 54) (ty := .int) (μ2 := (va_up μ 54 (upd (upd (upd (upd (μ 54) 10 (nI q)) 11 (nI q)) 12 1) 13 0))) dX9_next_129 rfl lay_X9 tyX9_ok nmX9 (by decide) wd_749 rfl rfl rfl rfl (by decide) ly_54 rfl vx_m1 ?_
        have enx : mo_nx (μ 55) e q (μ 54 13) = (sp_run (sp_inB 48 57) (μ 55) e q, 1, mo_num (μ 55) q (sp_run (sp_inB 48 57) (μ 55) e q - q)) := by unfold mo_nx; rw [if_neg (fun h => h hlt), if_neg (fun h => h c_61), if_pos c_119]
        rw [enx] at hP
        exact mo_nd hd he he3 hP e 0 0 (by omega) (by omega) rfl rfl
    · have enx : mo_nx (μ 55) e q (μ 54 13) = (sp_run (sp_inB 97 122) (μ 55) e q, (if sp_kind (μ 55) q (sp_run (sp_inB 97 122) (μ 55) e q) = -1 then 4 else 0), sp_kind (μ 55) q (sp_run (sp_inB 97 122) (μ 55) e q)) := by unfold mo_nx; rw [if_neg (fun h => h hlt), if_pos c_61]
      rw [enx] at hP
      refine vx_eq (μ2 := (va_up μ 54 (upd (upd (upd (μ 54) 10 (nI q)) 11 (nI q)) 10 (nI q)))) (by rw [sp_ups (f := (upd (upd (μ 54) 10 (nI q)) 11 (nI q))) (k := 10) (x := nI q) rfl]) rfl rfl ?_
      exact mo_nl hd he he3 hP e q (by omega) (by omega) hqe rfl
  · refine vx_eq (ls2 := [(1, .inl (-1)), (0, vx_r 54)]) rfl (by rw [show sp_ba (μ 55) e q = -1 from if_neg hlt]) rfl ?_
    refine vx_iload_n dX9_next_44 rfl ?_
    refine vx_iconst (v := (-1)) dX9_next_45 (by decide) ?_
    refine vx_icmp_ne (tgt := 57) dX9_next_46 (by decide) (fun h => absurd h (by decide)) (fun _ => ?_)
    refine vx_aload_n dX9_next_49 rfl ?_
    refine vx_iconst (v := 3) dX9_next_50 (by decide) ?_
    refine vx_putI (ci := 9) (T := TX9) (n := 56) (j := 12) (a := 54) (ty := .int) (μ2 := (va_up μ 54 (upd (upd (upd (μ 54) 10 (nI q)) 11 (nI q)) 12 3))) dX9_next_51 rfl lay_X9 tyX9_ok nmX9 (by decide) wd_748 rfl rfl rfl rfl (by decide) ly_54 rfl vx_m1 ?_
    refine vx_goto (tgt := 216) dX9_next_54 (by decide) ?_
    exact vx_vret dX9_next_216 rfl (Nat.le_refl 0) (Nat.le_refl 0) (vx_pst hP rfl (by rw [show mo_nx (μ 55) e q (μ 54 13) = (q, 3, μ 54 13) from if_pos hlt, mo_tkE]))
set_option maxRecDepth 20000 in
set_option maxHeartbeats 2000000 in
theorem c_X9_next (d : Nat) (hd : 6 ≤ d) (ad : Nat → Nat) (μ : vx_mem) (p e : Nat) (hp : μ 54 10 = nI p) (he : μ 54 9 = nI e) (hpe : p ≤ e) (he3 : e ≤ 300) (hby : ∀ j, j < e → ¬ μ 55 j = -1) : vx_Mf yX9_next cX9_next 2 none d ad 82 vx_lay μ [vx_r 54] none (va_up μ 54 (mo_tk (μ 54) (mo_nx (μ 55) e (sp_run sp_bl (μ 55) e p) (μ 54 13)).1 (sp_run sp_bl (μ 55) e p) (mo_nx (μ 55) e (sp_run sp_bl (μ 55) e p) (μ 54 13)).2.1 (mo_nx (μ 55) e (sp_run sp_bl (μ 55) e p) (μ 54 13)).2.2)) := by
  have key : ∀ (Post : vx_P) (ini : Bool), Post none ad 82 vx_lay (va_up μ 54 (mo_tk (μ 54) (mo_nx (μ 55) e (sp_run sp_bl (μ 55) e p) (μ 54 13)).1 (sp_run sp_bl (μ 55) e p) (mo_nx (μ 55) e (sp_run sp_bl (μ 55) e p) (μ 54 13)).2.1 (mo_nx (μ 55) e (sp_run sp_bl (μ 55) e p) (μ 54 13)).2.2)) → vx_J RX9 cX9_next 2 none ini d 0 0 Post ad 0 0 82 vx_lay μ 0 [(0, vx_r 54)] [] := by
    intro Post ini hP
    have loop : ∀ (r q : Nat), e - q ≤ r → q ≤ e → sp_run sp_bl (μ 55) e p = sp_run sp_bl (μ 55) e q → vx_J RX9 cX9_next 2 none ini d 0 0 Post ad 0 0 82 vx_lay (va_up μ 54 (upd (μ 54) 10 (nI q))) 0 [(0, vx_r 54)] [] := by
      intro r
      induction r with
      | zero =>
        intro q hz hqe hr
        refine vx_aload_n dX9_next_0 rfl ?_
        refine vx_callV (b := 54) (vs := []) (st := []) (r0 := (some (.inl (sp_ba (μ 55) e q)))) (μ0 := (va_up μ 54 (upd (μ 54) 10 (nI q)))) dX9_next_1 (c_X9_here (d - 1) ad (va_up μ 54 (upd (μ 54) 10 (nI q))) (q) e rfl he (by omega) he3) wd_917 wd_920 wd_54 hy_X9_here wd_919 wd_25 (by decide) ly_54 rfl rfl (by omega) (Nat.le_of_ble_eq_true rfl) (Nat.le_of_ble_eq_true rfl) (Nat.le_refl 0) (Nat.le_refl 0) ?_
        refine vx_eq (μ2 := (va_up μ 54 (upd (μ 54) 10 (nI q)))) (ls2 := [(0, vx_r 54)]) (st2 := [.inl (sp_ba (μ 55) e q)]) rfl rfl rfl ?_
        refine vx_bipush (v := 10) dX9_next_4 (by decide) ?_
        refine vx_icmp_eq (tgt := 18) dX9_next_6 (by decide) (fun c_6 => ?_) (fun c_6 => ?_)
        · have hlt := sp_ba_lt c_6 (by decide)
          exact absurd hlt.1 (by omega)
        · refine vx_aload_n dX9_next_9 rfl ?_
          refine vx_callV (b := 54) (vs := []) (st := []) (r0 := (some (.inl (sp_ba (μ 55) e q)))) (μ0 := (va_up μ 54 (upd (μ 54) 10 (nI q)))) dX9_next_10 (c_X9_here (d - 1) ad (va_up μ 54 (upd (μ 54) 10 (nI q))) (q) e rfl he (by omega) he3) wd_917 wd_920 wd_54 hy_X9_here wd_919 wd_25 (by decide) ly_54 rfl rfl (by omega) (Nat.le_of_ble_eq_true rfl) (Nat.le_of_ble_eq_true rfl) (Nat.le_refl 0) (Nat.le_refl 0) ?_
          refine vx_eq (μ2 := (va_up μ 54 (upd (μ 54) 10 (nI q)))) (ls2 := [(0, vx_r 54)]) (st2 := [.inl (sp_ba (μ 55) e q)]) rfl rfl rfl ?_
          refine vx_bipush (v := 32) dX9_next_13 (by decide) ?_
          refine vx_icmp_ne (tgt := 31) dX9_next_15 (by decide) (fun c_15 => ?_) (fun c_15 => ?_)
          · refine vx_aload_n dX9_next_31 rfl ?_
            refine vx_aload_n dX9_next_32 rfl ?_
            refine vx_getI (ci := 9) (T := TX9) (n := 56) (j := 10) (a := 54) (v := (nI q)) dX9_next_33 rfl lay_X9 (by decide) wd_746 (by decide) ly_54 rfl rfl ?_
            refine vx_putI (ci := 9) (T := TX9) (n := 56) (j := 11) (a := 54) (ty := .int) (μ2 := (va_up μ 54 (upd (upd (μ 54) 10 (nI q)) 11 (nI q)))) dX9_next_36 rfl lay_X9 tyX9_ok nmX9 (by decide) wd_747 rfl rfl rfl rfl (by decide) ly_54 rfl vx_m1 ?_
            have hend : ¬ (q < e ∧ sp_bl (μ 55 q) = true) := by
              rintro ⟨a1, a2⟩
              have hb : sp_ba (μ 55) e q = μ 55 q := if_pos a1
              rw [hb] at c_6 c_15
              simp [sp_bl, c_6, c_15] at a2
            rw [hr, sp_run_e hend] at hP
            exact mo_nt hd he he3 hqe hby hP hend
          · have hlt := sp_ba_lt c_15 (by decide)
            exact absurd hlt.1 (by omega)
      | succ r ih =>
        intro q hz hqe hr
        refine vx_aload_n dX9_next_0 rfl ?_
        refine vx_callV (b := 54) (vs := []) (st := []) (r0 := (some (.inl (sp_ba (μ 55) e q)))) (μ0 := (va_up μ 54 (upd (μ 54) 10 (nI q)))) dX9_next_1 (c_X9_here (d - 1) ad (va_up μ 54 (upd (μ 54) 10 (nI q))) (q) e rfl he (by omega) he3) wd_917 wd_920 wd_54 hy_X9_here wd_919 wd_25 (by decide) ly_54 rfl rfl (by omega) (Nat.le_of_ble_eq_true rfl) (Nat.le_of_ble_eq_true rfl) (Nat.le_refl 0) (Nat.le_refl 0) ?_
        refine vx_eq (μ2 := (va_up μ 54 (upd (μ 54) 10 (nI q)))) (ls2 := [(0, vx_r 54)]) (st2 := [.inl (sp_ba (μ 55) e q)]) rfl rfl rfl ?_
        refine vx_bipush (v := 10) dX9_next_4 (by decide) ?_
        refine vx_icmp_eq (tgt := 18) dX9_next_6 (by decide) (fun c_6_1 => ?_) (fun c_6_1 => ?_)
        · have hlt := sp_ba_lt c_6_1 (by decide)
          refine vx_aload_n dX9_next_18 rfl ?_
          refine vx_dup dX9_next_19 ?_
          refine vx_getI (ci := 9) (T := TX9) (n := 56) (j := 10) (a := 54) (v := (nI q)) dX9_next_20 rfl lay_X9 (by decide) wd_746 (by decide) ly_54 rfl rfl ?_
          refine vx_iconst (v := 1) dX9_next_23 (by decide) ?_
          refine vx_iadd dX9_next_24 ?_
          refine vx_eq (st2 := [.inl (nI (q + 1)), vx_r 54]) rfl rfl (by rw [nI_1]) ?_
          refine vx_putI (ci := 9) (T := TX9) (n := 56) (j := 10) (a := 54) (ty := .int) (μ2 := (va_up μ 54 (upd (μ 54) 10 (nI (q + 1))))) dX9_next_25 rfl lay_X9 tyX9_ok nmX9 (by decide) wd_746 rfl rfl rfl rfl (by decide) ly_54 rfl ((congrArg (fun z_ => va_up (va_up μ 54 (upd (μ 54) 10 (nI q))) 54 z_) (sp_uu (f := (μ 54)) (k := 10))).trans vx_m1) ?_
          refine vx_goto (tgt := 0) dX9_next_28 (by decide) ?_
          exact ih (q + 1) (by omega) (by omega) (hr.trans (sp_run_s hlt.1 (by rw [hlt.2]; decide)))
        · refine vx_aload_n dX9_next_9 rfl ?_
          refine vx_callV (b := 54) (vs := []) (st := []) (r0 := (some (.inl (sp_ba (μ 55) e q)))) (μ0 := (va_up μ 54 (upd (μ 54) 10 (nI q)))) dX9_next_10 (c_X9_here (d - 1) ad (va_up μ 54 (upd (μ 54) 10 (nI q))) (q) e rfl he (by omega) he3) wd_917 wd_920 wd_54 hy_X9_here wd_919 wd_25 (by decide) ly_54 rfl rfl (by omega) (Nat.le_of_ble_eq_true rfl) (Nat.le_of_ble_eq_true rfl) (Nat.le_refl 0) (Nat.le_refl 0) ?_
          refine vx_eq (μ2 := (va_up μ 54 (upd (μ 54) 10 (nI q)))) (ls2 := [(0, vx_r 54)]) (st2 := [.inl (sp_ba (μ 55) e q)]) rfl rfl rfl ?_
          refine vx_bipush (v := 32) dX9_next_13 (by decide) ?_
          refine vx_icmp_ne (tgt := 31) dX9_next_15 (by decide) (fun c_15_1 => ?_) (fun c_15_1 => ?_)
          · refine vx_aload_n dX9_next_31 rfl ?_
            refine vx_aload_n dX9_next_32 rfl ?_
            refine vx_getI (ci := 9) (T := TX9) (n := 56) (j := 10) (a := 54) (v := (nI q)) dX9_next_33 rfl lay_X9 (by decide) wd_746 (by decide) ly_54 rfl rfl ?_
            refine vx_putI (ci := 9) (T := TX9) (n := 56) (j := 11) (a := 54) (ty := .int) (μ2 := (va_up μ 54 (upd (upd (μ 54) 10 (nI q)) 11 (nI q)))) dX9_next_36 rfl lay_X9 tyX9_ok nmX9 (by decide) wd_747 rfl rfl rfl rfl (by decide) ly_54 rfl vx_m1 ?_
            have hend : ¬ (q < e ∧ sp_bl (μ 55 q) = true) := by
              rintro ⟨a1, a2⟩
              have hb : sp_ba (μ 55) e q = μ 55 q := if_pos a1
              rw [hb] at c_6_1 c_15_1
              simp [sp_bl, c_6_1, c_15_1] at a2
            rw [hr, sp_run_e hend] at hP
            exact mo_nt hd he he3 hqe hby hP hend
          · have hlt := sp_ba_lt c_15_1 (by decide)
            refine vx_aload_n dX9_next_18 rfl ?_
            refine vx_dup dX9_next_19 ?_
            refine vx_getI (ci := 9) (T := TX9) (n := 56) (j := 10) (a := 54) (v := (nI q)) dX9_next_20 rfl lay_X9 (by decide) wd_746 (by decide) ly_54 rfl rfl ?_
            refine vx_iconst (v := 1) dX9_next_23 (by decide) ?_
            refine vx_iadd dX9_next_24 ?_
            refine vx_eq (st2 := [.inl (nI (q + 1)), vx_r 54]) rfl rfl (by rw [nI_1]) ?_
            refine vx_putI (ci := 9) (T := TX9) (n := 56) (j := 10) (a := 54) (ty := .int) (μ2 := (va_up μ 54 (upd (μ 54) 10 (nI (q + 1))))) dX9_next_25 rfl lay_X9 tyX9_ok nmX9 (by decide) wd_746 rfl rfl rfl rfl (by decide) ly_54 rfl ((congrArg (fun z_ => va_up (va_up μ 54 (upd (μ 54) 10 (nI q))) 54 z_) (sp_uu (f := (μ 54)) (k := 10))).trans vx_m1) ?_
            refine vx_goto (tgt := 0) dX9_next_28 (by decide) ?_
            exact ih (q + 1) (by omega) (by omega) (hr.trans (sp_run_s hlt.1 (by rw [hlt.2]; decide)))
    refine vx_eq (μ2 := (va_up μ 54 (upd (μ 54) 10 (nI p)))) (by rw [sp_ups hp, vx_up_id]) rfl rfl ?_
    exact loop e p (by omega) hpe rfl
  exact vx_J.M pn_X9_next (Nat.le_of_ble_eq_true rfl) (key _ _ ⟨rfl, rfl, rfl, rfl, rfl⟩)
end
