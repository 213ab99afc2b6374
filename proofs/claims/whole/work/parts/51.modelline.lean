section
theorem mo_nx_b {t : Nat → Int32} {e q : Nat} {K : Int32} (h : q ≤ e) : q ≤ (mo_nx t e q K).1 ∧ (mo_nx t e q K).1 ≤ e := by
  have b1 := sp_run_b (P := sp_inB 97 122) (t := t) h
  have b2 := sp_run_b (P := sp_inB 48 57) (t := t) h
  unfold mo_nx
  split
  · exact ⟨Nat.le_refl _, h⟩
  · split
    · exact b1
    · split
      · exact b2
      · dsimp only; omega
theorem mo_isw0 {t : Nat → Int32} {q i : Nat} (hi : i < 6) : sp_isw t q q i = 0 := by
  unfold sp_isw
  rw [if_neg]
  intro h
  have h2 := h.1
  rw [Nat.sub_self] at h2
  revert h2
  have : ∀ i, i < 6 → ¬ 0 = vx_ll.getD i 0 := by decide
  exact this i hi
theorem mo_kind0 {t : Nat → Int32} {q : Nat} : sp_kind t q q = -1 := by
  unfold sp_kind
  rw [if_neg (fun h => h (mo_isw0 (by omega))), if_neg (fun h => h (mo_isw0 (by omega))), if_neg (fun h => h (mo_isw0 (by omega))), if_neg (fun h => h (mo_isw0 (by omega))), if_neg (fun h => h (mo_isw0 (by omega))), if_neg (fun h => h (mo_isw0 (by omega)))]
theorem mo_dig {x : Int32} (h : ¬ sp_in x 48 57 = 0) : sp_in x 97 122 = 0 := by
  rw [sp_in0] at h ⊢
  intro h2
  apply h
  intro h3
  have a := Int32.le_iff_toInt_le.mp h2.1
  have b := Int32.le_iff_toInt_le.mp h3.2
  have e1 : (97 : Int32).toInt = 97 := by decide
  have e2 : (57 : Int32).toInt = 57 := by decide
  omega
theorem mo_nx_w {t : Nat → Int32} {e q : Nat} {K : Int32} (h : (mo_nx t e q K).2.1 = 0) : q < e ∧ (mo_nx t e q K).1 = sp_run (sp_inB 97 122) t e q ∧ (mo_nx t e q K).2.2 = sp_kind t q (sp_run (sp_inB 97 122) t e q) ∧ ¬ sp_kind t q (sp_run (sp_inB 97 122) t e q) = -1 := by
  unfold mo_nx at h ⊢
  split at h
  · exact absurd (show (3 : Int32) = 0 from h) (by decide)
  · rename_i h1
    rw [if_neg h1]
    split at h
    · rename_i h2
      rw [if_pos h2]
      dsimp only at h ⊢
      split at h
      · exact absurd h (by decide)
      · rename_i h3
        exact ⟨Decidable.not_not.mp h1, rfl, rfl, h3⟩
    · split at h
      · exact absurd (show (1 : Int32) = 0 from h) (by decide)
      · dsimp only at h
        split at h
        · exact absurd h (by decide)
        · exact absurd h (by decide)
theorem mo_nx_nw {t : Nat → Int32} {e q : Nat} {K : Int32} (h : ¬ (mo_nx t e q K).2.1 = 0) : sp_kind t q (sp_run (sp_inB 97 122) t e q) = -1 := by
  by_cases h1 : q < e ∧ sp_inB 97 122 (t q) = true
  · have h2 : ¬ sp_in (t q) 97 122 = 0 := by have := h1.2; unfold sp_inB at this; exact of_decide_eq_true this
    unfold mo_nx at h
    rw [if_neg (fun z => z h1.1), if_pos h2] at h
    dsimp only at h
    by_cases h3 : sp_kind t q (sp_run (sp_inB 97 122) t e q) = -1
    · exact h3
    · rw [if_neg h3] at h
      exact absurd rfl h
  · rw [sp_run_e h1]
    exact mo_kind0
theorem mo_nx_n {t : Nat → Int32} {e q : Nat} {K : Int32} (h : (mo_nx t e q K).2.1 = 1) : q < e ∧ (mo_nx t e q K).1 = sp_run (sp_inB 48 57) t e q ∧ (mo_nx t e q K).2.2 = mo_num t q (sp_run (sp_inB 48 57) t e q - q) ∧ ¬ sp_run (sp_inB 48 57) t e q = q := by
  unfold mo_nx at h ⊢
  split at h
  · exact absurd (show (3 : Int32) = 1 from h) (by decide)
  · rename_i h1
    rw [if_neg h1]
    split at h
    · dsimp only at h
      split at h
      · exact absurd h (by decide)
      · exact absurd h (by decide)
    · rename_i h2
      rw [if_neg h2]
      split at h
      · rename_i h3
        rw [if_pos h3]
        have hq := Decidable.not_not.mp h1
        refine ⟨hq, rfl, rfl, ?_⟩
        rw [sp_run_s hq (by unfold sp_inB; exact decide_eq_true h3)]
        have := (sp_run_b (P := sp_inB 48 57) (t := t) (e := e) (p := q + 1) (by omega)).1
        omega
      · dsimp only at h
        split at h
        · exact absurd h (by decide)
        · exact absurd h (by decide)
theorem mo_nx_nn {t : Nat → Int32} {e q : Nat} {K : Int32} (h : ¬ (mo_nx t e q K).2.1 = 1) : sp_run (sp_inB 48 57) t e q = q := by
  apply sp_run_e
  rintro ⟨h1, h2⟩
  unfold sp_inB at h2
  have h3 := of_decide_eq_true h2
  apply h
  unfold mo_nx
  rw [if_neg (fun z => z h1), if_neg (fun z => z (mo_dig h3)), if_pos h3]
theorem mo_nx_s {t : Nat → Int32} {e q : Nat} {K : Int32} (h : (mo_nx t e q K).2.1 = 2) : sp_ba t e q = 59 ∧ (mo_nx t e q K).1 = q + 1 ∧ q < e := by
  unfold mo_nx at h ⊢
  split at h
  · exact absurd (show (3 : Int32) = 2 from h) (by decide)
  · rename_i h1
    rw [if_neg h1]
    split at h
    · dsimp only at h
      split at h
      · exact absurd h (by decide)
      · exact absurd h (by decide)
    · rename_i h2
      rw [if_neg h2]
      split at h
      · exact absurd (show (1 : Int32) = 2 from h) (by decide)
      · rename_i h3
        rw [if_neg h3]
        dsimp only at h
        split at h
        · rename_i h4
          have hq := Decidable.not_not.mp h1
          refine ⟨?_, rfl, hq⟩
          unfold sp_ba
          rw [if_pos hq, h4]
        · exact absurd h (by decide)
theorem mo_nx_ns {t : Nat → Int32} {e q : Nat} {K : Int32} (h : ¬ (mo_nx t e q K).2.1 = 2) : ¬ sp_ba t e q = 59 := by
  intro h1
  have h2 := sp_ba_lt h1 (by decide)
  apply h
  unfold mo_nx
  rw [if_neg (fun z => z h2.1), h2.2, if_neg (by decide), if_neg (by decide), if_pos rfl]
theorem mo_nx_e {t : Nat → Int32} {e q : Nat} {K : Int32} : (mo_nx t e q K).2.1 = 3 ↔ ¬ q < e := by
  unfold mo_nx
  constructor
  · intro h
    split at h
    · assumption
    · split at h
      · dsimp only at h
        split at h
        · exact absurd h (by decide)
        · exact absurd h (by decide)
      · split at h
        · exact absurd (show (1 : Int32) = 3 from h) (by decide)
        · dsimp only at h
          split at h
          · exact absurd h (by decide)
          · exact absurd h (by decide)
  · intro h
    rw [if_pos h]
theorem mo_run_all {Q : Int32 → Bool} {t : Nat → Int32} {e : Nat} : ∀ (r p : Nat), e - p ≤ r → ∀ i, p ≤ i → i < sp_run Q t e p → Q (t i) = true := by
  intro r
  induction r with
  | zero =>
    intro p h i h1 h2
    rw [sp_run_e (fun z => by omega)] at h2
    omega
  | succ r ih =>
    intro p h i h1 h2
    by_cases hp : p < e ∧ Q (t p) = true
    · by_cases e1 : i = p
      · rw [e1]; exact hp.2
      · rw [sp_run_s hp.1 hp.2] at h2
        exact ih (p + 1) (by omega) i (by omega) h2
    · rw [sp_run_e hp] at h2
      omega
theorem mo_digN {x : Int32} (h : sp_inB 48 57 x = true) : ∃ dg, dg ≤ 9 ∧ x = nI (48 + dg) := by
  unfold sp_inB at h
  have h3 := of_decide_eq_true h
  rw [sp_in0] at h3
  have h4 := Decidable.not_not.mp h3
  obtain ⟨j, hj, rfl⟩ := nI_of (x := x) (by
    intro z
    have a := Int32.le_iff_toInt_le.mp h4.1
    have b := Int32.lt_iff_toInt_lt.mp z
    have e1 : (48 : Int32).toInt = 48 := by decide
    have e2 : (0 : Int32).toInt = 0 := by decide
    omega)
  have a : 48 ≤ j := (nI_leI (by omega) hj).mp h4.1
  have b : j ≤ 57 := (nI_leI hj (by omega)).mp h4.2
  exact ⟨j - 48, by omega, by rw [show 48 + (j - 48) = j by omega]⟩
theorem mo_numN {t : Nat → Int32} {q : Nat} : ∀ k, (∀ i, i < k → sp_inB 48 57 (t (q + i)) = true) → ∃ u, u ≤ 99999 ∧ mo_num t q k = nI u ∧ sp_numC t q k = nI (min u 1000) := by
  intro k
  induction k with
  | zero => intro _; exact ⟨0, by omega, rfl, rfl⟩
  | succ k ih =>
    intro h
    obtain ⟨u, hu, e1, e2⟩ := ih (fun i hi => h i (by omega))
    obtain ⟨dg, hd, e3⟩ := mo_digN (h k (by omega))
    have en : sp_numC t q (k + 1) = nI (min (min u 1000 * 10 + dg) 1000) := by
      show sp_min (sp_numC t q k * 10 + t (q + k) - 48) 1000 = _
      rw [e2, e3]
      have e4 : nI (min u 1000) * 10 + nI (48 + dg) - 48 = nI (min u 1000 * 10 + dg) := by
        show nI (min u 1000) * nI 10 + nI (48 + dg) - nI 48 = _
        rw [pk_mul, nI_add, pk_sub (by omega)]
        congr 1
        omega
      rw [e4]
      unfold sp_min
      show (if nI 1000 < nI (min u 1000 * 10 + dg) then nI 1000 else _) = _
      split
      · rename_i h9
        rw [nI_ltI (by omega) (by omega)] at h9
        congr 1; omega
      · rename_i h9
        rw [nI_ltI (by omega) (by omega)] at h9
        congr 1; omega
    by_cases hle : u ≤ 9999
    · refine ⟨10 * u + dg, by omega, ?_, ?_⟩
      · show (if mo_num t q k ≤ 9999 then 10 * mo_num t q k + t (q + k) - 48 else mo_num t q k) = _
        rw [e1, e3, if_pos (show nI u ≤ 9999 from nI_le (b := 9999) hle (by omega))]
        show nI 10 * nI u + nI (48 + dg) - nI 48 = _
        rw [pk_mul, nI_add, pk_sub (by omega)]
        congr 1
        omega
      · rw [en]
        congr 1
        omega
    · refine ⟨u, hu, ?_, ?_⟩
      · show (if mo_num t q k ≤ 9999 then 10 * mo_num t q k + t (q + k) - 48 else mo_num t q k) = _
        rw [e1, if_neg (show ¬ nI u ≤ 9999 from nI_ge (b := u) (a := 9999) (by omega) (by omega))]
      · rw [en]
        congr 1
        omega
/-- in range: the model's number and the class's say the same -/
theorem mo_range {t : Nat → Int32} {e q k : Nat} (hk : k < 6) :
    (sp_in (sp_numC t q (sp_run (sp_inB 48 57) t e q - q)) ((vx_sv 1).getD k 0) ((vx_sv 2).getD k 0) = 0 ↔ (mo_num t q (sp_run (sp_inB 48 57) t e q - q) < (vx_sv 1).getD k 0 ∨ (vx_sv 2).getD k 0 < mo_num t q (sp_run (sp_inB 48 57) t e q - q))) ∧
    (¬ (mo_num t q (sp_run (sp_inB 48 57) t e q - q) < (vx_sv 1).getD k 0 ∨ (vx_sv 2).getD k 0 < mo_num t q (sp_run (sp_inB 48 57) t e q - q)) → mo_num t q (sp_run (sp_inB 48 57) t e q - q) = sp_numC t q (sp_run (sp_inB 48 57) t e q - q) ∧ ¬ sp_numC t q (sp_run (sp_inB 48 57) t e q - q) = -1) := by
  obtain ⟨u, hu, e1, e2⟩ := mo_numN (t := t) (q := q) (sp_run (sp_inB 48 57) t e q - q) (fun i hi => mo_run_all (e - q) q (Nat.le_refl _) (q + i) (by omega) (by omega))
  rw [e1, e2]
  obtain ⟨a, b, ha, hb, hb9⟩ : ∃ a b : Nat, (vx_sv 1).getD k 0 = nI a ∧ (vx_sv 2).getD k 0 = nI b ∧ b ≤ 99 ∧ a ≤ 99 := by
    have : ∀ k, k < 6 → (vx_sv 1).getD k 0 = nI ([1, 1, 1, 0, 1, 0].getD k 0) ∧ (vx_sv 2).getD k 0 = nI ([20, 99, 50, 99, 7, 10].getD k 0) ∧ [20, 99, 50, 99, 7, 10].getD k 0 ≤ 99 ∧ [1, 1, 1, 0, 1, 0].getD k 0 ≤ 99 := by decide +kernel
    exact ⟨_, _, this k hk⟩
  rw [ha, hb]
  unfold sp_in
  have q1 : nI (min u 1000) < nI a ↔ min u 1000 < a := nI_ltI (by omega) (by omega)
  have q2 : nI b < nI (min u 1000) ↔ b < min u 1000 := nI_ltI (by omega) (by omega)
  have q3 : nI u < nI a ↔ u < a := nI_ltI (by omega) (by omega)
  have q4 : nI b < nI u ↔ b < u := nI_ltI (by omega) (by omega)
  rw [q3, q4]
  constructor
  · constructor
    · intro h
      split at h
      · rename_i h9; rw [q1] at h9; omega
      · split at h
        · rename_i h9; rw [q2] at h9; omega
        · exact absurd h (by decide)
    · intro h
      split
      · rfl
      · rename_i h9
        rw [q1] at h9
        split
        · rfl
        · rename_i h8; rw [q2] at h8; omega
  · intro h
    have : min u 1000 = u := by omega
    rw [this]
    exact ⟨rfl, fun z => absurd (z ▸ nI_pos' (n := u) (by omega) : (0 : Int32) ≤ -1) (by decide)⟩
/-- what lies outside the reader's own fields -/
def mo_sc (F G : Nat → Int32) : Prop := ∀ j, j < 7 ∨ j = 9 ∨ 16 ≤ j → G j = F j
def mo_TB (T : Int32) (told : Nat → Int32) : Prop := ∀ k, k < 6 → bt T k = decide (¬ told k = -1)
def mo_CU (C told : Nat → Int32) : Prop := ∀ k, k < 6 → C (6 + k) = (if told k = -1 then (vx_sv 0).getD k 0 else told k)
theorem mo_TB_up {T : Int32} {told : Nat → Int32} {k : Nat} {x : Int32} (hk : k < 6) (h : mo_TB T told) (hx : ¬ x = -1) : mo_TB (T ||| (1 <<< (nI k &&& 31))) (upd told k x) := by
  intro j hj
  rw [mb_or T (by omega) (by omega), h j hj]
  unfold upd
  by_cases e : j = k
  · simp [e, hx]
  · simp [e]
theorem mo_CU_up {C told : Nat → Int32} {k : Nat} {x : Int32} (hk : k < 6) (h : mo_CU C told) (hx : ¬ x = -1) : mo_CU (upd C (6 + k) x) (upd told k x) := by
  intro j hj
  by_cases e : j = k
  · subst e
    rw [pk_us, pk_us, if_neg hx]
  · rw [pk_un (by omega), pk_un e]
    exact h j hj

set_option maxRecDepth 20000 in
set_option maxHeartbeats 2000000 in
theorem c_X9_wrong (d : Nat) (ad : Nat → Nat) (μ : vx_mem) (hf : μ 54 14 = 0) (a : Int32) : vx_Mf yX9_wrong cX9_wrong 2 none d ad 82 vx_lay μ [vx_r 54, .inl a] none (va_up μ 54 (upd (upd (μ 54) 14 a) 15 (μ 54 11))) := by
  have key : ∀ (Post : vx_P) (ini : Bool), Post none ad 82 vx_lay (va_up μ 54 (upd (upd (μ 54) 14 a) 15 (μ 54 11))) → vx_J RX9 cX9_wrong 2 none ini d 0 0 Post ad 0 0 82 vx_lay μ 0 [(0, vx_r 54), (1, .inl a)] [] := by
    intro Post ini hP
    refine vx_aload_n dX9_wrong_0 rfl ?_
    refine vx_getI (ci := 9) (T := TX9) (n := 56) (j := 14) (a := 54) (v := 0) dX9_wrong_1 rfl lay_X9 (by decide) wd_750 (by decide) ly_54 rfl hf ?_
    refine vx_if_eq (tgt := 8) dX9_wrong_4 (by decide) (fun _ => ?_) (fun h => absurd h (by decide))
    refine vx_aload_n dX9_wrong_8 rfl ?_
    refine vx_iload_n dX9_wrong_9 rfl ?_
    refine vx_putI (ci := 9) (T := TX9) (n := 56) (j := 14) (a := 54) (ty := .int) (μ2 := (va_up μ 54 (upd (μ 54) 14 a))) dX9_wrong_10 rfl lay_X9 tyX9_ok nmX9 (by decide) wd_750 rfl rfl rfl rfl (by decide) ly_54 rfl rfl ?_
    refine vx_aload_n dX9_wrong_13 rfl ?_
    refine vx_aload_n dX9_wrong_14 rfl ?_
    refine vx_getI (ci := 9) (T := TX9) (n := 56) (j := 11) (a := 54) (v := (μ 54 11)) dX9_wrong_15 rfl lay_X9 (by decide) wd_747 (by decide) ly_54 rfl rfl ?_
    refine vx_putI (ci := 9) (T := TX9) (n := 56) (j := 15) (a := 54) (ty := .int) (μ2 := (va_up μ 54 (upd (upd (μ 54) 14 a) 15 (μ 54 11)))) dX9_wrong_18 rfl lay_X9 tyX9_ok nmX9 (by decide) wd_751 rfl rfl rfl rfl (by decide) ly_54 rfl vx_m1 ?_
    exact vx_vret dX9_wrong_21 rfl (Nat.le_refl 0) (Nat.le_refl 0) (vx_pst hP rfl rfl)
  exact vx_J.M pn_X9_wrong (Nat.le_of_ble_eq_true rfl) (key _ _ ⟨rfl, rfl, rfl, rfl, rfl⟩)
theorem mo_next (d : Nat) (hd : 6 ≤ d) (ad : Nat → Nat) (μ : vx_mem) (p e : Nat) (hp : μ 54 10 = nI p) (he : μ 54 9 = nI e) (hpe : p ≤ e) (he3 : e ≤ 300) (hby : ∀ j, j < e → ¬ μ 55 j = -1) {q a : Nat} {S K : Int32} (hq : sp_run sp_bl (μ 55) e p = q) (hn : mo_nx (μ 55) e q (μ 54 13) = (a, S, K)) : vx_Mf yX9_next cX9_next 2 none d ad 82 vx_lay μ [vx_r 54] none (va_up μ 54 (mo_tk (μ 54) a q S K)) := by
  have h := c_X9_next d hd ad μ p e hp he hpe he3 hby
  rw [hq, hn] at h
  exact h

end
