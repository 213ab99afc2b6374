section
set_option maxRecDepth 20000 in
set_option maxHeartbeats 2000000 in
theorem c_X9_line (d : Nat) (hd : 7 ≤ d) (ad : Nat → Nat) (μ : vx_mem) (q e : Nat) (told : Nat → Int32) (K0 : Int32) (hqe : q < e) (he : μ 54 9 = nI e) (he3 : e ≤ 300) (hby : ∀ j, j < e → ¬ μ 55 j = -1) (hat : μ 54 10 = nI (mo_nx (μ 55) e q K0).1) (hpl : μ 54 11 = nI q) (hso : μ 54 12 = (mo_nx (μ 55) e q K0).2.1) (hva : μ 54 13 = (mo_nx (μ 55) e q K0).2.2) (hf : μ 54 14 = 0) (hT : mo_TB (μ 54 7) told) (hC : mo_CU (μ 56) told) (hle : ∀ k, k < 6 → μ 58 k = (vx_sv 1).getD k 0) (hmo : ∀ k, k < 6 → μ 59 k = (vx_sv 2).getD k 0) :
    ∃ G C, vx_Mf yX9_line cX9_line 2 none d ad 82 vx_lay μ [vx_r 54] none (va_up (va_up μ 54 G) 56 C) ∧ mo_sc (μ 54) G ∧ (∀ j, j < 6 → C j = μ 56 j) ∧ (¬ (sp_ln (μ 55) e told q).1 = 0 → G 14 = (sp_ln (μ 55) e told q).1 ∧ G 15 = nI (sp_ln (μ 55) e told q).2.1) ∧
      ((sp_ln (μ 55) e told q).1 = 0 → G 14 = 0 ∧ G 15 = μ 54 15 ∧ G 8 = μ 54 8 + 1 ∧ mo_TB (G 7) (sp_ln (μ 55) e told q).2.2 ∧ mo_CU C (sp_ln (μ 55) e told q).2.2 ∧ ∃ K1, G 10 = nI (mo_nx (μ 55) e (sp_run sp_bl (μ 55) e (sp_ln (μ 55) e told q).2.1) K1).1 ∧ G 11 = nI (sp_run sp_bl (μ 55) e (sp_ln (μ 55) e told q).2.1) ∧ G 12 = (mo_nx (μ 55) e (sp_run sp_bl (μ 55) e (sp_ln (μ 55) e told q).2.1) K1).2.1 ∧ G 13 = (mo_nx (μ 55) e (sp_run sp_bl (μ 55) e (sp_ln (μ 55) e told q).2.1) K1).2.2) := by
  have bq := mo_nx_b (t := μ 55) (K := K0) (Nat.le_of_lt hqe)
  by_cases hS : (mo_nx (μ 55) e q K0).2.1 = 0
  · obtain ⟨_, w1, w2, w3⟩ := mo_nx_w hS
    obtain ⟨k, hk, ek⟩ := (sp_kind_in (μ 55) q (sp_run (sp_inB 97 122) (μ 55) e q)).resolve_left w3
    have hK : μ 54 13 = nI k := hva.trans (w2.trans ek)
    have hcl : (sp_kind (μ 55) q (sp_run (sp_inB 97 122) (μ 55) e q)).toNatClampNeg = k := by rw [ek]; exact nI_clamp (by omega)
    have hT1 := hT k hk
    by_cases hb : told k = -1
    · rw [hb] at hT1
      generalize ea : (mo_nx (μ 55) e q K0).1 = a at hat w1 bq
      generalize hq2 : sp_run sp_bl (μ 55) e a = q2
      have b2 := sp_run_b (P := sp_bl) (t := μ 55) bq.2
      rw [hq2] at b2
      rcases hn2 : mo_nx (μ 55) e q2 (μ 54 13) with ⟨a2, S2, K2⟩
      have e2 : sp_run sp_bl (μ 55) e (sp_run (sp_inB 97 122) (μ 55) e q) = q2 := by rw [← w1]; exact hq2
      by_cases hS2 : S2 = 1
      · subst hS2
        obtain ⟨_, n1, n2, n3⟩ := mo_nx_n (t := μ 55) (e := e) (q := q2) (K := μ 54 13) (by rw [hn2])
        rw [hn2] at n1 n2
        dsimp only at n1 n2
        have b3 := sp_run_b (P := sp_inB 48 57) (t := μ 55) b2.2
        rw [← n1] at b3
        obtain ⟨r1, r2⟩ := mo_range (t := μ 55) (e := e) (q := q2) hk
        rw [← n2] at r1 r2
        by_cases hD : K2 < (vx_sv 1).getD k 0 ∨ (vx_sv 2).getD k 0 < K2
        · have eL : (sp_ln (μ 55) e told q) = (2, q2, told) := by
            unfold sp_ln; rw [if_neg w3, hcl, if_neg (fun h => h hb), e2, if_neg n3, if_pos (r1.mpr hD)]
          refine ⟨(upd (upd (upd (upd (upd (upd (upd (μ 54) 7 ((μ 54 7) ||| (1 <<< ((nI k) &&& 31)))) 10 (nI a2)) 11 (nI q2)) 12 1) 13 K2) 14 2) 15 (nI q2)), (μ 56), (mo_lineD d hd ad μ hf k hk (hso.trans hS) hK (by rw [hT1]; rfl) e he he3 hby a q2 a2 hat bq.2 hq2 K2 hn2 b3.2 hle hmo hD).to rfl (vx_up_id _ 56).symm, fun j hj => by repeat rw [pk_un (by omega)], fun _ _ => rfl, ?_, ?_⟩
          · intro _; rw [eL]; exact ⟨rfl, rfl⟩
          · intro h; rw [eL] at h; exact absurd (show (2 : Int32) = 0 from h) (by decide)
        · obtain ⟨r3, r4⟩ := r2 hD
          generalize hq3 : sp_run sp_bl (μ 55) e a2 = q3
          have b4 := sp_run_b (P := sp_bl) (t := μ 55) b3.2
          rw [hq3] at b4
          have e3 : sp_run sp_bl (μ 55) e (sp_run (sp_inB 48 57) (μ 55) e q2) = q3 := by rw [← n1]; exact hq3
          rcases hn3 : mo_nx (μ 55) e q3 K2 with ⟨a3, S3, K3⟩
          by_cases hS3 : S3 = 2
          · subst hS3
            obtain ⟨s1, s2, s3⟩ := mo_nx_s (t := μ 55) (e := e) (q := q3) (K := K2) (by rw [hn3])
            rw [hn3] at s2
            dsimp only at s2
            subst s2
            have eL : (sp_ln (μ 55) e told q) = (0, q3 + 1, upd told k K2) := by
              unfold sp_ln; rw [if_neg w3, hcl, if_neg (fun h => h hb), e2, if_neg n3, if_neg (fun h => hD (r1.mp h)), e3, if_neg (fun h => h s1), r3]
            generalize hq4 : sp_run sp_bl (μ 55) e (q3 + 1) = q4
            rcases hn4 : mo_nx (μ 55) e q4 K3 with ⟨a4, S4, K4⟩
            refine ⟨(upd (upd (upd (upd (upd (upd (upd (upd (upd (upd (upd (upd (upd (upd (μ 54) 7 ((μ 54 7) ||| (1 <<< ((nI k) &&& 31)))) 10 (nI a2)) 11 (nI q2)) 12 1) 13 K2) 10 (nI (q3 + 1))) 11 (nI q3)) 12 2) 13 K3) 8 (μ 54 8 + 1)) 10 (nI a4)) 11 (nI q4)) 12 S4) 13 K4), (upd (μ 56) (6 + k) K2), mo_lineF d hd ad μ hf k hk (hso.trans hS) hK (by rw [hT1]; rfl) e he he3 hby a q2 a2 hat bq.2 hq2 K2 hn2 b3.2 hle hmo hD q3 (q3 + 1) K3 hq3 hn3 (by omega) q4 a4 S4 K4 hq4 hn4, fun j hj => by repeat rw [pk_un (by omega)], fun j hj => pk_un (by omega), ?_, ?_⟩
            · intro h; rw [eL] at h; exact absurd rfl h
            · intro _
              rw [eL]
              refine ⟨hf, rfl, rfl, mo_TB_up hk hT (r3 ▸ r4), mo_CU_up hk hC (r3 ▸ r4), K3, ?_⟩
              dsimp only
              rw [hq4, hn4]
              exact ⟨rfl, rfl, rfl, rfl⟩
          · have h3 : ¬ (mo_nx (μ 55) e q3 K2).2.1 = 2 := by rw [hn3]; exact hS3
            have eL : (sp_ln (μ 55) e told q) = (1, q3, told) := by
              unfold sp_ln; rw [if_neg w3, hcl, if_neg (fun h => h hb), e2, if_neg n3, if_neg (fun h => hD (r1.mp h)), e3, if_pos (mo_nx_ns h3)]
            refine ⟨(upd (upd (upd (upd (upd (upd (upd (upd (upd (upd (upd (μ 54) 7 ((μ 54 7) ||| (1 <<< ((nI k) &&& 31)))) 10 (nI a2)) 11 (nI q2)) 12 1) 13 K2) 10 (nI a3)) 11 (nI q3)) 12 S3) 13 K3) 14 1) 15 (nI q3)), (upd (μ 56) (6 + k) K2), (mo_lineE d hd ad μ hf k hk (hso.trans hS) hK (by rw [hT1]; rfl) e he he3 hby a q2 a2 hat bq.2 hq2 K2 hn2 b3.2 hle hmo hD q3 a3 K3 hq3 S3 hn3 hS3), fun j hj => by repeat rw [pk_un (by omega)], fun j hj => pk_un (by omega), ?_, ?_⟩
            · intro _; rw [eL]; exact ⟨rfl, rfl⟩
            · intro h; rw [eL] at h; exact absurd (show (1 : Int32) = 0 from h) (by decide)
      · have h2 : ¬ (mo_nx (μ 55) e q2 (μ 54 13)).2.1 = 1 := by rw [hn2]; exact hS2
        have eL : (sp_ln (μ 55) e told q) = (1, q2, told) := by
          unfold sp_ln; rw [if_neg w3, hcl, if_neg (fun h => h hb), e2, if_pos (mo_nx_nn h2)]
        refine ⟨(upd (upd (upd (upd (upd (upd (upd (μ 54) 7 ((μ 54 7) ||| (1 <<< ((nI k) &&& 31)))) 10 (nI a2)) 11 (nI q2)) 12 S2) 13 K2) 14 1) 15 (nI q2)), (μ 56), (mo_lineC d hd ad μ hf k hk (hso.trans hS) hK (by rw [hT1]; rfl) e he he3 hby a q2 a2 hat bq.2 hq2 S2 K2 hn2 hS2).to rfl (vx_up_id _ 56).symm, fun j hj => by repeat rw [pk_un (by omega)], fun _ _ => rfl, ?_, ?_⟩
        · intro _; rw [eL]; exact ⟨rfl, rfl⟩
        · intro h; rw [eL] at h; exact absurd (show (1 : Int32) = 0 from h) (by decide)
    · have eL : (sp_ln (μ 55) e told q) = (3, q, told) := by
        unfold sp_ln; rw [if_neg w3, hcl, if_pos hb]
      refine ⟨(upd (upd (μ 54) 14 3) 15 (μ 54 11)), (μ 56), (mo_lineB d hd ad μ hf k hk (hso.trans hS) hK (by rw [hT1, decide_eq_true hb])).to rfl (vx_up_id _ 56).symm, fun j hj => by repeat rw [pk_un (by omega)], fun _ _ => rfl, ?_, ?_⟩
      · intro _; rw [eL]; exact ⟨rfl, hpl⟩
      · intro h; rw [eL] at h; exact absurd (show (3 : Int32) = 0 from h) (by decide)
  · have eL : (sp_ln (μ 55) e told q) = (1, q, told) := by
      unfold sp_ln; rw [if_pos (mo_nx_nw hS)]
    refine ⟨(upd (upd (μ 54) 14 1) 15 (μ 54 11)), (μ 56), (mo_lineA d hd ad μ hf (fun h => hS (hso.symm.trans h))).to rfl (vx_up_id _ 56).symm, fun j hj => by repeat rw [pk_un (by omega)], fun _ _ => rfl, ?_, ?_⟩
    · intro _; rw [eL]; exact ⟨rfl, hpl⟩
    · intro h; rw [eL] at h; exact absurd (show (1 : Int32) = 0 from h) (by decide)
end
