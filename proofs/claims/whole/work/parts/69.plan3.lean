section
variable {len n dy pl sa wy L sp : Nat} {μc μm μc' μm' : vx_mem}
theorem rl_wh {P : sr_P} {ω0 : Nat → Bool} {c : Nat} {fo : Nat → Nat} {FD : vx_mem} (hcl : sr_cl P ω0 c fo FD) {o : List Nat} {g p d : Nat} (hbs : ∀ k, k < g → sp_bs FD k = o.getD k 0) (hos : ∀ k, k < g → o.getD k 0 < 8 ∧ ω0 (o.getD k 0) = true) (hne : ∀ k, k < g → ¬ P.1 (sr_pk p o k) (o.getD k 0) = 0) (hp8 : p < 8) (hg7 : g ≤ 7) (hd : d ≤ 1000) :
    (∀ k, k ≤ g → sp_wh FD p (nI d) k = nI (sr_wh P p d o k) ∧ sr_wh P p d o k ≤ 1000 + 409 * k ∧ sp_pk FD p k = sr_pk p o k ∧ sr_pk p o k < 8) ∧ ∀ k, k < g → sp_ar FD p (nI d) k = nI (sr_ar P p d o k) ∧ sp_beg FD (sp_bs FD k) (sp_ar FD p (nI d) k) = nI (sr_be P p d o k) ∧ sp_los FD (sp_bs FD k) (sp_wh FD p (nI d) (k + 1)) = nI (sr_lo P p d o k) := by
  have st : ∀ k, k < g → sp_wh FD p (nI d) k = nI (sr_wh P p d o k) → sr_wh P p d o k ≤ 1000 + 409 * k → sp_pk FD p k = sr_pk p o k → sr_pk p o k < 8 → sp_ar FD p (nI d) k = nI (sr_ar P p d o k) ∧ sp_beg FD (sp_bs FD k) (sp_ar FD p (nI d) k) = nI (sr_be P p d o k) ∧ sp_wh FD p (nI d) (k + 1) = nI (sr_wh P p d o (k + 1)) ∧ sr_wh P p d o (k + 1) ≤ 1000 + 409 * (k + 1) ∧ sp_los FD (sp_bs FD k) (sp_wh FD p (nI d) (k + 1)) = nI (sr_lo P p d o k) := by
    intro k hk h1 h2 h3 h4
    obtain ⟨h5, h6⟩ := hos k hk
    have h7 := hne k hk
    have hb := hbs k hk
    obtain ⟨x1, x2⟩ := hcl.1 (sr_pk p o k) (o.getD k 0) h4 h5 h6
    obtain ⟨y1, y2, y3, y4, y5, y6⟩ := hcl.2.1 (o.getD k 0) h5 h6
    obtain ⟨z1, z2⟩ := hcl.2.2.1
    have ear : sp_ar FD p (nI d) k = nI (sr_ar P p d o k) := by
      unfold sp_ar sr_ar
      rw [h1, h3, hb, x1, sr_add1, nI_add, show (1 : Int32) = nI 1 from rfl, pk_sub (by omega)]
    have har : sr_ar P p d o k ≤ 1000 + 409 * k + 9 := by
      unfold sr_ar
      omega
    have ebe : sp_beg FD (sp_bs FD k) (sp_ar FD p (nI d) k) = nI (sr_be P p d o k) := by
      rw [hb, ear]
      unfold sp_beg sr_be
      rw [y1, sr_max (by omega) (by omega)]
    have hbe : sr_be P p d o k ≤ 1000 + 409 * k + 109 := by
      unfold sr_be
      omega
    have ewd : sr_wh P p d o (k + 1) = sr_be P p d o k + P.2.2.2.1 (o.getD k 0) := rfl
    have ewh : sp_wh FD p (nI d) (k + 1) = nI (sr_wh P p d o (k + 1)) := by
      show sp_beg FD (sp_bs FD k) (sp_ar FD p (nI d) k) + FD 40 (sp_bs FD k) = _
      rw [ebe, hb, y5, nI_add, ewd]
    have hwh : sr_wh P p d o (k + 1) ≤ 1000 + 409 * (k + 1) := by omega
    refine ⟨ear, ebe, ewh, hwh, ?_⟩
    have hmm : P.2.2.2.2 * (sr_wh P p d o (k + 1) - P.2.2.1 (o.getD k 0) - 1) ≤ 99 * 5000 := Nat.mul_le_mul z2 (by omega)
    rw [ewh, hb]
    unfold sp_los sr_lo
    rw [y3, z1, (sr_pos (by omega) (by omega)).1, pk_mul]
  have all : ∀ k, k ≤ g → sp_wh FD p (nI d) k = nI (sr_wh P p d o k) ∧ sr_wh P p d o k ≤ 1000 + 409 * k ∧ sp_pk FD p k = sr_pk p o k ∧ sr_pk p o k < 8 := by
    intro k
    induction k with
    | zero => intro _; exact ⟨rfl, hd, rfl, hp8⟩
    | succ k ih =>
      intro hk
      obtain ⟨i1, i2, i3, i4⟩ := ih (by omega)
      obtain ⟨_, _, s3, s4, _⟩ := st k (by omega) i1 i2 i3 i4
      exact ⟨s3, s4, hbs k (by omega), (hos k (by omega)).1⟩
  refine ⟨all, fun k hk => ?_⟩
  obtain ⟨i1, i2, i3, i4⟩ := all k (by omega)
  obtain ⟨s1, s2, _, _, s5⟩ := st k hk i1 i2 i3 i4
  exact ⟨s1, s2, s5⟩
theorem sp_FD_o {n fi p : Nat} (h : p < 38 ∨ 46 < p) : sp_FD μc n pl fi p = μc p := by
  unfold sp_FD
  rw [sp_fr_fnd.1 p (by omega) (by omega) (by omega) (by omega), sp_prp_o (by omega)]
theorem rl_scr2 (h : rlp len n dy pl sa wy L sp μc μm) (hc : ∀ p, p < 54 → p < 38 ∨ 46 < p → μc' p = μc p) (hm : mo_scr μm μm') : rlp len n dy pl sa wy L sp μc' μm' := by
  obtain ⟨hA, hB, hC, hD, hE, hF⟩ := h
  obtain ⟨m1, m2⟩ := hm
  exact ⟨rlA_c hA (by rw [hc 1 (by omega) (by omega)]) (hc 2 (by omega) (by omega)) (m2 2 (by omega)) (m1 55 (by omega) (by omega) (by omega) (by omega) (by omega)), rlB_c hB (hc 4 (by omega) (by omega)) (by rw [hc 3 (by omega) (by omega)]) (by rw [hc 3 (by omega) (by omega)]) (m1 56 (by omega) (by omega) (by omega) (by omega) (by omega)) (m1 57 (by omega) (by omega) (by omega) (by omega) (by omega)) (m1 58 (by omega) (by omega) (by omega) (by omega) (by omega)) (m1 59 (by omega) (by omega) (by omega) (by omega) (by omega)) (m2 16 (by omega)) (m2 17 (by omega)) (m2 0 (by omega)),
    rlC_c hC (by rw [hc 6 (by omega) (by omega)]) (fun p h1 h2 => hc p (by omega) (by omega)) (m2 18 (by omega)) (fun p h1 h2 => m1 p (by omega) (by omega) (by omega) (by omega) (by omega)), rlD_c hD (fun p h1 h2 => hc p (by omega) (by omega)) (fun p h1 h2 => hc p (by omega) (by omega)) (m1 71 (by omega) (by omega) (by omega) (by omega) (by omega)) (m1 72 (by omega) (by omega) (by omega) (by omega) (by omega)),
    rlE_c hE (fun j _ => by rw [hc 53 (by omega) (by omega)]) (fun j _ _ => m2 j (by omega)), rlF_c hF (hc 47 (by omega) (by omega)) (fun p h1 h2 => hc p (by omega) (by omega)) (by rw [hc 53 (by omega) (by omega)]) (by rw [hc 53 (by omega) (by omega)]) (fun j _ _ => m2 j (by omega)) (fun p h1 h2 => m1 p (by omega) (by omega) (by omega) (by omega) (by omega))⟩
theorem mo_scr_lo (h : mo_scr μm μm') : ∀ p, p < 54 → μm' p = μm p := fun p hp => h.1 p (by omega) (by omega) (by omega) (by omega) (by omega)
theorem mo_cmM_o {P : sr_P} {p d : Nat} {os : List Nat} {m k q : Nat} (h1 : q ≠ 54) (h2 : q < 74 ∨ 78 < q) : mo_cmM μm P p d os m k q = μm q := by
  unfold mo_cmM
  rw [vu_ne (by omega), vu_ne (by omega), vu_ne (by omega), vu_ne (by omega), vu_ne (by omega), vu_ne h1]
theorem sp_plM_o {FD : vx_mem} {g p : Nat} (h : p < 47 ∨ 53 < p) : sp_plM μc FD g pl p = FD p := by
  unfold sp_plM sp_mkM
  rw [vu_ne (by omega), vu_ne (by omega), vu_ne (by omega), vu_ne (by omega), vu_ne (by omega), vu_ne (by omega), vu_ne (by omega)]
theorem sp_plM_c {FD : vx_mem} {g : Nat} : sp_plM μc FD g pl 48 = sp_fil (fun j => nI (sp_bs FD j)) (FD 48) g ∧ sp_plM μc FD g pl 49 = sp_fil (sp_ar FD pl (μc 53 0)) (FD 49) g ∧ sp_plM μc FD g pl 50 = sp_fil (fun j => sp_beg FD (sp_bs FD j) (sp_ar FD pl (μc 53 0) j)) (FD 50) g ∧ sp_plM μc FD g pl 51 = sp_fil (fun j => sp_wh FD pl (μc 53 0) (j + 1)) (FD 51) g ∧ sp_plM μc FD g pl 52 = sp_fil (fun j => sp_los FD (sp_bs FD j) (sp_wh FD pl (μc 53 0) (j + 1))) (FD 52) g := ⟨rfl, rfl, rfl, rfl, rfl⟩
theorem mo_cmM_c {P : sr_P} {p d : Nat} {os : List Nat} {m k : Nat} : mo_cmM μm P p d os m k 74 = sp_fil (fun j => nI (os.getD j 0)) (μm 74) k ∧ mo_cmM μm P p d os m k 75 = sp_fil (fun j => nI (sr_ar P p d os j)) (μm 75) k ∧ mo_cmM μm P p d os m k 76 = sp_fil (fun j => nI (sr_be P p d os j)) (μm 76) k ∧ mo_cmM μm P p d os m k 77 = sp_fil (fun j => nI (sr_wh P p d os (j + 1))) (μm 77) k ∧ mo_cmM μm P p d os m k 78 = sp_fil (fun j => nI (sr_lo P p d os j)) (μm 78) k := ⟨rfl, rfl, rfl, rfl, rfl⟩
theorem sp_fil_at {nw old : Nat → Int32} {g k : Nat} (h : k < g) : sp_fil nw old g k = nw k := if_pos h

set_option maxHeartbeats 2000000 in
theorem st_plan : rl_st yX8_plan cX8_plan 1 (some (.int)) yX9_plan cX9_plan 5 (some (.int)) [] := by
  intro ad μc μ0 len n dy pl sa wy L sp h0
  have hn := h0.2.2.1.2.2.1
  have hdy := h0.2.2.2.2.1.1
  have hdy9 := h0.2.2.2.2.1.2.2.1
  have hp := h0.2.2.2.2.1.2.2.2.1
  have hpn := h0.2.2.2.2.1.2.2.2.2.1
  have h532 := h0.2.2.2.2.1.2.2.2.2.2.2.2.1
  have hwy9 := h0.2.2.2.2.1.2.2.2.2.2.2.2.2.2.1
  obtain ⟨hfi, -, hfi7⟩ := zz_nat (a := 0) (b := 7) h0.2.1.2.1.2.2.2.2.1
  generalize (μc 4 4).toNatClampNeg = fi at hfi hfi7
  obtain ⟨d1, d2, d3⟩ := rl_FD h0 (fi := fi) (by omega)
  have hFDo := fun p (hp : p < 38 ∨ 46 < p) => sp_FD_o (μc := μc) (pl := pl) (n := n) (fi := fi) hp
  obtain ⟨F, hF⟩ : ∃ F, F = sr_F (rl_om μc n) pl fi := ⟨_, rfl⟩
  obtain ⟨S, hS⟩ : ∃ S, S = sr_S (rl_om μc n) F := ⟨_, rfl⟩
  obtain ⟨g, hg⟩ : ∃ g, g = sp_opn (μc 8) n := ⟨_, rfl⟩
  rw [← hF, ← hS, ← hg] at d1
  rw [← hg] at d2
  rw [← hF, ← hS, ← hg] at d3
  have hg7 : g ≤ 7 := by rw [hg]; exact Nat.le_trans (sp_opn_le _ _) hn
  obtain ⟨FD, hFD⟩ : ∃ FD, FD = sp_FD μc n pl fi := ⟨_, rfl⟩
  rw [← hFD] at d2 d3 hFDo
  obtain ⟨B, hB⟩ : ∃ B, B = ((sr_pm S.length S).map (F ++ ·)).foldl (sr_con (rl_P μc n) pl dy 0 []) none := ⟨_, rfl⟩
  rw [← hB] at d3
  have hB46 : ∀ o l e, ¬ g = 0 → B = some (o, l, e) → ∀ k, k < g → FD 46 k = nI (sp_bs FD k) ∧ sp_bs FD k = o.getD k 0 ∧ o.getD k 0 < 8 ∧ rl_om μc n (o.getD k 0) = true := by
    intro o l e hg0 hBe k hk
    have hr := (d3 hg0).2.2.2
    rw [hBe] at hr
    obtain ⟨_, _, _, _, r5, r6, r7⟩ := hr
    have hx := sr_getD_all (q := fun x => x ∈ sr_17 ∧ rl_om μc n x = true) r7 (j := k) (by omega)
    have hx8 := sr_17_lt hx.1
    unfold sp_bs
    rw [r6 k hk, nI_clamp (by omega)]
    exact ⟨rfl, rfl, hx8.2, hx.2⟩
  have hC := c_X8_plan 20 (by omega) ad μc n (rl_ckc h0) pl fi hp (by omega) hfi (by omega) (fun hne k hk => by
    rw [← hg] at hk
    rw [← hFD] at hne ⊢
    rcases hBc : B with _ | ⟨o, l, e⟩
    · have hr := (d3 (by omega)).2.2.2
      rw [hBc] at hr
      exact absurd hr.2 hne
    · obtain ⟨a1, a2, a3, _⟩ := hB46 o l e (by omega) hBc k hk
      exact ⟨a1, by omega⟩)
  rw [← hFD, ← hg] at hC
  have hMo := fun μm (h : rlp len n dy pl sa wy L sp μc μm) => c_X9_plan 20 (by omega) ad μm h.2.1.2.2.2.2.2.2.2 n (rl_ckm h) sa fi h.2.2.2.2.1.2.2.2.2.2.1 h.2.2.2.2.1.2.2.2.2.2.2.1 (by rw [← h.2.1.1 4 (by omega)]; exact hfi) (by omega) dy h.2.2.2.2.1.2.1 (by omega) wy h.2.2.2.2.1.2.2.2.2.2.2.2.2.1 (by omega) (P := rl_P μc n) (rl_sml h)
  rcases Nat.eq_zero_or_pos wy with hw | hw
  · have hsa : sa = pl := h0.2.2.2.2.1.2.2.2.2.2.2.2.2.2.2.2.1 hw
    subst hsa
    have c1 : ¬ ¬ μc 53 2 ≤ 0 := by rw [h532, hw]; exact fun q => q (by decide)
    rw [if_neg c1, if_neg c1] at hC
    have hm0 : (F ++ S).length = g := by rw [List.length_append]; exact d1
    have hMo2 : ∀ μm, rlp len n dy sa sa wy L sp μc μm → ∃ r μ', vx_Mf yX9_plan cX9_plan 5 (some .int) 20 ad 82 vx_lay μm [vx_r 54] (some (.inl r)) μ' ∧ (((g = 0 ∨ 0 < wy) ∧ r = -1 ∧ mo_scr μm μ') ∨ (¬ (g = 0 ∨ 0 < wy) ∧ mo_plR (rl_P μc n) (rl_om μc n) sa dy g μm r μ' B)) := by
      intro μm h
      obtain ⟨r, μ', q1, q2⟩ := hMo μm h
      rw [rl_omM h, ← hF, ← hS, hm0, ← hB] at q2
      exact ⟨r, μ', q1, q2⟩
    by_cases hmx : FD 39 11 = 2147483647
    · rw [if_pos hmx, if_pos hmx] at hC
      refine ⟨-1, FD, hC, fun p hp => hFDo p (by omega), fun μm h => ?_⟩
      obtain ⟨r, μ', q1, q2⟩ := hMo2 μm h
      have q3 : r = -1 ∧ mo_scr μm μ' := by
        rcases q2 with ⟨_, q3⟩ | ⟨q3, q4⟩
        · exact q3
        · rcases hBc : B with _ | ⟨o, l, e⟩
          · rw [hBc] at q4
            exact q4
          · exfalso
            have hr := (d3 (fun z => q3 (Or.inl z))).2.2.2
            rw [hBc] at hr
            obtain ⟨_, r2, _, r4, _⟩ := hr
            rw [r2] at hmx
            have : e = 2147483647 := (nI_eq (b := 2147483647) (by omega) (by omega)).mp hmx
            omega
      obtain ⟨rfl, q4⟩ := q3
      exact ⟨μ', q1, mo_scr_lo q4, (rl_scr2 h (fun p _ hp => hFDo p hp) q4).rl⟩
    · rw [if_neg hmx, if_neg hmx] at hC
      have hg0 : ¬ g = 0 := fun z => hmx (d2 z)
      refine ⟨FD 39 10, sp_plM μc FD g sa, hC, fun p hp => (sp_plM_o (by omega)).trans (hFDo p (by omega)), fun μm h => ?_⟩
      obtain ⟨r, μ', q1, q2⟩ := hMo2 μm h
      rcases q2 with ⟨q3, _⟩ | ⟨q3, q4⟩
      · exact absurd (q3.resolve_left hg0) (by omega)
      · rcases hBc : B with _ | ⟨o, l, e⟩
        · exfalso
          have hr := (d3 hg0).2.2.2
          rw [hBc] at hr
          exact hmx hr.2
        · rw [hBc] at q4
          obtain ⟨p1, p2, p3, p4, p5, μ1, p6, p7⟩ := q4
          have hrl := d3 hg0
          have hr := hrl.2.2.2
          rw [hBc] at hr
          obtain ⟨r1, r2, r3, r4, r5, r6, r7⟩ := hr
          have h46 := hB46 o l e hg0 hBc
          have hne := fun k (hk : k < g) => sr_go_ne o _ _ _ _ _ p5 k (by omega)
          obtain ⟨w1, w2⟩ := rl_wh (p := sa) (d := dy) (o := o) (g := g) hrl.1 (fun k hk => (h46 k hk).2.1) (fun k hk => (h46 k hk).2.2) hne (by omega) hg7 (by omega)
          subst p1
          refine ⟨μ', by rw [r1]; exact q1, fun p hp => by rw [p7, mo_cmM_o (by omega) (by omega)]; exact mo_scr_lo p6 p hp, ?_⟩
          subst p7
          have hc : ∀ p, p < 38 ∨ 46 < p → p < 47 ∨ 53 < p → sp_plM μc FD g sa p = μc p := fun p a b => (sp_plM_o b).trans (hFDo p a)
          have hmo : ∀ q, q ≠ 54 → (q < 74 ∨ 78 < q) → q ≠ 73 → q ≠ 79 → q ≠ 80 → q ≠ 81 → mo_cmM μ1 (rl_P μc n) sa dy o g g q = μm q := fun q a b c d e f => (mo_cmM_o a b).trans (p6.1 q a c d e f)
          have hmj : ∀ j, (j < 33 ∨ (33 < j ∧ j < 51) ∨ 54 < j) → j < 44 ∨ 48 < j → mo_cmM μ1 (rl_P μc n) sa dy o g g 54 j = μm 54 j := by
            intro j a b
            refine Eq.trans ?_ (p6.2 j a)
            show mo_c54 μ1 g j = _
            unfold mo_c54
            rw [pk_un (by omega), pk_un (by omega), pk_un (by omega), pk_un (by omega), pk_un (by omega)]
          obtain ⟨hA, hB', hC', hD, ⟨e1, e2, e3, e4, e5, e6, e7, e8, e9, e10, e11, e12, e13⟩, hF'⟩ := h
          have hM53 : ∀ j, j ≠ 4 → sp_plM μc FD g sa 53 j = μc 53 j := by
            intro j hj
            show upd (μc 53) 4 0 j = _
            exact pk_un hj
          refine ⟨len, n, dy, sa, sa, wy, g, 0, rlA_c hA (by rw [hc 1 (by omega) (by omega)]) (hc 2 (by omega) (by omega)) (hmj 2 (by omega) (by omega)) (hmo 55 (by omega) (by omega) (by omega) (by omega) (by omega) (by omega)),
            rlB_c hB' (hc 4 (by omega) (by omega)) (by rw [hc 3 (by omega) (by omega)]) (by rw [hc 3 (by omega) (by omega)]) (hmo 56 (by omega) (by omega) (by omega) (by omega) (by omega) (by omega)) (hmo 57 (by omega) (by omega) (by omega) (by omega) (by omega) (by omega)) (hmo 58 (by omega) (by omega) (by omega) (by omega) (by omega) (by omega)) (hmo 59 (by omega) (by omega) (by omega) (by omega) (by omega) (by omega)) (hmj 16 (by omega) (by omega)) (hmj 17 (by omega) (by omega)) (hmj 0 (by omega) (by omega)),
            rlC_c hC' (by rw [hc 6 (by omega) (by omega)]) (fun p _ _ => hc p (by omega) (by omega)) (hmj 18 (by omega) (by omega)) (fun p _ _ => hmo p (by omega) (by omega) (by omega) (by omega) (by omega) (by omega)),
            rlD_c hD (fun p _ _ => hc p (by omega) (by omega)) (fun p _ _ => hc p (by omega) (by omega)) (hmo 71 (by omega) (by omega) (by omega) (by omega) (by omega) (by omega)) (hmo 72 (by omega) (by omega) (by omega) (by omega) (by omega) (by omega)),
            rlE_c ⟨e1, e2, e3, e4, e5, e6, e7, e8, e9, e10, e11, e12, e13⟩ (fun j hj => hM53 j (by omega)) (fun j _ _ => hmj j (by omega) (by omega)), rfl, hg7, ?_, fun _ => ⟨rfl, ?_, rfl⟩, fun k hk => ?_, fun k hk => ?_, fun z => ?_, fun _ => ⟨hw, fun _ z => ?_⟩, fun _ _ => rfl⟩
          · refine ⟨fun z => ?_, fun z => absurd z hg0⟩
            exact absurd (show (1 : Int32) = 0 from z) (by decide)
          · show μc 53 0 = μ1 54 34
            rw [p6.2 34 (by omega), e1, e2]
          · obtain ⟨x1, x2, x3, x4⟩ := h46 k hk
            obtain ⟨k1, k2, _⟩ := rl_omk x4
            refine ⟨o.getD k 0, k1, k2, ?_, ?_⟩
            · rw [sp_plM_c.1, sp_fil_at hk, x2]
            · rw [mo_cmM_c.1, sp_fil_at hk]
          · obtain ⟨x1, x2, x3⟩ := w2 k hk
            obtain ⟨y1, _⟩ := w1 (k + 1) (by omega)
            refine ⟨?_, ?_, ?_, ?_⟩
            · rw [sp_plM_c.2.1, mo_cmM_c.2.1, sp_fil_at hk, sp_fil_at hk, hdy, x1]
            · rw [sp_plM_c.2.2.1, mo_cmM_c.2.2.1, sp_fil_at hk, sp_fil_at hk, hdy, x2]
            · rw [sp_plM_c.2.2.2.1, mo_cmM_c.2.2.2.1, sp_fil_at hk, sp_fil_at hk, hdy, y1]
            · rw [sp_plM_c.2.2.2.2, mo_cmM_c.2.2.2.2, sp_fil_at hk, sp_fil_at hk, hdy, x3]
          · exact absurd (show upd (μc 53) 4 0 4 = 0 from pk_us) z
          · exact absurd (show (0 : Int32) = 0 from rfl) z
  · have c1 : ¬ μc 53 2 ≤ 0 := by rw [h532]; exact nI_nle (by omega) (by omega)
    rw [if_pos c1, if_pos c1] at hC
    refine ⟨-1, μc, hC, fun _ _ => rfl, fun μm h => ?_⟩
    obtain ⟨r, μ', q1, q2⟩ := hMo μm h
    have q3 : r = -1 ∧ mo_scr μm μ' := by
      rcases q2 with ⟨_, q3⟩ | ⟨q3, _⟩
      · exact q3
      · exact absurd (Or.inr hw) q3
    obtain ⟨rfl, q4⟩ := q3
    exact ⟨μ', q1, mo_scr_lo q4, (rl_scr2 h (fun _ _ _ => rfl) q4).rl⟩
end
