section
variable {len n dy pl sa wy L sp : Nat} {μc μm μc' μm' : vx_mem}
theorem rl_ckc (h : rlp len n dy pl sa wy L sp μc μm) : sp_ck μc n := ⟨h.2.2.1.1, h.2.2.1.2.2.1, h.2.1.2.1, h.2.2.1.2.2.2.2.1⟩
theorem rl_ckm (h : rlp len n dy pl sa wy L sp μc μm) : mo_ck μm n := by
  obtain ⟨-, ⟨b1, b2, -⟩, ⟨c1, c2, c3, c4, c5, -⟩, -⟩ := h
  have q3 : μc 10 = μm 63 := c4 3 (by omega)
  have q4 : μc 11 = μm 64 := c4 4 (by omega)
  refine ⟨c2, c3, by rw [← b1 0 (by omega)]; exact b2.1, fun g g1 g2 => ?_⟩
  rw [← q3, ← q4]
  exact ⟨(c5 g g1 g2).2.1, (c5 g g1 g2).2.2.1⟩
theorem rl_G (h : rlp len n dy pl sa wy L sp μc μm) {f : Nat} (hf : f < 8) : sp_G μc n f = mo_G μm n f := by
  obtain ⟨-, ⟨b1, b2, -⟩, ⟨c1, c2, c3, c4, c5, -⟩, ⟨-, d2⟩, -⟩ := h
  have q3 : μc 10 = μm 63 := c4 3 (by omega)
  have q4 : μc 11 = μm 64 := c4 4 (by omega)
  have e : (fun q => if q < 8 then μc (30 + q) f else 0) = mo_ow μm f := by
    funext q
    unfold mo_ow
    split
    · exact d2 q f (by assumption) hf
    · rfl
  unfold sp_G mo_G
  rw [e, b1 0 (by omega), q3, q4]
theorem rl_speed (h : rlp len n dy pl sa wy L sp μc μm) {f : Nat} (hf : f < 8) : sp_speed μc n f = mo_speed μm n f := by
  have hG := rl_G h hf
  obtain ⟨-, ⟨b1, b2, -⟩, -⟩ := h
  have h0 := b2.1
  unfold sp_speed mo_speed sp_cut
  rw [if_neg (by unfold zz_in at h0; rw [zz_le, tI_0]; omega), hG, ← b1 0 (by omega), ← b1 1 (by omega), sp_max_comm]
/-- scratch alone has changed -/
theorem rl_scr (h : rlp len n dy pl sa wy L sp μc μm) (hc : ∀ p, p < 54 → p ≠ 38 → μc' p = μc p) (hm : ∀ p, 55 ≤ p → p ≠ 73 → μm' p = μm p) (h4 : ∀ j, j ≠ 33 → μm' 54 j = μm 54 j) : rlp len n dy pl sa wy L sp μc' μm' := by
  obtain ⟨hA, hB, hC, hD, hE, hF⟩ := h
  exact ⟨rlA_c hA (by rw [hc 1 (by omega) (by omega)]) (hc 2 (by omega) (by omega)) (h4 2 (by omega)) (hm 55 (by omega) (by omega)), rlB_c hB (hc 4 (by omega) (by omega)) (by rw [hc 3 (by omega) (by omega)]) (by rw [hc 3 (by omega) (by omega)]) (hm 56 (by omega) (by omega)) (hm 57 (by omega) (by omega)) (hm 58 (by omega) (by omega)) (hm 59 (by omega) (by omega)) (h4 16 (by omega)) (h4 17 (by omega)) (h4 0 (by omega)),
    rlC_c hC (by rw [hc 6 (by omega) (by omega)]) (fun p h1 h2 => hc p (by omega) (by omega)) (h4 18 (by omega)) (fun p h1 h2 => hm p (by omega) (by omega)), rlD_c hD (fun p h1 h2 => hc p (by omega) (by omega)) (fun p h1 h2 => hc p (by omega) (by omega)) (hm 71 (by omega) (by omega)) (hm 72 (by omega) (by omega)),
    rlE_c hE (fun j _ => by rw [hc 53 (by omega) (by omega)]) (fun j _ _ => h4 j (by omega)), rlF_c hF (hc 47 (by omega) (by omega)) (fun p h1 h2 => hc p (by omega) (by omega)) (by rw [hc 53 (by omega) (by omega)]) (by rw [hc 53 (by omega) (by omega)]) (fun j _ _ => h4 j (by omega)) (fun p h1 h2 => hm p (by omega) (by omega))⟩
theorem rl_two (hc : μc 6 0 = nI n) (hm : μm 54 18 = nI n) {a b : Int32} : ¬ sp_two μc a b = 0 ↔ mo_two μm a b := by
  unfold sp_two mo_two
  rw [hc, hm]
  by_cases h1 : sp_in a 1 (nI n) = 0
  · rw [if_pos h1]
    exact ⟨fun z => absurd rfl z, fun z => absurd h1 z.1⟩
  · rw [if_neg h1]
    by_cases h2 : sp_in b 1 (nI n) = 0
    · rw [if_pos h2]
      exact ⟨fun z => absurd rfl z, fun z => absurd h2 z.2.1⟩
    · rw [if_neg h2]
      by_cases h3 : a = b
      · rw [if_pos h3]
        exact ⟨fun z => absurd rfl z, fun z => absurd h3 z.2.2⟩
      · rw [if_neg h3]
        exact ⟨fun _ => ⟨h1, h2, h3⟩, fun _ => by decide⟩
theorem sp_ask_all {gv : Nat → Int32} : ∀ {n : Nat}, sp_ask gv n = n → ∀ g, 1 ≤ g → g ≤ n → ¬ gv g = -1
  | 0, _, g, h1, h2 => absurd h1 (by omega)
  | n + 1, h, g, h1, h2 => by
    have hle := sp_ask_le gv n
    unfold sp_ask at h
    by_cases e : gv (n + 1) = -1
    · rw [if_pos e] at h; omega
    · rw [if_neg e] at h
      by_cases eg : g = n + 1
      · rw [eg]; exact e
      · exact sp_ask_all (n := n) (by omega) g h1 (by omega)
/-- what the gang's askings come to -/
theorem rl_Gok (h : rlp len n dy pl sa wy L sp μc μm) {f : Nat} (h1 : 1 ≤ f) (h2 : f ≤ n) : zz_in (mo_G μm n f).2 0 20 ∧ (∀ g, 1 ≤ g → g ≤ n → zz_in ((mo_G μm n f).1 g) 0 12) ∧ (mo_G μm n f).1 f = 0 := by
  have hk := rl_ckm h
  obtain ⟨k1, k2, k3, k4⟩ := hk
  have hg0 : 0 ≤ (sp_min (μm 63 f) (μm 56 0)).toInt ∧ (sp_min (μm 63 f) (μm 56 0)).toInt ≤ (μm 56 0).toInt := by
    have := (k4 f h1 h2).1
    rw [sp_min_int]
    unfold zz_in at k3 this
    omega
  have ok := sp_mus_ok (lends := μm 64) (ow := mo_ow μm f) (most := μm 56 0) (n := n) (gv0 := sp_cn f) (g0 := sp_min (μm 63 f) (μm 56 0)) (fun g a b => (k4 g a b).2) k3 hg0 sp_cn_in (sp_cn_ask h1 h2) (n - 1) (by omega)
  obtain ⟨i1, i2, i3, i4, i5⟩ := ok
  have hall := sp_ask_all (n := n) (gv := (mo_G μm n f).1) (by show sp_ask (sp_mus _ _ _ _ _ _ _).1 n = n; rw [i3]; omega)
  refine ⟨⟨i1.1, by unfold zz_in at k3; exact Int.le_trans i1.2 k3.2⟩, fun g g1 g2 => (i2 g g1 g2).resolve_left (hall g g1 g2), ?_⟩
  have keep : ∀ t, (sp_mus (μm 64) (mo_ow μm f) (μm 56 0) n (sp_cn f) (sp_min (μm 63 f) (μm 56 0)) t).1 f = 0 ∨ n ≤ t := by
    intro t
    induction t with
    | zero => left; show upd (fun _ => -1) f 0 f = 0; exact pk_us
    | succ t ih =>
      by_cases ht : n ≤ t + 1
      · exact Or.inr ht
      · left
        have ih := ih.resolve_right (by omega)
        have ok2 := sp_mus_ok (lends := μm 64) (ow := mo_ow μm f) (most := μm 56 0) (n := n) (gv0 := sp_cn f) (g0 := sp_min (μm 63 f) (μm 56 0)) (fun g a b => (k4 g a b).2) k3 hg0 sp_cn_in (sp_cn_ask h1 h2) t (by omega)
        have hp := (sp_next_pos (ow := mo_ow μm f) (sp_ask_free (gv := (sp_mus (μm 64) (mo_ow μm f) (μm 56 0) n (sp_cn f) (sp_min (μm 63 f) (μm 56 0)) t).1) (n := n) (by omega))).2
        show upd _ _ _ f = 0
        rw [pk_un, ih]
        intro e
        rw [← e, ih] at hp
        exact absurd hp (by decide)
  exact (keep (n - 1)).resolve_right (by omega)
theorem sp_by_ne (x s : Int32) : ¬ sp_by x s = -1 := by
  intro h
  have h2 : bt (sp_by x s) 8 = bt (-1) 8 := by rw [h]
  unfold sp_by at h2
  rw [b_and, b_255, b_m1 8 (by omega)] at h2
  simp at h2
theorem sp_app_ne {f : Nat → Int32} {l : Nat} {x : Int32} (h : ∀ j, j < 300 → ¬ f j = -1) : ∀ j, j < 300 → ¬ sp_app f l x j = -1 := by
  intro j hj
  unfold sp_app
  rw [upd_at, upd_at, upd_at, upd_at]
  repeat' split
  all_goals first | exact sp_by_ne _ _ | exact h j hj
theorem st_feed (a b c e g : Int32) : rl_st yX8_feed cX8_feed 6 (some (.int)) yX9_feed cX9_feed 8 (some (.int)) [.inl a, .inl b, .inl c, .inl e, .inl g] := by
  intro ad μc μ0 len n dy pl sa wy L sp h0
  obtain ⟨hl1, -, hl3, -⟩ := h0.1
  have hr : sp_room (μc 1 1) 20 = 0 ↔ ¬ len ≤ 280 := by
    unfold sp_room
    rw [hl1, show (20 : Int32) = nI 20 from rfl, nI_add, show (300 : Int32) = nI 300 from rfl]
    by_cases q : len ≤ 280
    · rw [if_neg (by rw [nI_ltI (by omega) (by omega)]; omega)]
      exact ⟨fun z => absurd z (by decide), fun z => absurd q z⟩
    · rw [if_pos (by rw [nI_ltI (by omega) (by omega)]; omega)]
      exact ⟨fun _ => q, fun _ => rfl⟩
  by_cases hk : len ≤ 280
  · have hn0 : ¬ sp_room (μc 1 1) 20 = 0 := fun z => hr.mp z hk
    have hm0 : nI len ≤ 280 := by rw [show (280 : Int32) = nI 280 from rfl, nI_leI (by omega) (by omega)]; exact hk
    refine ⟨nI (len + 20), va_up (va_up μc 1 (upd (μc 1) 1 (nI (len + 20)))) 2 (sp_feed5 (μc 2) len a b c e g), (c_X8_feed 20 (by omega) ad μc len hl1 hl3 a b c e g).to (by rw [if_neg hn0]) (if_neg hn0), fun p hp => by rw [vu_ne (by omega), vu_ne (by omega)], fun μm h => ?_⟩
    obtain ⟨⟨a1, a2, a3, a4, a5⟩, hB, hC, hD, hE, hF⟩ := h
    refine ⟨_, (c_X9_feed 20 ad μm len a2 a3 a b c e g).to (by rw [if_pos hm0]) (if_pos hm0), fun p hp => by rw [vu_ne (by omega), vu_ne (by omega)], ?_⟩
    refine ⟨len + 20, n, dy, pl, sa, wy, L, sp, ⟨rfl, rfl, by omega, ?_, ?_⟩, rlB_c hB rfl rfl rfl rfl rfl rfl rfl rfl rfl hB.2.2.2.2.2.2.2.symm, rlC_c hC rfl (fun p h1 h2 => by rw [vu_ne (by omega), vu_ne (by omega)]) rfl (fun p h1 h2 => by rw [vu_ne (by omega), vu_ne (by omega)]), rlD_c hD (fun p h1 h2 => by rw [vu_ne (by omega), vu_ne (by omega)]) (fun p h1 h2 => by rw [vu_ne (by omega), vu_ne (by omega)]) rfl rfl,
      rlE_c hE (fun j _ => rfl) (fun j _ _ => by show upd (upd (μm 54) 0 0) 2 _ j = _; rw [pk_un (by omega), pk_un (by omega)]), rlF_c hF rfl (fun p h1 h2 => by rw [vu_ne (by omega), vu_ne (by omega)]) rfl rfl (fun j _ _ => by show upd (upd (μm 54) 0 0) 2 _ j = _; rw [pk_un (by omega), pk_un (by omega)]) (fun p h1 h2 => by rw [vu_ne (by omega), vu_ne (by omega)])⟩
    · show sp_feed5 (μc 2) len a b c e g = sp_feed5 (μm 55) len a b c e g
      rw [a4]
    · show ∀ j, j < 300 → ¬ sp_feed5 (μm 55) len a b c e g j = -1
      exact sp_app_ne (sp_app_ne (sp_app_ne (sp_app_ne (sp_app_ne a5))))
  · have hn0 : sp_room (μc 1 1) 20 = 0 := hr.mpr hk
    have hm0 : ¬ nI len ≤ 280 := by rw [show (280 : Int32) = nI 280 from rfl, nI_leI (by omega) (by omega)]; exact hk
    refine ⟨-1, μc, (c_X8_feed 20 (by omega) ad μc len hl1 hl3 a b c e g).to (by rw [if_pos hn0]) (if_pos hn0), fun _ _ => rfl, fun μm h => ⟨μm, (c_X9_feed 20 ad μm len h.1.2.1 hl3 a b c e g).to (by rw [if_neg hm0]) ?_, fun _ _ => rfl, h.rl⟩⟩
    rw [if_neg hm0, sp_ups h.2.1.2.2.2.2.2.2.2, vx_up_id]
theorem rl_twoIn (hc : μc 6 0 = nI n) (hn : n ≤ 7) {a b : Int32} (h : ¬ sp_two μc a b = 0) : ∃ A B, a = nI A ∧ b = nI B ∧ 1 ≤ A ∧ A ≤ n ∧ 1 ≤ B ∧ B ≤ n ∧ A ≠ B := by
  unfold sp_two at h
  by_cases h1 : sp_in a 1 (μc 6 0) = 0
  · rw [if_pos h1] at h; exact absurd rfl h
  · rw [if_neg h1] at h
    by_cases h2 : sp_in b 1 (μc 6 0) = 0
    · rw [if_pos h2] at h; exact absurd rfl h
    · rw [if_neg h2] at h
      by_cases h3 : a = b
      · rw [if_pos h3] at h; exact absurd rfl h
      · obtain ⟨A, a1, a2, a3⟩ := sp_in_far hc hn h1
        obtain ⟨B, b1, b2, b3⟩ := sp_in_far hc hn h2
        exact ⟨A, B, a1, b1, a2, a3, b2, b3, fun z => h3 (by rw [a1, b1, z])⟩
theorem st_owed (a b : Int32) : rl_st yX8_owed cX8_owed 3 (some (.int)) yX9_owed cX9_owed 3 (some (.int)) [.inl a, .inl b] := by
  intro ad μc μ0 len n dy pl sa wy L sp h0
  have hc := h0.2.2.1.1
  have hn := h0.2.2.1.2.2.1
  by_cases hk : sp_two μc a b = 0
  · refine ⟨-2147483648, μc, (c_X8_owed 20 (by omega) ad μc n hc hn a b).to (by rw [if_pos hk]) rfl, fun _ _ => rfl, fun μm h => ?_⟩
    have hm := fun z => (rl_two (a := a) (b := b) hc h.2.2.1.2.1).mpr z hk
    exact ⟨μm, (c_X9_owed 20 (by omega) ad μm h.2.1.2.2.2.2.2.2.2 n h.2.2.1.2.1 hn a b).to (by rw [if_neg hm]) rfl, fun _ _ => rfl, h.rl⟩
  · obtain ⟨A, B, rfl, rfl, a1, a2, b1, b2, _⟩ := rl_twoIn hc hn hk
    refine ⟨μc (30 + A) B, μc, (c_X8_owed 20 (by omega) ad μc n hc hn (nI A) (nI B)).to (by rw [if_neg hk, nI_clamp (by omega), nI_clamp (by omega)]) rfl, fun _ _ => rfl, fun μm h => ?_⟩
    have hm := (rl_two hc h.2.2.1.2.1).mp hk
    exact ⟨μm, (c_X9_owed 20 (by omega) ad μm h.2.1.2.2.2.2.2.2.2 n h.2.2.1.2.1 hn (nI A) (nI B)).to (by rw [if_pos hm, nI_clamp (by omega), nI_clamp (by omega), h.2.2.2.1.2 A B (by omega) (by omega)]) rfl, fun _ _ => rfl, h.rl⟩
theorem st_lent (a b : Int32) : rl_st yX8_lent cX8_lent 3 (some (.int)) yX9_lent cX9_lent 3 (some (.int)) [.inl a, .inl b] := by
  intro ad μc μ0 len n dy pl sa wy L sp h0
  have hc := h0.2.2.1.1
  have hn := h0.2.2.1.2.2.1
  by_cases hk : sp_two μc a b = 0
  · refine ⟨-1, μc, (c_X8_lent 20 (by omega) ad μc n (rl_ckc h0) a b).to (by rw [if_pos hk]) (if_pos hk), fun _ _ => rfl, fun μm h => ?_⟩
    have hm := fun z => (rl_two (a := a) (b := b) hc h.2.2.1.2.1).mpr z hk
    exact ⟨μm, (c_X9_lent 20 (by omega) ad μm h.2.1.2.2.2.2.2.2.2 n (rl_ckm h) a b).to (by rw [if_neg hm]) (if_neg hm), fun _ _ => rfl, h.rl⟩
  · obtain ⟨A, B, rfl, rfl, a1, a2, b1, b2, _⟩ := rl_twoIn hc hn hk
    refine ⟨(sp_G μc n A).1 B, va_up μc 38 (sp_mix (sp_G μc n A).1 (μc 38)), (c_X8_lent 20 (by omega) ad μc n (rl_ckc h0) (nI A) (nI B)).to (by rw [if_neg hk, nI_clamp (by omega), nI_clamp (by omega)]; unfold sp_mix; rw [if_pos (by omega)]) (by rw [if_neg hk, nI_clamp (by omega)]), fun p hp => vu_ne (by omega), fun μm h => ?_⟩
    have hm := (rl_two hc h.2.2.1.2.1).mp hk
    have hz := (rl_Gok h a1 a2).2.1 B b1 b2
    refine ⟨mo_gM μm n A, (c_X9_lent 20 (by omega) ad μm h.2.1.2.2.2.2.2.2.2 n (rl_ckm h) (nI A) (nI B)).to ?_ (by rw [if_pos hm, nI_clamp (by omega)]), fun p hp => by unfold mo_gM; rw [vu_ne (by omega), vu_ne (by omega)], (rl_scr h (fun p _ h1 => vu_ne h1) (fun p h1 h2 => by unfold mo_gM; rw [vu_ne (by omega), vu_ne (by omega)]) (fun j hj => pk_un hj)).rl⟩
    rw [if_pos hm, nI_clamp (by omega), nI_clamp (by omega), rl_G h (by omega)]
    unfold mo_gg
    rw [if_pos (by omega), if_neg (fun z => by rw [z] at hz; exact absurd hz.1 (by decide))]
theorem rl_sacks (h : rlp len n dy pl sa wy L sp μc μm) (k : Nat) : sp_sacks μc k = mo_sacks μm k := by
  obtain ⟨-, ⟨b1, b2, -⟩, ⟨c1, c2, c3, c4, -⟩, -⟩ := h
  have q0 : μc 7 = μm 60 := c4 0 (by omega)
  have q1 : μc 8 = μm 61 := c4 1 (by omega)
  have q2 : μc 9 = μm 62 := c4 2 (by omega)
  have h2 := b2.2.2.1
  unfold sp_sacks mo_sacks sp_cut
  have e : (100 * μc 4 2).toInt = 100 * (μc 4 2).toInt := by
    rw [zz_mul (by rw [tI_100]; unfold zz_in at h2; omega) (by rw [tI_100]; unfold zz_in at h2; omega), tI_100]
  rw [if_neg (by rw [zz_le, e, tI_0]; unfold zz_in at h2; omega), q0, q1, q2, b1 5 (by omega), b1 2 (by omega)]
theorem rl_hne (h : rlp len n dy pl sa wy L sp μc μm) : ¬ 100 * μm 56 2 = 0 := by
  obtain ⟨-, ⟨b1, b2, -⟩, -⟩ := h
  have h2 := b2.2.2.1
  rw [← b1 2 (by omega)]
  have e : (100 * μc 4 2).toInt = 100 * (μc 4 2).toInt := by
    rw [zz_mul (by rw [tI_100]; unfold zz_in at h2; omega) (by rw [tI_100]; unfold zz_in at h2; omega), tI_100]
  rw [zz_eq, e, tI_0]
  unfold zz_in at h2
  omega
theorem rl_lookK (h : rlp len n dy pl sa wy L sp μc μm) {k : Nat} (h1 : 1 ≤ k) (h2 : k ≤ n) (x : Int32) : sp_lookK μc n k x = mo_lookK μm n k x := by
  have hn := h.2.2.1.2.2.1
  have es := rl_sacks h k
  have eG := rl_G h (f := k) (by omega)
  have esp := rl_speed h (f := k) (by omega)
  obtain ⟨-, ⟨b1, b2, -⟩, ⟨c1, c2, c3, c4, c5, c6, c7⟩, -⟩ := h
  have q1 : μc 8 = μm 61 := c4 1 (by omega)
  have q6 : μc 13 = μm 66 := c4 6 (by omega)
  have q7 : μc 14 = μm 67 := c4 7 (by omega)
  have q8 : μc 15 = μm 68 := c4 8 (by omega)
  have q9 : μc 16 = μm 69 := c4 9 (by omega)
  have q10 : μc 17 = μm 70 := c4 10 (by omega)
  have ep : sp_price μc k = μm 70 k * (if μm 69 k = 0 then μm 67 k else mo_sacks μm k) := by
    unfold sp_price
    rw [es, q7, q10, q9, Int32.mul_comm]
    rcases c7 k (by omega) with z | z
    · rw [q9] at z
      rw [z, if_neg (by decide), if_pos rfl]
    · rw [q9] at z
      rw [z, if_pos rfl, if_neg (by decide)]
  have el : sp_lossD μc k = (if μm 68 k = -1 then 0 else μm 56 3 * sp_max 0 (μm 68 k + 1 - μm 66 k - 1)) := by
    unfold sp_lossD
    have e1 : ∀ x y : Int32, x + 1 - y - 1 = x - y := fun x y => by grind
    rw [← q8, ← q6, ← b1 3 (by omega), e1, sp_max_comm]
    by_cases z : μc 8 k ≤ 0
    · rw [if_pos z, if_neg (fun q => (c6 k h1 h2).mp q z)]
    · rw [if_neg z, if_pos ((c6 k h1 h2).mpr z)]
  unfold sp_lookK mo_lookK
  rw [es, ep, el, eG, esp, q1, q7, q8]
theorem st_look (f x : Int32) : rl_st yX8_look cX8_look 3 (some (.int)) yX9_look cX9_look 3 (some (.int)) [.inl f, .inl x] := by
  intro ad μc μ0 len n dy pl sa wy L sp h0
  have hc := h0.2.2.1.1
  have hn := h0.2.2.1.2.2.1
  by_cases hk : sp_in f 1 (μc 6 0) = 0
  · refine ⟨-1, μc, (c_X8_look 20 (by omega) ad μc n (rl_ckc h0) f x).to (by rw [if_pos hk]) (if_pos hk), fun _ _ => rfl, fun μm h => ?_⟩
    have hm : sp_in f 1 (μm 54 18) = 0 := by rw [h.2.2.1.2.1, ← hc]; exact hk
    exact ⟨μm, (c_X9_look 20 (by omega) ad μm h.2.1.2.2.2.2.2.2.2 n (rl_ckm h) (rl_hne h) f x).to (by rw [if_pos hm]) (if_pos hm), fun _ _ => rfl, h.rl⟩
  · obtain ⟨k, rfl, k1, k2⟩ := sp_in_far hc hn hk
    refine ⟨sp_lookK μc n k x, sp_lookM μc n k x, (c_X8_look 20 (by omega) ad μc n (rl_ckc h0) (nI k) x).to (by rw [if_neg hk, nI_clamp (by omega)]) (by rw [if_neg hk, nI_clamp (by omega)]), fun p hp => ?_, fun μm h => ?_⟩
    · unfold sp_lookM
      split
      · exact vu_ne (by omega)
      · split
        · exact vu_ne (by omega)
        · rfl
    · have hm : ¬ sp_in (nI k) 1 (μm 54 18) = 0 := by rw [h.2.2.1.2.1, ← hc]; exact hk
      refine ⟨mo_lookM μm n k x, (c_X9_look 20 (by omega) ad μm h.2.1.2.2.2.2.2.2.2 n (rl_ckm h) (rl_hne h) (nI k) x).to (by rw [if_neg hm, nI_clamp (by omega), rl_lookK h k1 k2]) (by rw [if_neg hm, nI_clamp (by omega)]), fun p hp => ?_, (rl_scr h (fun p _ h1 => ?_) (fun p h1 h2 => ?_) (fun j hj => ?_)).rl⟩
      · unfold mo_lookM mo_gM
        split
        · rw [vu_ne (by omega), vu_ne (by omega)]
        · split
          · rw [vu_ne (by omega), vu_ne (by omega)]
          · rfl
      · unfold sp_lookM
        split
        · exact vu_ne h1
        · split
          · exact vu_ne h1
          · rfl
      · unfold mo_lookM mo_gM
        split
        · rw [vu_ne (by omega), vu_ne (by omega)]
        · split
          · rw [vu_ne (by omega), vu_ne (by omega)]
          · rfl
      · unfold mo_lookM mo_gM
        split
        · exact pk_un hj
        · split
          · exact pk_un hj
          · rfl
theorem st_planned (f x : Int32) : rl_st yX8_planned cX8_planned 3 (some (.int)) yX9_planned cX9_planned 3 (some (.int)) [.inl f, .inl x] := by
  intro ad μc μ0 len n dy pl sa wy L sp h0
  obtain ⟨hL, hL7, -⟩ := h0.2.2.2.2.2
  by_cases hk : sp_in f 0 (μc 47 0 - 1) = 0
  · refine ⟨-1, μc, (c_X8_planned 20 (by omega) ad μc L hL hL7 f x).to (by rw [if_pos hk]) rfl, fun _ _ => rfl, fun μm h => ?_⟩
    obtain ⟨f1, f2, f3, f4, -⟩ := h.2.2.2.2.2
    have hm : ¬ mo_pok μm f := by
      rintro ⟨m1, m2, m3⟩
      have hL0 : 0 < L := by
        rcases Nat.eq_zero_or_pos L with z | z
        · exact absurd (f3.mpr z) m1
        · exact z
      rw [(f4 hL0).1, zz_lt, nI_toInt (by omega)] at m3
      rw [zz_lt, tI_0] at m2
      rw [sp_inI, hL, zz_sub (by rw [nI_toInt (by omega), tI_1]; omega) (by rw [nI_toInt (by omega), tI_1]; omega), nI_toInt (by omega), tI_0, tI_1] at hk
      omega
    exact ⟨μm, (c_X9_planned 20 ad μm h.2.1.2.2.2.2.2.2.2 L (fun z => (f4 (by rcases Nat.eq_zero_or_pos L with q | q; exact absurd (f3.mpr q) z; exact q)).1) hL7 f x).to (by rw [if_neg hm]) rfl, fun _ _ => rfl, h.rl⟩
  · obtain ⟨k, rfl, hkL⟩ := sp_in_row hL7 (by rw [hL] at hk; exact hk)
    refine ⟨sp_planK μc k x, μc, (c_X8_planned 20 (by omega) ad μc L hL hL7 (nI k) x).to (by rw [if_neg hk, nI_clamp (by omega)]) rfl, fun _ _ => rfl, fun μm h => ?_⟩
    obtain ⟨f1, f2, f3, f4, f5, f6, -⟩ := h.2.2.2.2.2
    have hm : mo_pok μm (nI k) := ⟨fun z => by have := f3.mp z; omega, nI_pos (by omega), by rw [(f4 (by omega)).1, nI_ltI (by omega) (by omega)]; exact hkL⟩
    refine ⟨μm, (c_X9_planned 20 ad μm h.2.1.2.2.2.2.2.2.2 L (fun z => (f4 (by omega)).1) hL7 (nI k) x).to ?_ rfl, fun _ _ => rfl, h.rl⟩
    obtain ⟨o, _, _, o3, o4⟩ := f5 k hkL
    obtain ⟨p1, p2, p3, p4⟩ := f6 k hkL
    rw [if_pos hm, nI_clamp (by omega)]
    unfold mo_planK sp_planK
    rw [o3, o4, p1, p2, p3, p4]
theorem rl_wrk (h : rlp len n dy pl sa wy L sp μc μm) : mo_wrk μm ↔ (¬ μc 53 4 = 0 ∧ wy = 0) := by
  obtain ⟨-, -, -, -, ⟨e1, e2, e3, e4, e5, e6, e7, e8, e9, e10, e11, e12, e13⟩, ⟨f1, f2, f3, f4, f5, f6, f7, f8, f9⟩⟩ := h
  constructor
  · rintro ⟨w1, w2, w3, w4⟩
    have hL0 : 0 < L := by
      rcases Nat.eq_zero_or_pos L with z | z
      · exact absurd (f3.mpr z) w1
      · exact z
    refine ⟨fun z => ?_, ?_⟩
    · have := (f8 z).2 hL0 w2
      rw [(f4 hL0).1, this] at w3
      exact w3 (Int32.le_refl _)
    · rw [e9, show (0 : Int32) = nI 0 from rfl, nI_eq (by omega) (by omega)] at w4
      exact w4
  · rintro ⟨w1, w2⟩
    obtain ⟨s1, s2, s3, s4, s5, s6⟩ := f7 w1
    refine ⟨fun z => by have := f3.mp z; omega, s4, ?_, by rw [e9, w2]; rfl⟩
    rw [(f4 (by omega)).1, s3, nI_leI (by omega) (by omega)]
    omega
def rl_fo (μc : vx_mem) (L sp : Nat) : Nat := if sp + 1 < L then (μc 48 (sp + 1)).toNatClampNeg else 0
theorem rl_fo_ok (h : rlp len n dy pl sa wy L sp μc μm) : (sp + 1 < L → μc 48 (sp + 1) = nI (rl_fo μc L sp) ∧ μm 74 (sp + 1) = nI (rl_fo μc L sp) ∧ 1 ≤ rl_fo μc L sp) ∧ rl_fo μc L sp ≤ n := by
  have hn := h.2.2.1.2.2.1
  obtain ⟨-, -, -, -, -, ⟨f1, f2, f3, f4, f5, f6, f7, f8, f9⟩⟩ := h
  unfold rl_fo
  by_cases h1 : sp + 1 < L
  · obtain ⟨o, o1, o2, o3, o4⟩ := f5 (sp + 1) h1
    rw [if_pos h1, o3, nI_clamp (by omega), o4]
    exact ⟨fun _ => ⟨rfl, rfl, o1⟩, o2⟩
  · rw [if_neg h1]
    exact ⟨fun z => absurd z h1, Nat.zero_le _⟩
theorem rl_mogo (h : rlp len n dy pl sa wy L sp μc μm) : mo_go μm n pl sp L (rl_fo μc L sp) := by
  intro hw
  obtain ⟨w1, w2⟩ := (rl_wrk h).mp hw
  have hfo := rl_fo_ok h
  have hn := h.2.2.1.2.2.1
  obtain ⟨-, -, -, -, ⟨e1, e2, e3, e4, e5, e6, e7, e8, e9, e10, e11, e12, e13⟩, ⟨f1, f2, f3, f4, f5, f6, f7, f8, f9⟩⟩ := h
  obtain ⟨s1, s2, s3, s4, s5, s6⟩ := f7 w1
  obtain ⟨o, o1, o2, o3, o4⟩ := f5 sp s1
  have ho : o = pl := (nI_eq (by omega) (by omega)).mp (o3.symm.trans s5)
  refine ⟨s6, e5, s3, (f4 (by omega)).1, s1, f2, by rw [o4, ho], fun z => (hfo.1 z).2.1, by omega, by rw [e6, e12 w2]⟩
theorem rl_spgo (h : rlp len n dy pl sa wy L sp μc μm) : sp_go μc n pl sp L (rl_fo μc L sp) := by
  intro w1
  have hfo := rl_fo_ok h
  have hn := h.2.2.1.2.2.1
  obtain ⟨-, -, -, -, ⟨e1, e2, e3, e4, e5, e6, e7, e8, e9, e10, e11, e12, e13⟩, ⟨f1, f2, f3, f4, f5, f6, f7, f8, f9⟩⟩ := h
  obtain ⟨s1, s2, s3, s4, s5, s6⟩ := f7 w1
  exact ⟨s6, e5, s2, f1, s1, f2, fun z => (hfo.1 z).1, by omega⟩
theorem rl_dn {f : Nat → Int32} : ∀ n, (∀ g, 1 ≤ g → g ≤ n → zz_in (f g) 0 300) → sp_opn f n + mo_dn f n = n
  | 0, _ => rfl
  | n + 1, h => by
    have ih := rl_dn n (fun g h1 h2 => h g h1 (by omega))
    have hz := h (n + 1) (by omega) (Nat.le_refl _)
    show sp_opn f n + (if f (n + 1) ≤ 0 then 0 else 1) + (mo_dn f n + if f (n + 1) = 0 then 1 else 0) = n + 1
    by_cases e : f (n + 1) = 0
    · rw [if_pos e, if_pos (by rw [e]; exact Int32.le_refl _)]; omega
    · rw [if_neg e, if_neg (fun z => e (by rw [zz_le, tI_0] at z; rw [zz_eq, tI_0]; unfold zz_in at hz; omega))]; omega
theorem st_count (x : Int32) : rl_st yX8_count cX8_count 2 (some (.int)) yX9_count cX9_count 4 (some (.int)) [.inl x] := by
  intro ad μc μ0 len n dy pl sa wy L sp h0
  have hc := h0.2.2.1.1
  have hn := h0.2.2.1.2.2.1
  have hpn := h0.2.2.2.2.1.2.2.2.2.1
  refine ⟨_, μc, c_X8_count 20 (by omega) ad μc n hc hn pl h0.2.2.2.2.1.2.2.2.1 (by omega) x, fun _ _ => rfl, fun μm h => ⟨μm, (c_X9_count 20 (by omega) ad μm h.2.1.2.2.2.2.2.2.2 n (rl_ckm h) pl sp L _ (rl_mogo h) x).to ?_ rfl, fun _ _ => rfl, h.rl⟩⟩
  have hw := rl_wrk h
  obtain ⟨-, -, ⟨c1, c2, c3, c4, c5, -⟩, -, ⟨e1, e2, e3, e4, e5, e6, e7, e8, e9, e10, e11, e12, e13⟩, ⟨f1, f2, f3, f4, f5, f6, f7, f8, f9⟩⟩ := h
  have q1 : μc 8 = μm 61 := c4 1 (by omega)
  have q5 : μc 12 = μm 65 := c4 5 (by omega)
  have hd := rl_dn (f := μm 61) n (fun g h1 h2 => by rw [← q1]; exact (c5 g h1 h2).1)
  have x5 : μc 6 0 - nI (sp_opn (μc 8) n) = nI (mo_dn (μm 61) n) := by
    rw [c1, q1, pk_sub (by omega)]
    exact congrArg nI (by omega)
  have x1 : mo_c1 μm = nI pl := by
    unfold mo_c1
    by_cases z : wy = 0
    · rw [e9, z, if_pos (by decide), e6, e12 z]
    · rw [e9, if_neg (nI_nle (by omega) (by omega)), e13 (by omega)]
  have x6 : mo_c6 μm pl = sp_how μc pl := by
    unfold mo_c6 sp_how
    by_cases z : wy = 0
    · have a1 : μm 54 36 ≤ 0 := by rw [e9, z]; decide
      rw [if_neg (fun q => q a1)]
      by_cases z2 : μc 53 4 = 0
      · rw [if_pos z2, if_pos (fun q => (hw.mp q).1 z2)]
      · rw [if_neg z2, if_neg (fun q => q (hw.mpr ⟨z2, z⟩)), e8, z, if_neg (show ¬ ¬ nI 0 ≤ 0 from fun q => q (by decide)), q5, e1, e2]
    · have z2 : ¬ μc 53 4 = 0 := fun q => z (f8 q).1
      have a1 : ¬ μm 54 36 ≤ 0 := by rw [e9]; exact nI_nle (by omega) (by omega)
      rw [if_pos a1, if_neg z2, e8, if_pos (nI_nle (by omega) (by omega))]
  unfold mo_cnt sp_count
  rw [x1, x5, x6, e1, e2, e4, e8, e9, e11, c1, c2]
set_option maxRecDepth 20000 in
set_option maxHeartbeats 2000000 in
theorem mo_outNo (d : Nat) (ad : Nat → Nat) (μ : vx_mem) (ht : μ 54 0 = 0) (h : μ 54 46 = 0 ∨ ¬ μ 54 47 = 0) : vx_Mf yX9_out cX9_out 1 (some (.boolean)) d ad 82 vx_lay μ [vx_r 54] (some (.inl 0)) μ := by
  have key : ∀ (Post : vx_P) (ini : Bool), Post (some (.inl 0)) ad 82 vx_lay μ → vx_J RX9 cX9_out 1 (some (.boolean)) ini d 0 0 Post ad 0 0 82 vx_lay μ 0 [(0, vx_r 54)] [] := by
    intro Post ini hP
    refine vx_aload_n dX9_out_0 rfl ?_
    refine vx_iconst (v := 0) dX9_out_1 (by decide) ?_
    refine vx_putI (ci := 9) (T := TX9) (n := 56) (j := 0) (a := 54) (ty := .int) (μ2 := (va_up μ 54 (upd (μ 54) 0 0))) dX9_out_2 rfl lay_X9 tyX9_ok nmX9 (by decide) wd_736 rfl rfl rfl rfl (by decide) ly_54 rfl rfl ?_
    refine vx_eq (μ2 := μ) (by rw [sp_ups ht, vx_up_id]) rfl rfl ?_
    refine vx_aload_n dX9_out_5 rfl ?_
    refine vx_getI (ci := 9) (T := TX9) (n := 56) (j := 46) (a := 54) (v := (μ 54 46)) dX9_out_6 rfl lay_X9 (by decide) wd_782 (by decide) ly_54 rfl rfl ?_
    refine vx_if_eq (tgt := 37) dX9_out_9 (by decide) (fun c_9 => ?_) (fun c_9 => ?_)
    · refine vx_iconst (v := 0) dX9_out_37 (by decide) ?_
      exact vx_ret (ty := .boolean) dX9_out_38 rfl rfl (Nat.le_refl 0) (Nat.le_refl 0) (vx_pst hP rfl rfl)
    · refine vx_aload_n dX9_out_12 rfl ?_
      refine vx_getI (ci := 9) (T := TX9) (n := 56) (j := 47) (a := 54) (v := (μ 54 47)) dX9_out_13 rfl lay_X9 (by decide) wd_783 (by decide) ly_54 rfl rfl ?_
      refine vx_if_ne (tgt := 37) dX9_out_16 (by decide) (fun c_16 => ?_) (fun c_16 => ?_)
      · refine vx_iconst (v := 0) dX9_out_37 (by decide) ?_
        exact vx_ret (ty := .boolean) dX9_out_38 rfl rfl (Nat.le_refl 0) (Nat.le_refl 0) (vx_pst hP rfl rfl)
      · exact absurd c_16 (h.resolve_left c_9)
  exact vx_J.M pn_X9_out (Nat.le_of_ble_eq_true rfl) (key _ _ ⟨rfl, rfl, rfl, rfl, rfl⟩)
theorem st_out : rl_st yX8_out cX8_out 2 (some (.boolean)) yX9_out cX9_out 1 (some (.boolean)) [] := by
  intro ad μc μ0 len n dy pl sa wy L sp h0
  have hn := h0.2.2.1.2.2.1
  have hpn := h0.2.2.2.2.1.2.2.2.2.1
  have hp := h0.2.2.2.2.1.2.2.2.1
  obtain ⟨fi, hfi, hfn⟩ : ∃ fi, (0 < L → μc 48 0 = nI fi ∧ 1 ≤ fi) ∧ fi ≤ n := by
    rcases Nat.eq_zero_or_pos L with z | z
    · exact ⟨0, fun q => by omega, Nat.zero_le _⟩
    · obtain ⟨o, o1, o2, o3, _⟩ := h0.2.2.2.2.2.2.2.2.2.1 0 z
      exact ⟨o, fun _ => ⟨o3, o1⟩, o2⟩
  have hL := h0.2.2.2.2.2.1
  have hL7 := h0.2.2.2.2.2.2.1
  have hLz : μc 47 0 = 0 ↔ L = 0 := by rw [hL, show (0 : Int32) = nI 0 from rfl, nI_eq (by omega) (by omega)]
  have hCt := c_X8_out 20 (by omega) ad μc pl fi hp (by omega) (fun z => (hfi (by rcases Nat.eq_zero_or_pos L with q | q; exact absurd (hLz.mpr q) z; exact q)).1) (by omega)
  by_cases hk : sp_outOk μc pl fi
  · refine ⟨1, sp_outM μc pl fi, hCt.to (by rw [if_pos hk]) (if_pos hk), fun p hp => by unfold sp_outM; rw [vu_ne (by omega), vu_ne (by omega)], fun μm h => ?_⟩
    obtain ⟨k1, k2, k3, k4⟩ := hk
    have hL0 : 0 < L := by
      rcases Nat.eq_zero_or_pos L with q | q
      · exact absurd (hLz.mpr q) k1
      · exact q
    obtain ⟨hA, hB, hC, hD, ⟨e1, e2, e3, e4, e5, e6, e7, e8, e9, e10, e11, e12, e13⟩, ⟨f1, f2, f3, f4, f5, f6, f7, f8, f9⟩⟩ := id h
    obtain ⟨g1, g2, g3⟩ := f4 hL0
    have hg0 : μc 53 4 = 0 := by
      by_cases z : μc 53 4 = 0
      · exact z
      · exact absurd (g3.symm.trans k2) (f7 z).2.2.2.1
    have hwy := (f8 hg0).1
    have hsa := e12 hwy
    have h47 : μm 54 47 = 0 := g3.symm.trans k2
    have htu := f9 hL0 h47
    obtain ⟨o, o1, o2, o3, o4⟩ := f5 0 hL0
    have hof : o = fi := (nI_eq (by omega) (by omega)).mp (o3.symm.trans (hfi hL0).1)
    rw [hof] at o4
    have hwv : ∀ (q : ¬ pl = fi), ∃ w, w ≤ 9 ∧ μm 71 (8 * sa + fi) = nI (w + 1) ∧ sp_btw μc pl fi = nI w := by
      intro q
      obtain ⟨w, w1, w2, w3⟩ := hD.1 pl fi (by omega) (by omega)
      have eb : sp_btw μc pl fi = nI w - 1 := by unfold sp_btw; rw [if_neg q]; exact w3
      rcases w with _ | w
      · rw [eb] at k4; exact absurd (by decide) k4
      · exact ⟨w, by omega, by rw [hsa]; exact w2, by rw [eb]; exact nI_pred w⟩
    have hok : mo_ook μm sa fi := by
      refine ⟨fun z => by have := f3.mp z; omega, h47, by rw [← g2, k3, e1, e2], ?_⟩
      unfold mo_so
      by_cases q : fi = sa
      · rw [if_pos q]; decide
      · obtain ⟨w, w1, w2, w3⟩ := hwv (fun z => q (by rw [hsa, z]))
        rw [if_neg q, if_neg (by rw [w2]; exact nI_ne0 (by omega) (by omega))]
        decide
    refine ⟨_, (c_X9_out 20 (by omega) ad μm hB.2.2.2.2.2.2.2 0 fi sa (fun _ => ⟨htu, o4⟩) (by omega) (by omega) e6 (by omega)).to (by rw [if_pos hok]) (if_pos hok), fun p hp => ?_, ?_⟩
    · unfold mo_soM
      rw [vu_ne (by omega)]
      split
      · rfl
      · split
        · rfl
        · exact vu_ne (by omega)
    · have hm55 : ∀ p, 55 ≤ p → va_up (mo_soM μm sa fi) 54 (upd (mo_soM μm sa fi 54) 47 1) p = μm p := by
        intro p hp
        unfold mo_soM
        rw [vu_ne (by omega)]
        split
        · rfl
        · split
          · rfl
          · exact vu_ne (by omega)
      have hj : ∀ j, j ≠ 35 → j ≠ 36 → j ≠ 37 → j ≠ 47 → va_up (mo_soM μm sa fi) 54 (upd (mo_soM μm sa fi 54) 47 1) 54 j = μm 54 j := by
        intro j j1 j2 j3 j4
        rw [vu_eq, pk_un j4]
        unfold mo_soM mo_so54
        split
        · rfl
        · split
          · rfl
          · rw [vu_eq]
            split
            · rw [pk_un j1, pk_un j3, pk_un j2]
            · rw [pk_un j3, pk_un j2]
      have h47' : va_up (mo_soM μm sa fi) 54 (upd (mo_soM μm sa fi 54) 47 1) 54 47 = 1 := by rw [vu_eq, pk_us]
      obtain ⟨wy', sa', hE', hx⟩ : ∃ wy' sa', rlE n dy fi sa' wy' (sp_outM μc pl fi) (va_up (mo_soM μm sa fi) 54 (upd (mo_soM μm sa fi 54) 47 1)) ∧ True := by
        by_cases q : pl = fi
        · have q2 : fi = sa := by rw [hsa, q]
          refine ⟨0, sa, ⟨e1, (hj 34 (by decide) (by decide) (by decide) (by decide)).trans e2, e3, rfl, by omega, ?_, e7, ?_, ?_, by omega, e11.trans (hj 38 (by decide) (by decide) (by decide) (by decide)).symm, fun _ => q2.symm, fun z => by omega⟩, trivial⟩
          · show upd (mo_soM μm sa fi 54) 47 1 35 = _
            unfold mo_soM
            rw [if_pos q2, pk_un (by decide)]
            exact e6
          · show sp_btw μc pl fi = nI 0
            unfold sp_btw
            rw [if_pos q]
            rfl
          · show upd (mo_soM μm sa fi 54) 47 1 36 = _
            unfold mo_soM
            rw [if_pos q2, pk_un (by decide), e9, hwy]
        · have q2 : ¬ fi = sa := fun z => q (by rw [z, hsa])
          obtain ⟨w, w1, w2, w3⟩ := hwv q
          have hso : mo_soM μm sa fi 54 = mo_so54 μm sa fi := by
            unfold mo_soM
            rw [if_neg q2, if_neg (by rw [w2]; exact nI_ne0 (by omega) (by omega)), vu_eq]
          have hw4 : μm 71 (8 * sa + fi) - 1 = nI w := by rw [w2]; exact nI_pred w
          rcases w with _ | w
          · refine ⟨0, fi, ⟨e1, (hj 34 (by decide) (by decide) (by decide) (by decide)).trans e2, e3, rfl, by omega, ?_, hfn, w3, ?_, by omega, e11.trans (hj 38 (by decide) (by decide) (by decide) (by decide)).symm, fun _ => rfl, fun z => by omega⟩, trivial⟩
            · show upd (mo_soM μm sa fi 54) 47 1 35 = _
              rw [hso, pk_un (by decide)]
              unfold mo_so54
              rw [hw4, if_pos (show nI 0 = 0 from rfl), pk_us]
            · show upd (mo_soM μm sa fi 54) 47 1 36 = _
              rw [hso, pk_un (by decide)]
              unfold mo_so54
              rw [hw4, if_pos (show nI 0 = 0 from rfl), pk_un (by decide), pk_un (by decide), pk_us]
          · have hnz : ¬ nI (w + 1) = 0 := nI_ne0 (by omega) (by omega)
            refine ⟨w + 1, sa, ⟨e1, (hj 34 (by decide) (by decide) (by decide) (by decide)).trans e2, e3, rfl, by omega, ?_, e7, w3, ?_, by omega, e11.trans (hj 38 (by decide) (by decide) (by decide) (by decide)).symm, fun z => by omega, fun _ => ?_⟩, trivial⟩
            · show upd (mo_soM μm sa fi 54) 47 1 35 = _
              rw [hso, pk_un (by decide)]
              unfold mo_so54
              rw [hw4, if_neg hnz, pk_un (by decide), pk_un (by decide)]
              exact e6
            · show upd (mo_soM μm sa fi 54) 47 1 36 = _
              rw [hso, pk_un (by decide)]
              unfold mo_so54
              rw [hw4, if_neg hnz, pk_un (by decide), pk_us]
            · show upd (mo_soM μm sa fi 54) 47 1 37 = _
              rw [hso, pk_un (by decide)]
              unfold mo_so54
              rw [hw4, if_neg hnz, pk_us]
      refine ⟨len, n, dy, fi, sa', wy', L, 0, rlA_c hA rfl rfl (hj 2 (by decide) (by decide) (by decide) (by decide)) (hm55 55 (by omega)), rlB_c hB rfl rfl rfl (hm55 56 (by omega)) (hm55 57 (by omega)) (hm55 58 (by omega)) (hm55 59 (by omega)) (hj 16 (by decide) (by decide) (by decide) (by decide)) (hj 17 (by decide) (by decide) (by decide) (by decide)) (hj 0 (by decide) (by decide) (by decide) (by decide)),
        rlC_c hC rfl (fun p h1 h2 => by unfold sp_outM; rw [vu_ne (by omega), vu_ne (by omega)]) (hj 18 (by decide) (by decide) (by decide) (by decide)) (fun p h1 h2 => hm55 p (by omega)), rlD_c hD (fun p h1 h2 => by unfold sp_outM; rw [vu_ne (by omega), vu_ne (by omega)]) (fun p h1 h2 => by unfold sp_outM; rw [vu_ne (by omega), vu_ne (by omega)]) (hm55 71 (by omega)) (hm55 72 (by omega)), hE', ?_⟩
      have hp5 : ∀ p, 48 ≤ p → p ≤ 52 → sp_outM μc pl fi p = μc p := fun p h1 h2 => by unfold sp_outM; rw [vu_ne (by omega), vu_ne (by omega)]
      refine ⟨f1, f2, (by rw [hj 46 (by decide) (by decide) (by decide) (by decide)]; exact f3), fun _ => ⟨(hj 44 (by decide) (by decide) (by decide) (by decide)).trans g1, g2.trans (hj 45 (by decide) (by decide) (by decide) (by decide)).symm, h47'.symm⟩, ?_, ?_, fun _ => ⟨hL0, rfl, (hj 48 (by decide) (by decide) (by decide) (by decide)).trans htu, by rw [h47']; decide, (hfi hL0).1, (hfi hL0).2⟩, fun z => absurd z (by show ¬ (1 : Int32) = 0; decide), fun _ z => absurd (h47'.symm.trans z) (by decide)⟩
      · rw [hp5 48 (by omega) (by omega), hm55 74 (by omega)]; exact f5
      · rw [hp5 49 (by omega) (by omega), hp5 50 (by omega) (by omega), hp5 51 (by omega) (by omega), hp5 52 (by omega) (by omega), hm55 75 (by omega), hm55 76 (by omega), hm55 77 (by omega), hm55 78 (by omega)]; exact f6
  · refine ⟨0, μc, hCt.to (by rw [if_neg hk]) (if_neg hk), fun _ _ => rfl, fun μm h => ?_⟩
    obtain ⟨hA, hB, hC, hD, ⟨e1, e2, e3, e4, e5, e6, e7, e8, e9, e10, e11, e12, e13⟩, ⟨f1, f2, f3, f4, f5, f6, f7, f8, f9⟩⟩ := id h
    by_cases h1 : μm 54 46 = 0 ∨ ¬ μm 54 47 = 0
    · exact ⟨μm, mo_outNo 20 ad μm hB.2.2.2.2.2.2.2 h1, fun _ _ => rfl, h.rl⟩
    · have h46 : ¬ μm 54 46 = 0 := fun z => h1 (Or.inl z)
      have h47 : μm 54 47 = 0 := Decidable.not_not.mp (fun z => h1 (Or.inr z))
      have hL0 : 0 < L := by
        rcases Nat.eq_zero_or_pos L with q | q
        · exact absurd (f3.mpr q) h46
        · exact q
      obtain ⟨g1, g2, g3⟩ := f4 hL0
      have htu := f9 hL0 h47
      obtain ⟨o, o1, o2, o3, o4⟩ := f5 0 hL0
      have hof : o = fi := (nI_eq (by omega) (by omega)).mp (o3.symm.trans (hfi hL0).1)
      rw [hof] at o4
      have hg0 : μc 53 4 = 0 := by
        by_cases z : μc 53 4 = 0
        · exact z
        · exact absurd h47 (f7 z).2.2.2.1
      have hsa := e12 (f8 hg0).1
      have hm : ¬ mo_ook μm sa fi := by
        rintro ⟨m1, m2, m3, m4⟩
        refine hk ⟨fun z => by have := hLz.mp z; omega, g3.trans h47, by rw [g2, m3, e1, e2], ?_⟩
        unfold mo_so at m4
        unfold sp_btw
        by_cases q : pl = fi
        · rw [if_pos q]; decide
        · rw [if_neg q]
          rw [if_neg (fun z => q (by rw [z, hsa]))] at m4
          obtain ⟨w, w1, w2, w3⟩ := hD.1 pl fi (by omega) (by omega)
          rw [hsa, w2] at m4
          rw [w3]
          rcases w with _ | w
          · exact absurd (if_pos rfl) m4
          · rw [nI_pred]
            exact nI_nm1 (by omega)
      exact ⟨μm, (c_X9_out 20 (by omega) ad μm hB.2.2.2.2.2.2.2 0 fi sa (fun _ => ⟨htu, o4⟩) (by omega) (by omega) e6 (by omega)).to (by rw [if_neg hm]) (if_neg hm), fun _ _ => rfl, h.rl⟩
end
