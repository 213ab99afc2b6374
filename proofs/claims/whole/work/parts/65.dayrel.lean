section
variable {len n dy pl sa wy L sp : Nat} {μc μm μc' μm' : vx_mem}
theorem mo_ol_at {O gi : Nat → Int32} {f : Nat} (h1 : 1 ≤ f) (hf : f < 8) (hz : gi f = 0) : ∀ t, t ≤ 7 → ∀ a b, a < 8 → b < 8 → mo_ol O gi f t (8 * a + b) = if a = f ∧ 1 ≤ b ∧ b ≤ t ∧ b ≠ f then O (8 * a + b) + gi b else if b = f ∧ 1 ≤ a ∧ a ≤ t ∧ a ≠ f then O (8 * a + b) - gi a else O (8 * a + b)
  | 0, _, a, b, ha, hb => by
    rw [if_neg (by omega), if_neg (by omega)]
    rfl
  | t + 1, ht, a, b, ha, hb => by
    have ih := mo_ol_at (O := O) h1 hf hz t (by omega)
    show upd (upd (mo_ol O gi f t) (8 * f + (t + 1)) (mo_ol O gi f t (8 * f + (t + 1)) + gi (t + 1))) (8 * (t + 1) + f) (upd (mo_ol O gi f t) (8 * f + (t + 1)) (mo_ol O gi f t (8 * f + (t + 1)) + gi (t + 1)) (8 * (t + 1) + f) - gi (t + 1)) (8 * a + b) = _
    rw [upd_at]
    by_cases e1 : a = t + 1 ∧ b = f
    · rw [if_pos (show 8 * a + b = 8 * (t + 1) + f by omega), upd_at]
      by_cases e2 : t + 1 = f
      · rw [if_pos (show 8 * (t + 1) + f = 8 * f + (t + 1) by omega), ih f (t + 1) hf (by omega), if_neg (by omega), if_neg (by omega), if_neg (by omega), if_neg (by omega), e2, hz, show 8 * a + b = 8 * f + f by omega]
        grind
      · rw [if_neg (show ¬ 8 * (t + 1) + f = 8 * f + (t + 1) by omega), ih (t + 1) f (by omega) hf, if_neg (by omega), if_neg (by omega), if_neg (by omega), if_pos (by omega), show 8 * a + b = 8 * (t + 1) + f by omega, e1.1]
    · rw [if_neg (show ¬ 8 * a + b = 8 * (t + 1) + f by omega), upd_at]
      by_cases e3 : a = f ∧ b = t + 1
      · rw [if_pos (show 8 * a + b = 8 * f + (t + 1) by omega), ih f (t + 1) hf (by omega), if_neg (by omega), if_neg (by omega), if_pos (by omega), show 8 * a + b = 8 * f + (t + 1) by omega, e3.2]
      · rw [if_neg (show ¬ 8 * a + b = 8 * f + (t + 1) by omega), ih a b ha hb]
        have c1 : (a = f ∧ 1 ≤ b ∧ b ≤ t ∧ b ≠ f) ↔ (a = f ∧ 1 ≤ b ∧ b ≤ t + 1 ∧ b ≠ f) := by omega
        have c2 : (b = f ∧ 1 ≤ a ∧ a ≤ t ∧ a ≠ f) ↔ (b = f ∧ 1 ≤ a ∧ a ≤ t + 1 ∧ a ≠ f) := by omega
        simp only [c1, c2]
theorem rl_owe {μ1 : vx_mem} {O gi gv : Nat → Int32} {f n : Nat} (h1 : 1 ≤ f) (hf : f < 8) (hn : n ≤ 7) (hz : gi f = 0) (hg : ∀ g, 1 ≤ g → g ≤ n → gv g = gi g) (hO : ∀ a b, a < 8 → b < 8 → μ1 (30 + a) b = O (8 * a + b)) {a b : Nat} (ha : a < 8) (hb : b < 8) : sp_owe μ1 gv f n (30 + a) b = mo_ol O gi f n (8 * a + b) := by
  rw [mo_ol_at h1 hf hz n hn a b ha hb]
  unfold sp_owe
  rw [if_pos (by omega), hO a b ha hb]
  by_cases c1 : a = f ∧ 1 ≤ b ∧ b ≤ n ∧ b ≠ f
  · rw [if_pos (by omega), if_pos c1, hg b (by omega) (by omega)]
  · rw [if_neg (by omega), if_neg c1]
    by_cases c2 : b = f ∧ 1 ≤ a ∧ a ≤ n ∧ a ≠ f
    · rw [if_pos (by omega), if_pos c2, show 30 + a - 30 = a by omega, hg a (by omega) (by omega)]
    · rw [if_neg (by omega), if_neg c2]
theorem th2_ne {μ : vx_mem} {n f p : Nat} (h8 : p ≠ 8) (h14 : p ≠ 14) (h38 : p ≠ 38) (h : p < 30 ∨ 38 ≤ p) : sp_th2 μ n f p = μ p := by
  unfold sp_th2 sp_th1
  rw [sp_owe_out h, vu_ne h38, vu_ne h14, vu_ne h8]
theorem th2_8 {μ : vx_mem} {n f : Nat} : sp_th2 μ n f 8 = upd (μ 8) f (μ 8 f - sp_sh μ n f) := by
  unfold sp_th2 sp_th1
  rw [sp_owe_out (by omega), vu_ne (by omega), vu_ne (by omega), vu_eq]
theorem th2_14 {μ : vx_mem} {n f : Nat} : sp_th2 μ n f 14 = upd (μ 14) f (μ 14 f + 1) := by
  unfold sp_th2 sp_th1
  rw [sp_owe_out (by omega), vu_ne (by omega), vu_eq]
theorem mt1_ne {μ : vx_mem} {n f p : Nat} (h0 : p ≠ 54) (h1 : p ≠ 61) (h2 : p ≠ 67) (h3 : p ≠ 72) (h4 : p ≠ 73) : mo_th1 μ n f p = μ p := by
  unfold mo_th1
  rw [vu_ne h4, vu_ne h3, vu_ne h2, vu_ne h1, vu_ne h0]
theorem mt1_54 {μ : vx_mem} {n f j : Nat} (h : j ≠ 33) : mo_th1 μ n f 54 j = μ 54 j := by
  show upd (μ 54) 33 _ j = _
  exact pk_un h
/-- what one day's threshing takes -/
theorem rl_sh (h : rlp len n dy pl sa wy L sp μc μm) (h1 : 1 ≤ pl) (h2 : pl ≤ n) : sp_sh μc n pl = mo_sh μm n pl ∧ (0 ≤ (μc 8 pl - sp_sh μc n pl).toInt ∧ (μc 8 pl - sp_sh μc n pl).toInt ≤ (μc 8 pl).toInt) ∧ (μc 8 pl).toInt ≤ 300 := by
  have hn := h.2.2.1.2.2.1
  have hs := rl_speed h (f := pl) (by omega)
  have hz := (h.2.2.1.2.2.2.2.1 pl h1 h2).1
  have q1 : μc 8 = μm 61 := h.2.2.1.2.2.2.1 1 (by omega)
  have hsp : 1 ≤ (sp_speed μc n pl).toInt := by
    unfold sp_speed
    rw [sp_max_int, tI_1]
    omega
  refine ⟨by unfold sp_sh mo_sh; rw [hs, q1, sp_min_comm], ?_, hz.2⟩
  have hm : (sp_sh μc n pl).toInt = min (sp_speed μc n pl).toInt (μc 8 pl).toInt := by unfold sp_sh; rw [sp_min_int]
  unfold zz_in at hz
  rw [zz_sub (by omega) (by omega)]
  omega
theorem rl_th (h : rlp len n dy pl sa wy L sp μc μm) (h1 : 1 ≤ pl) (h2 : pl ≤ n) : rlA len (sp_th2 μc n pl) (mo_th1 μm n pl) ∧ rlB (sp_th2 μc n pl) (mo_th1 μm n pl) ∧ rlD (sp_th2 μc n pl) (mo_th1 μm n pl) ∧ rlE n dy pl sa wy (sp_th2 μc n pl) (mo_th1 μm n pl) ∧ rlF n pl wy L sp (sp_th2 μc n pl) (mo_th1 μm n pl) ∧ (∀ q, q < 11 → sp_th2 μc n pl (7 + q) = mo_th1 μm n pl (60 + q)) ∧ (∀ g, 1 ≤ g → g ≤ n → zz_in (sp_th2 μc n pl 8 g) 0 300) ∧ (∀ g, 1 ≤ g → g ≤ n → g ≠ pl → (μc 15 g = -1 ↔ ¬ sp_th2 μc n pl 8 g ≤ 0)) := by
  have hn := h.2.2.1.2.2.1
  obtain ⟨s1, s2, s3⟩ := rl_sh h h1 h2
  obtain ⟨g1, g2, g3⟩ := rl_Gok h h1 h2
  have hG := rl_G h (f := pl) (by omega)
  obtain ⟨hA, hB, ⟨c1, c2, c3, c4, c5, c6, c7⟩, ⟨d1, d2⟩, hE, hF⟩ := h
  have q1 : μc 8 = μm 61 := c4 1 (by omega)
  have q7 : μc 14 = μm 67 := c4 7 (by omega)
  refine ⟨rlA_c hA (by rw [th2_ne (by omega) (by omega) (by omega) (by omega)]) (th2_ne (by omega) (by omega) (by omega) (by omega)) (mt1_54 (by omega)) (mt1_ne (by omega) (by omega) (by omega) (by omega) (by omega)),
    rlB_c hB (th2_ne (by omega) (by omega) (by omega) (by omega)) (by rw [th2_ne (by omega) (by omega) (by omega) (by omega)]) (by rw [th2_ne (by omega) (by omega) (by omega) (by omega)]) (mt1_ne (by omega) (by omega) (by omega) (by omega) (by omega)) (mt1_ne (by omega) (by omega) (by omega) (by omega) (by omega)) (mt1_ne (by omega) (by omega) (by omega) (by omega) (by omega)) (mt1_ne (by omega) (by omega) (by omega) (by omega) (by omega)) (mt1_54 (by omega)) (mt1_54 (by omega)) (mt1_54 (by omega)),
    ⟨fun a b ha hb => ?_, fun a b ha hb => ?_⟩,
    rlE_c hE (fun j _ => by rw [th2_ne (by omega) (by omega) (by omega) (by omega)]) (fun j _ _ => mt1_54 (by omega)),
    rlF_c hF (th2_ne (by omega) (by omega) (by omega) (by omega)) (fun p _ _ => th2_ne (by omega) (by omega) (by omega) (by omega)) (by rw [th2_ne (by omega) (by omega) (by omega) (by omega)]) (by rw [th2_ne (by omega) (by omega) (by omega) (by omega)]) (fun j _ _ => mt1_54 (by omega)) (fun p _ _ => mt1_ne (by omega) (by omega) (by omega) (by omega) (by omega)), fun q hq => ?_, fun g a b => ?_, fun g a b e => ?_⟩
  · rw [th2_ne (by omega) (by omega) (by omega) (by omega), mt1_ne (by omega) (by omega) (by omega) (by omega) (by omega)]
    exact d1 a b ha hb
  · have e1 : mo_th1 μm n pl 72 = mo_ol (μm 72) (mo_gi μm n pl) pl n := rfl
    rw [e1]
    have hgi : ∀ g, 1 ≤ g → g ≤ n → mo_gi μm n pl g = (mo_G μm n pl).1 g := by
      intro g a b
      have hz := g2 g a b
      unfold mo_gi mo_gg
      rw [if_pos (by omega), if_neg (fun z => by rw [z] at hz; exact absurd hz.1 (by decide))]
    unfold sp_th2
    refine rl_owe h1 (by omega) hn (by rw [hgi pl h1 h2, g3]) (fun g a b => ?_) (fun a b ha hb => ?_) ha hb
    · rw [hgi g a b, ← hG]
      unfold sp_mix
      rw [if_pos (by omega)]
    · unfold sp_th1
      rw [vu_ne (by omega), vu_ne (by omega), vu_ne (by omega)]
      exact d2 a b ha hb
  · by_cases e1 : q = 1
    · subst e1
      show sp_th2 μc n pl 8 = upd (μm 61) pl (μm 61 pl - mo_sh μm n pl)
      rw [th2_8, s1, q1]
    · by_cases e7 : q = 7
      · subst e7
        show sp_th2 μc n pl 14 = upd (μm 67) pl (μm 67 pl + 1)
        rw [th2_14, q7]
      · rw [th2_ne (by omega) (by omega) (by omega) (by omega), mt1_ne (by omega) (by omega) (by omega) (by omega) (by omega)]
        exact c4 q hq
  · rw [th2_8]
    by_cases e : g = pl
    · rw [e, pk_us]
      unfold zz_in
      omega
    · rw [pk_un e]
      exact (c5 g a b).1
  · rw [th2_8, pk_un e]
    exact c6 g a b
/-- a threshing that leaves something -/
theorem rl_th1 (h : rlp len n dy pl sa wy L sp μc μm) (h1 : 1 ≤ pl) (h2 : pl ≤ n) (hl : ¬ μc 8 pl - sp_sh μc n pl ≤ 0) : rlp len n dy pl sa wy L sp (sp_th2 μc n pl) (mo_th1 μm n pl) := by
  obtain ⟨a1, a2, a3, a4, a5, a6, a7, a8⟩ := rl_th h h1 h2
  obtain ⟨s1, s2, s3⟩ := rl_sh h h1 h2
  obtain ⟨-, -, ⟨c1, c2, c3, c4, c5, c6, c7⟩, -⟩ := h
  refine ⟨a1, a2, ⟨by rw [th2_ne (by omega) (by omega) (by omega) (by omega)]; exact c1, (mt1_54 (by omega)).trans c2, c3, a6, fun g g1 g2 => ⟨a7 g g1 g2, ?_⟩, fun g g1 g2 => ?_, ?_⟩, a3, a4, a5⟩
  · rw [th2_ne (by omega) (by omega) (by omega) (by omega), th2_ne (by omega) (by omega) (by omega) (by omega), th2_ne (by omega) (by omega) (by omega) (by omega), th2_ne (by omega) (by omega) (by omega) (by omega)]
    exact (c5 g g1 g2).2
  · rw [th2_ne (by omega) (by omega) (by omega) (by omega)]
    by_cases e : g = pl
    · subst e
      rw [th2_8, pk_us]
      refine ⟨fun _ => hl, fun _ => (c6 g g1 g2).mpr (fun z => hl ?_)⟩
      rw [zz_le, tI_0] at z ⊢
      omega
    · exact a8 g g1 g2 e
  · rw [th2_ne (by omega) (by omega) (by omega) (by omega)]
    exact c7
/-- one that leaves nothing -/
theorem rl_th3 (h : rlp len n dy pl sa wy L sp μc μm) (h1 : 1 ≤ pl) (h2 : pl ≤ n) (hl : μc 8 pl - sp_sh μc n pl ≤ 0) : rlA len (sp_th3 μc n pl) (mo_th2 μm n pl sp) ∧ rlB (sp_th3 μc n pl) (mo_th2 μm n pl sp) ∧ rlC n (sp_th3 μc n pl) (mo_th2 μm n pl sp) ∧ rlD (sp_th3 μc n pl) (mo_th2 μm n pl sp) ∧ rlE n dy pl sa wy (sp_th3 μc n pl) (mo_th2 μm n pl sp) ∧ sp_th3 μc n pl 53 = μc 53 ∧ (∀ p, 47 ≤ p → p ≤ 52 → sp_th3 μc n pl p = μc p) ∧ (∀ p, 74 ≤ p → p ≤ 78 → mo_th2 μm n pl sp p = μm p) ∧ (∀ j, j ≠ 33 → j ≠ 48 → mo_th2 μm n pl sp 54 j = μm 54 j) ∧ mo_th2 μm n pl sp 54 48 = nI (sp + 1) := by
  obtain ⟨a1, a2, a3, a4, a5, a6, a7, a8⟩ := rl_th h h1 h2
  obtain ⟨-, -, ⟨c1, c2, c3, c4, c5, c6, c7⟩, -, ⟨e1, e2, e3, -⟩, -⟩ := h
  have t3 : ∀ p, p ≠ 15 → sp_th3 μc n pl p = sp_th2 μc n pl p := fun p hp => vu_ne hp
  have t2 : ∀ p, p ≠ 54 → p ≠ 68 → mo_th2 μm n pl sp p = mo_th1 μm n pl p := fun p q1 q2 => by unfold mo_th2; rw [vu_ne q2, vu_ne q1]
  have t4 : ∀ j, j ≠ 48 → mo_th2 μm n pl sp 54 j = mo_th1 μm n pl 54 j := fun j hj => by
    unfold mo_th2
    rw [vu_ne (by omega), vu_eq, pk_un hj]
  have q8 : μc 15 = μm 68 := c4 8 (by omega)
  refine ⟨rlA_c a1 (by rw [t3 1 (by omega)]) (t3 2 (by omega)) (t4 2 (by omega)) (t2 55 (by omega) (by omega)), rlB_c a2 (t3 4 (by omega)) (by rw [t3 3 (by omega)]) (by rw [t3 3 (by omega)]) (t2 56 (by omega) (by omega)) (t2 57 (by omega) (by omega)) (t2 58 (by omega) (by omega)) (t2 59 (by omega) (by omega)) (t4 16 (by omega)) (t4 17 (by omega)) (t4 0 (by omega)),
    ⟨by rw [t3 6 (by omega), th2_ne (by omega) (by omega) (by omega) (by omega)]; exact c1, ((t4 18 (by omega)).trans (mt1_54 (by omega))).trans c2, c3, fun q hq => ?_, fun g g1 g2 => ?_, fun g g1 g2 => ?_, ?_⟩, rlD_c a3 (fun p _ _ => t3 p (by omega)) (fun p _ _ => t3 p (by omega)) (t2 71 (by omega) (by omega)) (t2 72 (by omega) (by omega)), rlE_c a4 (fun j _ => by rw [t3 53 (by omega)]) (fun j _ _ => t4 j (by omega)),
    (t3 53 (by omega)).trans (th2_ne (by omega) (by omega) (by omega) (by omega)), fun p q1 q2 => (t3 p (by omega)).trans (th2_ne (by omega) (by omega) (by omega) (by omega)), fun p q1 q2 => (t2 p (by omega) (by omega)).trans (mt1_ne (by omega) (by omega) (by omega) (by omega) (by omega)), fun j j1 j2 => (t4 j j2).trans (mt1_54 j1), ?_⟩
  · by_cases e8 : q = 8
    · subst e8
      show upd (μc 15) pl (μc 53 0) = upd (μm 68) pl (μm 54 34)
      rw [q8, e1, e2]
    · rw [t3 _ (by omega), t2 _ (by omega) (by omega)]
      exact a6 q hq
  · rw [t3 8 (by omega), t3 10 (by omega), t3 11 (by omega), t3 12 (by omega), t3 13 (by omega), th2_ne (p := 10) (by omega) (by omega) (by omega) (by omega), th2_ne (p := 11) (by omega) (by omega) (by omega) (by omega), th2_ne (p := 12) (by omega) (by omega) (by omega) (by omega), th2_ne (p := 13) (by omega) (by omega) (by omega) (by omega)]
    exact ⟨a7 g g1 g2, (c5 g g1 g2).2⟩
  · rw [t3 8 (by omega)]
    show upd (μc 15) pl (μc 53 0) g = -1 ↔ _
    by_cases e : g = pl
    · subst e
      rw [pk_us, e1, th2_8, pk_us]
      exact ⟨fun z => absurd z (nI_nm1 (by omega)), fun z => absurd hl z⟩
    · rw [pk_un e]
      exact a8 g g1 g2 e
  · rw [t3 16 (by omega), th2_ne (by omega) (by omega) (by omega) (by omega)]
    exact c7
  · unfold mo_th2
    rw [vu_ne (by omega), vu_eq, pk_us]
/-- setting out -/
theorem rl_so {fi : Nat} (hD : rlD μc μm) (hn : n ≤ 7) (hpn : pl ≤ n) (hfn : fi ≤ n) (e6 : μm 54 35 = nI pl) (e9 : μm 54 36 = nI 0) (k : ¬ sp_btw μc pl fi = -1) : ¬ mo_so μm pl fi = 0 ∧ ∃ w sa', w ≤ 9 ∧ sa' ≤ n ∧ sp_btw μc pl fi = nI w ∧ (∀ p, p ≠ 54 → mo_soM μm pl fi p = μm p) ∧ (∀ j, j ≠ 35 → j ≠ 36 → j ≠ 37 → mo_soM μm pl fi 54 j = μm 54 j) ∧ mo_soM μm pl fi 54 35 = nI sa' ∧ mo_soM μm pl fi 54 36 = nI w ∧ (w = 0 → sa' = fi) ∧ (0 < w → mo_soM μm pl fi 54 37 = nI fi) := by
  by_cases q : pl = fi
  · have e1 : mo_soM μm pl fi = μm := by unfold mo_soM; rw [if_pos q.symm]
    refine ⟨by unfold mo_so; rw [if_pos q.symm]; decide, 0, pl, by omega, hpn, ?_, ?_⟩
    · unfold sp_btw
      rw [if_pos q]
      rfl
    · rw [e1]
      exact ⟨fun _ _ => rfl, fun _ _ _ _ => rfl, e6, e9, fun _ => q, fun z => by omega⟩
  · have q2 : ¬ fi = pl := fun z => q z.symm
    obtain ⟨w, w1, w2, w3⟩ := hD.1 pl fi (by omega) (by omega)
    have eb : sp_btw μc pl fi = nI w - 1 := by unfold sp_btw; rw [if_neg q]; exact w3
    rcases w with _ | w
    · rw [eb] at k; exact absurd (by decide) k
    · have hw2 : ¬ μm 71 (8 * pl + fi) = 0 := by rw [w2]; exact nI_ne0 (by omega) (by omega)
      have e1 : mo_soM μm pl fi = va_up μm 54 (mo_so54 μm pl fi) := by
        unfold mo_soM
        rw [if_neg q2, if_neg hw2]
      have hw4 : μm 71 (8 * pl + fi) - 1 = nI w := by rw [w2]; exact nI_pred w
      have h37 : ∀ j, j ≠ 35 → j ≠ 36 → j ≠ 37 → mo_so54 μm pl fi j = μm 54 j := by
        intro j j1 j2 j3
        unfold mo_so54
        split
        · rw [pk_un j1, pk_un j3, pk_un j2]
        · rw [pk_un j3, pk_un j2]
      rcases w with _ | w
      · have e2 : mo_so54 μm pl fi = upd (upd (upd (μm 54) 36 (nI 0)) 37 (nI fi)) 35 (nI fi) := by
          unfold mo_so54
          rw [hw4, if_pos (show nI 0 = 0 from rfl)]
        refine ⟨by unfold mo_so; rw [if_neg q2, if_neg hw2]; decide, 0, fi, by omega, hfn, by rw [eb, nI_pred], ?_⟩
        rw [e1]
        refine ⟨fun p hp => vu_ne hp, fun j j1 j2 j3 => by rw [vu_eq]; exact h37 j j1 j2 j3, ?_, ?_, fun _ => rfl, fun z => by omega⟩
        · rw [vu_eq, e2, pk_us]
        · rw [vu_eq, e2, pk_un (by decide), pk_un (by decide), pk_us]
      · have hnz : ¬ nI (w + 1) = 0 := nI_ne0 (by omega) (by omega)
        have e2 : mo_so54 μm pl fi = upd (upd (μm 54) 36 (nI (w + 1))) 37 (nI fi) := by
          unfold mo_so54
          rw [hw4, if_neg hnz]
        refine ⟨by unfold mo_so; rw [if_neg q2, if_neg hw2]; decide, w + 1, pl, by omega, hpn, by rw [eb, nI_pred], ?_⟩
        rw [e1]
        refine ⟨fun p hp => vu_ne hp, fun j j1 j2 j3 => by rw [vu_eq]; exact h37 j j1 j2 j3, ?_, ?_, fun z => by omega, fun _ => ?_⟩
        · rw [vu_eq, e2, pk_un (by decide), pk_un (by decide)]; exact e6
        · rw [vu_eq, e2, pk_un (by decide), pk_us]
        · rw [vu_eq, e2, pk_us]
theorem rl_sono {fi : Nat} (hD : rlD μc μm) (hn : n ≤ 7) (hpn : pl ≤ n) (hfn : fi ≤ n) (k : sp_btw μc pl fi = -1) : mo_so μm pl fi = 0 := by
  unfold sp_btw at k
  by_cases q : pl = fi
  · rw [if_pos q] at k; exact absurd k (by decide)
  · rw [if_neg q] at k
    obtain ⟨w, w1, w2, w3⟩ := hD.1 pl fi (by omega) (by omega)
    unfold mo_so
    rw [if_neg (fun z => q z.symm), w2]
    rcases w with _ | w
    · exact if_pos rfl
    · rw [w3, nI_pred] at k
      exact absurd k (nI_nm1 (by omega))
/-- the threshing of a day -/
theorem rl_thr (h : rlp len n dy pl sa wy L sp μc μm) (hg : ¬ μc 53 4 = 0) (hw : wy = 0) : ∃ pl' sa' wy' sp', rlp len n dy pl' sa' wy' L sp' (sp_thr μc n pl sp L (rl_fo μc L sp)) (mo_thr μm n pl sp L (rl_fo μc L sp)) := by
  have hfo := rl_fo_ok h
  have hn := h.2.2.1.2.2.1
  have q1 : μc 8 = μm 61 := h.2.2.1.2.2.2.1 1 (by omega)
  obtain ⟨e1, e2, e3, e4, e5, e6, e7, e8, e9, e10, e11, e12, e13⟩ := h.2.2.2.2.1
  obtain ⟨f1, f2, f3, f4, f5, f6, f7, f8, f9⟩ := h.2.2.2.2.2
  obtain ⟨s1, s2, s3, s4, s5, s6⟩ := f7 hg
  obtain ⟨t1, t2, t3⟩ := rl_sh h s6 e5
  subst hw
  have hsa := e12 rfl
  subst hsa
  generalize rl_fo μc L sp = fo at *
  unfold sp_thr mo_thr
  rw [← t1, ← q1]
  by_cases hl : μc 8 sa - sp_sh μc n sa ≤ 0
  · rw [if_pos hl, if_neg (fun z => z hl)]
    obtain ⟨r1, r2, r3, r4, r5, r6, r7, r8, r9, r10⟩ := rl_th3 h s6 e5 hl
    generalize sp_th3 μc n sa = M at *
    generalize mo_th2 μm n sa sp = N at *
    have n35 : N 54 35 = nI sa := (r9 35 (by omega) (by omega)).trans e6
    have n36 : N 54 36 = nI 0 := (r9 36 (by omega) (by omega)).trans e9
    have hF0 : ∀ (M2 N2 : vx_mem), M2 47 = M 47 → (∀ p, 48 ≤ p → p ≤ 52 → M2 p = M p) → (∀ j, 44 ≤ j → j ≤ 47 → N2 54 j = N 54 j) → (∀ p, 74 ≤ p → p ≤ 78 → N2 p = N p) → M2 47 0 = nI L ∧ L ≤ 7 ∧ (N2 54 46 = 0 ↔ L = 0) ∧ (0 < L → N2 54 44 = nI L ∧ M2 47 1 = N2 54 45 ∧ M2 47 2 = N2 54 47) ∧ (∀ k, k < L → ∃ o, 1 ≤ o ∧ o ≤ n ∧ M2 48 k = nI o ∧ N2 74 k = nI o) ∧ (∀ k, k < L → M2 49 k = N2 75 k ∧ M2 50 k = N2 76 k ∧ M2 51 k = N2 77 k ∧ M2 52 k = N2 78 k) := by
      intro M2 N2 x1 x2 x3 x4
      rw [x1, x2 48 (by omega) (by omega), x2 49 (by omega) (by omega), x2 50 (by omega) (by omega), x2 51 (by omega) (by omega), x2 52 (by omega) (by omega), x3 44 (by omega) (by omega), x3 45 (by omega) (by omega), x3 46 (by omega) (by omega), x3 47 (by omega) (by omega), x4 74 (by omega) (by omega), x4 75 (by omega) (by omega), x4 76 (by omega) (by omega), x4 77 (by omega) (by omega), x4 78 (by omega) (by omega), r7 47 (by omega) (by omega), r7 48 (by omega) (by omega), r7 49 (by omega) (by omega), r7 50 (by omega) (by omega), r7 51 (by omega) (by omega), r7 52 (by omega) (by omega), r8 74 (by omega) (by omega), r8 75 (by omega) (by omega), r8 76 (by omega) (by omega), r8 77 (by omega) (by omega), r8 78 (by omega) (by omega), r9 44 (by omega) (by omega), r9 45 (by omega) (by omega), r9 46 (by omega) (by omega), r9 47 (by omega) (by omega)]
      exact ⟨f1, f2, f3, f4, f5, f6⟩
    have n47 : ¬ N 54 47 = 0 := by rw [r9 47 (by omega) (by omega)]; exact s4
    by_cases hx : sp + 1 < L ∧ ¬ sp_btw M sa fo = -1
    · obtain ⟨y1, w, sa', y2, y3, y4, y5, y6, y7, y8, y9, y10⟩ := rl_so r4 hn e5 hfo.2 n35 n36 hx.2
      have eM : sp_goOn M sp L sa fo = upd (upd (upd (M 53) 5 (nI (sp + 1))) 2 (nI w)) 1 (nI fo) := by unfold sp_goOn; rw [if_pos hx, y4]
      rw [eM, if_neg (fun z => z hx.1), if_neg y1]
      generalize mo_soM N sa fo = N2 at *
      obtain ⟨g1, g2, g3, g4, g5, g6⟩ := hF0 (va_up M 53 (upd (upd (upd (M 53) 5 (nI (sp + 1))) 2 (nI w)) 1 (nI fo))) N2 rfl (fun p _ _ => vu_ne (by omega)) (fun j _ _ => y6 j (by omega) (by omega) (by omega)) (fun p _ _ => y5 p (by omega))
      refine ⟨fo, sa', w, sp + 1, rlA_c r1 rfl rfl (y6 2 (by omega) (by omega) (by omega)) (y5 55 (by omega)), rlB_c r2 rfl rfl rfl (y5 56 (by omega)) (y5 57 (by omega)) (y5 58 (by omega)) (y5 59 (by omega)) (y6 16 (by omega) (by omega) (by omega)) (y6 17 (by omega) (by omega) (by omega)) (y6 0 (by omega) (by omega) (by omega)), rlC_c r3 rfl (fun p _ _ => vu_ne (by omega)) (y6 18 (by omega) (by omega) (by omega)) (fun p _ _ => y5 p (by omega)), rlD_c r4 (fun p _ _ => vu_ne (by omega)) (fun p _ _ => vu_ne (by omega)) (y5 71 (by omega)) (y5 72 (by omega)), ?_, g1, g2, g3, g4, g5, g6, fun _ => ?_, fun z => ?_, fun _ z => ?_⟩
      · refine ⟨?_, (y6 34 (by omega) (by omega) (by omega)).trans ((r9 34 (by omega) (by omega)).trans e2), e3, ?_, hfo.2, y7, y3, ?_, y8, y2, ?_, y9, y10⟩
        · show M 53 0 = _
          rw [r6]; exact e1
        · show upd (upd (upd (M 53) 5 (nI (sp + 1))) 2 (nI w)) 1 (nI fo) 1 = _
          exact pk_us
        · show upd (upd (upd (M 53) 5 (nI (sp + 1))) 2 (nI w)) 1 (nI fo) 2 = _
          rw [pk_un (by decide), pk_us]
        · show M 53 3 = _
          rw [r6, y6 38 (by omega) (by omega) (by omega), r9 38 (by omega) (by omega)]; exact e11
      · refine ⟨hx.1, ?_, ?_, ?_, ?_, (hfo.1 hx.1).2.2⟩
        · show upd (upd (upd (M 53) 5 (nI (sp + 1))) 2 (nI w)) 1 (nI fo) 5 = _
          rw [pk_un (by decide), pk_un (by decide), pk_us]
        · rw [y6 48 (by omega) (by omega) (by omega)]; exact r10
        · rw [y6 47 (by omega) (by omega) (by omega)]; exact n47
        · show M 48 (sp + 1) = _
          rw [r7 48 (by omega) (by omega)]; exact (hfo.1 hx.1).1
      · exfalso
        apply hg
        rw [← r6]
        exact z
      · rw [y6 47 (by omega) (by omega) (by omega)] at z
        exact absurd z n47
    · have eM : sp_goOn M sp L sa fo = upd (upd (M 53) 5 (nI (sp + 1))) 4 0 := by unfold sp_goOn; rw [if_neg hx]
      rw [eM]
      have fin : ∀ (N2 : vx_mem), (∀ p, p ≠ 54 → N2 p = N p) → (∀ j, j ≠ 48 → N2 54 j = N 54 j) → N2 54 48 = nI L → rlp len n dy sa sa 0 L sp (va_up M 53 (upd (upd (M 53) 5 (nI (sp + 1))) 4 0)) N2 := by
        intro N2 y5 y6 y7
        obtain ⟨g1, g2, g3, g4, g5, g6⟩ := hF0 (va_up M 53 (upd (upd (M 53) 5 (nI (sp + 1))) 4 0)) N2 rfl (fun p _ _ => vu_ne (by omega)) (fun j _ _ => y6 j (by omega)) (fun p _ _ => y5 p (by omega))
        refine ⟨rlA_c r1 rfl rfl (y6 2 (by omega)) (y5 55 (by omega)), rlB_c r2 rfl rfl rfl (y5 56 (by omega)) (y5 57 (by omega)) (y5 58 (by omega)) (y5 59 (by omega)) (y6 16 (by omega)) (y6 17 (by omega)) (y6 0 (by omega)), rlC_c r3 rfl (fun p _ _ => vu_ne (by omega)) (y6 18 (by omega)) (fun p _ _ => y5 p (by omega)), rlD_c r4 (fun p _ _ => vu_ne (by omega)) (fun p _ _ => vu_ne (by omega)) (y5 71 (by omega)) (y5 72 (by omega)), rlE_c r5 (fun j hj => ?_) (fun j _ _ => y6 j (by omega)), g1, g2, g3, g4, g5, g6, fun z => ?_, fun _ => ⟨rfl, fun _ _ => y7⟩, fun _ z => ?_⟩
        · show upd (upd (M 53) 5 (nI (sp + 1))) 4 0 j = _
          rw [pk_un (by omega), pk_un (by omega)]
        · exact absurd (show upd (upd (M 53) 5 (nI (sp + 1))) 4 0 4 = 0 from pk_us) z
        · rw [y6 47 (by omega)] at z
          exact absurd z n47
      by_cases hx1 : sp + 1 < L
      · have hb : sp_btw M sa fo = -1 := Decidable.not_not.mp (fun z => hx ⟨hx1, z⟩)
        rw [if_neg (fun z => z hx1), if_pos (rl_sono r4 hn e5 hfo.2 hb)]
        exact ⟨sa, sa, 0, sp, fin _ (fun p hp => vu_ne hp) (fun j hj => by rw [vu_eq, pk_un hj]) (by rw [vu_eq, pk_us])⟩
      · rw [if_pos hx1]
        exact ⟨sa, sa, 0, sp, fin _ (fun _ _ => rfl) (fun _ _ => rfl) (by rw [r10, show sp + 1 = L by omega])⟩
  · rw [if_neg hl, if_pos hl]
    exact ⟨sa, sa, 0, sp, rl_th1 h s6 e5 hl⟩
/-- a day ticks -/
theorem rl_tick (h : rlp len n dy pl sa wy L sp μc μm) (hd : dy < 999) : rlp len n (dy + 1) pl sa wy L sp (va_up μc 53 (upd (μc 53) 0 (μc 53 0 + 1))) (va_up μm 54 (upd (μm 54) 34 (μm 54 34 + 1))) := by
  obtain ⟨hA, hB, hC, hD, ⟨e1, e2, e3, e4, e5, e6, e7, e8, e9, e10, e11, e12, e13⟩, hF⟩ := h
  refine ⟨rlA_c hA rfl rfl rfl rfl, rlB_c hB rfl rfl rfl rfl rfl rfl rfl rfl rfl rfl, rlC_c hC rfl (fun p _ _ => vu_ne (by omega)) rfl (fun p _ _ => vu_ne (by omega)), rlD_c hD (fun p _ _ => vu_ne (by omega)) (fun p _ _ => vu_ne (by omega)) rfl rfl, ⟨?_, ?_, by omega, e4, e5, e6, e7, e8, e9, e10, e11, e12, e13⟩, rlF_c hF rfl (fun p _ _ => vu_ne (by omega)) rfl rfl (fun j _ _ => pk_un (by omega)) (fun p _ _ => vu_ne (by omega))⟩
  · show upd (μc 53) 0 (μc 53 0 + 1) 0 = _
    rw [pk_us, e1, nI_1]
  · show upd (μm 54) 34 (μm 54 34 + 1) 34 = _
    rw [pk_us, e2, nI_1]
theorem rl_dm (h : rlp len n dy pl sa wy L sp μc μm) : ∃ pl' sa' wy' sp', rlp len n dy pl' sa' wy' L sp' (sp_dm μc n pl sp L (rl_fo μc L sp)) (mo_dm μm n pl sp L (rl_fo μc L sp)) := by
  have hwk := rl_wrk h
  have hthr := rl_thr h
  have q5 : μc 12 = μm 65 := h.2.2.1.2.2.2.1 5 (by omega)
  obtain ⟨hA, hB, hC, hD, ⟨e1, e2, e3, e4, e5, e6, e7, e8, e9, e10, e11, e12, e13⟩, hF⟩ := id h
  obtain ⟨f1, f2, f3, f4, f5, f6, f7, f8, f9⟩ := id hF
  unfold sp_dm mo_dm
  rw [← e11]
  by_cases hb : ¬ μc 53 3 ≤ 0
  · rw [if_pos hb, if_pos hb]
    refine ⟨pl, sa, wy, sp, rlA_c hA rfl rfl rfl rfl, rlB_c hB rfl rfl rfl rfl rfl rfl rfl rfl rfl rfl, rlC_c hC rfl (fun p _ _ => vu_ne (by omega)) rfl (fun p _ _ => vu_ne (by omega)), rlD_c hD (fun p _ _ => vu_ne (by omega)) (fun p _ _ => vu_ne (by omega)) rfl rfl, ⟨e1, e2, e3, e4, e5, e6, e7, e8, e9, e10, ?_, e12, e13⟩, rlF_c hF rfl (fun p _ _ => vu_ne (by omega)) rfl rfl (fun j _ _ => pk_un (by omega)) (fun p _ _ => vu_ne (by omega))⟩
    show upd (μc 53) 3 (μc 53 3 - 1) 3 = upd (μm 54) 38 (μc 53 3 - 1) 38
    rw [pk_us, pk_us]
  · rw [if_neg hb, if_neg hb]
    rcases Nat.eq_zero_or_pos wy with hw | hw
    · have a1 : ¬ ¬ μm 54 36 ≤ 0 := by rw [e9, hw]; exact fun q => q (by decide)
      have a2 : ¬ (¬ μc 53 4 = 0 ∧ ¬ μc 53 2 ≤ 0) := fun z => z.2 (by rw [e8, hw]; decide)
      rw [if_neg a1, if_neg a2]
      by_cases hg : ¬ μc 53 4 = 0 ∧ μc 53 0 ≥ μc 12 pl
      · have hm : mo_wrk μm ∧ ¬ μm 54 34 < μm 65 pl := ⟨hwk.mpr ⟨hg.1, hw⟩, by rw [e2, ← e1, ← q5]; exact Int32.not_lt.mpr hg.2⟩
        rw [if_pos hg, if_pos hm]
        exact hthr hg.1 hw
      · have hm : ¬ (mo_wrk μm ∧ ¬ μm 54 34 < μm 65 pl) := fun z => hg ⟨(hwk.mp z.1).1, by have := z.2; rw [e2, ← e1, ← q5] at this; exact Int32.not_lt.mp this⟩
        rw [if_neg hg, if_neg hm]
        exact ⟨pl, sa, wy, sp, h⟩
    · obtain ⟨w, rfl⟩ : ∃ w, wy = w + 1 := ⟨wy - 1, by omega⟩
      have hg : ¬ μc 53 4 = 0 := fun z => by have := (f8 z).1; omega
      have a1 : ¬ μm 54 36 ≤ 0 := by rw [e9]; exact nI_nle (by omega) (by omega)
      have a2 : ¬ μc 53 4 = 0 ∧ ¬ μc 53 2 ≤ 0 := ⟨hg, by rw [e8]; exact nI_nle (by omega) (by omega)⟩
      have a3 : μm 54 36 - 1 = nI w := by rw [e9]; exact nI_pred w
      have a4 : μc 53 2 - 1 = nI w := by rw [e8]; exact nI_pred w
      rw [if_pos a1, if_pos a2, a3, a4]
      have fin : ∀ (N2 : vx_mem) (sa' : Nat), (∀ p, p ≠ 54 → N2 p = μm p) → (∀ j, j ≠ 35 → j ≠ 36 → N2 54 j = μm 54 j) → N2 54 36 = nI w → N2 54 35 = nI sa' → sa' ≤ n → (w = 0 → sa' = pl) → rlp len n dy pl sa' w L sp (va_up μc 53 (upd (μc 53) 2 (nI w))) N2 := by
        intro N2 sa' y1 y2 y3 y4 y5 y6
        refine ⟨rlA_c hA rfl rfl (y2 2 (by omega) (by omega)) (y1 55 (by omega)), rlB_c hB rfl rfl rfl (y1 56 (by omega)) (y1 57 (by omega)) (y1 58 (by omega)) (y1 59 (by omega)) (y2 16 (by omega) (by omega)) (y2 17 (by omega) (by omega)) (y2 0 (by omega) (by omega)), rlC_c hC rfl (fun p _ _ => vu_ne (by omega)) (y2 18 (by omega) (by omega)) (fun p _ _ => y1 p (by omega)), rlD_c hD (fun p _ _ => vu_ne (by omega)) (fun p _ _ => vu_ne (by omega)) (y1 71 (by omega)) (y1 72 (by omega)), ⟨e1, (y2 34 (by omega) (by omega)).trans e2, e3, e4, e5, y4, y5, ?_, y3, by omega, e11.trans (y2 38 (by omega) (by omega)).symm, y6, fun _ => (y2 37 (by omega) (by omega)).trans (e13 (by omega))⟩, ?_⟩
        · show upd (μc 53) 2 (nI w) 2 = _
          exact pk_us
        · have hF2 := rlF_c (μc' := va_up μc 53 (upd (μc 53) 2 (nI w))) (μm' := N2) hF rfl (fun p _ _ => vu_ne (by omega)) rfl rfl (fun j _ _ => y2 j (by omega) (by omega)) (fun p _ _ => y1 p (by omega))
          obtain ⟨g1, g2, g3, g4, g5, g6, g7, g8, g9⟩ := hF2
          exact ⟨g1, g2, g3, g4, g5, g6, g7, fun z => absurd z hg, g9⟩
      by_cases hz : nI w = 0
      · rw [if_pos hz]
        have hw0 : w = 0 := by rw [show (0 : Int32) = nI 0 from rfl, nI_eq (by omega) (by omega)] at hz; exact hz
        refine ⟨pl, pl, w, sp, fin _ pl (fun p hp => vu_ne hp) (fun j j1 j2 => by rw [vu_eq, pk_un j1, pk_un j2]) ?_ ?_ e5 (fun _ => rfl)⟩
        · rw [vu_eq, pk_un (by decide), pk_us]
        · rw [vu_eq, pk_us]; exact e13 (by omega)
      · rw [if_neg hz]
        refine ⟨pl, sa, w, sp, fin _ sa (fun p hp => vu_ne hp) (fun j j1 j2 => by rw [vu_eq, pk_un j2]) ?_ ?_ e7 (fun z => absurd (by rw [z]; rfl) hz)⟩
        · rw [vu_eq, pk_us]
        · rw [vu_eq, pk_un (by decide)]; exact e6
theorem rl_day (h : rlp len n dy pl sa wy L sp μc μm) (hd : dy < 999) : ∃ pl' sa' wy' sp', rlp len n (dy + 1) pl' sa' wy' L sp' (sp_day μc n pl sp L (rl_fo μc L sp)) (mo_day μm n pl sp L (rl_fo μc L sp)) := by
  obtain ⟨pl', sa', wy', sp', h2⟩ := rl_dm h
  exact ⟨pl', sa', wy', sp', rl_tick h2 hd⟩
/-- the class's cells tell the numbers -/
theorem rl_uni {len' n' dy' pl' sa' wy' L' sp' : Nat} (h1 : rlp len n dy pl sa wy L sp μc μm) (h2 : rlp len' n' dy' pl' sa' wy' L' sp' μc μm') : rlp len n dy pl sa' wy L sp μc μm' := by
  obtain ⟨⟨a1, a2, a3, -⟩, -, ⟨c1, c2, c3, -⟩, -, ⟨e1, e2, e3, e4, e5, e6, e7, e8, e9, e10, -⟩, ⟨f1, f2, f3, f4, f5, f6, f7, -⟩⟩ := h1
  have k1 : len = len' := (nI_eq (by omega) (by have := h2.1.2.2.1; omega)).mp (a1.symm.trans h2.1.1)
  have k2 : n = n' := (nI_eq (by omega) (by have := h2.2.2.1.2.2.1; omega)).mp (c1.symm.trans h2.2.2.1.1)
  have k3 : dy = dy' := (nI_eq (by omega) (by have := h2.2.2.2.2.1.2.2.1; omega)).mp (e1.symm.trans h2.2.2.2.2.1.1)
  have k4 : pl = pl' := (nI_eq (by omega) (by have := h2.2.2.2.2.1.2.2.2.2.1; have := h2.2.2.1.2.2.1; omega)).mp (e4.symm.trans h2.2.2.2.2.1.2.2.2.1)
  have k5 : wy = wy' := (nI_eq (by omega) (by have := h2.2.2.2.2.1.2.2.2.2.2.2.2.2.2.1; omega)).mp (e8.symm.trans h2.2.2.2.2.1.2.2.2.2.2.2.2.1)
  have k6 : L = L' := (nI_eq (by omega) (by have := h2.2.2.2.2.2.2.1; omega)).mp (f1.symm.trans h2.2.2.2.2.2.1)
  subst k1 k2 k3 k4 k5 k6
  obtain ⟨hA, hB, hC, hD, hE, ⟨g1, g2, g3, g4, g5, g6, g7, g8, g9⟩⟩ := h2
  refine ⟨hA, hB, hC, hD, hE, g1, g2, g3, g4, g5, g6, fun z => ?_, g8, g9⟩
  obtain ⟨x1, x2, x3, x4, x5, x6⟩ := g7 z
  obtain ⟨y1, y2, -, -, y5, -⟩ := f7 z
  have k7 : sp = sp' := (nI_eq (by omega) (by omega)).mp (y2.symm.trans x2)
  subst k7
  exact ⟨x1, x2, x3, x4, x5, x6⟩
theorem sp_day_fr {nx p : Nat} (hp : 54 ≤ p) : sp_day μc n pl sp L nx p = μc p := by
  unfold sp_day
  rw [vu_ne (by omega)]
  unfold sp_dm
  split
  · exact vu_ne (by omega)
  · split
    · exact vu_ne (by omega)
    · split
      · unfold sp_thr
        split
        · rw [vu_ne (by omega)]
          unfold sp_th3
          rw [vu_ne (by omega), th2_ne (by omega) (by omega) (by omega) (by omega)]
        · exact th2_ne (by omega) (by omega) (by omega) (by omega)
      · rfl
theorem mo_day_fr {nx p : Nat} (hp : p < 54) : mo_day μm n pl sp L nx p = μm p := by
  have h1 : mo_th1 μm n pl p = μm p := mt1_ne (by omega) (by omega) (by omega) (by omega) (by omega)
  have h2 : mo_th2 μm n pl sp p = μm p := by unfold mo_th2; rw [vu_ne (by omega), vu_ne (by omega), h1]
  unfold mo_day
  rw [vu_ne (by omega)]
  unfold mo_dm
  split
  · exact vu_ne (by omega)
  · split
    · split
      · exact vu_ne (by omega)
      · exact vu_ne (by omega)
    · split
      · unfold mo_thr
        split
        · exact h1
        · split
          · exact h2
          · split
            · rw [vu_ne (by omega), h2]
            · unfold mo_soM
              split
              · exact h2
              · split
                · exact h2
                · rw [vu_ne (by omega), h2]
      · rfl
end
