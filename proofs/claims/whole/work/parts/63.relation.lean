section
theorem tI_m1 : ((-1) : Int32).toInt = (-1) := by decide
theorem tI_0 : (0 : Int32).toInt = 0 := by decide
theorem tI_1 : (1 : Int32).toInt = 1 := by decide
theorem tI_2 : (2 : Int32).toInt = 2 := by decide
theorem tI_6 : (6 : Int32).toInt = 6 := by decide
theorem tI_7 : (7 : Int32).toInt = 7 := by decide
theorem tI_8 : (8 : Int32).toInt = 8 := by decide
theorem tI_9 : (9 : Int32).toInt = 9 := by decide
theorem tI_10 : (10 : Int32).toInt = 10 := by decide
theorem tI_12 : (12 : Int32).toInt = 12 := by decide
theorem tI_20 : (20 : Int32).toInt = 20 := by decide
theorem tI_50 : (50 : Int32).toInt = 50 := by decide
theorem tI_99 : (99 : Int32).toInt = 99 := by decide
theorem tI_100 : (100 : Int32).toInt = 100 := by decide
theorem tI_280 : (280 : Int32).toInt = 280 := by decide
theorem tI_300 : (300 : Int32).toInt = 300 := by decide
theorem tI_999 : (999 : Int32).toInt = 999 := by decide
theorem vu_ne {μ : vx_mem} {k p : Nat} {f : Nat → Int32} (h : p ≠ k) : va_up μ k f p = μ p := by unfold va_up; rw [if_neg h]
theorem vu_eq {μ : vx_mem} {k : Nat} {f : Nat → Int32} : va_up μ k f k = f := by unfold va_up; rw [if_pos rfl]
/-- tape -/
def rlA (len : Nat) (μc μm : vx_mem) : Prop := μc 1 1 = nI len ∧ μm 54 2 = nI len ∧ len ≤ 300 ∧ μc 2 = μm 55 ∧ ∀ j, j < 300 → ¬ μm 55 j = -1
/-- customs -/
def rlB (μc μm : vx_mem) : Prop := (∀ k, k < 6 → μc 4 k = μm 56 k) ∧ (zz_in (μc 4 0) 1 20 ∧ zz_in (μc 4 1) 1 99 ∧ zz_in (μc 4 2) 1 50 ∧ zz_in (μc 4 3) 0 99 ∧ zz_in (μc 4 4) 0 7 ∧ zz_in (μc 4 5) 0 10) ∧ (∀ k, k < 6 → μm 57 k = (vx_sv 0).getD k 0) ∧ (∀ k, k < 6 → μm 58 k = (vx_sv 1).getD k 0) ∧ (∀ k, k < 6 → μm 59 k = (vx_sv 2).getD k 0) ∧ μc 3 2 = μm 54 16 ∧ μc 3 3 = μm 54 17 ∧ μm 54 0 = 0
/-- farms -/
def rlC (n : Nat) (μc μm : vx_mem) : Prop := μc 6 0 = nI n ∧ μm 54 18 = nI n ∧ n ≤ 7 ∧ (∀ q, q < 11 → μc (7 + q) = μm (60 + q)) ∧ (∀ g, 1 ≤ g → g ≤ n → zz_in (μc 8 g) 0 300 ∧ zz_in (μc 10 g) 0 12 ∧ zz_in (μc 11 g) 0 12 ∧ zz_in (μc 12 g) 0 99 ∧ zz_in (μc 13 g) 0 99) ∧ (∀ g, 1 ≤ g → g ≤ n → (μc 15 g = -1 ↔ ¬ μc 8 g ≤ 0)) ∧ ∀ g, g < 8 → μc 16 g = 0 ∨ μc 16 g = 1
/-- ways, what is owed -/
def rlD (μc μm : vx_mem) : Prop := (∀ a b, a < 8 → b < 8 → ∃ w, w ≤ 10 ∧ μm 71 (8 * a + b) = nI w ∧ μc (20 + a) b = nI w - 1) ∧ ∀ a b, a < 8 → b < 8 → μc (30 + a) b = μm 72 (8 * a + b)
/-- the day, the place -/
def rlE (n dy pl sa wy : Nat) (μc μm : vx_mem) : Prop := μc 53 0 = nI dy ∧ μm 54 34 = nI dy ∧ dy ≤ 999 ∧ μc 53 1 = nI pl ∧ pl ≤ n ∧ μm 54 35 = nI sa ∧ sa ≤ n ∧ μc 53 2 = nI wy ∧ μm 54 36 = nI wy ∧ wy ≤ 9 ∧ μc 53 3 = μm 54 38 ∧ (wy = 0 → sa = pl) ∧ (0 < wy → μm 54 37 = nI pl)
/-- the plan -/
def rlF (n pl wy L sp : Nat) (μc μm : vx_mem) : Prop := μc 47 0 = nI L ∧ L ≤ 7 ∧ (μm 54 46 = 0 ↔ L = 0) ∧ (0 < L → μm 54 44 = nI L ∧ μc 47 1 = μm 54 45 ∧ μc 47 2 = μm 54 47) ∧ (∀ k, k < L → ∃ o, 1 ≤ o ∧ o ≤ n ∧ μc 48 k = nI o ∧ μm 74 k = nI o) ∧ (∀ k, k < L → μc 49 k = μm 75 k ∧ μc 50 k = μm 76 k ∧ μc 51 k = μm 77 k ∧ μc 52 k = μm 78 k) ∧ (¬ μc 53 4 = 0 → sp < L ∧ μc 53 5 = nI sp ∧ μm 54 48 = nI sp ∧ ¬ μm 54 47 = 0 ∧ μc 48 sp = nI pl ∧ 1 ≤ pl) ∧ (μc 53 4 = 0 → wy = 0 ∧ (0 < L → ¬ μm 54 47 = 0 → μm 54 48 = nI L)) ∧ (0 < L → μm 54 47 = 0 → μm 54 48 = 0)
def rlp (len n dy pl sa wy L sp : Nat) (μc μm : vx_mem) : Prop := rlA len μc μm ∧ rlB μc μm ∧ rlC n μc μm ∧ rlD μc μm ∧ rlE n dy pl sa wy μc μm ∧ rlF n pl wy L sp μc μm
def rl (μc μm : vx_mem) : Prop := ∃ len n dy pl sa wy L sp, rlp len n dy pl sa wy L sp μc μm
variable {len n dy pl sa wy L sp : Nat} {μc μm μc' μm' : vx_mem}
theorem rlA_c (h : rlA len μc μm) (c1 : μc' 1 1 = μc 1 1) (c2 : μc' 2 = μc 2) (m1 : μm' 54 2 = μm 54 2) (m2 : μm' 55 = μm 55) : rlA len μc' μm' := by
  unfold rlA at h ⊢
  rw [c1, c2, m1, m2]
  exact h
theorem rlB_c (h : rlB μc μm) (c1 : μc' 4 = μc 4) (c2 : μc' 3 2 = μc 3 2) (c3 : μc' 3 3 = μc 3 3) (m1 : μm' 56 = μm 56) (m2 : μm' 57 = μm 57) (m3 : μm' 58 = μm 58) (m4 : μm' 59 = μm 59) (m5 : μm' 54 16 = μm 54 16) (m6 : μm' 54 17 = μm 54 17) (m7 : μm' 54 0 = μm 54 0) : rlB μc' μm' := by
  unfold rlB at h ⊢
  rw [c1, c2, c3, m1, m2, m3, m4, m5, m6, m7]
  exact h
theorem rlC_c (h : rlC n μc μm) (c1 : μc' 6 0 = μc 6 0) (c2 : ∀ p, 7 ≤ p → p ≤ 17 → μc' p = μc p) (m1 : μm' 54 18 = μm 54 18) (m2 : ∀ p, 60 ≤ p → p ≤ 70 → μm' p = μm p) : rlC n μc' μm' := by
  unfold rlC at h ⊢
  rw [c1, m1, c2 8 (by omega) (by omega), c2 10 (by omega) (by omega), c2 11 (by omega) (by omega), c2 12 (by omega) (by omega), c2 13 (by omega) (by omega), c2 15 (by omega) (by omega), c2 16 (by omega) (by omega)]
  exact ⟨h.1, h.2.1, h.2.2.1, fun q hq => by rw [c2 (7 + q) (by omega) (by omega), m2 (60 + q) (by omega) (by omega)]; exact h.2.2.2.1 q hq, h.2.2.2.2⟩
theorem rlD_c (h : rlD μc μm) (c1 : ∀ p, 20 ≤ p → p < 28 → μc' p = μc p) (c2 : ∀ p, 30 ≤ p → p < 38 → μc' p = μc p) (m1 : μm' 71 = μm 71) (m2 : μm' 72 = μm 72) : rlD μc' μm' := by
  unfold rlD at h ⊢
  rw [m1, m2]
  exact ⟨fun a b ha hb => by rw [c1 (20 + a) (by omega) (by omega)]; exact h.1 a b ha hb, fun a b ha hb => by rw [c2 (30 + a) (by omega) (by omega)]; exact h.2 a b ha hb⟩
theorem rlE_c (h : rlE n dy pl sa wy μc μm) (c1 : ∀ j, j ≤ 3 → μc' 53 j = μc 53 j) (m1 : ∀ j, 34 ≤ j → j ≤ 38 → μm' 54 j = μm 54 j) : rlE n dy pl sa wy μc' μm' := by
  unfold rlE at h ⊢
  rw [c1 0 (by omega), c1 1 (by omega), c1 2 (by omega), c1 3 (by omega), m1 34 (by omega) (by omega), m1 35 (by omega) (by omega), m1 36 (by omega) (by omega), m1 37 (by omega) (by omega), m1 38 (by omega) (by omega)]
  exact h
theorem rlF_c (h : rlF n pl wy L sp μc μm) (c0 : μc' 47 = μc 47) (c1 : ∀ p, 48 ≤ p → p ≤ 52 → μc' p = μc p) (c2 : μc' 53 4 = μc 53 4) (c3 : μc' 53 5 = μc 53 5) (m1 : ∀ j, 44 ≤ j → j ≤ 48 → μm' 54 j = μm 54 j) (m2 : ∀ p, 74 ≤ p → p ≤ 78 → μm' p = μm p) : rlF n pl wy L sp μc' μm' := by
  unfold rlF at h ⊢
  rw [c0, c1 48 (by omega) (by omega), c1 49 (by omega) (by omega), c1 50 (by omega) (by omega), c1 51 (by omega) (by omega), c1 52 (by omega) (by omega), c2, c3, m1 44 (by omega) (by omega), m1 45 (by omega) (by omega), m1 46 (by omega) (by omega), m1 47 (by omega) (by omega), m1 48 (by omega) (by omega), m2 74 (by omega) (by omega), m2 75 (by omega) (by omega), m2 76 (by omega) (by omega), m2 77 (by omega) (by omega), m2 78 (by omega) (by omega)]
  exact h
theorem rlF_n {n' : Nat} (h : rlF n pl wy L sp μc μm) (hn : n ≤ n') : rlF n' pl wy L sp μc μm := by
  obtain ⟨h1, h2, h3, h4, h5, h6⟩ := h
  refine ⟨h1, h2, h3, h4, fun k hk => ?_, h6⟩
  obtain ⟨o, o1, o2, o3⟩ := h5 k hk
  exact ⟨o, o1, by omega, o3⟩
theorem rlp_cm (h : rlp len n dy pl sa wy L sp μc μm) (c : ∀ p, p < 54 → μc' p = μc p) (m : ∀ p, 54 ≤ p → μm' p = μm p) : rlp len n dy pl sa wy L sp μc' μm' := by
  obtain ⟨hA, hB, hC, hD, hE, hF⟩ := h
  have e54 := m 54 (by omega)
  exact ⟨rlA_c hA (by rw [c 1 (by omega)]) (c 2 (by omega)) (by rw [e54]) (m 55 (by omega)), rlB_c hB (c 4 (by omega)) (by rw [c 3 (by omega)]) (by rw [c 3 (by omega)]) (m 56 (by omega)) (m 57 (by omega)) (m 58 (by omega)) (m 59 (by omega)) (by rw [e54]) (by rw [e54]) (by rw [e54]),
    rlC_c hC (by rw [c 6 (by omega)]) (fun p h1 h2 => c p (by omega)) (by rw [e54]) (fun p h1 h2 => m p (by omega)), rlD_c hD (fun p h1 h2 => c p (by omega)) (fun p h1 h2 => c p (by omega)) (m 71 (by omega)) (m 72 (by omega)),
    rlE_c hE (fun j _ => by rw [c 53 (by omega)]) (fun j _ _ => by rw [e54]), rlF_c hF (c 47 (by omega)) (fun p h1 h2 => c p (by omega)) (by rw [c 53 (by omega)]) (by rw [c 53 (by omega)]) (fun j _ _ => by rw [e54]) (fun p h1 h2 => m p (by omega))⟩
/-- a call of the two, kept -/
def rl_st (yC : MethodName) (cC : ByteArray) (nC : Nat) (rC : Option FieldType) (yM : MethodName) (cM : ByteArray) (nM : Nat) (rM : Option FieldType) (args : List vx_v) : Prop :=
  ∀ (ad : Nat → Nat) (μc μ0 : vx_mem) (len n dy pl sa wy L sp : Nat), rlp len n dy pl sa wy L sp μc μ0 → ∃ (r : Int32) (μc' : vx_mem), vx_Mf yC cC nC rC 20 ad 82 vx_lay μc (vx_r 0 :: args) (some (.inl r)) μc' ∧ (∀ p, 54 ≤ p → μc' p = μc p) ∧
    ∀ μm, rlp len n dy pl sa wy L sp μc μm → ∃ μm', vx_Mf yM cM nM rM 20 ad 82 vx_lay μm (vx_r 54 :: args) (some (.inl r)) μm' ∧ (∀ p, p < 54 → μm' p = μm p) ∧ rl μc' μm'
theorem rlp.rl (h : rlp len n dy pl sa wy L sp μc μm) : rl μc μm := ⟨len, n, dy, pl, sa, wy, L, sp, h⟩
theorem sp_inI {x a b : Int32} : sp_in x a b = 0 ↔ ¬ (a.toInt ≤ x.toInt ∧ x.toInt ≤ b.toInt) := by rw [sp_in0, zz_le, zz_le]
theorem rl_plc {μ : vx_mem} {n : Nat} (hc : μ 6 0 = nI n) (hn : n ≤ 7) {a : Int32} : sp_plc μ a = 0 ↔ ¬ (¬ a < 0 ∧ ¬ nI n < a) := by
  unfold sp_plc
  rw [hc]
  have e := nI_toInt (n := n) (by omega)
  by_cases h : a = 0
  · rw [if_pos h, h, zz_lt, zz_lt, e, tI_0]
    refine ⟨fun z => absurd z (by decide), fun z => absurd ⟨by omega, by omega⟩ z⟩
  · rw [if_neg h, zz_lt, zz_lt, e, tI_0]
    rw [zz_eq, tI_0] at h
    by_cases h2 : sp_in a 1 (nI n) = 0
    · rw [if_pos h2]
      rw [sp_inI, tI_1, e] at h2
      exact ⟨fun _ => by omega, fun _ => rfl⟩
    · rw [if_neg h2]
      rw [sp_inI, tI_1, e] at h2
      exact ⟨fun z => absurd z (by decide), fun z => absurd ⟨by omega, by omega⟩ z⟩
theorem rl_fok {μ : vx_mem} {n : Nat} (hc : μ 6 0 = nI n) (hn : n ≤ 7) {a b c e f g : Int32} : sp_fok μ a b c e f g ↔ mo_fok n a b c e f g := by
  unfold sp_fok mo_fok
  have e := nI_toInt (n := n) (by omega)
  have e7 : nI n = 7 ↔ n = 7 := by rw [show (7 : Int32) = nI 7 from rfl, nI_eq (by omega) (by omega)]
  simp only [hc, sp_inI, zz_lt, e7, e, tI_0, tI_1, tI_7, tI_9, tI_12, tI_99, tI_300]
  omega
theorem rl_bok {μ μm : vx_mem} {n : Nat} (hc : μ 6 0 = nI n) (hm : μm 54 18 = nI n) {f how coins : Int32} : sp_bok μ f how coins ↔ mo_bok μm f how coins := by
  unfold sp_bok mo_bok
  simp only [hc, hm, sp_inI, zz_lt, zz_le, tI_0, tI_1, tI_999]
  omega
theorem rl_wok {μ : vx_mem} {n : Nat} (hc : μ 6 0 = nI n) (hn : n ≤ 7) {a b days : Int32} : sp_wok μ a b days ↔ mo_wok n a b days := by
  unfold sp_wok mo_wok
  simp only [rl_plc hc hn, sp_inI, zz_lt, zz_le, tI_m1, tI_9]
  rw [show (¬ ¬ (¬ a.toInt < (0 : Int32).toInt ∧ ¬ (nI n).toInt < a.toInt)) ↔ (¬ a.toInt < (0 : Int32).toInt ∧ ¬ (nI n).toInt < a.toInt) from Decidable.not_not, show (¬ ¬ (¬ b.toInt < (0 : Int32).toInt ∧ ¬ (nI n).toInt < b.toInt)) ↔ (¬ b.toInt < (0 : Int32).toInt ∧ ¬ (nI n).toInt < b.toInt) from Decidable.not_not]
  constructor
  · rintro ⟨⟨h1, h2⟩, ⟨h3, h4⟩, h5, h6⟩
    exact ⟨h1, h2, h3, h4, h5, by omega, by omega⟩
  · rintro ⟨h1, h2, h3, h4, h5, h6, h7⟩
    exact ⟨⟨h1, h2⟩, ⟨h3, h4⟩, h5, by omega⟩
theorem st_fault (x : Int32) : rl_st yX8_fault cX8_fault 2 (some (.int)) yX9_fault cX9_fault 2 (some (.int)) [.inl x] := by
  intro ad μc μ0 len n dy pl sa wy L sp h0
  refine ⟨_, _, c_X8_fault 20 ad μc x, fun _ _ => rfl, fun μm h => ⟨_, (c_X9_fault 20 ad μm h.2.1.2.2.2.2.2.2.2 x).to ?_ rfl, fun _ _ => rfl, h.rl⟩⟩
  obtain ⟨-, -, -, -, -, h6, h7, -⟩ := h.2.1
  unfold mo_fault sp_fault
  rw [h6, h7]
theorem st_breaks (x : Int32) : rl_st yX8_breaks cX8_breaks 2 (some (.boolean)) yX9_breaks cX9_breaks 2 (some (.boolean)) [.inl x] := by
  intro ad μc μ0 len n dy pl sa wy L sp h0
  by_cases hk : sp_in x 1 9 = 0
  · have hm : ¬ mo_kok x := by
      rw [sp_inI] at hk
      unfold mo_kok
      rw [zz_lt, zz_le]
      omega
    refine ⟨0, μc, (c_X8_breaks 20 (by omega) ad μc x).to (by rw [hk]) (if_pos hk), fun _ _ => rfl, fun μm h => ⟨μm, (c_X9_breaks 20 ad μm h.2.1.2.2.2.2.2.2.2 x).to (by rw [if_neg hm]) (if_neg hm), fun _ _ => rfl, h.rl⟩⟩
  · have hm : mo_kok x := by
      rw [sp_inI] at hk
      unfold mo_kok
      rw [zz_lt, zz_le]
      omega
    refine ⟨1, va_up μc 53 (upd (μc 53) 3 x), (c_X8_breaks 20 (by omega) ad μc x).to (by rw [sp_in1 hk]) (if_neg hk), fun p hp => vu_ne (by omega), fun μm h => ⟨va_up μm 54 (upd (μm 54) 38 x), (c_X9_breaks 20 ad μm h.2.1.2.2.2.2.2.2.2 x).to (by rw [if_pos hm]) (if_pos hm), fun p hp => vu_ne (by omega), ?_⟩⟩
    obtain ⟨hA, hB, hC, hD, ⟨e1, e2, e3, e4, e5, e6, e7, e8, e9, e10, e11, e12, e13⟩, hF⟩ := h
    exact ⟨len, n, dy, pl, sa, wy, L, sp, rlA_c hA rfl rfl rfl rfl, rlB_c hB rfl rfl rfl rfl rfl rfl rfl rfl rfl rfl, rlC_c hC rfl (fun p h1 h2 => vu_ne (by omega)) rfl (fun p h1 h2 => vu_ne (by omega)), rlD_c hD (fun p h1 h2 => vu_ne (by omega)) (fun p h1 h2 => vu_ne (by omega)) rfl rfl,
      ⟨e1, e2, e3, e4, e5, e6, e7, e8, e9, e10, rfl, e12, e13⟩, rlF_c hF rfl (fun p h1 h2 => vu_ne (by omega)) rfl rfl (fun j h1 h2 => pk_un (by omega)) (fun p h1 h2 => vu_ne (by omega))⟩
theorem st_bargain (f how coins : Int32) : rl_st yX8_bargain cX8_bargain 4 (some (.boolean)) yX9_bargain cX9_bargain 4 (some (.boolean)) [.inl f, .inl how, .inl coins] := by
  intro ad μc μ0 len n dy pl sa wy L sp h0
  have hc := h0.2.2.1.1
  have hn := h0.2.2.1.2.2.1
  by_cases hk : sp_bok μc f how coins
  · refine ⟨1, va_up (va_up μc 16 (upd (μc 16) f.toNatClampNeg how)) 17 (upd (μc 17) f.toNatClampNeg coins), (c_X8_bargain 20 (by omega) ad μc n hc hn f how coins).to (by rw [if_pos hk]) (if_pos hk), fun p hp => by rw [vu_ne (by omega), vu_ne (by omega)], fun μm h => ?_⟩
    have hm := (rl_bok hc h.2.2.1.2.1).mp hk
    refine ⟨va_up (va_up μm 69 (upd (μm 69) f.toNatClampNeg how)) 70 (upd (μm 70) f.toNatClampNeg coins), (c_X9_bargain 20 (by omega) ad μm h.2.1.2.2.2.2.2.2.2 n h.2.2.1.2.1 hn f how coins).to (by rw [if_pos hm]) (if_pos hm), fun p hp => by rw [vu_ne (by omega), vu_ne (by omega)], ?_⟩
    obtain ⟨hA, hB, ⟨k1, k2, k3, k4, k5, k6, k7⟩, hD, hE, hF⟩ := h
    refine ⟨len, n, dy, pl, sa, wy, L, sp, rlA_c hA rfl rfl rfl rfl, rlB_c hB rfl rfl rfl rfl rfl rfl rfl rfl rfl rfl, ⟨k1, k2, k3, fun q hq => ?_, k5, k6, fun g hg => ?_⟩, rlD_c hD (fun p h1 h2 => by rw [vu_ne (by omega), vu_ne (by omega)]) (fun p h1 h2 => by rw [vu_ne (by omega), vu_ne (by omega)]) rfl rfl,
      rlE_c hE (fun j _ => rfl) (fun j _ _ => rfl), rlF_c hF rfl (fun p h1 h2 => by rw [vu_ne (by omega), vu_ne (by omega)]) rfl rfl (fun j _ _ => rfl) (fun p h1 h2 => by rw [vu_ne (by omega), vu_ne (by omega)])⟩
    · have h9 : μc 16 = μm 69 := k4 9 (by omega)
      have h10 : μc 17 = μm 70 := k4 10 (by omega)
      by_cases q9 : q = 9
      · subst q9
        show upd (μc 16) _ _ = upd (μm 69) _ _
        rw [h9]
      · by_cases q10 : q = 10
        · subst q10
          show upd (μc 17) _ _ = upd (μm 70) _ _
          rw [h10]
        · rw [vu_ne (by omega), vu_ne (by omega), vu_ne (by omega), vu_ne (by omega)]
          exact k4 q hq
    · show upd (μc 16) _ _ g = 0 ∨ upd (μc 16) _ _ g = 1
      by_cases e : g = f.toNatClampNeg
      · rw [e, pk_us]
        have h3 := hk.2.1
        rw [sp_inI, tI_0, tI_1] at h3
        rw [zz_eq, zz_eq, tI_0, tI_1]
        omega
      · rw [pk_un e]
        exact k7 g hg
  · refine ⟨0, μc, (c_X8_bargain 20 (by omega) ad μc n hc hn f how coins).to (by rw [if_neg hk]) (if_neg hk), fun _ _ => rfl, fun μm h => ?_⟩
    have hm := fun z => hk ((rl_bok hc h.2.2.1.2.1).mpr z)
    exact ⟨μm, (c_X9_bargain 20 (by omega) ad μm h.2.1.2.2.2.2.2.2.2 n h.2.2.1.2.1 hn f how coins).to (by rw [if_neg hm]) (if_neg hm), fun _ _ => rfl, h.rl⟩
theorem st_farm (a b c e f g : Int32) : rl_st yX8_farm cX8_farm 9 (some (.int)) yX9_farm cX9_farm 7 (some (.int)) [.inl a, .inl b, .inl c, .inl e, .inl f, .inl g] := by
  intro ad μc μ0 len n dy pl sa wy L sp h0
  have hc := h0.2.2.1.1
  have hn := h0.2.2.1.2.2.1
  by_cases hk : sp_fok μc a b c e f g
  · have hm := (rl_fok hc hn).mp hk
    refine ⟨nI (n + 1), sp_farmM μc n a b c e f g, (c_X8_farm 20 (by omega) ad μc n hc hn a b c e f g).to (by rw [if_pos hk]) (if_pos hk), fun p hp => by unfold sp_farmM; repeat rw [vu_ne (by omega)], fun μm h => ?_⟩
    refine ⟨mo_farmM μm n a b c e f g, (c_X9_farm 20 (by omega) ad μm h.2.1.2.2.2.2.2.2.2 n h.2.2.1.2.1 hn a b c e f g).to (by rw [if_pos hm]) (if_pos hm), fun p hp => by unfold mo_farmM; repeat rw [vu_ne (by omega)], ?_⟩
    obtain ⟨hA, hB, ⟨k1, k2, k3, k4, k5, k6, k7⟩, hD, hE, hF⟩ := h
    have hn6 : n < 7 := by
      have h3 := hk.2.2.2.2.2.2
      rw [hc, zz_lt, nI_toInt (by omega), tI_7] at h3
      omega
    have hE2 : rlE (n + 1) dy pl sa wy μc μm := by
      obtain ⟨e1, e2, e3, e4, e5, e6, e7, e8⟩ := hE
      exact ⟨e1, e2, e3, e4, by omega, e6, by omega, e8⟩
    refine ⟨len, n + 1, dy, pl, sa, wy, L, sp, rlA_c hA rfl rfl rfl rfl, rlB_c hB rfl rfl rfl rfl rfl rfl rfl rfl rfl rfl, ⟨rfl, rfl, hn6, fun q hq => ?_, fun g' h1 h2 => ?_, fun g' h1 h2 => ?_, k7⟩, rlD_c hD (fun p h1 h2 => by unfold sp_farmM; repeat rw [vu_ne (by omega)]) (fun p h1 h2 => by unfold sp_farmM; repeat rw [vu_ne (by omega)]) rfl rfl,
      rlE_c hE2 (fun j _ => rfl) (fun j _ _ => pk_un (by omega)), rlF_c (rlF_n hF (Nat.le_succ n)) rfl (fun p h1 h2 => by unfold sp_farmM; repeat rw [vu_ne (by omega)]) rfl rfl (fun j _ _ => pk_un (by omega)) (fun p h1 h2 => by unfold mo_farmM; repeat rw [vu_ne (by omega)])⟩
    · have q0 : μc 7 = μm 60 := k4 0 (by omega)
      have q1 : μc 8 = μm 61 := k4 1 (by omega)
      have q2 : μc 9 = μm 62 := k4 2 (by omega)
      have q3 : μc 10 = μm 63 := k4 3 (by omega)
      have q4 : μc 11 = μm 64 := k4 4 (by omega)
      have q5 : μc 12 = μm 65 := k4 5 (by omega)
      have q6 : μc 13 = μm 66 := k4 6 (by omega)
      have q7 : μc 14 = μm 67 := k4 7 (by omega)
      have q8 : μc 15 = μm 68 := k4 8 (by omega)
      have q9 : μc 16 = μm 69 := k4 9 (by omega)
      have q10 : μc 17 = μm 70 := k4 10 (by omega)
      rcases q with _ | _ | _ | _ | _ | _ | _ | _ | _ | _ | _ | q
      · show upd (μc 7) _ _ = upd (μm 60) _ _
        rw [q0]
      · show upd (μc 8) _ _ = upd (μm 61) _ _
        rw [q1]
      · show upd (μc 9) _ _ = upd (μm 62) _ _
        rw [q2]
      · show upd (μc 10) _ _ = upd (μm 63) _ _
        rw [q3]
      · show upd (μc 11) _ _ = upd (μm 64) _ _
        rw [q4]
      · show upd (μc 12) _ _ = upd (μm 65) _ _
        rw [q5]
      · show upd (μc 13) _ _ = upd (μm 66) _ _
        rw [q6]
      · exact q7
      · show upd (μc 15) _ _ = upd (μm 68) _ _
        rw [q8]
      · exact q9
      · exact q10
      · omega
    · show zz_in (upd (μc 8) (n + 1) a g') 0 300 ∧ zz_in (upd (μc 10) (n + 1) c g') 0 12 ∧ zz_in (upd (μc 11) (n + 1) e g') 0 12 ∧ zz_in (upd (μc 12) (n + 1) f g') 0 99 ∧ zz_in (upd (μc 13) (n + 1) g g') 0 99
      by_cases e1 : g' = n + 1
      · rw [e1, pk_us, pk_us, pk_us, pk_us, pk_us]
        unfold sp_fok at hk
        simp only [sp_inI, tI_0, tI_1, tI_9, tI_12, tI_99, tI_300] at hk
        unfold zz_in
        omega
      · rw [pk_un e1, pk_un e1, pk_un e1, pk_un e1, pk_un e1]
        exact k5 g' h1 (by omega)
    · show upd (μc 15) (n + 1) (-1) g' = -1 ↔ ¬ upd (μc 8) (n + 1) a g' ≤ 0
      by_cases e1 : g' = n + 1
      · rw [e1, pk_us, pk_us]
        have h3 := hk.1
        rw [sp_inI, tI_1] at h3
        refine ⟨fun _ => ?_, fun _ => rfl⟩
        rw [zz_le, tI_0]
        omega
      · rw [pk_un e1, pk_un e1]
        exact k6 g' h1 (by omega)
  · have hm := fun z => hk ((rl_fok hc hn).mpr z)
    refine ⟨-1, μc, (c_X8_farm 20 (by omega) ad μc n hc hn a b c e f g).to (by rw [if_neg hk]) (if_neg hk), fun _ _ => rfl, fun μm h => ?_⟩
    exact ⟨μm, (c_X9_farm 20 (by omega) ad μm h.2.1.2.2.2.2.2.2.2 n h.2.2.1.2.1 hn a b c e f g).to (by rw [if_neg hm]) (if_neg hm), fun _ _ => rfl, h.rl⟩
theorem sp_set_ne {μ : vx_mem} {b0 a b p : Nat} {v : Int32} (h : p ≠ b0 + a) : sp_set μ b0 a b v p = μ p := vu_ne h
theorem sp_set_at {μ : vx_mem} {b0 a b x y : Nat} {v : Int32} : sp_set μ b0 a b v (b0 + x) y = if x = a ∧ y = b then v else μ (b0 + x) y := by
  unfold sp_set
  by_cases e : x = a
  · subst e
    rw [vu_eq]
    by_cases e2 : y = b
    · rw [e2, pk_us, if_pos ⟨rfl, rfl⟩]
    · rw [pk_un e2, if_neg (fun z => e2 z.2)]
  · rw [vu_ne (by omega), if_neg (fun z => e z.1)]
theorem upd_at {f : Nat → Int32} {k j : Nat} {v : Int32} : upd f k v j = if j = k then v else f j := rfl
theorem st_way (a b days : Int32) : rl_st yX8_way cX8_way 4 (some (.boolean)) yX9_way cX9_way 4 (some (.boolean)) [.inl a, .inl b, .inl days] := by
  intro ad μc μ0 len n dy pl sa wy L sp h0
  have hc := h0.2.2.1.1
  have hn := h0.2.2.1.2.2.1
  by_cases hk : sp_wok μc a b days
  · have hm := (rl_wok hc hn).mp hk
    refine ⟨1, sp_set (sp_set μc 20 a.toNatClampNeg b.toNatClampNeg days) 20 b.toNatClampNeg a.toNatClampNeg days, (c_X8_way 20 (by omega) ad μc n hc hn a b days).to (by rw [if_pos hk]) (if_pos hk), ?_⟩
    have hN := nI_toInt (n := n) (by omega)
    obtain ⟨m1, m2, m3, m4, m5, m6, m7⟩ := id hm
    rw [zz_lt] at m1 m2 m3 m4 m6
    rw [tI_0] at m1 m3
    rw [hN] at m2 m4
    rw [tI_m1] at m6
    rw [zz_le, tI_9] at m7
    have ha : a.toNatClampNeg = a.toInt.toNat := rfl
    have hb : b.toNatClampNeg = b.toInt.toNat := rfl
    generalize hA' : a.toNatClampNeg = A at *
    generalize hB' : b.toNatClampNeg = B at *
    have hA7 : A < 8 := by omega
    have hB7 : B < 8 := by omega
    refine ⟨fun p hp => by rw [sp_set_ne (by omega), sp_set_ne (by omega)], fun μm h => ?_⟩
    refine ⟨_, (c_X9_way 20 ad μm h.2.1.2.2.2.2.2.2.2 n h.2.2.1.2.1 hn a b days).to (by rw [if_pos hm]) (if_pos hm), fun p hp => vu_ne (by omega), ?_⟩
    rw [hA', hB']
    obtain ⟨hA, hB, hC, ⟨d1, d2⟩, hE, hF⟩ := h
    obtain ⟨w, hw, hw2, hw3⟩ : ∃ w, w ≤ 10 ∧ days + 1 = nI w ∧ days = nI w - 1 := by
      have e1 : (days + 1).toInt = days.toInt + 1 := zz_add (by rw [tI_1]; omega) (by rw [tI_1]; omega)
      refine ⟨(days.toInt + 1).toNat, by omega, ?_, ?_⟩
      · rw [zz_eq, e1, nI_toInt (by omega)]; omega
      · rw [zz_eq, zz_sub (by rw [tI_1, nI_toInt (by omega)]; omega) (by rw [tI_1, nI_toInt (by omega)]; omega), nI_toInt (by omega), tI_1]; omega
    refine ⟨len, n, dy, pl, sa, wy, L, sp, rlA_c hA (by rw [sp_set_ne (by omega), sp_set_ne (by omega)]) (by rw [sp_set_ne (by omega), sp_set_ne (by omega)]) rfl rfl, rlB_c hB (by rw [sp_set_ne (by omega), sp_set_ne (by omega)]) (by rw [sp_set_ne (by omega), sp_set_ne (by omega)]) (by rw [sp_set_ne (by omega), sp_set_ne (by omega)]) rfl rfl rfl rfl rfl rfl rfl,
      rlC_c hC (by rw [sp_set_ne (by omega), sp_set_ne (by omega)]) (fun p h1 h2 => by rw [sp_set_ne (by omega), sp_set_ne (by omega)]) rfl (fun p h1 h2 => vu_ne (by omega)), ⟨fun x y hx hy => ?_, fun x y hx hy => ?_⟩,
      rlE_c hE (fun j _ => by rw [sp_set_ne (by omega), sp_set_ne (by omega)]) (fun j _ _ => rfl), rlF_c hF (by rw [sp_set_ne (by omega), sp_set_ne (by omega)]) (fun p h1 h2 => by rw [sp_set_ne (by omega), sp_set_ne (by omega)]) (by rw [sp_set_ne (by omega), sp_set_ne (by omega)]) (by rw [sp_set_ne (by omega), sp_set_ne (by omega)]) (fun j _ _ => rfl) (fun p h1 h2 => vu_ne (by omega))⟩
    · rw [sp_set_at, sp_set_at, vu_eq, upd_at, upd_at]
      by_cases e1 : x = B ∧ y = A
      · rw [if_pos e1, if_pos (show 8 * x + y = 8 * B + A by omega)]
        exact ⟨w, hw, hw2, hw3⟩
      · rw [if_neg e1, if_neg (show ¬ 8 * x + y = 8 * B + A by omega)]
        by_cases e2 : x = A ∧ y = B
        · rw [if_pos e2, if_pos (show 8 * x + y = 8 * A + B by omega)]
          exact ⟨w, hw, hw2, hw3⟩
        · rw [if_neg e2, if_neg (show ¬ 8 * x + y = 8 * A + B by omega)]
          exact d1 x y hx hy
    · rw [sp_set_ne (by omega), sp_set_ne (by omega)]
      exact d2 x y hx hy
  · have hm := fun z => hk ((rl_wok hc hn).mpr z)
    refine ⟨0, μc, (c_X8_way 20 (by omega) ad μc n hc hn a b days).to (by rw [if_neg hk]) (if_neg hk), fun _ _ => rfl, fun μm h => ?_⟩
    exact ⟨μm, (c_X9_way 20 ad μm h.2.1.2.2.2.2.2.2.2 n h.2.2.1.2.1 hn a b days).to (by rw [if_neg hm]) (if_neg hm), fun _ _ => rfl, h.rl⟩
end
