section
theorem sp_opn_take {f : Nat → Int32} {q : Nat → Bool} : ∀ m, m ≤ 7 → (∀ k, 1 ≤ k → k ≤ m → q k = decide (¬ f k ≤ 0)) → sp_opn f m = ((sr_17.take m).filter q).length
  | 0, _, _ => rfl
  | m + 1, hm, h => by
    have ih := sp_opn_take (f := f) (q := q) m (by omega) (fun k a b => h k a (by omega))
    have hq := h (m + 1) (by omega) (Nat.le_refl _)
    have ht := sr_take (g := m + 1) (by omega) hm
    rw [Nat.add_sub_cancel] at ht
    rw [ht, List.filter_append, List.length_append, ← ih]
    show sp_opn f m + (if f (m + 1) ≤ 0 then 0 else 1) = _
    by_cases e : f (m + 1) ≤ 0
    · rw [if_pos e, List.filter_cons_of_neg (by rw [hq]; simp [e])]
      rfl
    · rw [if_neg e, List.filter_cons_of_pos (by rw [hq]; simp [e])]
      rfl
theorem sr_take_all {q : Nat → Bool} {n : Nat} (h : ∀ k, n < k → q k = false) : sr_17.filter q = (sr_17.take n).filter q := by
  have h0 : (sr_17.take n ++ sr_17.drop n).filter q = sr_17.filter q := by rw [List.take_append_drop]
  rw [List.filter_append] at h0
  have h2 : (sr_17.drop n).filter q = [] := by
    rw [List.filter_eq_nil_iff]
    intro x hx
    have : ∀ q x, x ∈ sr_17.drop q → q < x := by
      intro q
      rcases q with _ | _ | _ | _ | _ | _ | _ | q
      · decide
      · decide
      · decide
      · decide
      · decide
      · decide
      · decide
      · intro x hx
        rw [List.drop_eq_nil_of_le (by simp)] at hx
        cases hx
    rw [h x (this n x hx)]
    decide
  rw [h2, List.append_nil] at h0
  exact h0.symm
/-- the orders, forerunners first -/
theorem sr_can_F {c : Nat} {fo : Nat → Nat} : ∀ (F : List Nat) (s len : Nat) (ω : Nat → Bool), sr_Fok ω F → (∀ j, j < F.length → fo (len + j) = F.getD j 0) → c = len + F.length → sr_can c fo (F.length + s) len ω = (sr_pm s (sr_17.filter (sr_w1 ω F))).map (F ++ ·)
  | [], s, len, ω, _, _, hc => by
    show sr_can c fo (0 + s) len ω = (sr_pm s (sr_17.filter ω)).map (fun o => [] ++ o)
    rw [Nat.zero_add, sr_can_pm s len ω (by rw [hc]; simp)]
    simp
  | x :: F, s, len, ω, hF, hfo, hc => by
    have hx := hF.2 x (List.mem_cons_self ..)
    have hn := List.nodup_cons.mp hF.1
    have h2 : sr_Fok (sr_mn ω x) F := ⟨hn.2, fun y hy => by
      have := hF.2 y (List.mem_cons_of_mem _ hy)
      refine ⟨this.1, ?_⟩
      unfold sr_mn
      have e : ¬ y = x := fun z => hn.1 (z ▸ hy)
      simp [this.2, e]⟩
    have e0 : fo len = x := hfo 0 (by simp)
    have ih := sr_can_F (c := c) (fo := fo) F s (len + 1) (sr_mn ω x) h2 (fun j hj => by
      have := hfo (j + 1) (by simp; omega)
      rw [show len + 1 + j = len + (j + 1) by omega]
      exact this) (by rw [hc, List.length_cons]; omega)
    rw [show (x :: F).length + s = F.length + s + 1 by rw [List.length_cons]; omega, sr_can_fo (by rw [hc, List.length_cons]; omega) (by rw [e0]; exact hx.1) (by rw [e0]; exact hx.2), e0, ih, List.map_map]
    rfl
/-- who is forced -/
theorem sr_frc {m : vx_mem} {ω : Nat → Bool} (h43 : ∀ k, k < 8 → m 43 k = if ω k = true then 1 else 0) {F : List Nat} (hF1 : F.length ≤ 1) (h44 : ∀ j, j < F.length → m 44 j = nI (F.getD j 0) ∧ F.getD j 0 < 8) {k : Nat} (hk : k < 8) :
    sp_frn m k F.length = (sr_ad ω k F).length ∧ (∀ j, j < (sr_ad ω k F).length → sp_frc m k F.length 44 j = nI ((sr_ad ω k F).getD j 0) ∧ (sr_ad ω k F).getD j 0 < 8) ∧ (∀ j, j < 8 → sp_frc m k F.length 43 j = m 43 j) := by
  have hfc : sp_fc m k F.length ↔ (ω k = true ∧ ¬ k ∈ F) := by
    unfold sp_fc
    rw [h43 k hk]
    have e1 : (¬ (if ω k = true then (1 : Int32) else 0) = 0) ↔ ω k = true := by
      by_cases z : ω k = true
      · rw [if_pos z]; exact ⟨fun _ => z, fun _ => by decide⟩
      · rw [if_neg z]; exact ⟨fun q => absurd rfl q, fun q => absurd q z⟩
    have e2 : (0 < F.length ∧ m 44 0 = nI k) ↔ k ∈ F := by
      rcases F with _ | ⟨a, _ | ⟨b, F⟩⟩
      · exact ⟨fun z => absurd z.1 (by decide), fun z => by cases z⟩
      · obtain ⟨q1, q2⟩ := h44 0 (by simp)
        have q3 : ([a] : List Nat).getD 0 0 = a := rfl
        rw [q3] at q1 q2
        rw [q1, nI_eq (by omega) (by omega), List.mem_singleton]
        exact ⟨fun z => z.2.symm, fun z => ⟨by simp, z.symm⟩⟩
      · simp at hF1
    rw [e1, e2]
  unfold sp_frn sp_frc sr_ad
  by_cases z : ω k = true ∧ ¬ k ∈ F
  · rw [if_pos (hfc.mpr z), if_pos z]
    refine ⟨by simp, fun j hj => ?_, fun j hj => ?_⟩
    · rw [if_pos (hfc.mpr z)]
      show upd (m 44) F.length (nI k) j = _ ∧ _
      rw [List.length_append, List.length_singleton] at hj
      by_cases e : j = F.length
      · rw [e, pk_us, sr_getD_last]
        exact ⟨rfl, hk⟩
      · rw [pk_un e, sr_getD_appl (by omega)]
        exact h44 j (by omega)
    · rw [if_pos (hfc.mpr z)]
      rfl
  · rw [if_neg (fun q => z (hfc.mp q)), if_neg z, if_neg (fun q => z (hfc.mp q))]
    exact ⟨rfl, h44, fun _ _ => rfl⟩
variable {len n dy pl sa wy L sp : Nat} {μc μm μc' μm' : vx_mem}
def rl_om (μc : vx_mem) (n : Nat) : Nat → Bool := fun k => decide (1 ≤ k ∧ k ≤ n ∧ ¬ μc 8 k ≤ 0)
def rl_P (μc : vx_mem) (n : Nat) : sr_P := (fun p k => if p = k then 1 else (μc (20 + p) k + 1).toNatClampNeg, fun k => (μc 12 k).toNatClampNeg, fun k => (μc 13 k).toNatClampNeg, fun k => (sp_nd μc n k).toNatClampNeg, (μc 4 3).toNatClampNeg)
theorem zz_nat {x : Int32} {a b : Nat} (h : zz_in x a b) : x = nI x.toNatClampNeg ∧ a ≤ x.toNatClampNeg ∧ x.toNatClampNeg ≤ b := by
  have e : x.toNatClampNeg = x.toInt.toNat := rfl
  have hl : x.toInt < 2147483648 := Int32.toInt_lt x
  unfold zz_in at h
  refine ⟨?_, by omega, by omega⟩
  rw [zz_eq, nI_toInt (by omega)]
  omega
theorem rl_omM (h : rlp len n dy pl sa wy L sp μc μm) : mo_w μm n = rl_om μc n := by
  obtain ⟨-, -, ⟨c1, c2, c3, c4, c5, -⟩, -⟩ := h
  have q1 : μc 8 = μm 61 := c4 1 (by omega)
  funext k
  unfold mo_w rl_om
  by_cases hk : 1 ≤ k ∧ k ≤ n
  · have hz := (c5 k hk.1 hk.2).1
    have e : (μm 61 k = 0) ↔ μc 8 k ≤ 0 := by
      rw [← q1, zz_eq, zz_le, tI_0]
      unfold zz_in at hz
      omega
    simp only [e]
  · rw [decide_eq_false (fun z => hk ⟨z.1, z.2.1⟩), decide_eq_false (fun z => hk ⟨z.1, z.2.1⟩)]
/-- a farm's speed, its days -/
theorem rl_spn (h : rlp len n dy pl sa wy L sp μc μm) {k : Nat} (h1 : 1 ≤ k) (h2 : k ≤ n) (hl : ¬ μc 8 k ≤ 0) : ∃ v nd, 1 ≤ v ∧ v ≤ 2000 ∧ sp_speed μc n k = nI v ∧ sp_nd μc n k = nI nd ∧ nd ≤ 300 ∧ (μc 8 k + nI v - 1) / nI v = nI nd := by
  have hn := h.2.2.1.2.2.1
  have hG := rl_G h (f := k) (by omega)
  obtain ⟨g1, g2⟩ := zz_nat (a := 0) (b := 20) (rl_Gok h h1 h2).1
  rw [← hG] at g1 g2
  obtain ⟨-, ⟨b1, b2, -⟩, ⟨c1, c2, c3, c4, c5, -⟩, -⟩ := h
  obtain ⟨r1, r2⟩ := zz_nat (a := 1) (b := 20) b2.1
  obtain ⟨s1, s2⟩ := zz_nat (a := 1) (b := 99) b2.2.1
  obtain ⟨t1, t2⟩ := zz_nat (a := 0) (b := 300) (c5 k h1 h2).1
  generalize (sp_G μc n k).2.toNatClampNeg = g at *
  generalize (μc 4 0).toNatClampNeg = hh at *
  generalize (μc 4 1).toNatClampNeg = rr at *
  generalize (μc 8 k).toNatClampNeg = le at *
  have hle : 1 ≤ le := by
    rcases Nat.eq_zero_or_pos le with z | z
    · rw [t1, z] at hl; exact absurd (by decide) hl
    · exact z
  have hm : rr * g ≤ 99 * 20 := Nat.mul_le_mul s2.2 g2.2
  have hd : rr * g / hh ≤ 1980 := Nat.le_trans (Nat.div_le_self _ _) hm
  have esp : sp_speed μc n k = nI (max (rr * g / hh) 1) := by
    unfold sp_speed sp_cut
    rw [r1, s1, g1, if_neg (nI_nle (by omega) (by omega)), pk_mul, pk_div (by omega) (by omega) (by omega), show (1 : Int32) = nI 1 from rfl, sr_max (by omega) (by omega)]
  obtain ⟨v, hv⟩ : ∃ v, v = max (rr * g / hh) 1 := ⟨_, rfl⟩
  rw [← hv] at esp
  have hv1 : 1 ≤ v := by omega
  have hv2 : v ≤ 1980 := by omega
  have e1 : (μc 8 k + nI v - 1) / nI v = nI ((le + v - 1) / v) := by
    rw [t1, nI_add, show (1 : Int32) = nI 1 from rfl, pk_sub (by omega), pk_div (by omega) (by omega) (by omega)]
  refine ⟨v, (le + v - 1) / v, hv1, by omega, esp, ?_, ?_, e1⟩
  · unfold sp_nd sp_upw
    rw [esp, if_neg (nI_nle (by omega) (by omega)), e1]
  · obtain ⟨a, rfl⟩ : ∃ a, le = a + 1 := ⟨le - 1, by omega⟩
    obtain ⟨u, rfl⟩ : ∃ u, v = u + 1 := ⟨v - 1, by omega⟩
    have : (a + 1 + (u + 1) - 1) / (u + 1) ≤ a + 1 := by
      apply Nat.div_le_of_le_mul
      rw [Nat.add_mul, Nat.mul_add]
      have := Nat.zero_le (u * a)
      omega
    omega
theorem rl_btwP (h : rlp len n dy pl sa wy L sp μc μm) {p k : Nat} (hp : p < 8) (hk : k < 8) : sp_btw μc p k = nI ((rl_P μc n).1 p k) - 1 ∧ (rl_P μc n).1 p k ≤ 10 ∧ (p = k → (rl_P μc n).1 p k = 1) ∧ (¬ p = k → μm 71 (8 * p + k) = nI ((rl_P μc n).1 p k)) := by
  obtain ⟨w, w1, w2, w3⟩ := h.2.2.2.1.1 p k hp hk
  have e : (rl_P μc n).1 p k = if p = k then 1 else (μc (20 + p) k + 1).toNatClampNeg := rfl
  have e2 : (μc (20 + p) k + 1).toNatClampNeg = w := by
    rw [w3, show nI w - 1 + 1 = nI w by grind, nI_clamp (by omega)]
  unfold sp_btw
  rw [e, e2]
  by_cases q : p = k
  · rw [if_pos q, if_pos q]
    exact ⟨rfl, by omega, fun _ => rfl, fun z => absurd q z⟩
  · rw [if_neg q, if_neg q]
    exact ⟨w3, w1, fun z => absurd z q, fun _ => w2⟩
theorem rl_omk {k : Nat} (h : rl_om μc n k = true) : 1 ≤ k ∧ k ≤ n ∧ ¬ μc 8 k ≤ 0 := of_decide_eq_true h
/-- what the model's search rests on -/
theorem rl_sml (h : rlp len n dy pl sa wy L sp μc μm) : ∀ μ2 : vx_mem, (∀ q, q = 71 ∨ q = 65 ∨ q = 66 ∨ q = 61 ∨ q = 56 → μ2 q = μm q) → (∀ k, 1 ≤ k → k ≤ n → μ2 80 k = mo_speed μm n k) → sr_ml (rl_P μc n) (mo_w μm n) μ2 := by
  intro μ2 hq hs
  rw [rl_omM h]
  have hn := h.2.2.1.2.2.1
  have hbt := fun p k (hp : p < 8) (hk : k < 8) => rl_btwP h (p := p) (k := k) hp hk
  have hsp := fun k a b c => rl_spn h (k := k) a b c
  have hse := fun k (hk : k < 8) => rl_speed h (f := k) hk
  obtain ⟨-, ⟨b1, b2, -⟩, ⟨c1, c2, c3, c4, c5, -⟩, -⟩ := h
  have q1 : μc 8 = μm 61 := c4 1 (by omega)
  have q5 : μc 12 = μm 65 := c4 5 (by omega)
  have q6 : μc 13 = μm 66 := c4 6 (by omega)
  refine ⟨fun p k hp hk _ => ?_, fun k hk hw => ?_, ?_⟩
  · rw [hq 71 (by omega)]
    obtain ⟨x1, x2, x3, x4⟩ := hbt p k hp hk
    exact ⟨x3, x4, x2⟩
  · obtain ⟨k1, k2, k3⟩ := rl_omk hw
    obtain ⟨v, nd, v1, v2, v3, v4, v5, v6⟩ := hsp k k1 k2 k3
    obtain ⟨x1, x2⟩ := zz_nat (a := 0) (b := 99) (c5 k k1 k2).2.2.2.1
    obtain ⟨y1, y2⟩ := zz_nat (a := 0) (b := 99) (c5 k k1 k2).2.2.2.2
    have e4 : (rl_P μc n).2.2.2.1 k = nd := by show (sp_nd μc n k).toNatClampNeg = nd; rw [v4, nI_clamp (by omega)]
    rw [hq 65 (by omega), hq 66 (by omega), hq 61 (by omega), hs k k1 k2, ← hse k hk, v3, ← q1, ← q5, ← q6, e4, v6]
    exact ⟨x1, x2.2, y1, y2.2, rfl, v5, nI_ne0 (by omega) (by omega)⟩
  · obtain ⟨x1, x2⟩ := zz_nat (a := 0) (b := 99) b2.2.2.2.1
    rw [hq 56 (by omega), ← b1 3 (by omega)]
    exact ⟨x1, x2.2⟩
/-- what the class's search rests on, and what it finds -/
theorem rl_FD (h : rlp len n dy pl sa wy L sp μc μm) {fi : Nat} (hfi8 : fi < 8) :
    let ω0 := rl_om μc n; let F := sr_F ω0 pl fi; let S := sr_S ω0 F; let g := sp_opn (μc 8) n
    F.length + S.length = g ∧ (g = 0 → sp_FD μc n pl fi 39 11 = 2147483647) ∧ (¬ g = 0 → sr_rl (rl_P μc n) ω0 F.length (fun j => F.getD j 0) g ω0 [] (((sr_pm S.length S).map (F ++ ·)).foldl (sr_con (rl_P μc n) pl dy 0 []) none) (sp_FD μc n pl fi)) := by
  intro ω0 F S g
  have hn := h.2.2.1.2.2.1
  have hbt := fun p k (hp : p < 8) (hk : k < 8) => rl_btwP h (p := p) (k := k) hp hk
  have hsp := fun k a b c => rl_spn h (k := k) a b c
  obtain ⟨-, ⟨b1, b2, -⟩, ⟨c1, c2, c3, c4, c5, -⟩, -, ⟨e1, e2, e3, e4, e5, -⟩, -⟩ := h
  have h17 : ∀ k, ω0 k = true → k ∈ sr_17 := by
    intro k hk
    obtain ⟨k1, k2, _⟩ := rl_omk hk
    simp only [List.mem_cons, List.not_mem_nil, or_false]
    omega
  have hF0 : sr_Fok ω0 [] := ⟨List.nodup_nil, fun x hx => by cases hx⟩
  have hFok1 : sr_Fok ω0 (sr_ad ω0 pl []) := sr_Fok_ad hF0 (h17 _)
  have hFok : sr_Fok ω0 F := sr_Fok_ad hFok1 (h17 _)
  have hlen := sr_S_len F hFok
  have hg : g = (sr_17.filter ω0).length := by
    rw [sr_take_all (q := ω0) (n := n) (fun k hk => show rl_om μc n k = false from decide_eq_false (fun z => by omega))]
    exact sp_opn_take n hn (fun k k1 k2 => by
      show decide _ = decide _
      simp [k1, k2])
  have hFS : F.length + S.length = g := by rw [hg, ← hlen]; exact Nat.add_comm _ _
  have hsel : ∀ (nw old : Nat → Int32) k, ω0 k = true → sp_sel μc nw old n k = nw k := by
    intro nw old k hk
    unfold sp_sel
    exact if_pos (rl_omk hk)
  have h43 : ∀ k, k < 8 → sp_P μc n 43 k = if ω0 k = true then 1 else 0 := by
    intro k hk
    show sp_sel μc (fun _ => 1) (sp_w0 (μc 43)) n k = _
    by_cases z : ω0 k = true
    · rw [hsel _ _ k z, if_pos z]
    · rw [if_neg z]
      unfold sp_sel
      rw [if_neg (fun q => z (decide_eq_true q))]
      rcases k with _ | _ | _ | _ | _ | _ | _ | _ | k <;> first | rfl | omega
  obtain ⟨x1, x2, x3⟩ := sr_frc (m := sp_P μc n) (ω := ω0) h43 (F := []) (by decide) (fun j hj => absurd hj (by simp)) (k := pl) (by omega)
  have hl1 : (sr_ad ω0 pl []).length ≤ 1 := by
    unfold sr_ad
    split <;> simp
  have x4 : sp_frn (sp_P μc n) pl 0 = (sr_ad ω0 pl []).length := x1
  obtain ⟨y1, y2, y3⟩ := sr_frc (m := sp_frc (sp_P μc n) pl 0) (ω := ω0) (fun k hk => (x3 k hk).trans (h43 k hk)) hl1 x2 (k := fi) hfi8
  have hpc : sp_pc μc n pl fi = F.length := by
    unfold sp_pc
    rw [x4]
    exact y1
  have ePR : sp_prp μc n pl fi = sp_frc (sp_frc (sp_P μc n) pl 0) fi (sr_ad ω0 pl []).length := by
    unfold sp_prp
    rw [x4]
  have hPo : ∀ p, p = 40 ∨ p = 41 ∨ p = 42 → sp_prp μc n pl fi p = sp_P μc n p := by
    intro p hp
    unfold sp_prp
    rw [sp_frc_o (by omega) (by omega), sp_frc_o (by omega) (by omega)]
  refine ⟨hFS, fun hg0 => ?_, fun hg0 => ?_⟩
  · unfold sp_FD sp_fnd
    rw [if_pos hg0, sp_prp_39 (by decide)]
    rfl
  · have hcl : sr_cl (rl_P μc n) ω0 F.length (fun j => F.getD j 0) (sp_prp μc n pl fi) := by
      refine ⟨fun p k hp hk hw => ?_, fun k hk hw => ?_, ?_, fun j hj => ?_⟩
      · have e : sp_btw (sp_prp μc n pl fi) p k = sp_btw μc p k := by unfold sp_btw; rw [sp_prp_o (by omega)]
        rw [e]
        exact ⟨(hbt p k hp hk).1, (hbt p k hp hk).2.1⟩
      · obtain ⟨k1, k2, k3⟩ := rl_omk hw
        obtain ⟨v, nd, v1, v2, v3, v4, v5, v6⟩ := hsp k k1 k2 k3
        obtain ⟨p1, p2⟩ := zz_nat (a := 0) (b := 99) (c5 k k1 k2).2.2.2.1
        obtain ⟨r1, r2⟩ := zz_nat (a := 0) (b := 99) (c5 k k1 k2).2.2.2.2
        have e4 : (rl_P μc n).2.2.2.1 k = nd := by show (sp_nd μc n k).toNatClampNeg = nd; rw [v4, nI_clamp (by omega)]
        have e40 : sp_prp μc n pl fi 40 k = sp_nd μc n k := by rw [hPo 40 (by omega)]; exact hsel _ _ k hw
        have e41 : sp_prp μc n pl fi 41 k = μc 12 k := by rw [hPo 41 (by omega)]; exact hsel _ _ k hw
        have e42 : sp_prp μc n pl fi 42 k = μc 13 k := by rw [hPo 42 (by omega)]; exact hsel _ _ k hw
        rw [e40, e41, e42, e4, v4]
        exact ⟨p1, p2.2, r1, r2.2, rfl, v5⟩
      · obtain ⟨p1, p2⟩ := zz_nat (a := 0) (b := 99) b2.2.2.2.1
        rw [sp_prp_39 (by decide)]
        exact ⟨p1, p2.2⟩
      · rw [ePR]
        exact y2 j hj
    have hPR : sr_rl (rl_P μc n) ω0 F.length (fun j => F.getD j 0) g ω0 [] none (sp_prp μc n pl fi) := by
      refine ⟨hcl, fun k hk => ?_, fun j hj => absurd hj (by simp), ?_, ?_⟩
      · rw [ePR]
        exact (y3 k hk).trans ((x3 k hk).trans (h43 k hk))
      · rw [sp_prp_39 (by decide)]
        rfl
      · rw [sp_prp_39 (by decide)]
        rfl
    have hF2 : F.length ≤ 2 := by
      show (sr_ad ω0 fi (sr_ad ω0 pl [])).length ≤ 2
      have : ∀ (k : Nat) (X : List Nat), (sr_ad ω0 k X).length ≤ X.length + 1 := by
        intro k X
        unfold sr_ad
        split <;> simp
      have := this fi (sr_ad ω0 pl [])
      omega
    have hg7 : g ≤ 7 := by
      rw [hg]
      exact List.length_filter_le _ _
    have hext := sr_ext (P := rl_P μc n) (ω0 := ω0) (c := F.length) (g := g) (fo := fun j => F.getD j 0) hg7 (by omega) g 0 pl dy 0 [] ω0 none (sp_prp μc n pl fi) (by omega) (by omega) (by omega) (by omega) rfl (fun x hx => by cases hx) (fun _ z => z) hPR
    rw [sr_dfs_eq g 0 pl dy 0 [] ω0 none rfl, ← hFS, sr_can_F F S.length 0 ω0 hFok (fun j hj => by rw [Nat.zero_add]) (Nat.zero_add _).symm, hFS] at hext
    unfold sp_FD sp_fnd
    rw [if_neg hg0, hpc, e1]
    exact hext
end
