section
/-- plain facts of ints in range -/
theorem zz_sub {a b : Int32} (h1 : -2147483648 ≤ a.toInt - b.toInt) (h2 : a.toInt - b.toInt < 2147483648) : (a - b).toInt = a.toInt - b.toInt := by
  rw [Int32.toInt_sub]
  exact Int.bmod_eq_of_le (by omega) (by omega)
theorem zz_add {a b : Int32} (h1 : -2147483648 ≤ a.toInt + b.toInt) (h2 : a.toInt + b.toInt < 2147483648) : (a + b).toInt = a.toInt + b.toInt := by
  rw [Int32.toInt_add]
  exact Int.bmod_eq_of_le (by omega) (by omega)
theorem zz_mul {a b : Int32} (h1 : -2147483648 ≤ a.toInt * b.toInt) (h2 : a.toInt * b.toInt < 2147483648) : (a * b).toInt = a.toInt * b.toInt := by
  rw [Int32.toInt_mul]
  exact Int.bmod_eq_of_le (by omega) (by omega)
theorem zz_lt {a b : Int32} : a < b ↔ a.toInt < b.toInt := Int32.lt_iff_toInt_lt
theorem zz_le {a b : Int32} : a ≤ b ↔ a.toInt ≤ b.toInt := Int32.le_iff_toInt_le
theorem zz_eq {a b : Int32} : a = b ↔ a.toInt = b.toInt := Int32.toInt_inj.symm
/-- within, by whole numbers -/
def zz_in (x : Int32) (a b : Int) : Prop := a ≤ x.toInt ∧ x.toInt ≤ b
def sp_min (x y : Int32) : Int32 := if y < x then y else x
def sp_max (x y : Int32) : Int32 := if x < y then y else x
theorem sp_min_int (x y : Int32) : (sp_min x y).toInt = min x.toInt y.toInt := by
  unfold sp_min
  split <;> rename_i h <;> rw [zz_lt] at h <;> omega
theorem sp_max_int (x y : Int32) : (sp_max x y).toInt = max x.toInt y.toInt := by
  unfold sp_max
  split <;> rename_i h <;> rw [zz_lt] at h <;> omega
def sp_fm (f : Nat → Int32) (i : Nat) : Nat → Int32 := fun g => if g < i then -1 else f g
theorem sp_fm0 (f : Nat → Int32) : sp_fm f 0 = f := by
  funext g
  simp [sp_fm]
theorem sp_fms (f : Nat → Int32) (i : Nat) : upd (sp_fm f i) i (-1) = sp_fm f (i + 1) := by
  funext g
  unfold upd sp_fm
  by_cases h : g = i
  · simp [h]
  · by_cases h2 : g < i
    · rw [if_neg h, if_pos h2, if_pos (by omega)]
    · rw [if_neg h, if_neg h2, if_neg (by omega)]
/-- the asking of the lenders, so many turns -/
def sp_mus (lends ow : Nat → Int32) (most : Int32) (n : Nat) (gv0 : Nat → Int32) (g0 : Int32) : Nat → (Nat → Int32) × Int32
  | 0 => (gv0, g0)
  | t + 1 => (upd (sp_mus lends ow most n gv0 g0 t).1 (sp_next (sp_mus lends ow most n gv0 g0 t).1 ow n) (sp_min (lends (sp_next (sp_mus lends ow most n gv0 g0 t).1 ow n)) (most - (sp_mus lends ow most n gv0 g0 t).2)), (sp_mus lends ow most n gv0 g0 t).2 + sp_min (lends (sp_next (sp_mus lends ow most n gv0 g0 t).1 ow n)) (most - (sp_mus lends ow most n gv0 g0 t).2))
/-- how many of the first k are asked -/
def sp_ask (gv : Nat → Int32) : Nat → Nat
  | 0 => 0
  | k + 1 => sp_ask gv k + if gv (k + 1) = -1 then 0 else 1
theorem sp_ask_le (gv : Nat → Int32) : ∀ k, sp_ask gv k ≤ k
  | 0 => Nat.le_refl 0
  | k + 1 => by
    have := sp_ask_le gv k
    unfold sp_ask
    split <;> omega
theorem sp_ask_free {gv : Nat → Int32} : ∀ {n : Nat}, sp_ask gv n < n → ∃ g, 1 ≤ g ∧ g ≤ n ∧ gv g = -1
  | 0, h => absurd h (by omega)
  | n + 1, h => by
    unfold sp_ask at h
    by_cases e : gv (n + 1) = -1
    · exact ⟨n + 1, by omega, by omega, e⟩
    · rw [if_neg e] at h
      obtain ⟨g, h1, h2, h3⟩ := sp_ask_free (gv := gv) (n := n) (by omega)
      exact ⟨g, h1, by omega, h3⟩
theorem sp_ask_out {gv : Nat → Int32} {g : Nat} {x : Int32} : ∀ {n : Nat}, n < g → sp_ask (upd gv g x) n = sp_ask gv n
  | 0, _ => rfl
  | n + 1, h => by
    unfold sp_ask
    rw [sp_ask_out (by omega)]
    have e : upd gv g x (n + 1) = gv (n + 1) := by
      unfold upd
      rw [if_neg (by omega)]
    rw [e]
theorem sp_ask_put {gv : Nat → Int32} {g : Nat} {x : Int32} (h1 : 1 ≤ g) (hg : gv g = -1) (hx : ¬ x = -1) : ∀ {n : Nat}, g ≤ n → sp_ask (upd gv g x) n = sp_ask gv n + 1
  | 0, h => absurd h (by omega)
  | n + 1, h => by
    unfold sp_ask
    by_cases e : g = n + 1
    · rw [← e]
      have e1 : upd gv g x g = x := by simp [upd]
      rw [e1, if_neg hx, hg, if_pos rfl, sp_ask_out (by omega)]
    · rw [sp_ask_put h1 hg hx (n := n) (by omega)]
      have e1 : upd gv g x (n + 1) = gv (n + 1) := by
        unfold upd
        rw [if_neg (by omega)]
      rw [e1]
      omega
theorem sp_next_pos {gv ow : Nat → Int32} : ∀ {n : Nat}, (∃ g, 1 ≤ g ∧ g ≤ n ∧ gv g = -1) → sp_next gv ow n ≠ 0 ∧ gv (sp_next gv ow n) = -1
  | 0, h => by
    obtain ⟨g, h1, h2, -⟩ := h
    omega
  | n + 1, h => by
    unfold sp_next
    by_cases hc : gv (n + 1) = -1 ∧ (sp_next gv ow n = 0 ∨ ow (sp_next gv ow n) < ow (n + 1))
    · rw [if_pos hc]
      exact ⟨by omega, hc.1⟩
    · rw [if_neg hc]
      obtain ⟨g, h1, h2, h3⟩ := h
      by_cases e : g = n + 1
      · subst e
        have hz : sp_next gv ow n ≠ 0 := fun hz => hc ⟨h3, Or.inl hz⟩
        refine ⟨hz, ?_⟩
        exact sp_next_in hz
      · exact sp_next_pos ⟨g, h1, by omega, h3⟩
where
  sp_next_in {gv ow : Nat → Int32} : ∀ {n : Nat}, sp_next gv ow n ≠ 0 → gv (sp_next gv ow n) = -1
  | 0, h => absurd rfl h
  | n + 1, h => by
    unfold sp_next at h ⊢
    by_cases hc : gv (n + 1) = -1 ∧ (sp_next gv ow n = 0 ∨ ow (sp_next gv ow n) < ow (n + 1))
    · rw [if_pos hc]; exact hc.1
    · rw [if_neg hc] at h ⊢
      exact sp_next_in h
/-- what holds of the asking -/
theorem sp_mus_ok {lends ow : Nat → Int32} {most : Int32} {n : Nat} {gv0 : Nat → Int32} {g0 : Int32} (hl : ∀ g, 1 ≤ g → g ≤ n → zz_in (lends g) 0 12) (hm : zz_in most 1 20) (hg0 : 0 ≤ g0.toInt ∧ g0.toInt ≤ most.toInt) (hv : ∀ g, 1 ≤ g → g ≤ n → gv0 g = -1 ∨ zz_in (gv0 g) 0 12) (ha : sp_ask gv0 n = 1) :
    ∀ t, t + 1 ≤ n → (0 ≤ (sp_mus lends ow most n gv0 g0 t).2.toInt ∧ (sp_mus lends ow most n gv0 g0 t).2.toInt ≤ most.toInt) ∧ (∀ g, 1 ≤ g → g ≤ n → (sp_mus lends ow most n gv0 g0 t).1 g = -1 ∨ zz_in ((sp_mus lends ow most n gv0 g0 t).1 g) 0 12) ∧ sp_ask (sp_mus lends ow most n gv0 g0 t).1 n = t + 1 ∧ (∀ g, n < g → (sp_mus lends ow most n gv0 g0 t).1 g = gv0 g) ∧ (sp_mus lends ow most n gv0 g0 t).1 0 = gv0 0
  | 0, _ => ⟨hg0, hv, ha, fun _ _ => rfl, rfl⟩
  | t + 1, ht => by
    obtain ⟨i1, i2, i3, i4, i5⟩ := sp_mus_ok hl hm hg0 hv ha t (by omega)
    generalize hp : sp_mus lends ow most n gv0 g0 t = p at i1 i2 i3 i4 i5
    have e : sp_mus lends ow most n gv0 g0 (t + 1) = (upd p.1 (sp_next p.1 ow n) (sp_min (lends (sp_next p.1 ow n)) (most - p.2)), p.2 + sp_min (lends (sp_next p.1 ow n)) (most - p.2)) := by
      rw [← hp]
      rfl
    rw [e]
    obtain ⟨hz, hgv⟩ := sp_next_pos (ow := ow) (sp_ask_free (gv := p.1) (n := n) (by omega))
    have hle := sp_next_le p.1 ow n
    generalize sp_next p.1 ow n = g at hz hgv hle
    have hlg := hl g (by omega) hle
    unfold zz_in at hlg hm
    have hsub : (most - p.2).toInt = most.toInt - p.2.toInt := zz_sub (by omega) (by omega)
    have hmin : (sp_min (lends g) (most - p.2)).toInt = min (lends g).toInt (most.toInt - p.2.toInt) := by rw [sp_min_int, hsub]
    generalize sp_min (lends g) (most - p.2) = h at hmin
    have hadd : (p.2 + h).toInt = p.2.toInt + h.toInt := zz_add (by omega) (by omega)
    have hne : ¬ h = -1 := fun q => by
      rw [q] at hmin
      have : (-1 : Int32).toInt = -1 := by decide
      omega
    refine ⟨⟨by show 0 ≤ (p.2 + h).toInt; omega, by show (p.2 + h).toInt ≤ _; omega⟩, fun g2 h1 h2 => ?_, ?_, fun g2 h2 => ?_, ?_⟩
    · show upd p.1 g h g2 = -1 ∨ zz_in (upd p.1 g h g2) 0 12
      by_cases q : g2 = g
      · subst q
        have e1 : upd p.1 g2 h g2 = h := by simp [upd]
        rw [e1]
        exact Or.inr ⟨by omega, by omega⟩
      · have e1 : upd p.1 g h g2 = p.1 g2 := by simp [upd, q]
        rw [e1]
        exact i2 g2 h1 h2
    · show sp_ask (upd p.1 g h) n = t + 1 + 1
      rw [sp_ask_put (by omega) hgv hne hle, i3]
    · show upd p.1 g h g2 = gv0 g2
      have e1 : upd p.1 g h g2 = p.1 g2 := by
        unfold upd
        rw [if_neg (by omega)]
      rw [e1]
      exact i4 g2 h2
    · show upd p.1 g h 0 = gv0 0
      have e1 : upd p.1 g h 0 = p.1 0 := by
        unfold upd
        rw [if_neg (fun q => hz q.symm)]
      rw [e1]
      exact i5

end
