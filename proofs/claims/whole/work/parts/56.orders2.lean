section
theorem sr_lg_none {h : Nat} : ∀ r : List Nat, (∀ j, j < r.length → ¬ h < r.getD j 0) → sr_lg h r = none
  | [], _ => rfl
  | x :: r, hh => by
    have ih := sr_lg_none r (fun j hj => hh (j + 1) (by simp; omega))
    unfold sr_lg
    rw [ih]
    exact if_neg (hh 0 (by simp))
theorem sr_lg_some {h : Nat} : ∀ (r : List Nat) (i : Nat), i < r.length → h < r.getD i 0 → (∀ j, i < j → j < r.length → ¬ h < r.getD j 0) → sr_lg h r = some i
  | [], i, hi, _, _ => absurd hi (by simp)
  | x :: r, 0, _, h1, h2 => by
    have ih := sr_lg_none (h := h) r (fun j hj => h2 (j + 1) (by omega) (by simp; omega))
    unfold sr_lg
    rw [ih]
    exact if_pos h1
  | x :: r, i + 1, hi, h1, h2 => by
    have ih := sr_lg_some (h := h) r i (by simpa using hi) h1 (fun j hj hj2 => h2 (j + 1) (by omega) (by simp; omega))
    unfold sr_lg
    rw [ih]
theorem sr_lg_lt {h : Nat} : ∀ (r : List Nat) (i : Nat), sr_lg h r = some i → i < r.length
  | [], i, hh => by cases hh
  | x :: r, i, hh => by
    unfold sr_lg at hh
    split at hh
    · rename_i i' e
      have := sr_lg_lt r i' e
      cases hh
      simp
      omega
    · split at hh
      · cases hh
        simp
      · cases hh
theorem sr_lg_map {φ : Nat → Nat} {h : Nat} : ∀ r : List Nat, (∀ x, x ∈ r → (φ h < φ x ↔ h < x)) → sr_lg (φ h) (r.map φ) = sr_lg h r
  | [], _ => rfl
  | x :: r, hh => by
    have ih := sr_lg_map (φ := φ) (h := h) r (fun y hy => hh y (List.mem_cons_of_mem _ hy))
    show (match sr_lg (φ h) (r.map φ) with | some i => some (i + 1) | none => if φ h < φ x then some 0 else none) = _
    rw [ih]
    show _ = (match sr_lg h r with | some i => some (i + 1) | none => if h < x then some 0 else none)
    have := hh x (List.mem_cons_self ..)
    cases sr_lg h r with
    | some i => rfl
    | none =>
      dsimp only
      by_cases h1 : h < x
      · rw [if_pos h1, if_pos (this.mpr h1)]
      · rw [if_neg h1, if_neg (fun z => h1 (this.mp z))]
theorem sr_nx_c {h : Nat} {r : List Nat} : sr_nx (h :: r) = match sr_nx r with
    | some r' => some (h :: r')
    | none => match sr_lg h r with
      | none => none
      | some i => some (r.getD i 0 :: (r.set i h).reverse) := rfl
theorem sr_nx_map {φ : Nat → Nat} {m : Nat} (hφ : ∀ x y, x < m → y < m → (φ x < φ y ↔ x < y)) : ∀ l : List Nat, (∀ x, x ∈ l → x < m) → sr_nx (l.map φ) = (sr_nx l).map (List.map φ)
  | [], _ => rfl
  | h :: r, hl => by
    have ih := sr_nx_map hφ r (fun x hx => hl x (List.mem_cons_of_mem _ hx))
    have hh := hl h (List.mem_cons_self ..)
    have il := sr_lg_map (φ := φ) (h := h) r (fun x hx => hφ h x hh (hl x (List.mem_cons_of_mem _ hx)))
    rw [List.map_cons, sr_nx_c, sr_nx_c, ih, il]
    cases e1 : sr_nx r with
    | some r' => rfl
    | none =>
      cases e2 : sr_lg h r with
      | none => rfl
      | some i =>
        have hi := sr_lg_lt r i e2
        simp [List.getD_eq_getElem?_getD, hi, List.map_set, List.map_reverse]
def sr_ds (l : List Nat) : Prop := ∀ j, j + 1 < l.length → l.getD (j + 1) 0 < l.getD j 0
theorem sr_ds_t {h : Nat} {r : List Nat} (hd : sr_ds (h :: r)) : sr_ds r := fun j hj => hd (j + 1) (by simp; omega)
theorem sr_ds_lt {h : Nat} {r : List Nat} (hd : sr_ds (h :: r)) : ∀ j, j < r.length → r.getD j 0 < h
  | 0, hj => hd 0 (by simp; omega)
  | j + 1, hj => Nat.lt_trans (hd (j + 1) (by simp; omega)) (sr_ds_lt hd j (by omega))
theorem sr_ds_none : ∀ l : List Nat, sr_ds l → sr_nx l = none
  | [], _ => rfl
  | h :: r, hd => by
    rw [sr_nx_c, sr_ds_none r (sr_ds_t hd), sr_lg_none r (fun j hj => by have := sr_ds_lt hd j hj; omega)]
theorem sr_nx_ki : ∀ (k : Nat) (s : List Nat) (i : Nat), k < i → i < s.length → sr_ds (s.drop (k + 1)) → s.getD k 0 < s.getD i 0 → (∀ j, i < j → j < s.length → ¬ s.getD k 0 < s.getD j 0) → sr_nx s = some (s.take k ++ s.getD i 0 :: ((s.drop (k + 1)).set (i - k - 1) (s.getD k 0)).reverse)
  | _, [], i, _, hi, _, _, _ => absurd hi (by simp)
  | 0, h :: r, i, hk, hi, hd, h1, h2 => by
    obtain ⟨i', rfl⟩ : ∃ i', i = i' + 1 := ⟨i - 1, by omega⟩
    rw [sr_nx_c, sr_ds_none r hd, sr_lg_some (h := h) r i' (by simpa using hi) h1 (fun j hj hj2 => h2 (j + 1) (by omega) (by simp; omega))]
    simp
  | k + 1, h :: r, i, hk, hi, hd, h1, h2 => by
    obtain ⟨i', rfl⟩ : ∃ i', i = i' + 1 := ⟨i - 1, by omega⟩
    rw [sr_nx_c, sr_nx_ki k r i' (by omega) (by simpa using hi) hd h1 (fun j hj hj2 => h2 (j + 1) (by omega) (by simp; omega))]
    simp
theorem sr_nx_at {s : List Nat} {k i j : Nat} (hk : k < i) (hi : i < s.length) (hj : j < s.length) : (s.take k ++ s.getD i 0 :: ((s.drop (k + 1)).set (i - k - 1) (s.getD k 0)).reverse).getD j 0 = if j < k then s.getD j 0 else if j = k then s.getD i 0 else if s.length + k - j = i then s.getD k 0 else s.getD (s.length + k - j) 0 := by
  have hl : (s.take k).length = k := by rw [List.length_take]; omega
  by_cases h1 : j < k
  · rw [if_pos h1, List.getD_eq_getElem?_getD, List.getElem?_append_left (by omega), List.getElem?_take_of_lt h1, ← List.getD_eq_getElem?_getD]
  · rw [if_neg h1, List.getD_eq_getElem?_getD, List.getElem?_append_right (by omega), hl]
    by_cases h2 : j = k
    · rw [if_pos h2, h2, Nat.sub_self, List.getElem?_cons_zero]
      rfl
    · rw [if_neg h2]
      obtain ⟨q, hq⟩ : ∃ q, j - k = q + 1 := ⟨j - k - 1, by omega⟩
      rw [hq, List.getElem?_cons_succ, List.getElem?_reverse (by simp; omega)]
      have e1 : ((s.drop (k + 1)).set (i - k - 1) (s.getD k 0)).length - 1 - q = s.length - 1 - j := by simp; omega
      rw [e1]
      by_cases h3 : s.length + k - j = i
      · rw [if_pos h3, show i - k - 1 = s.length - 1 - j by omega, List.getElem?_set_self (by simp; omega)]
        rfl
      · rw [if_neg h3, List.getElem?_set_ne (by omega), List.getElem?_drop, show k + 1 + (s.length - 1 - j) = s.length + k - j by omega, ← List.getD_eq_getElem?_getD]
theorem sr_last {Q : Nat → Prop} [DecidablePred Q] : ∀ n, (∃ j, j < n ∧ Q j) → ∃ i, i < n ∧ Q i ∧ ∀ j, i < j → j < n → ¬ Q j
  | 0, ⟨j, hj, _⟩ => absurd hj (by omega)
  | n + 1, ⟨j, hj, hQ⟩ => by
    by_cases h : Q n
    · exact ⟨n, by omega, h, fun j h1 h2 => by omega⟩
    · obtain ⟨i, h1, h2, h3⟩ := sr_last n ⟨j, by
        have : j ≠ n := fun z => h (z ▸ hQ)
        omega, hQ⟩
      exact ⟨i, by omega, h2, fun q h4 h5 => by
        by_cases e : q = n
        · rw [e]; exact h
        · exact h3 q h4 (by omega)⟩
theorem sr_nd_ne {s : List Nat} (h : s.Nodup) {i j : Nat} (hi : i < s.length) (hj : j < s.length) (hij : i ≠ j) : s.getD i 0 ≠ s.getD j 0 := by
  intro e
  rw [List.getD_eq_getElem?_getD, List.getD_eq_getElem?_getD, List.getElem?_eq_getElem hi, List.getElem?_eq_getElem hj] at e
  have hp := List.pairwise_iff_getElem.mp h
  rcases Nat.lt_or_gt_of_ne hij with q | q
  · exact hp i j hi hj q e
  · exact hp j i hj hi q e.symm
theorem sr_dec : ∀ s : List Nat, s.Nodup → sr_ds s ∨ ∃ k i, k + 1 < s.length ∧ k < i ∧ i < s.length ∧ sr_ds (s.drop (k + 1)) ∧ s.getD k 0 < s.getD (k + 1) 0 ∧ s.getD k 0 < s.getD i 0 ∧ ∀ j, i < j → j < s.length → s.getD j 0 < s.getD k 0
  | [], _ => Or.inl (fun j hj => absurd hj (by simp))
  | h :: r, hn => by
    rcases sr_dec r (List.nodup_cons.mp hn).2 with hd | ⟨k, i, h1, h2, h3, h4, h5, h6, h7⟩
    · cases hr : r with
      | nil => left; intro j hj; simp at hj
      | cons a t =>
        by_cases ha : a < h
        · left
          intro j hj
          rcases j with _ | j
          · exact ha
          · rw [hr] at hd
            exact hd j (by simpa using hj)
        · right
          rw [← hr]
          have hne : h ≠ a := by
            intro e
            have := (List.nodup_cons.mp hn).1
            rw [hr, e] at this
            exact this (List.mem_cons_self ..)
          have hlt : h < a := by omega
          obtain ⟨i, hi, hQ, hl⟩ := sr_last (Q := fun j => h < r.getD j 0) r.length ⟨0, by rw [hr]; simp, by rw [hr]; exact hlt⟩
          refine ⟨0, i + 1, by rw [hr]; simp, by omega, by simp; omega, hd, by rw [hr]; exact hlt, hQ, ?_⟩
          intro j h1 h2
          obtain ⟨j', rfl⟩ : ∃ j', j = j' + 1 := ⟨j - 1, by omega⟩
          have h3 := hl j' (by omega) (by simpa using h2)
          have h4 := sr_nd_ne hn (i := 0) (j := j' + 1) (by simp) h2 (by omega)
          have e1 : (h :: r).getD 0 0 = h := rfl
          have e2 : (h :: r).getD (j' + 1) 0 = r.getD j' 0 := rfl
          rw [e1, e2] at h4
          rw [e1, e2]
          omega
    · right
      exact ⟨k + 1, i + 1, by simp; omega, by omega, by simp; omega, h4, h5, h6, fun j hj hj2 => by
        obtain ⟨j', rfl⟩ : ∃ j', j = j' + 1 := ⟨j - 1, by omega⟩
        exact h7 j' (by omega) (by simpa using hj2)⟩
theorem sr_ndb_map {φ : Nat → Nat} {m : Nat} (hφ : ∀ x y, x < m → y < m → (φ x < φ y ↔ x < y)) : ∀ l : List Nat, (∀ x, x ∈ l → x < m) → sr_ndb l = true → (l.map φ).Nodup
  | [], _, _ => List.nodup_nil
  | x :: t, hl, h => by
    unfold sr_ndb at h
    simp only [Bool.and_eq_true, List.all_eq_true, Bool.not_eq_true', beq_eq_false_iff_ne] at h
    rw [List.map_cons, List.nodup_cons]
    refine ⟨fun hm => ?_, sr_ndb_map hφ t (fun y hy => hl y (List.mem_cons_of_mem _ hy)) h.2⟩
    obtain ⟨y, hy, e⟩ := List.mem_map.mp hm
    have hx := hl x (List.mem_cons_self ..)
    have hy2 := hl y (List.mem_cons_of_mem _ hy)
    have h1 := hφ x y hx hy2
    have h2 := hφ y x hy2 hx
    have h3 := h.1 y hy
    rw [e] at h1 h2
    omega
/-- an order of the farms of S -/
def sr_gd (m : Nat) (S a : List Nat) : Prop := a.length = m ∧ a.Nodup ∧ ∀ x, x ∈ a → x ∈ S
/-- a row of orders, each the next of the one before it -/
def sr_ch (m : Nat) (S : List Nat) : List (List Nat) → Prop
  | [] => False
  | [a] => sr_gd m S a ∧ sr_nx a = none
  | a :: b :: t => sr_gd m S a ∧ sr_nx a = some b ∧ sr_ch m S (b :: t)
theorem sr_chk_gd {φ : Nat → Nat} {m : Nat} {S a : List Nat} (hφ : ∀ x y, x < m → y < m → (φ x < φ y ↔ x < y)) (hS : ∀ x, x < m → φ x ∈ S) (h1 : a.length = m) (h2 : ∀ x, x ∈ a → x < m) (h3 : sr_ndb a = true) : sr_gd m S (a.map φ) := by
  refine ⟨by simp [h1], sr_ndb_map hφ a h2 h3, fun y hy => ?_⟩
  obtain ⟨x, hx, e⟩ := List.mem_map.mp hy
  rw [← e]
  exact hS x (h2 x hx)
theorem sr_chk_ch {φ : Nat → Nat} {m : Nat} {S : List Nat} (hφ : ∀ x y, x < m → y < m → (φ x < φ y ↔ x < y)) (hS : ∀ x, x < m → φ x ∈ S) : ∀ L : List (List Nat), sr_chk m L = true → sr_ch m S (L.map (List.map φ))
  | [], h => by cases h
  | [a], h => by
    unfold sr_chk at h
    simp only [Bool.and_eq_true, beq_iff_eq, List.all_eq_true, decide_eq_true_eq, Option.isNone_iff_eq_none] at h
    refine ⟨sr_chk_gd hφ hS h.1.1.1 h.1.1.2 h.1.2, ?_⟩
    rw [sr_nx_map hφ a h.1.1.2, h.2]
    rfl
  | a :: b :: t, h => by
    unfold sr_chk at h
    simp only [Bool.and_eq_true, beq_iff_eq, List.all_eq_true, decide_eq_true_eq] at h
    refine ⟨sr_chk_gd hφ hS h.1.1.1.1 h.1.1.1.2 h.1.1.2, ?_, sr_chk_ch hφ hS (b :: t) h.2⟩
    rw [sr_nx_map hφ a h.1.1.1.2, h.1.2]
    rfl
/-- the orders of S, one behind the other -/
theorem sr_ord {S : List Nat} {m : Nat} (hm : S.length = m) (hm7 : m < 8) (hS : ∀ i j, i < m → j < m → (S.getD i 0 < S.getD j 0 ↔ i < j)) : ∃ R, sr_pm m S = S :: R ∧ sr_ch m S (S :: R) := by
  have e : (List.range m).map (fun i => S.getD i 0) = S := by
    apply List.ext_getElem?
    intro i
    by_cases hi : i < m
    · rw [List.getElem?_map, List.getElem?_range hi, List.getElem?_eq_getElem (by omega)]
      simp [List.getD_eq_getElem?_getD, hm, hi]
    · rw [List.getElem?_eq_none (by simp; omega), List.getElem?_eq_none (by omega)]
  obtain ⟨h1, h2⟩ := sr_chk7 m hm7
  have h3 := sr_chk_ch (φ := fun i => S.getD i 0) (S := S) hS (fun x hx => by
    rw [List.getD_eq_getElem?_getD, List.getElem?_eq_getElem (by omega)]
    exact List.getElem_mem _) _ h1
  have h4 := sr_pm_map (fun i => S.getD i 0) m (List.range m)
  rw [e] at h4
  rw [h4]
  cases hL : sr_pm m (List.range m) with
  | nil => rw [hL] at h2; cases h2
  | cons a R =>
    rw [hL] at h2 h3
    cases h2
    refine ⟨R.map (List.map (fun i => S.getD i 0)), ?_, ?_⟩
    · rw [List.map_cons, e]
    · rw [List.map_cons, e] at h3
      exact h3

end
