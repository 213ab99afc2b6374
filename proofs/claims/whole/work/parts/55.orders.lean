section
/-- ways + 1 (0: none), from, to, need, late -/
abbrev sr_P : Type := (Nat → Nat → Nat) × (Nat → Nat) × (Nat → Nat) × (Nat → Nat) × Nat
def sr_d (P : sr_P) (p d f : Nat) : Nat := max (d + P.1 p f - 1) (P.2.1 f) + P.2.2.2.1 f
def sr_l (P : sr_P) (e l f : Nat) : Nat := l + P.2.2.2.2 * (e - P.2.2.1 f - 1)
/-- an order gone from p on day d with loss l: the day, the loss -/
def sr_go (P : sr_P) : Nat → Nat → Nat → List Nat → Option (Nat × Nat)
  | _, d, l, [] => some (d, l)
  | p, d, l, f :: o => if P.1 p f = 0 then none else sr_go P f (sr_d P p d f) (sr_l P (sr_d P p d f) l f) o
/-- the best so far: order, loss, end -/
abbrev sr_B : Type := Option (List Nat × Nat × Nat)
def sr_bt (l d : Nat) : sr_B → Bool
  | none => true
  | some (_, bl, bd) => decide (l < bl ∨ l = bl ∧ d < bd)
def sr_con (P : sr_P) (p d l : Nat) (pre : List Nat) (B : sr_B) (o : List Nat) : sr_B := match sr_go P p d l o with
  | none => B
  | some (e, l') => if sr_bt l' e B = true then some (pre ++ o, l', e) else B
theorem sr_d_le {P : sr_P} {p d f : Nat} (h : ¬ P.1 p f = 0) : d ≤ sr_d P p d f := by
  unfold sr_d
  omega
theorem sr_go_le {P : sr_P} : ∀ (o : List Nat) (p d l e l' : Nat), sr_go P p d l o = some (e, l') → d ≤ e ∧ l ≤ l'
  | [], p, d, l, e, l', h => by
    unfold sr_go at h
    simp only [Option.some.injEq, Prod.mk.injEq] at h
    omega
  | f :: o, p, d, l, e, l', h => by
    unfold sr_go at h
    split at h
    · cases h
    · rename_i h0
      have h1 := sr_go_le o _ _ _ _ _ h
      have h2 := sr_d_le (d := d) h0
      have h3 : l ≤ sr_l P (sr_d P p d f) l f := Nat.le_add_right _ _
      omega
theorem sr_bt_le {l d l' d' : Nat} {B : sr_B} (hd : d ≤ d') (hl : l ≤ l') (h : ¬ sr_bt l d B = true) : ¬ sr_bt l' d' B = true := by
  rcases B with _ | ⟨o, bl, bd⟩
  · exact absurd rfl h
  · unfold sr_bt at h ⊢
    simp only [decide_eq_true_eq] at h ⊢
    omega
theorem sr_con_no {P : sr_P} {p d l : Nat} {pre : List Nat} {B : sr_B} (h : ¬ sr_bt l d B = true) (o : List Nat) : sr_con P p d l pre B o = B := by
  unfold sr_con
  split
  · rfl
  · rename_i e l' he
    have := sr_go_le _ _ _ _ _ _ he
    rw [if_neg (sr_bt_le this.1 this.2 h)]
theorem sr_con_nos {P : sr_P} {p d l : Nat} {pre : List Nat} {B : sr_B} (h : ¬ sr_bt l d B = true) : ∀ (L : List (List Nat)), L.foldl (sr_con P p d l pre) B = B
  | [] => rfl
  | o :: L => by
    rw [List.foldl_cons, sr_con_no h]
    exact sr_con_nos h L
theorem sr_con_0 {P : sr_P} {p d l k : Nat} {pre : List Nat} {B : sr_B} {o : List Nat} (h : P.1 p k = 0) : sr_con P p d l pre B (k :: o) = B := by
  unfold sr_con sr_go
  rw [if_pos h]
theorem sr_con_s {P : sr_P} {p d l k : Nat} {pre : List Nat} {B : sr_B} {o : List Nat} (h : ¬ P.1 p k = 0) : sr_con P p d l pre B (k :: o) = sr_con P k (sr_d P p d k) (sr_l P (sr_d P p d k) l k) (pre ++ [k]) B o := by
  unfold sr_con
  rw [show sr_go P p d l (k :: o) = sr_go P k (sr_d P p d k) (sr_l P (sr_d P p d k) l k) o from if_neg h, List.append_assoc]
  rfl
theorem sr_con_0s {P : sr_P} {p d l k : Nat} {pre : List Nat} (h : P.1 p k = 0) : ∀ (L : List (List Nat)) (B : sr_B), (L.map (k :: ·)).foldl (sr_con P p d l pre) B = B
  | [], _ => rfl
  | o :: L, B => by
    rw [List.map_cons, List.foldl_cons, sr_con_0 h]
    exact sr_con_0s h L B
theorem sr_con_ss {P : sr_P} {p d l k : Nat} {pre : List Nat} (h : ¬ P.1 p k = 0) : ∀ (L : List (List Nat)) (B : sr_B), (L.map (k :: ·)).foldl (sr_con P p d l pre) B = L.foldl (sr_con P k (sr_d P p d k) (sr_l P (sr_d P p d k) l k) (pre ++ [k])) B
  | [], _ => rfl
  | o :: L, B => by
    rw [List.map_cons, List.foldl_cons, List.foldl_cons, sr_con_s h]
    exact sr_con_ss h L _
abbrev sr_17 : List Nat := [1, 2, 3, 4, 5, 6, 7]
def sr_mn (ω : Nat → Bool) (k : Nat) : Nat → Bool := fun j => ω j && !(j == k)
abbrev sr_mc (c : Nat) (fo : Nat → Nat) (len : Nat) (ω : Nat → Bool) (k : Nat) : Prop := ω k = true ∧ (c ≤ len ∨ fo len = k)
/-- the orders that may come -/
def sr_can (c : Nat) (fo : Nat → Nat) : Nat → Nat → (Nat → Bool) → List (List Nat)
  | 0, _, _ => [[]]
  | f + 1, len, ω => sr_17.flatMap (fun k => if sr_mc c fo len ω k then (sr_can c fo f (len + 1) (sr_mn ω k)).map (k :: ·) else [])
/-- the search with its cuts -/
def sr_stp (P : sr_P) (c : Nat) (fo : Nat → Nat) (E : Nat → Nat → Nat → sr_B → sr_B) (len p d l : Nat) (ω : Nat → Bool) (B : sr_B) (k : Nat) : sr_B :=
  if ¬ P.1 p k = 0 ∧ sr_mc c fo len ω k ∧ sr_bt (sr_l P (sr_d P p d k) l k) (sr_d P p d k) B = true then E k (sr_d P p d k) (sr_l P (sr_d P p d k) l k) B else B
def sr_dfs (P : sr_P) (c : Nat) (fo : Nat → Nat) : Nat → Nat → Nat → Nat → Nat → List Nat → (Nat → Bool) → sr_B → sr_B
  | 0, _, _, d, l, pre, _, _ => some (pre, l, d)
  | f + 1, len, p, d, l, pre, ω, B => sr_17.foldl (sr_stp P c fo (fun k e l' B' => sr_dfs P c fo f (len + 1) k e l' (pre ++ [k]) (sr_mn ω k) B') len p d l ω) B
theorem sr_dfs_eq {P : sr_P} {c : Nat} {fo : Nat → Nat} : ∀ (f len p d l : Nat) (pre : List Nat) (ω : Nat → Bool) (B : sr_B), sr_bt l d B = true → sr_dfs P c fo f len p d l pre ω B = (sr_can c fo f len ω).foldl (sr_con P p d l pre) B := by
  intro f
  induction f with
  | zero =>
    intro len p d l pre ω B h
    show _ = sr_con P p d l pre B []
    show _ = (if sr_bt l d B = true then some (pre ++ [], l, d) else B)
    rw [if_pos h, List.append_nil]
    rfl
  | succ f ih =>
    intro len p d l pre ω B _
    have go : ∀ (ks : List Nat) (B : sr_B), ks.foldl (sr_stp P c fo (fun k e l' B' => sr_dfs P c fo f (len + 1) k e l' (pre ++ [k]) (sr_mn ω k) B') len p d l ω) B = (ks.flatMap (fun k => if sr_mc c fo len ω k then (sr_can c fo f (len + 1) (sr_mn ω k)).map (k :: ·) else [])).foldl (sr_con P p d l pre) B := by
      intro ks
      induction ks with
      | nil => intro B; rfl
      | cons k ks ihk =>
        intro B
        rw [List.foldl_cons, List.flatMap_cons, List.foldl_append, ihk]
        congr 1
        unfold sr_stp
        by_cases h1 : sr_mc c fo len ω k
        · rw [if_pos h1]
          by_cases h0 : P.1 p k = 0
          · rw [if_neg (fun z => z.1 h0), sr_con_0s h0]
          · rw [sr_con_ss h0]
            by_cases h2 : sr_bt (sr_l P (sr_d P p d k) l k) (sr_d P p d k) B = true
            · rw [if_pos ⟨h0, h1, h2⟩]
              exact ih _ _ _ _ _ _ _ h2
            · rw [if_neg (fun z => h2 z.2.2), sr_con_nos h2]
        · rw [if_neg h1, if_neg (fun z => h1 z.2.1)]
          rfl
    exact go sr_17 B
def sr_sel : List Nat → List (Nat × List Nat)
  | [] => []
  | x :: xs => (x, xs) :: (sr_sel xs).map (fun q => (q.1, x :: q.2))
def sr_pm : Nat → List Nat → List (List Nat)
  | 0, _ => [[]]
  | f + 1, l => (sr_sel l).flatMap (fun q => (sr_pm f q.2).map (q.1 :: ·))
theorem sr_sel_map (φ : Nat → Nat) : ∀ l : List Nat, sr_sel (l.map φ) = (sr_sel l).map (fun q => (φ q.1, q.2.map φ))
  | [] => rfl
  | x :: xs => by
    simp [sr_sel, sr_sel_map φ xs]
theorem sr_pm_map (φ : Nat → Nat) : ∀ (f : Nat) (l : List Nat), sr_pm f (l.map φ) = (sr_pm f l).map (List.map φ)
  | 0, _ => rfl
  | f + 1, l => by
    unfold sr_pm
    rw [sr_sel_map, List.flatMap_map, List.map_flatMap]
    congr 1
    funext q
    dsimp only
    rw [sr_pm_map φ f, List.map_map, List.map_map]
    rfl
theorem sr_sel_filter (ω : Nat → Bool) : ∀ l : List Nat, l.Nodup → sr_sel (l.filter ω) = (l.filter ω).map (fun x => (x, l.filter (sr_mn ω x)))
  | [], _ => rfl
  | a :: t, h => by
    have ha : a ∉ t := (List.nodup_cons.mp h).1
    have ih := sr_sel_filter ω t (List.nodup_cons.mp h).2
    have e1 : t.filter (sr_mn ω a) = t.filter ω := by
      apply List.filter_congr
      intro x hx
      unfold sr_mn
      have : ¬ x = a := fun z => ha (z ▸ hx)
      simp [this]
    have e2 : (a :: t).filter (sr_mn ω a) = t.filter ω := by
      rw [List.filter_cons_of_neg (by simp [sr_mn]), e1]
    by_cases hw : ω a = true
    · rw [List.filter_cons_of_pos hw, sr_sel, ih, List.map_cons, e2, List.map_map]
      congr 1
      apply List.map_congr_left
      intro x hx
      have hxa : ¬ a = x := fun z => ha (z ▸ (List.mem_filter.mp hx).1)
      have e3 : (a :: t).filter (sr_mn ω x) = a :: t.filter (sr_mn ω x) := List.filter_cons_of_pos (by simp [sr_mn, hw, hxa])
      rw [e3]
      rfl
    · rw [List.filter_cons_of_neg hw, ih]
      apply List.map_congr_left
      intro x hx
      rw [List.filter_cons_of_neg (by simp [sr_mn, hw])]
theorem sr_flat_filter {β : Type} (q : Nat → Bool) (g : Nat → List β) : ∀ l : List Nat, l.flatMap (fun k => if q k = true then g k else []) = (l.filter q).flatMap g
  | [] => rfl
  | a :: t => by
    rw [List.flatMap_cons, sr_flat_filter q g t]
    by_cases h : q a = true
    · rw [if_pos h, List.filter_cons_of_pos h, List.flatMap_cons]
    · rw [if_neg h, List.filter_cons_of_neg h, List.nil_append]
theorem sr_can_pm {c : Nat} {fo : Nat → Nat} : ∀ (f len : Nat) (ω : Nat → Bool), c ≤ len → sr_can c fo f len ω = sr_pm f (sr_17.filter ω)
  | 0, _, _, _ => rfl
  | f + 1, len, ω, h => by
    unfold sr_can sr_pm
    rw [sr_sel_filter ω sr_17 (by decide), List.flatMap_map, ← sr_flat_filter]
    congr 1
    funext k
    by_cases hk : ω k = true
    · rw [if_pos ⟨hk, Or.inl h⟩, if_pos hk, sr_can_pm f (len + 1) _ (by omega)]
    · rw [if_neg (fun z => hk z.1), if_neg hk]
theorem sr_flat_one {β : Type} {k0 : Nat} (g : Nat → List β) : ∀ l : List Nat, l.Nodup → k0 ∈ l → l.flatMap (fun k => if k = k0 then g k else []) = g k0
  | [], _, h => by cases h
  | a :: t, hn, h => by
    have ha : a ∉ t := (List.nodup_cons.mp hn).1
    rw [List.flatMap_cons]
    by_cases e : a = k0
    · subst e
      have : t.flatMap (fun k => if k = a then g k else []) = [] := by
        rw [List.flatMap_eq_nil_iff]
        intro x hx
        exact if_neg (fun (z : x = a) => ha (z ▸ hx))
      rw [if_pos rfl, this, List.append_nil]
    · rw [if_neg e, List.nil_append]
      exact sr_flat_one g t (List.nodup_cons.mp hn).2 ((List.mem_cons.mp h).resolve_left (fun z => e z.symm))
theorem sr_can_fo {c : Nat} {fo : Nat → Nat} {f len : Nat} {ω : Nat → Bool} (h : len < c) (hm : fo len ∈ sr_17) (hw : ω (fo len) = true) : sr_can c fo (f + 1) len ω = (sr_can c fo f (len + 1) (sr_mn ω (fo len))).map (fo len :: ·) := by
  rw [← sr_flat_one (fun k => (sr_can c fo f (len + 1) (sr_mn ω k)).map (k :: ·)) sr_17 (by decide) hm]
  show sr_17.flatMap _ = _
  congr 1
  funext k
  by_cases e : k = fo len
  · rw [if_pos e, if_pos ⟨e ▸ hw, Or.inr e.symm⟩]
  · rw [if_neg e, if_neg (fun z => e ((z.2.resolve_left (by omega)).symm))]
/-- the last place of r that holds more than h -/
def sr_lg (h : Nat) : List Nat → Option Nat
  | [] => none
  | x :: r => match sr_lg h r with
    | some i => some (i + 1)
    | none => if h < x then some 0 else none
/-- the next order -/
def sr_nx : List Nat → Option (List Nat)
  | [] => none
  | h :: r => match sr_nx r with
    | some r' => some (h :: r')
    | none => match sr_lg h r with
      | none => none
      | some i => some (r.getD i 0 :: (r.set i h).reverse)
def sr_ndb : List Nat → Bool
  | [] => true
  | x :: t => t.all (fun y => !(x == y)) && sr_ndb t
def sr_chk (m : Nat) : List (List Nat) → Bool
  | [] => false
  | [a] => a.length == m && a.all (· < m) && sr_ndb a && (sr_nx a).isNone
  | a :: b :: t => a.length == m && a.all (· < m) && sr_ndb a && (sr_nx a == some b) && sr_chk m (b :: t)
theorem sr_chk7 : ∀ m, m < 8 → sr_chk m (sr_pm m (List.range m)) = true ∧ (sr_pm m (List.range m)).head? = some (List.range m) := by decide +kernel

end
