section
/-- values of the small machine: an int, or a place in the layout (none: null) -/
abbrev vx_v : Type := Int32 ⊕ Option Nat
abbrev vx_mem : Type := Nat → Nat → Int32
/-- a cell's kind: an object of class number ci, its fields (none: an int, some r: a reference); an array of type t, n places, of references where a list lies -/
abbrev vx_k : Type := (Nat × List (Option (Option Nat))) ⊕ (Nat × Nat × Option (List Nat))
abbrev vx_L : Type := Nat → vx_k
abbrev vx_i (x : Int32) : vx_v := Sum.inl x
abbrev vx_r (k : Nat) : vx_v := Sum.inr (some k)
def vx_V (ad : Nat → Nat) : vx_v → Value
  | .inl x => .int x
  | .inr r => va_rf (r.map ad)
theorem vx_V_cat (ad : Nat → Nat) (v : vx_v) : (vx_V ad v).category = 1 := by
  cases v with
  | inl x => rfl
  | inr r => cases r <;> rfl
def vx_fl (ad : Nat → Nat) (f : Nat → Int32) (j : Nat) : Option (Option Nat) → Value
  | none => .int (f j)
  | some r => va_rf (r.map ad)
def vx_fs (ad : Nat → Nat) (fr : List (Option (Option Nat))) (f : Nat → Int32) : List Value := (List.range fr.length).map (fun j => vx_fl ad f j (fr.getD j none))
theorem vx_fs_len (ad : Nat → Nat) (fr : List (Option (Option Nat))) (f : Nat → Int32) : (vx_fs ad fr f).length = fr.length := by simp [vx_fs]
theorem vx_fs_at {ad : Nat → Nat} {fr : List (Option (Option Nat))} {f : Nat → Int32} {j : Nat} {o : Option (Option Nat)} (h : fr[j]? = some o) : (vx_fs ad fr f)[j]? = some (vx_fl ad f j o) := by
  have hj : j < fr.length := (List.getElem?_eq_some_iff.mp h).1
  unfold vx_fs
  rw [List.getElem?_map, List.getElem?_range hj]
  simp [List.getD_eq_getElem?_getD, h]
theorem vx_fs_set {ad : Nat → Nat} {fr : List (Option (Option Nat))} {f : Nat → Int32} {j : Nat} {x : Int32} (h : fr[j]? = some none) : (vx_fs ad fr f).set j (.int x) = vx_fs ad fr (upd f j x) := by
  have hj : j < fr.length := (List.getElem?_eq_some_iff.mp h).1
  apply List.ext_getElem?
  intro i
  by_cases hi : i < fr.length
  · obtain ⟨o, ho⟩ : ∃ o, fr[i]? = some o := ⟨fr[i], by simp [hi]⟩
    rw [vx_fs_at (f := upd f j x) ho]
    by_cases e : i = j
    · subst e
      rw [List.getElem?_set_self (by rw [vx_fs_len]; exact hi)]
      rw [h] at ho
      cases ho
      simp [vx_fl, upd]
    · rw [List.getElem?_set_ne (Ne.symm e), vx_fs_at ho]
      cases o <;> simp [vx_fl, upd, e]
  · rw [List.getElem?_eq_none (by simp [vx_fs_len]; omega), List.getElem?_eq_none (by simp [vx_fs_len]; omega)]
theorem vx_fs_setr {ad : Nat → Nat} {fr : List (Option (Option Nat))} {f : Nat → Int32} {j : Nat} {r : Option Nat} (hj : j < fr.length) : (vx_fs ad fr f).set j (va_rf (r.map ad)) = vx_fs ad (fr.set j (some r)) f := by
  apply List.ext_getElem?
  intro i
  by_cases hi : i < fr.length
  · obtain ⟨o, ho⟩ : ∃ o, fr[i]? = some o := ⟨fr[i], by simp [hi]⟩
    by_cases e : i = j
    · subst e
      rw [List.getElem?_set_self (by rw [vx_fs_len]; exact hi), vx_fs_at (o := some r) (by simp [hi])]
      rfl
    · rw [List.getElem?_set_ne (Ne.symm e), vx_fs_at ho, vx_fs_at (o := o) (by rw [List.getElem?_set_ne (Ne.symm e)]; exact ho)]
  · rw [List.getElem?_eq_none (by simp [vx_fs_len]; omega), List.getElem?_eq_none (by simp [vx_fs_len]; omega)]
def vx_E (dA : Nat → ClassId) (ad : Nat → Nat) (κ : vx_k) (f : Nat → Int32) : va_E := match κ with
  | .inl q => .inr (q.1, vx_fs ad q.2 f)
  | .inr (t, n, none) => .inl (dA t, n, .inl f)
  | .inr (t, n, some g) => .inl (dA t, n, .inr (.inr (.inr (.inr (fun i => (g[i]?).map ad)))))
def vx_W (dA : Nat → ClassId) (ad : Nat → Nat) (N : Nat) (Λ : vx_L) (μ : vx_mem) : va_W := (List.range N).map (fun k => (ad k, vx_E dA ad (Λ k) (μ k)))
def vx_T (dA : Nat → ClassId) : List (ClassId × FieldType) := [(dA 0, .int), (dA 1, .boolean), (dA 2, .array .int)]
theorem vx_W_len (dA : Nat → ClassId) (ad : Nat → Nat) (N : Nat) (Λ : vx_L) (μ : vx_mem) : (vx_W dA ad N Λ μ).length = N := by simp [vx_W]
theorem vx_W_at {dA : Nat → ClassId} {ad : Nat → Nat} {N : Nat} {Λ : vx_L} {μ : vx_mem} {k : Nat} (h : k < N) : (vx_W dA ad N Λ μ)[k]? = some (ad k, vx_E dA ad (Λ k) (μ k)) := by
  unfold vx_W
  rw [List.getElem?_map, List.getElem?_range h]
  rfl
theorem vx_W_set {dA : Nat → ClassId} {ad : Nat → Nat} {N : Nat} {Λ : vx_L} {μ : vx_mem} {k : Nat} {κ : vx_k} {f : Nat → Int32} (h : k < N) : (vx_W dA ad N Λ μ).set k (ad k, vx_E dA ad κ f) = vx_W dA ad N (va_up Λ k κ) (va_up μ k f) := by
  apply List.ext_getElem?
  intro i
  by_cases hi : i < N
  · rw [vx_W_at hi]
    by_cases e : i = k
    · subst e
      rw [List.getElem?_set_self (by rw [vx_W_len]; exact hi)]
      simp [va_up]
    · rw [List.getElem?_set_ne (Ne.symm e), vx_W_at hi]
      simp [va_up, e]
  · rw [List.getElem?_eq_none (by simp [vx_W_len]; omega), List.getElem?_eq_none (by simp [vx_W_len]; omega)]
theorem vx_up_id {α : Type} (f : Nat → α) (k : Nat) : va_up f k (f k) = f := by
  funext j
  unfold va_up
  split
  · rename_i h; rw [h]
  · rfl
/-- a kind that doesn't name the place M -/
def vx_ok (M : Nat) : vx_k → Bool
  | .inl q => q.2.all (fun o => match o with | some (some r) => r != M | _ => true)
  | .inr (_, _, none) => true
  | .inr (_, _, some l) => l.all (fun r => r != M)
theorem vx_E_up {dA : Nat → ClassId} {ad ad' : Nat → Nat} {M : Nat} {κ : vx_k} {f : Nat → Int32} (h : vx_ok M κ = true) (ha : ∀ k, k ≠ M → ad' k = ad k) : vx_E dA ad' κ f = vx_E dA ad κ f := by
  rcases κ with ⟨c, fr⟩ | ⟨t, n, _ | g⟩
  · have hfs : vx_fs ad' fr f = vx_fs ad fr f := by
      apply List.ext_getElem?
      intro i
      by_cases hi : i < fr.length
      · obtain ⟨o, ho⟩ : ∃ o, fr[i]? = some o := ⟨fr[i], by simp [hi]⟩
        rw [vx_fs_at ho, vx_fs_at ho]
        rcases o with _ | _ | r
        · rfl
        · rfl
        · have hm : some (some r) ∈ fr := List.mem_of_getElem? ho
          have h2 := List.all_eq_true.mp h _ hm
          have hr : r ≠ M := by simpa using h2
          simp [vx_fl, ha r hr]
      · rw [List.getElem?_eq_none (by simp [vx_fs_len]; omega), List.getElem?_eq_none (by simp [vx_fs_len]; omega)]
    simp only [vx_E, hfs]
  · rfl
  · have hg : (fun i : Nat => (g[i]?).map ad') = (fun i : Nat => (g[i]?).map ad) := by
      funext i
      cases hi : g[i]? with
      | none => rfl
      | some r =>
        have h2 := List.all_eq_true.mp h _ (List.mem_of_getElem? hi)
        have hr : r ≠ M := by simpa using h2
        simp [ha r hr]
    simp only [vx_E, hg]
theorem vx_W_push {dA : Nat → ClassId} {ad : Nat → Nat} {N : Nat} {Λ : vx_L} {μ : vx_mem} {κ : vx_k} {f : Nat → Int32} {q : Nat} (h : (List.range N).all (fun k => vx_ok N (Λ k)) = true) (hκ : vx_ok N κ = true) : vx_W dA ad N Λ μ ++ [(q, vx_E dA ad κ f)] = vx_W dA (va_up ad N q) (N + 1) (va_up Λ N κ) (va_up μ N f) := by
  have ha : ∀ k, k ≠ N → va_up ad N q k = ad k := fun k hk => by simp [va_up, hk]
  apply List.ext_getElem?
  intro i
  rcases Nat.lt_trichotomy i N with hi | hi | hi
  · rw [List.getElem?_append_left (by rw [vx_W_len]; exact hi), vx_W_at hi, vx_W_at (by omega)]
    have hne : i ≠ N := by omega
    have h1 := List.all_eq_true.mp h i (List.mem_range.mpr hi)
    have e1 : va_up ad N q i = ad i := by simp [va_up, hne]
    have e2 : va_up Λ N κ i = Λ i := by simp [va_up, hne]
    have e3 : va_up μ N f i = μ i := by simp [va_up, hne]
    rw [e1, e2, e3, vx_E_up h1 ha]
  · subst hi
    rw [List.getElem?_append_right (by rw [vx_W_len]; exact Nat.le_refl _), vx_W_len, vx_W_at (by omega)]
    rw [Nat.sub_self, List.getElem?_cons_zero]
    have e1 : va_up ad i q i = q := by simp [va_up]
    have e2 : va_up Λ i κ i = κ := by simp [va_up]
    have e3 : va_up μ i f i = f := by simp [va_up]
    rw [e1, e2, e3, vx_E_up hκ ha]
  · rw [List.getElem?_eq_none (by simp [vx_W_len]; omega), List.getElem?_eq_none (by simp [vx_W_len]; omega)]
end

