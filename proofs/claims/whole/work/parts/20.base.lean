section
/-- least ≤ n ≤ most, as the answer of within -/
def sp_in (n a b : Int32) : Int32 := if n < a then 0 else if b < n then 0 else 1
theorem sp_in0 {n a b : Int32} : sp_in n a b = 0 ↔ ¬ (a ≤ n ∧ n ≤ b) := by
  unfold sp_in
  by_cases h1 : n < a
  · simp [h1, Int32.not_le.mpr h1]
  · by_cases h2 : b < n
    · simp [h1, h2, Int32.not_le.mpr h2]
    · simp [h1, h2, Int32.not_lt.mp h1, Int32.not_lt.mp h2]
/-- a place of a row, -1 beyond it -/
def sp_at (n : Nat) (f : Nat → Int32) (i : Int32) : Int32 := if i < 0 then -1 else if nI n ≤ i then -1 else f i.toNatClampNeg
def sp_put (n : Nat) (f : Nat → Int32) (i v : Int32) : Nat → Int32 := if i < 0 then f else if nI n ≤ i then f else upd f i.toNatClampNeg v
theorem sp_vin {i : Int32} {n : Nat} (h0 : ¬ i < 0) (h1 : ¬ nI n ≤ i) (hn : n < 2 ^ 31) : vp_in i n := by
  obtain ⟨j, hj, rfl⟩ := nI_of h0
  rw [nI_leI hn hj] at h1
  exact vp_in_nI (by omega) hn
theorem sp_at_nI {n k : Nat} (f : Nat → Int32) (h : k < n) (hn : n < 2 ^ 31) : sp_at n f (nI k) = f k := by
  unfold sp_at
  rw [if_neg (nI_pos (by omega)), if_neg (nI_ge h hn), nI_clamp (by omega)]
theorem sp_put_nI {n k : Nat} (f : Nat → Int32) (v : Int32) (h : k < n) (hn : n < 2 ^ 31) : sp_put n f (nI k) v = upd f k v := by
  unfold sp_put
  rw [if_neg (nI_pos (by omega)), if_neg (nI_ge h hn), nI_clamp (by omega)]
/-- a place of rows -/
def sp_at2 (n m : Nat) (g : List Nat) (μ : vx_mem) (i j : Int32) : Int32 := if i < 0 then -1 else if nI n ≤ i then -1 else sp_at m (μ (g.getD i.toNatClampNeg 0)) j
def sp_put2 (n m : Nat) (g : List Nat) (μ : vx_mem) (i j v : Int32) : vx_mem := if i < 0 then μ else if nI n ≤ i then μ else va_up μ (g.getD i.toNatClampNeg 0) (sp_put m (μ (g.getD i.toNatClampNeg 0)) j v)
def sp_cut (n by_ : Int32) : Int32 := if by_ ≤ 0 then 0 else n / by_
def sp_upw (n by_ : Int32) : Int32 := if by_ ≤ 0 then 0 else (n + by_ - 1) / by_
theorem sp_row {g : List Nat} {i : Int32} {n : Nat} (h0 : ¬ i < 0) (h1 : ¬ nI n ≤ i) (hn : n < 2 ^ 31) (hg : g.length = n) : g[i.toNatClampNeg]? = some (g.getD i.toNatClampNeg 0) := by
  have hv := sp_vin h0 h1 hn
  have hlt : i.toNatClampNeg < g.length := by
    unfold vp_in at hv
    omega
  rw [List.getD_eq_getElem?_getD, List.getElem?_eq_getElem hlt]
  rfl
theorem sp_rowm {g : List Nat} {i : Int32} {n : Nat} (h0 : ¬ i < 0) (h1 : ¬ nI n ≤ i) (hn : n < 2 ^ 31) (hg : g.length = n) : g.getD i.toNatClampNeg 0 ∈ g := List.mem_of_getElem? (sp_row h0 h1 hn hg)
theorem sp_ne0 {y : Int32} (h : ¬ y ≤ 0) : ¬ y = 0 := fun e => h (by rw [e]; decide)

set_option maxRecDepth 20000 in
set_option maxHeartbeats 2000000 in
theorem c_X8_within (d : Nat) (ad : Nat → Nat) (N : Nat) (Λ : vx_L) (μ : vx_mem) (n a b : Int32) : vx_Mf yX8_within cX8_within 3 (some (.boolean)) d ad N Λ μ [.inl n, .inl a, .inl b] (some (.inl (sp_in n a b))) μ := by
  have key : ∀ (Post : vx_P) (ini : Bool), Post (some (.inl (sp_in n a b))) ad N Λ μ → vx_J RX8 cX8_within 3 (some (.boolean)) ini d 0 0 Post ad 0 0 N Λ μ 0 [(0, .inl n), (1, .inl a), (2, .inl b)] [] := by
    intro Post ini hP
    refine vx_iload_n dX8_within_0 rfl ?_
    refine vx_iload_n dX8_within_1 rfl ?_
    refine vx_icmp_lt (tgt := 14) dX8_within_2 (by decide) (fun c_2 => ?_) (fun c_2 => ?_)
    · refine vx_iconst (v := 0) dX8_within_14 (by decide) ?_
      exact vx_ret (ty := .boolean) dX8_within_15 rfl rfl (Nat.le_refl 0) (Nat.le_refl 0) (vx_pst hP (by simp [sp_in, *]) rfl)
    · refine vx_iload_n dX8_within_5 rfl ?_
      refine vx_iload_n dX8_within_6 rfl ?_
      refine vx_icmp_gt (tgt := 14) dX8_within_7 (by decide) (fun c_7 => ?_) (fun c_7 => ?_)
      · refine vx_iconst (v := 0) dX8_within_14 (by decide) ?_
        exact vx_ret (ty := .boolean) dX8_within_15 rfl rfl (Nat.le_refl 0) (Nat.le_refl 0) (vx_pst hP (by simp [sp_in, *]) rfl)
      · refine vx_iconst (v := 1) dX8_within_10 (by decide) ?_
        refine vx_goto (tgt := 15) dX8_within_11 (by decide) ?_
        exact vx_ret (ty := .boolean) dX8_within_15 rfl rfl (Nat.le_refl 0) (Nat.le_refl 0) (vx_pst hP (by simp [sp_in, *]) rfl)
  exact vx_J.M pn_X8_within (Nat.le_of_ble_eq_true rfl) (key _ _ ⟨rfl, rfl, rfl, rfl, rfl⟩)
set_option maxRecDepth 20000 in
set_option maxHeartbeats 2000000 in
theorem c_X8_at (d : Nat) (ad : Nat → Nat) (N : Nat) (Λ : vx_L) (μ : vx_mem) (k n : Nat) (hk : k < N) (hΛ : Λ k = .inr (0, n, none)) (hn : n < 2 ^ 31) (i : Int32) : vx_Mf yX8_at cX8_at 2 (some (.int)) d ad N Λ μ [vx_r k, .inl i] (some (.inl (sp_at n (μ k) i))) μ := by
  have key : ∀ (Post : vx_P) (ini : Bool), Post (some (.inl (sp_at n (μ k) i))) ad N Λ μ → vx_J RX8 cX8_at 2 (some (.int)) ini d 0 0 Post ad 0 0 N Λ μ 0 [(0, vx_r k), (1, .inl i)] [] := by
    intro Post ini hP
    refine vx_iload_n dX8_at_0 rfl ?_
    refine vx_if_lt (tgt := 16) dX8_at_1 (by decide) (fun c_1 => ?_) (fun c_1 => ?_)
    · refine vx_iconst (v := (-1)) dX8_at_16 (by decide) ?_
      exact vx_ret (ty := .int) dX8_at_17 rfl rfl (Nat.le_refl 0) (Nat.le_refl 0) (vx_pst hP (by simp [sp_at, *]) rfl)
    · refine vx_iload_n dX8_at_4 rfl ?_
      refine vx_aload_n dX8_at_5 rfl ?_
      refine vx_alen (a := k) (t := 0) (n := n) (v := (nI n)) dX8_at_6 hk hΛ (by decide) rfl ?_
      refine vx_icmp_ge (tgt := 16) dX8_at_7 (by decide) (fun c_7 => ?_) (fun c_7 => ?_)
      · refine vx_iconst (v := (-1)) dX8_at_16 (by decide) ?_
        exact vx_ret (ty := .int) dX8_at_17 rfl rfl (Nat.le_refl 0) (Nat.le_refl 0) (vx_pst hP (by simp [sp_at, *]) rfl)
      · refine vx_aload_n dX8_at_10 rfl ?_
        refine vx_iload_n dX8_at_11 rfl ?_
        refine vx_iald (a := k) (n := n) (v := (μ k i.toNatClampNeg)) dX8_at_12 hk hΛ (sp_vin (by assumption) (by assumption) hn) rfl ?_
        refine vx_goto (tgt := 17) dX8_at_13 (by decide) ?_
        exact vx_ret (ty := .int) dX8_at_17 rfl rfl (Nat.le_refl 0) (Nat.le_refl 0) (vx_pst hP (by simp [sp_at, *]) rfl)
  exact vx_J.M pn_X8_at (Nat.le_of_ble_eq_true rfl) (key _ _ ⟨rfl, rfl, rfl, rfl, rfl⟩)
set_option maxRecDepth 20000 in
set_option maxHeartbeats 2000000 in
theorem c_X8_atX (d : Nat) (ad : Nat → Nat) (N : Nat) (Λ : vx_L) (μ : vx_mem) (j : Nat) (hj : j < 3) (i : Int32) : vx_Mf yX8_at cX8_at 2 (some (.int)) d ad N Λ μ [vx_r (1200 + j), .inl i] (some (.inl (sp_at 6 (fun q => (vx_sv j).getD q 0) i))) μ := by
  have key : ∀ (Post : vx_P) (ini : Bool), Post (some (.inl (sp_at 6 (fun q => (vx_sv j).getD q 0) i))) ad N Λ μ → vx_J RX8 cX8_at 2 (some (.int)) ini d 0 0 Post ad 0 0 N Λ μ 0 [(0, vx_r (1200 + j)), (1, .inl i)] [] := by
    intro Post ini hP
    refine vx_iload_n dX8_at_0 rfl ?_
    refine vx_if_lt (tgt := 16) dX8_at_1 (by decide) (fun c_1 => ?_) (fun c_1 => ?_)
    · refine vx_iconst (v := (-1)) dX8_at_16 (by decide) ?_
      exact vx_ret (ty := .int) dX8_at_17 rfl rfl (Nat.le_refl 0) (Nat.le_refl 0) (vx_pst hP (by simp only [sp_at]; simp [*, show nI 6 = 6 from rfl]) rfl)
    · refine vx_iload_n dX8_at_4 rfl ?_
      refine vx_aload_n dX8_at_5 rfl ?_
      refine vx_alenX (j := j) dX8_at_6 hj ?_
      refine vx_icmp_ge (tgt := 16) dX8_at_7 (by decide) (fun c_7 => ?_) (fun c_7 => ?_)
      · refine vx_iconst (v := (-1)) dX8_at_16 (by decide) ?_
        exact vx_ret (ty := .int) dX8_at_17 rfl rfl (Nat.le_refl 0) (Nat.le_refl 0) (vx_pst hP (by simp only [sp_at]; simp [*, show nI 6 = 6 from rfl]) rfl)
      · refine vx_aload_n dX8_at_10 rfl ?_
        refine vx_iload_n dX8_at_11 rfl ?_
        refine vx_ialdX (j := j) (v := ((vx_sv j).getD i.toNatClampNeg 0)) dX8_at_12 hj (sp_vin (n := 6) (by assumption) (by assumption) (by decide)) rfl ?_
        refine vx_goto (tgt := 17) dX8_at_13 (by decide) ?_
        exact vx_ret (ty := .int) dX8_at_17 rfl rfl (Nat.le_refl 0) (Nat.le_refl 0) (vx_pst hP (by simp only [sp_at]; simp [*, show nI 6 = 6 from rfl]) rfl)
  exact vx_J.M pn_X8_at (Nat.le_of_ble_eq_true rfl) (key _ _ ⟨rfl, rfl, rfl, rfl, rfl⟩)
set_option maxRecDepth 20000 in
set_option maxHeartbeats 2000000 in
theorem c_X8_put (d : Nat) (ad : Nat → Nat) (N : Nat) (Λ : vx_L) (μ : vx_mem) (k n : Nat) (hk : k < N) (hΛ : Λ k = .inr (0, n, none)) (hn : n < 2 ^ 31) (i v : Int32) : vx_Mf yX8_put cX8_put 3 none d ad N Λ μ [vx_r k, .inl i, .inl v] none (va_up μ k (sp_put n (μ k) i v)) := by
  have key : ∀ (Post : vx_P) (ini : Bool), Post none ad N Λ (va_up μ k (sp_put n (μ k) i v)) → vx_J RX8 cX8_put 3 none ini d 0 0 Post ad 0 0 N Λ μ 0 [(0, vx_r k), (1, .inl i), (2, .inl v)] [] := by
    intro Post ini hP
    refine vx_iload_n dX8_put_0 rfl ?_
    refine vx_if_lt (tgt := 14) dX8_put_1 (by decide) (fun c_1 => ?_) (fun c_1 => ?_)
    · exact vx_vret dX8_put_14 rfl (Nat.le_refl 0) (Nat.le_refl 0) (vx_pst hP rfl (by simp [sp_put, vx_up_id, *]))
    · refine vx_iload_n dX8_put_4 rfl ?_
      refine vx_aload_n dX8_put_5 rfl ?_
      refine vx_alen (a := k) (t := 0) (n := n) (v := (nI n)) dX8_put_6 hk hΛ (by decide) rfl ?_
      refine vx_icmp_ge (tgt := 14) dX8_put_7 (by decide) (fun c_7 => ?_) (fun c_7 => ?_)
      · exact vx_vret dX8_put_14 rfl (Nat.le_refl 0) (Nat.le_refl 0) (vx_pst hP rfl (by simp [sp_put, vx_up_id, *]))
      · refine vx_aload_n dX8_put_10 rfl ?_
        refine vx_iload_n dX8_put_11 rfl ?_
        refine vx_iload_n dX8_put_12 rfl ?_
        refine vx_iast (a := k) (n := n) (μ2 := (va_up μ k (upd (μ k) i.toNatClampNeg v))) dX8_put_13 hk hΛ (sp_vin (by assumption) (by assumption) hn) rfl ?_
        exact vx_vret dX8_put_14 rfl (Nat.le_refl 0) (Nat.le_refl 0) (vx_pst hP rfl (by simp [sp_put, vx_up_id, *]))
  exact vx_J.M pn_X8_put (Nat.le_of_ble_eq_true rfl) (key _ _ ⟨rfl, rfl, rfl, rfl, rfl⟩)
set_option maxRecDepth 20000 in
set_option maxHeartbeats 2000000 in
theorem c_X8_at_ (d : Nat) (ad : Nat → Nat) (N : Nat) (Λ : vx_L) (μ : vx_mem) (k n m : Nat) (g : List Nat) (hk : k < N) (hΛ : Λ k = .inr (2, n, some g)) (hn : n < 2 ^ 31) (hm : m < 2 ^ 31) (hg : g.length = n) (hrows : ∀ r ∈ g, r < N ∧ Λ r = .inr (0, m, none)) (i j : Int32) : vx_Mf yX8_at_ cX8_at_ 3 (some (.int)) d ad N Λ μ [vx_r k, .inl i, .inl j] (some (.inl (sp_at2 n m g μ i j))) μ := by
  have key : ∀ (Post : vx_P) (ini : Bool), Post (some (.inl (sp_at2 n m g μ i j))) ad N Λ μ → vx_J RX8 cX8_at_ 3 (some (.int)) ini d 0 0 Post ad 0 0 N Λ μ 0 [(0, vx_r k), (1, .inl i), (2, .inl j)] [] := by
    intro Post ini hP
    refine vx_iload_n dX8_at__0 rfl ?_
    refine vx_if_lt (tgt := 30) dX8_at__1 (by decide) (fun c_1 => ?_) (fun c_1 => ?_)
    · refine vx_iconst (v := (-1)) dX8_at__30 (by decide) ?_
      exact vx_ret (ty := .int) dX8_at__31 rfl rfl (Nat.le_refl 0) (Nat.le_refl 0) (vx_pst hP (by simp [sp_at2, sp_at, *]) rfl)
    · refine vx_iload_n dX8_at__4 rfl ?_
      refine vx_aload_n dX8_at__5 rfl ?_
      refine vx_alen (a := k) (t := 2) (n := n) (v := (nI n)) dX8_at__6 hk hΛ (by decide) rfl ?_
      refine vx_icmp_ge (tgt := 30) dX8_at__7 (by decide) (fun c_7 => ?_) (fun c_7 => ?_)
      · refine vx_iconst (v := (-1)) dX8_at__30 (by decide) ?_
        exact vx_ret (ty := .int) dX8_at__31 rfl rfl (Nat.le_refl 0) (Nat.le_refl 0) (vx_pst hP (by simp [sp_at2, sp_at, *]) rfl)
      · have hr := hrows _ (sp_rowm (by assumption) c_7 hn hg)
        refine vx_iload_n dX8_at__10 rfl ?_
        refine vx_if_lt (tgt := 30) dX8_at__11 (by decide) (fun c_11 => ?_) (fun c_11 => ?_)
        · refine vx_iconst (v := (-1)) dX8_at__30 (by decide) ?_
          exact vx_ret (ty := .int) dX8_at__31 rfl rfl (Nat.le_refl 0) (Nat.le_refl 0) (vx_pst hP (by simp [sp_at2, sp_at, *]) rfl)
        · refine vx_iload_n dX8_at__14 rfl ?_
          refine vx_aload_n dX8_at__15 rfl ?_
          refine vx_iload_n dX8_at__16 rfl ?_
          refine vx_aald (a := k) (n := n) (r := (g.getD i.toNatClampNeg 0)) dX8_at__17 hk hΛ (sp_vin (by assumption) (by assumption) hn) (sp_row (by assumption) (by assumption) hn hg) ?_
          refine vx_alen (a := (g.getD i.toNatClampNeg 0)) (t := 0) (n := m) (v := (nI m)) dX8_at__18 hr.1 hr.2 (by decide) rfl ?_
          refine vx_icmp_ge (tgt := 30) dX8_at__19 (by decide) (fun c_19 => ?_) (fun c_19 => ?_)
          · refine vx_iconst (v := (-1)) dX8_at__30 (by decide) ?_
            exact vx_ret (ty := .int) dX8_at__31 rfl rfl (Nat.le_refl 0) (Nat.le_refl 0) (vx_pst hP (by simp [sp_at2, sp_at, *]) rfl)
          · refine vx_aload_n dX8_at__22 rfl ?_
            refine vx_iload_n dX8_at__23 rfl ?_
            refine vx_aald (a := k) (n := n) (r := (g.getD i.toNatClampNeg 0)) dX8_at__24 hk hΛ (sp_vin (by assumption) (by assumption) hn) (sp_row (by assumption) (by assumption) hn hg) ?_
            refine vx_iload_n dX8_at__25 rfl ?_
            refine vx_iald (a := (g.getD i.toNatClampNeg 0)) (n := m) (v := (μ (g.getD i.toNatClampNeg 0) j.toNatClampNeg)) dX8_at__26 hr.1 hr.2 (sp_vin (by assumption) (by assumption) hm) rfl ?_
            refine vx_goto (tgt := 31) dX8_at__27 (by decide) ?_
            exact vx_ret (ty := .int) dX8_at__31 rfl rfl (Nat.le_refl 0) (Nat.le_refl 0) (vx_pst hP (by simp [sp_at2, sp_at, *]) rfl)
  exact vx_J.M pn_X8_at_ (Nat.le_of_ble_eq_true rfl) (key _ _ ⟨rfl, rfl, rfl, rfl, rfl⟩)
set_option maxRecDepth 20000 in
set_option maxHeartbeats 2000000 in
theorem c_X8_put_ (d : Nat) (ad : Nat → Nat) (N : Nat) (Λ : vx_L) (μ : vx_mem) (k n m : Nat) (g : List Nat) (hk : k < N) (hΛ : Λ k = .inr (2, n, some g)) (hn : n < 2 ^ 31) (hm : m < 2 ^ 31) (hg : g.length = n) (hrows : ∀ r ∈ g, r < N ∧ Λ r = .inr (0, m, none)) (i j v : Int32) : vx_Mf yX8_put_ cX8_put_ 4 none d ad N Λ μ [vx_r k, .inl i, .inl j, .inl v] none (sp_put2 n m g μ i j v) := by
  have key : ∀ (Post : vx_P) (ini : Bool), Post none ad N Λ (sp_put2 n m g μ i j v) → vx_J RX8 cX8_put_ 4 none ini d 0 0 Post ad 0 0 N Λ μ 0 [(0, vx_r k), (1, .inl i), (2, .inl j), (3, .inl v)] [] := by
    intro Post ini hP
    refine vx_iload_n dX8_put__0 rfl ?_
    refine vx_if_lt (tgt := 28) dX8_put__1 (by decide) (fun c_1 => ?_) (fun c_1 => ?_)
    · exact vx_vret dX8_put__28 rfl (Nat.le_refl 0) (Nat.le_refl 0) (vx_pst hP rfl (by simp [sp_put2, sp_put, vx_up_id, *]))
    · refine vx_iload_n dX8_put__4 rfl ?_
      refine vx_aload_n dX8_put__5 rfl ?_
      refine vx_alen (a := k) (t := 2) (n := n) (v := (nI n)) dX8_put__6 hk hΛ (by decide) rfl ?_
      refine vx_icmp_ge (tgt := 28) dX8_put__7 (by decide) (fun c_7 => ?_) (fun c_7 => ?_)
      · exact vx_vret dX8_put__28 rfl (Nat.le_refl 0) (Nat.le_refl 0) (vx_pst hP rfl (by simp [sp_put2, sp_put, vx_up_id, *]))
      · have hr := hrows _ (sp_rowm (by assumption) c_7 hn hg)
        refine vx_iload_n dX8_put__10 rfl ?_
        refine vx_if_lt (tgt := 28) dX8_put__11 (by decide) (fun c_11 => ?_) (fun c_11 => ?_)
        · exact vx_vret dX8_put__28 rfl (Nat.le_refl 0) (Nat.le_refl 0) (vx_pst hP rfl (by simp [sp_put2, sp_put, vx_up_id, *]))
        · refine vx_iload_n dX8_put__14 rfl ?_
          refine vx_aload_n dX8_put__15 rfl ?_
          refine vx_iload_n dX8_put__16 rfl ?_
          refine vx_aald (a := k) (n := n) (r := (g.getD i.toNatClampNeg 0)) dX8_put__17 hk hΛ (sp_vin (by assumption) (by assumption) hn) (sp_row (by assumption) (by assumption) hn hg) ?_
          refine vx_alen (a := (g.getD i.toNatClampNeg 0)) (t := 0) (n := m) (v := (nI m)) dX8_put__18 hr.1 hr.2 (by decide) rfl ?_
          refine vx_icmp_ge (tgt := 28) dX8_put__19 (by decide) (fun c_19 => ?_) (fun c_19 => ?_)
          · exact vx_vret dX8_put__28 rfl (Nat.le_refl 0) (Nat.le_refl 0) (vx_pst hP rfl (by simp [sp_put2, sp_put, vx_up_id, *]))
          · refine vx_aload_n dX8_put__22 rfl ?_
            refine vx_iload_n dX8_put__23 rfl ?_
            refine vx_aald (a := k) (n := n) (r := (g.getD i.toNatClampNeg 0)) dX8_put__24 hk hΛ (sp_vin (by assumption) (by assumption) hn) (sp_row (by assumption) (by assumption) hn hg) ?_
            refine vx_iload_n dX8_put__25 rfl ?_
            refine vx_iload_n dX8_put__26 rfl ?_
            refine vx_iast (a := (g.getD i.toNatClampNeg 0)) (n := m) (μ2 := (va_up μ (g.getD i.toNatClampNeg 0) (upd (μ (g.getD i.toNatClampNeg 0)) j.toNatClampNeg v))) dX8_put__27 hr.1 hr.2 (sp_vin (by assumption) (by assumption) hm) rfl ?_
            exact vx_vret dX8_put__28 rfl (Nat.le_refl 0) (Nat.le_refl 0) (vx_pst hP rfl (by simp [sp_put2, sp_put, vx_up_id, *]))
  exact vx_J.M pn_X8_put_ (Nat.le_of_ble_eq_true rfl) (key _ _ ⟨rfl, rfl, rfl, rfl, rfl⟩)
set_option maxRecDepth 20000 in
set_option maxHeartbeats 2000000 in
theorem c_X8_cut (d : Nat) (ad : Nat → Nat) (N : Nat) (Λ : vx_L) (μ : vx_mem) (n y : Int32) : vx_Mf yX8_cut cX8_cut 2 (some (.int)) d ad N Λ μ [.inl n, .inl y] (some (.inl (sp_cut n y))) μ := by
  have key : ∀ (Post : vx_P) (ini : Bool), Post (some (.inl (sp_cut n y))) ad N Λ μ → vx_J RX8 cX8_cut 2 (some (.int)) ini d 0 0 Post ad 0 0 N Λ μ 0 [(0, .inl n), (1, .inl y)] [] := by
    intro Post ini hP
    refine vx_iload_n dX8_cut_0 rfl ?_
    refine vx_if_le (tgt := 10) dX8_cut_1 (by decide) (fun c_1 => ?_) (fun c_1 => ?_)
    · refine vx_iconst (v := 0) dX8_cut_10 (by decide) ?_
      exact vx_ret (ty := .int) dX8_cut_11 rfl rfl (Nat.le_refl 0) (Nat.le_refl 0) (vx_pst hP (by simp [sp_cut, *]) rfl)
    · refine vx_iload_n dX8_cut_4 rfl ?_
      refine vx_iload_n dX8_cut_5 rfl ?_
      refine vx_idiv dX8_cut_6 (sp_ne0 (by assumption)) ?_
      refine vx_goto (tgt := 11) dX8_cut_7 (by decide) ?_
      exact vx_ret (ty := .int) dX8_cut_11 rfl rfl (Nat.le_refl 0) (Nat.le_refl 0) (vx_pst hP (by simp [sp_cut, *]) rfl)
  exact vx_J.M pn_X8_cut (Nat.le_of_ble_eq_true rfl) (key _ _ ⟨rfl, rfl, rfl, rfl, rfl⟩)
set_option maxRecDepth 20000 in
set_option maxHeartbeats 2000000 in
theorem c_X8_upwards (d : Nat) (ad : Nat → Nat) (N : Nat) (Λ : vx_L) (μ : vx_mem) (n y : Int32) : vx_Mf yX8_upwards cX8_upwards 2 (some (.int)) d ad N Λ μ [.inl n, .inl y] (some (.inl (sp_upw n y))) μ := by
  have key : ∀ (Post : vx_P) (ini : Bool), Post (some (.inl (sp_upw n y))) ad N Λ μ → vx_J RX8 cX8_upwards 2 (some (.int)) ini d 0 0 Post ad 0 0 N Λ μ 0 [(0, .inl n), (1, .inl y)] [] := by
    intro Post ini hP
    refine vx_iload_n dX8_upwards_0 rfl ?_
    refine vx_if_le (tgt := 14) dX8_upwards_1 (by decide) (fun c_1 => ?_) (fun c_1 => ?_)
    · refine vx_iconst (v := 0) dX8_upwards_14 (by decide) ?_
      exact vx_ret (ty := .int) dX8_upwards_15 rfl rfl (Nat.le_refl 0) (Nat.le_refl 0) (vx_pst hP (by simp [sp_upw, *]) rfl)
    · refine vx_iload_n dX8_upwards_4 rfl ?_
      refine vx_iload_n dX8_upwards_5 rfl ?_
      refine vx_iadd dX8_upwards_6 ?_
      refine vx_iconst (v := 1) dX8_upwards_7 (by decide) ?_
      refine vx_isub dX8_upwards_8 ?_
      refine vx_iload_n dX8_upwards_9 rfl ?_
      refine vx_idiv dX8_upwards_10 (sp_ne0 (by assumption)) ?_
      refine vx_goto (tgt := 15) dX8_upwards_11 (by decide) ?_
      exact vx_ret (ty := .int) dX8_upwards_15 rfl rfl (Nat.le_refl 0) (Nat.le_refl 0) (vx_pst hP (by simp [sp_upw, *]) rfl)
  exact vx_J.M pn_X8_upwards (Nat.le_of_ble_eq_true rfl) (key _ _ ⟨rfl, rfl, rfl, rfl, rfl⟩)
end
