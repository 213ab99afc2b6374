section
variable {own : String} {cc : ByteArray} {nL : Nat} {ret : Option FieldType} {ini : Bool} {d mc ms : Nat} {Post : vx_P} {ad : Nat → Nat} {kc ks N : Nat} {Λ : vx_L} {μ : vx_mem} {pc : Nat} {ls ls2 : List (Nat × vx_v)} {st : List vx_v}
def vx_all (ls : List (Nat × vx_v)) : List (Nat × vx_v) → Prop
  | [] => True
  | q :: r => vx_lk ls q.1 = some q.2 ∧ vx_all ls r
theorem vx_all_at : ∀ {l2 : List (Nat × vx_v)}, vx_all ls l2 → ∀ (i : Nat) (v : vx_v), (i, v) ∈ l2 → vx_lk ls i = some v
  | [], _, i, v, h => by cases h
  | q :: r, h, i, v, hm => by
    rcases List.mem_cons.mp hm with rfl | h2
    · exact h.1
    · exact vx_all_at h.2 i v h2
theorem vx_keep (h : vx_all ls ls2) (k : vx_J own cc nL ret ini d mc ms Post ad kc ks N Λ μ pc ls2 st) : vx_J own cc nL ret ini d mc ms Post ad kc ks N Λ μ pc ls st := vx_locs (vx_all_at h) k
end
section
theorem rows_19 : ∀ r ∈ [20, 21, 22, 23, 24, 25, 26, 27], r < 82 ∧ vx_lay r = .inr (0, 8, none) := by decide
theorem rows_29 : ∀ r ∈ [30, 31, 32, 33, 34, 35, 36, 37], r < 82 ∧ vx_lay r = .inr (0, 8, none) := by decide
def sp_set (μ : vx_mem) (b0 a b : Nat) (v : Int32) : vx_mem := va_up μ (b0 + a) (upd (μ (b0 + a)) b v)
theorem sp_g20 : ∀ a, a < 8 → [20, 21, 22, 23, 24, 25, 26, 27].getD a 0 = 20 + a := by decide
theorem sp_g30 : ∀ a, a < 8 → [30, 31, 32, 33, 34, 35, 36, 37].getD a 0 = 30 + a := by decide

theorem sp_at2_20 (μ : vx_mem) {a b : Nat} (ha : a < 8) (hb : b < 8) : sp_at2 8 8 [20, 21, 22, 23, 24, 25, 26, 27] μ (nI a) (nI b) = μ (20 + a) b := by
  unfold sp_at2
  rw [if_neg (nI_pos (by omega)), if_neg (nI_ge ha (by decide)), nI_clamp (by omega), sp_g20 a ha, sp_at_nI _ hb (by decide)]
theorem sp_put2_20 (μ : vx_mem) {a b : Nat} (v : Int32) (ha : a < 8) (hb : b < 8) : sp_put2 8 8 [20, 21, 22, 23, 24, 25, 26, 27] μ (nI a) (nI b) v = sp_set μ 20 a b v := by
  unfold sp_put2 sp_set
  rw [if_neg (nI_pos (by omega)), if_neg (nI_ge ha (by decide)), nI_clamp (by omega), sp_g20 a ha, sp_put_nI _ _ hb (by decide)]
theorem sp_at2_30 (μ : vx_mem) {a b : Nat} (ha : a < 8) (hb : b < 8) : sp_at2 8 8 [30, 31, 32, 33, 34, 35, 36, 37] μ (nI a) (nI b) = μ (30 + a) b := by
  unfold sp_at2
  rw [if_neg (nI_pos (by omega)), if_neg (nI_ge ha (by decide)), nI_clamp (by omega), sp_g30 a ha, sp_at_nI _ hb (by decide)]
theorem sp_put2_30 (μ : vx_mem) {a b : Nat} (v : Int32) (ha : a < 8) (hb : b < 8) : sp_put2 8 8 [30, 31, 32, 33, 34, 35, 36, 37] μ (nI a) (nI b) v = sp_set μ 30 a b v := by
  unfold sp_put2 sp_set
  rw [if_neg (nI_pos (by omega)), if_neg (nI_ge ha (by decide)), nI_clamp (by omega), sp_g30 a ha, sp_put_nI _ _ hb (by decide)]
set_option maxRecDepth 20000 in
set_option maxHeartbeats 2000000 in
theorem c_X3_has (d : Nat) (ad : Nat → Nat) (μ : vx_mem) (f : Int32) : vx_Mf yX3_has cX3_has 2 (some (.boolean)) d ad 82 vx_lay μ [vx_r 6, .inl f] (some (.inl (sp_in f 1 (μ 6 0)))) μ := by
  have key : ∀ (Post : vx_P) (ini : Bool), Post (some (.inl (sp_in f 1 (μ 6 0)))) ad 82 vx_lay μ → vx_J RX3 cX3_has 2 (some (.boolean)) ini d 0 0 Post ad 0 0 82 vx_lay μ 0 [(0, vx_r 6), (1, .inl f)] [] := by
    intro Post ini hP
    refine vx_iload_n dX3_has_0 rfl ?_
    refine vx_iconst (v := 1) dX3_has_1 (by decide) ?_
    refine vx_icmp_lt (tgt := 17) dX3_has_2 (by decide) (fun c_2 => ?_) (fun c_2 => ?_)
    · refine vx_iconst (v := 0) dX3_has_17 (by decide) ?_
      exact vx_ret (ty := .boolean) dX3_has_18 rfl rfl (Nat.le_refl 0) (Nat.le_refl 0) (vx_pst hP (by simp [sp_in, *]) rfl)
    · refine vx_iload_n dX3_has_5 rfl ?_
      refine vx_aload_n dX3_has_6 rfl ?_
      refine vx_getI (ci := 3) (T := TX3) (n := 12) (j := 0) (a := 6) (v := (μ 6 0)) dX3_has_7 rfl lay_X3 (by decide) wd_133 (by decide) ly_6 rfl rfl ?_
      refine vx_icmp_gt (tgt := 17) dX3_has_10 (by decide) (fun c_10 => ?_) (fun c_10 => ?_)
      · refine vx_iconst (v := 0) dX3_has_17 (by decide) ?_
        exact vx_ret (ty := .boolean) dX3_has_18 rfl rfl (Nat.le_refl 0) (Nat.le_refl 0) (vx_pst hP (by simp [sp_in, *]) rfl)
      · refine vx_iconst (v := 1) dX3_has_13 (by decide) ?_
        refine vx_goto (tgt := 18) dX3_has_14 (by decide) ?_
        exact vx_ret (ty := .boolean) dX3_has_18 rfl rfl (Nat.le_refl 0) (Nat.le_refl 0) (vx_pst hP (by simp [sp_in, *]) rfl)
  exact vx_J.M pn_X3_has (Nat.le_of_ble_eq_true rfl) (key _ _ ⟨rfl, rfl, rfl, rfl, rfl⟩)
theorem sp_in_yes {k n : Nat} (h1 : 1 ≤ k) (h2 : k ≤ n) (hn : n ≤ 7) : sp_in (nI k) 1 (nI n) = 1 := by
  unfold sp_in
  rw [if_neg (show ¬ nI k < (1 : Int32) from by show ¬ nI k < nI 1; rw [nI_ltI (by omega) (by omega)]; omega), if_neg (by rw [nI_ltI (by omega) (by omega)]; omega)]
def sp_pos (x : Int32) : Int32 := if x ≤ 0 then 0 else 1
theorem sp_pos0 {x : Int32} : sp_pos x = 0 ↔ x ≤ 0 := by
  unfold sp_pos
  by_cases h : x ≤ 0 <;> simp [h]
set_option maxRecDepth 20000 in
set_option maxHeartbeats 2000000 in
theorem c_X3_isOpen (d : Nat) (hd : 1 ≤ d) (ad : Nat → Nat) (μ : vx_mem) (n : Nat) (hc : μ 6 0 = nI n) (hn : n ≤ 7) (k : Nat) (h1 : 1 ≤ k) (h2 : k ≤ n) : vx_Mf yX3_isOpen cX3_isOpen 2 (some (.boolean)) d ad 82 vx_lay μ [vx_r 6, .inl (nI k)] (some (.inl (sp_pos (μ 8 k)))) μ := by
  have key : ∀ (Post : vx_P) (ini : Bool), Post (some (.inl (sp_pos (μ 8 k)))) ad 82 vx_lay μ → vx_J RX3 cX3_isOpen 2 (some (.boolean)) ini d 0 0 Post ad 0 0 82 vx_lay μ 0 [(0, vx_r 6), (1, .inl (nI k))] [] := by
    intro Post ini hP
    refine vx_aload_n dX3_isOpen_0 rfl ?_
    refine vx_iload_n dX3_isOpen_1 rfl ?_
    refine vx_callV (b := 6) (vs := [.inl (nI k)]) (st := []) (r0 := (some (.inl 1))) (μ0 := μ) dX3_isOpen_2 ((c_X3_has (d - 1) ad μ (nI k)).to (congrArg (fun z => some (Sum.inl z)) (show sp_in (nI k) 1 (μ 6 0) = 1 by rw [hc]; exact sp_in_yes (by omega) (by omega) hn)) rfl) wd_548 wd_525 wd_48 hy_X3_has wd_523 wd_524 (by decide) ly_6 rfl rfl (by omega) (Nat.le_of_ble_eq_true rfl) (Nat.le_of_ble_eq_true rfl) (Nat.le_refl 0) (Nat.le_refl 0) ?_
    refine vx_eq (μ2 := μ) (ls2 := [(0, vx_r 6), (1, .inl (nI k))]) (st2 := [.inl 1]) rfl rfl rfl ?_
    refine vx_if_eq (tgt := 23) dX3_isOpen_5 (by decide) (fun h => absurd h (by decide)) (fun _ => ?_)
    refine vx_aload_n dX3_isOpen_8 rfl ?_
    refine vx_getR (ci := 3) (T := TX3) (n := 12) (j := 2) (a := 6) (r := 8) dX3_isOpen_9 rfl lay_X3 (by decide) wd_138 (by decide) ly_6 rfl ?_
    refine vx_iload_n dX3_isOpen_12 rfl ?_
    refine vx_callX (vs := [vx_r 8, .inl (nI k)]) (st := []) (r0 := (some (.inl (μ 8 k)))) (μ0 := μ) dX3_isOpen_13 ((c_X8_at (d - 1) ad 82 vx_lay μ 8 8 (by decide) ly_8 (by decide) (nI k)).to (by first | rfl | (exact congrArg (fun z => some (Sum.inl z)) (sp_at_nI (k := k) _ (by omega) (by decide)))) rfl) nst_8 wd_109 wd_45 hy_X8_at wd_108 (by omega) (Nat.le_of_ble_eq_true rfl) (Nat.le_of_ble_eq_true rfl) (Nat.le_refl 0) (Nat.le_refl 0) ?_
    refine vx_eq (μ2 := μ) (ls2 := [(0, vx_r 6), (1, .inl (nI k))]) (st2 := [.inl (μ 8 k)]) rfl rfl rfl ?_
    refine vx_if_le (tgt := 23) dX3_isOpen_16 (by decide) (fun c_16 => ?_) (fun c_16 => ?_)
    · refine vx_iconst (v := 0) dX3_isOpen_23 (by decide) ?_
      exact vx_ret (ty := .boolean) dX3_isOpen_24 rfl rfl (Nat.le_refl 0) (Nat.le_refl 0) (vx_pst hP (by simp [sp_pos, *]) rfl)
    · refine vx_iconst (v := 1) dX3_isOpen_19 (by decide) ?_
      refine vx_goto (tgt := 24) dX3_isOpen_20 (by decide) ?_
      exact vx_ret (ty := .boolean) dX3_isOpen_24 rfl rfl (Nat.le_refl 0) (Nat.le_refl 0) (vx_pst hP (by simp [sp_pos, *]) rfl)
  exact vx_J.M pn_X3_isOpen (Nat.le_of_ble_eq_true rfl) (key _ _ ⟨rfl, rfl, rfl, rfl, rfl⟩)
/-- how many of the first k stacks are left -/
def sp_opn (f : Nat → Int32) : Nat → Nat
  | 0 => 0
  | k + 1 => sp_opn f k + if f (k + 1) ≤ 0 then 0 else 1
theorem sp_opn_le (f : Nat → Int32) : ∀ k, sp_opn f k ≤ k
  | 0 => Nat.le_refl 0
  | k + 1 => by
    have := sp_opn_le f k
    unfold sp_opn
    split <;> omega
theorem sp_opn_s {f : Nat → Int32} {i : Nat} (hi : 1 ≤ i) : sp_opn f (i + 1 - 1) = sp_opn f (i - 1) + if f i ≤ 0 then 0 else 1 := by
  obtain ⟨j, rfl⟩ : ∃ j, i = j + 1 := ⟨i - 1, by omega⟩
  rfl
set_option maxRecDepth 20000 in
set_option maxHeartbeats 2000000 in
theorem c_X3_openOnes (d : Nat) (hd : 2 ≤ d) (ad : Nat → Nat) (μ : vx_mem) (n : Nat) (hc : μ 6 0 = nI n) (hn : n ≤ 7) : vx_Mf yX3_openOnes cX3_openOnes 3 (some (.int)) d ad 82 vx_lay μ [vx_r 6] (some (.inl (nI (sp_opn (μ 8) n)))) μ := by
  have key : ∀ (Post : vx_P) (ini : Bool), Post (some (.inl (nI (sp_opn (μ 8) n)))) ad 82 vx_lay μ → vx_J RX3 cX3_openOnes 3 (some (.int)) ini d 0 0 Post ad 0 0 82 vx_lay μ 0 [(0, vx_r 6)] [] := by
    intro Post ini hP
    have loop : ∀ (r i : Nat) (x : Int32), i + r = n + 1 → 1 ≤ i → x = nI (sp_opn (μ 8) (i - 1)) → vx_J RX3 cX3_openOnes 3 (some (.int)) ini d 0 0 Post ad 0 0 82 vx_lay μ 4 [(2, .inl (nI i)), (1, .inl x), (0, vx_r 6)] [] := by
      intro r
      induction r with
      | zero =>
        intro i x hi h1 hx
        refine vx_iload_n dX3_openOnes_4 rfl ?_
        refine vx_aload_n dX3_openOnes_5 rfl ?_
        refine vx_getI (ci := 3) (T := TX3) (n := 12) (j := 0) (a := 6) (v := (nI n)) dX3_openOnes_6 rfl lay_X3 (by decide) wd_133 (by decide) ly_6 rfl hc ?_
        refine vx_icmp_gt (tgt := 29) dX3_openOnes_9 (by decide) (fun _ => ?_) (fun h => absurd (by show (nI (n) < nI (i)); rw [nI_ltI (by omega) (by omega)]; omega) h)
        refine vx_iload_n dX3_openOnes_29 rfl ?_
        exact vx_ret (ty := .int) dX3_openOnes_30 rfl rfl (Nat.le_refl 0) (Nat.le_refl 0) (vx_pst hP (by rw [hx, show i - 1 = n by omega]) rfl)
      | succ r ih =>
        intro i x hi h1 hx
        refine vx_iload_n dX3_openOnes_4 rfl ?_
        refine vx_aload_n dX3_openOnes_5 rfl ?_
        refine vx_getI (ci := 3) (T := TX3) (n := 12) (j := 0) (a := 6) (v := (nI n)) dX3_openOnes_6 rfl lay_X3 (by decide) wd_133 (by decide) ly_6 rfl hc ?_
        refine vx_icmp_gt (tgt := 29) dX3_openOnes_9 (by decide) (fun h => absurd h (by show ¬ (nI (n) < nI (i)); rw [nI_ltI (by omega) (by omega)]; omega)) (fun _ => ?_)
        refine vx_aload_n dX3_openOnes_12 rfl ?_
        refine vx_iload_n dX3_openOnes_13 rfl ?_
        refine vx_callV (b := 6) (vs := [.inl (nI i)]) (st := []) (r0 := (some (.inl (sp_pos (μ 8 i))))) (μ0 := μ) dX3_openOnes_14 (c_X3_isOpen (d - 1) (by omega) ad μ n hc hn i (by omega) (by omega)) wd_725 wd_547 wd_48 hy_X3_isOpen wd_545 wd_546 (by decide) ly_6 rfl rfl (by omega) (Nat.le_of_ble_eq_true rfl) (Nat.le_of_ble_eq_true rfl) (Nat.le_refl 0) (Nat.le_refl 0) ?_
        refine vx_eq (μ2 := μ) (ls2 := [(2, .inl (nI i)), (1, .inl x), (0, vx_r 6)]) (st2 := [.inl (sp_pos (μ 8 i))]) rfl rfl rfl ?_
        refine vx_if_eq (tgt := 23) dX3_openOnes_17 (by decide) (fun c_17 => ?_) (fun c_17 => ?_)
        · refine vx_iinc (v := (nI (i + 1))) (ls2 := [(2, .inl (nI (i + 1))), (1, .inl x), (0, vx_r 6)]) dX3_openOnes_23 rfl (nI_1 _) (by decide) rfl ?_
          refine vx_goto (tgt := 4) dX3_openOnes_26 (by decide) ?_
          refine vx_keep (ls2 := [(2, .inl (nI (i + 1))), (1, .inl x), (0, vx_r 6)]) ⟨rfl, rfl, rfl, trivial⟩ ?_
          exact ih (i + 1) _ (by omega) (by omega) (by rw [sp_opn_s h1, hx]; rw [if_pos (sp_pos0.mp c_17)]; rfl)
        · refine vx_iinc (v := (x + 1)) (ls2 := [(1, .inl (x + 1)), (2, .inl (nI i)), (0, vx_r 6)]) dX3_openOnes_20 rfl rfl (by decide) rfl ?_
          refine vx_iinc (v := (nI (i + 1))) (ls2 := [(2, .inl (nI (i + 1))), (1, .inl (x + 1)), (0, vx_r 6)]) dX3_openOnes_23 rfl (nI_1 _) (by decide) rfl ?_
          refine vx_goto (tgt := 4) dX3_openOnes_26 (by decide) ?_
          refine vx_keep (ls2 := [(2, .inl (nI (i + 1))), (1, .inl (x + 1)), (0, vx_r 6)]) ⟨rfl, rfl, rfl, trivial⟩ ?_
          exact ih (i + 1) _ (by omega) (by omega) (by rw [sp_opn_s h1, hx]; rw [if_neg (fun h => c_17 (sp_pos0.mpr h))]; exact nI_1 _)
    refine vx_iconst (v := 0) dX3_openOnes_0 (by decide) ?_
    refine vx_istore_n (ls2 := [(1, .inl 0), (0, vx_r 6)]) dX3_openOnes_1 (by decide) rfl ?_
    refine vx_iconst (v := 1) dX3_openOnes_2 (by decide) ?_
    refine vx_istore_n (ls2 := [(2, .inl 1), (1, .inl 0), (0, vx_r 6)]) dX3_openOnes_3 (by decide) rfl ?_
    exact loop n 1 0 (by omega) (by omega) rfl
  exact vx_J.M pn_X3_openOnes (Nat.le_of_ble_eq_true rfl) (key _ _ ⟨rfl, rfl, rfl, rfl, rfl⟩)
set_option maxRecDepth 20000 in
set_option maxHeartbeats 2000000 in
theorem c_X3_add (d : Nat) (hd : 1 ≤ d) (ad : Nat → Nat) (μ : vx_mem) (n : Nat) (hc : μ 6 0 = nI n) (hn : n < 7)  : vx_Mf yX3_add cX3_add 1 (some (.int)) d ad 82 vx_lay μ [vx_r 6] (some (.inl (nI (n + 1)))) (va_up (va_up μ 6 (upd (μ 6) 0 (nI (n + 1)))) 15 (upd (μ 15) (n + 1) (-1))) := by
  have key : ∀ (Post : vx_P) (ini : Bool), Post (some (.inl (nI (n + 1)))) ad 82 vx_lay (va_up (va_up μ 6 (upd (μ 6) 0 (nI (n + 1)))) 15 (upd (μ 15) (n + 1) (-1))) → vx_J RX3 cX3_add 1 (some (.int)) ini d 0 0 Post ad 0 0 82 vx_lay μ 0 [(0, vx_r 6)] [] := by
    intro Post ini hP
    refine vx_aload_n dX3_add_0 rfl ?_
    refine vx_dup dX3_add_1 ?_
    refine vx_getI (ci := 3) (T := TX3) (n := 12) (j := 0) (a := 6) (v := (nI n)) dX3_add_2 rfl lay_X3 (by decide) wd_133 (by decide) ly_6 rfl hc ?_
    refine vx_iconst (v := 1) dX3_add_5 (by decide) ?_
    refine vx_iadd dX3_add_6 ?_
    refine vx_eq (st2 := [.inl (nI (n + 1)), vx_r 6]) rfl rfl (by rw [nI_1]) ?_
    refine vx_putI (ci := 3) (T := TX3) (n := 12) (j := 0) (a := 6) (ty := .int) (μ2 := (va_up μ 6 (upd (μ 6) 0 (nI (n + 1))))) dX3_add_7 rfl lay_X3 tyX3_ok nmX3 (by decide) wd_133 rfl rfl rfl rfl (by decide) ly_6 rfl rfl ?_
    refine vx_aload_n dX3_add_10 rfl ?_
    refine vx_getR (ci := 3) (T := TX3) (n := 12) (j := 9) (a := 6) (r := 15) dX3_add_11 rfl lay_X3 (by decide) wd_154 (by decide) ly_6 rfl ?_
    refine vx_aload_n dX3_add_14 rfl ?_
    refine vx_getI (ci := 3) (T := TX3) (n := 12) (j := 0) (a := 6) (v := (nI (n + 1))) dX3_add_15 rfl lay_X3 (by decide) wd_133 (by decide) ly_6 rfl rfl ?_
    refine vx_iconst (v := (-1)) dX3_add_18 (by decide) ?_
    refine vx_callX (vs := [vx_r 15, .inl (nI (n + 1)), .inl (-1)]) (st := []) (r0 := none) (μ0 := (va_up (va_up μ 6 (upd (μ 6) 0 (nI (n + 1)))) 15 (upd (μ 15) (n + 1) (-1)))) dX3_add_19 ((c_X8_put (d - 1) ad 82 vx_lay (va_up μ 6 (upd (μ 6) 0 (nI (n + 1)))) 15 8 (by decide) ly_15 (by decide) (nI (n + 1)) (-1)).to rfl (congrArg (fun z => va_up (va_up μ 6 (upd (μ 6) 0 (nI (n + 1)))) 15 z) (sp_put_nI (k := (n + 1)) _ _ (by omega) (by decide)))) nst_7 wd_102 wd_45 hy_X8_put wd_101 (by omega) (Nat.le_of_ble_eq_true rfl) (Nat.le_of_ble_eq_true rfl) (Nat.le_refl 0) (Nat.le_refl 0) ?_
    refine vx_eq (μ2 := (va_up (va_up μ 6 (upd (μ 6) 0 (nI (n + 1)))) 15 (upd (μ 15) (n + 1) (-1)))) (ls2 := [(0, vx_r 6)]) (st2 := []) rfl rfl rfl ?_
    refine vx_aload_n dX3_add_22 rfl ?_
    refine vx_getI (ci := 3) (T := TX3) (n := 12) (j := 0) (a := 6) (v := (nI (n + 1))) dX3_add_23 rfl lay_X3 (by decide) wd_133 (by decide) ly_6 rfl rfl ?_
    exact vx_ret (ty := .int) dX3_add_26 rfl rfl (Nat.le_refl 0) (Nat.le_refl 0) (vx_pst hP rfl rfl)
  exact vx_J.M pn_X3_add (Nat.le_of_ble_eq_true rfl) (key _ _ ⟨rfl, rfl, rfl, rfl, rfl⟩)
set_option maxRecDepth 20000 in
set_option maxHeartbeats 2000000 in
theorem c_X0_tells (d : Nat) (hd : 1 ≤ d) (ad : Nat → Nat) (μ : vx_mem) (k : Int32) : vx_Mf yX0_tells cX0_tells 2 (some (.int)) d ad 82 vx_lay μ [vx_r 3, .inl k] (some (.inl (sp_at 6 (μ 4) k))) μ := by
  have key : ∀ (Post : vx_P) (ini : Bool), Post (some (.inl (sp_at 6 (μ 4) k))) ad 82 vx_lay μ → vx_J RX0 cX0_tells 2 (some (.int)) ini d 0 0 Post ad 0 0 82 vx_lay μ 0 [(0, vx_r 3), (1, .inl k)] [] := by
    intro Post ini hP
    refine vx_aload_n dX0_tells_0 rfl ?_
    refine vx_getR (ci := 0) (T := TX0) (n := 4) (j := 0) (a := 3) (r := 4) dX0_tells_1 rfl lay_X0 (by decide) wd_112 (by decide) ly_3 rfl ?_
    refine vx_iload_n dX0_tells_4 rfl ?_
    refine vx_callX (vs := [vx_r 4, .inl k]) (st := []) (r0 := (some (.inl (sp_at 6 (μ 4) k)))) (μ0 := μ) dX0_tells_5 (c_X8_at (d - 1) ad 82 vx_lay μ 4 6 (by decide) ly_4 (by decide) k) nst_1 wd_109 wd_45 hy_X8_at wd_108 (by omega) (Nat.le_of_ble_eq_true rfl) (Nat.le_of_ble_eq_true rfl) (Nat.le_refl 0) (Nat.le_refl 0) ?_
    refine vx_eq (μ2 := μ) (ls2 := [(0, vx_r 3), (1, .inl k)]) (st2 := [.inl (sp_at 6 (μ 4) k)]) rfl rfl rfl ?_
    exact vx_ret (ty := .int) dX0_tells_8 rfl rfl (Nat.le_refl 0) (Nat.le_refl 0) (vx_pst hP rfl rfl)
  exact vx_J.M pn_X0_tells (Nat.le_of_ble_eq_true rfl) (key _ _ ⟨rfl, rfl, rfl, rfl, rfl⟩)
def sp_btw (μ : vx_mem) (a b : Nat) : Int32 := if a = b then 0 else μ (20 + a) b
set_option maxRecDepth 20000 in
set_option maxHeartbeats 2000000 in
theorem c_X5_between (d : Nat) (hd : 1 ≤ d) (ad : Nat → Nat) (μ : vx_mem) (a b : Nat) (ha : a < 8) (hb : b < 8) : vx_Mf yX5_between cX5_between 3 (some (.int)) d ad 82 vx_lay μ [vx_r 18, .inl (nI a), .inl (nI b)] (some (.inl (sp_btw μ a b))) μ := by
  have key : ∀ (Post : vx_P) (ini : Bool), Post (some (.inl (sp_btw μ a b))) ad 82 vx_lay μ → vx_J RX5 cX5_between 3 (some (.int)) ini d 0 0 Post ad 0 0 82 vx_lay μ 0 [(0, vx_r 18), (1, .inl (nI a)), (2, .inl (nI b))] [] := by
    intro Post ini hP
    refine vx_iload_n dX5_between_0 rfl ?_
    refine vx_iload_n dX5_between_1 rfl ?_
    refine vx_icmp_ne (tgt := 9) dX5_between_2 (by decide) (fun c_2 => ?_) (fun c_2 => ?_)
    · refine vx_aload_n dX5_between_9 rfl ?_
      refine vx_getR (ci := 5) (T := TX5) (n := 1) (j := 0) (a := 18) (r := 19) dX5_between_10 rfl lay_X5 (by decide) wd_196 (by decide) ly_18 rfl ?_
      refine vx_iload_n dX5_between_13 rfl ?_
      refine vx_iload_n dX5_between_14 rfl ?_
      refine vx_callX (vs := [vx_r 19, .inl (nI a), .inl (nI b)]) (st := []) (r0 := (some (.inl (μ (20 + a) b)))) (μ0 := μ) dX5_between_15 ((c_X8_at_ (d - 1) ad 82 vx_lay μ 19 8 8 [20, 21, 22, 23, 24, 25, 26, 27] (by decide) ly_19 (by decide) (by decide) rfl rows_19 (nI a) (nI b)).to (congrArg (fun z => some (Sum.inl z)) (sp_at2_20 _ (a := a) (b := b) (by omega) (by omega))) rfl) nst_14 wd_568 wd_45 hy_X8_at_ wd_567 (by omega) (Nat.le_of_ble_eq_true rfl) (Nat.le_of_ble_eq_true rfl) (Nat.le_refl 0) (Nat.le_refl 0) ?_
      refine vx_eq (μ2 := μ) (ls2 := [(0, vx_r 18), (1, .inl (nI a)), (2, .inl (nI b))]) (st2 := [.inl (μ (20 + a) b)]) rfl rfl rfl ?_
      exact vx_ret (ty := .int) dX5_between_18 rfl rfl (Nat.le_refl 0) (Nat.le_refl 0) (vx_pst hP (by unfold sp_btw; rw [nI_eq (by omega) (by omega)] at c_2; simp [c_2]) rfl)
    · refine vx_iconst (v := 0) dX5_between_5 (by decide) ?_
      refine vx_goto (tgt := 18) dX5_between_6 (by decide) ?_
      exact vx_ret (ty := .int) dX5_between_18 rfl rfl (Nat.le_refl 0) (Nat.le_refl 0) (vx_pst hP (by unfold sp_btw; rw [nI_eq (by omega) (by omega)] at c_2; simp [c_2]) rfl)
  exact vx_J.M pn_X5_between (Nat.le_of_ble_eq_true rfl) (key _ _ ⟨rfl, rfl, rfl, rfl, rfl⟩)
end
