section
/-- from p on as long as the bytes are so -/
def sp_runF (P : Int32 → Bool) (t : Nat → Int32) (e : Nat) : Nat → Nat → Nat
  | 0, p => p
  | f + 1, p => if p < e ∧ P (t p) = true then sp_runF P t e f (p + 1) else p
def sp_run (P : Int32 → Bool) (t : Nat → Int32) (e p : Nat) : Nat := sp_runF P t e (e - p) p
theorem sp_run_s {P : Int32 → Bool} {t : Nat → Int32} {e p : Nat} (h : p < e) (h2 : P (t p) = true) : sp_run P t e p = sp_run P t e (p + 1) := by
  unfold sp_run
  obtain ⟨f, hf⟩ : ∃ f, e - p = f + 1 := ⟨e - p - 1, by omega⟩
  rw [hf, show e - (p + 1) = f by omega]
  show (if p < e ∧ P (t p) = true then sp_runF P t e f (p + 1) else p) = _
  rw [if_pos ⟨h, h2⟩]
theorem sp_run_e {P : Int32 → Bool} {t : Nat → Int32} {e p : Nat} (h : ¬ (p < e ∧ P (t p) = true)) : sp_run P t e p = p := by
  unfold sp_run
  cases hf : e - p with
  | zero => rfl
  | succ f =>
    show (if p < e ∧ P (t p) = true then sp_runF P t e f (p + 1) else p) = _
    rw [if_neg h]
theorem sp_run_r {P : Int32 → Bool} {t : Nat → Int32} {e : Nat} : ∀ (r p : Nat), p + r = e → p ≤ sp_run P t e p ∧ sp_run P t e p ≤ e
  | 0, p, h => by
    rw [sp_run_e (by omega)]
    omega
  | r + 1, p, h => by
    by_cases hc : p < e ∧ P (t p) = true
    · rw [sp_run_s hc.1 hc.2]
      have := sp_run_r (P := P) (t := t) (e := e) r (p + 1) (by omega)
      omega
    · rw [sp_run_e hc]
      omega
theorem sp_run_b {P : Int32 → Bool} {t : Nat → Int32} {e p : Nat} (h : p ≤ e) : p ≤ sp_run P t e p ∧ sp_run P t e p ≤ e := sp_run_r (e - p) p (by omega)
def sp_bl (x : Int32) : Bool := decide (x = 32) || decide (x = 10)
def sp_inB (a b x : Int32) : Bool := decide (¬ sp_in x a b = 0)
def sp_ba (t : Nat → Int32) (e p : Nat) : Int32 := if p < e then t p else -1
/-- the number that digits tell, as the class holds it -/
def sp_numC (t : Nat → Int32) (p : Nat) : Nat → Int32
  | 0 => 0
  | k + 1 => sp_min (sp_numC t p k * 10 + t (p + k) - 48) 1000
def sp_isw (t : Nat → Int32) (p q i : Nat) : Int32 := if q - p = vx_ll.getD i 0 ∧ ∀ k, k < vx_ll.getD i 0 → t (p + k) = sp_chr i k then 1 else 0
theorem sp_ups {f : Nat → Int32} {k : Nat} {x : Int32} (h : f k = x) : upd f k x = f := by
  funext j
  unfold upd
  by_cases e : j = k
  · rw [if_pos e, e, h]
  · rw [if_neg e]

set_option maxRecDepth 20000 in
set_option maxHeartbeats 2000000 in
theorem c_X7_readFirst (d : Nat) (ad : Nat → Nat) (μ : vx_mem) (n : Int32) : vx_Mf yX7_readFirst cX7_readFirst 2 none d ad 82 vx_lay μ [vx_r 1, .inl n] none (va_up μ 1 (upd (upd (μ 1) 2 0) 3 n)) := by
  have key : ∀ (Post : vx_P) (ini : Bool), Post none ad 82 vx_lay (va_up μ 1 (upd (upd (μ 1) 2 0) 3 n)) → vx_J RX7 cX7_readFirst 2 none ini d 0 0 Post ad 0 0 82 vx_lay μ 0 [(0, vx_r 1), (1, .inl n)] [] := by
    intro Post ini hP
    refine vx_aload_n dX7_readFirst_0 rfl ?_
    refine vx_iconst (v := 0) dX7_readFirst_1 (by decide) ?_
    refine vx_putI (ci := 7) (T := TX7) (n := 4) (j := 2) (a := 1) (ty := .int) (μ2 := (va_up μ 1 (upd (μ 1) 2 0))) dX7_readFirst_2 rfl lay_X7 tyX7_ok nmX7 (by decide) wd_77 rfl rfl rfl rfl (by decide) ly_1 rfl rfl ?_
    refine vx_aload_n dX7_readFirst_5 rfl ?_
    refine vx_iload_n dX7_readFirst_6 rfl ?_
    refine vx_putI (ci := 7) (T := TX7) (n := 4) (j := 3) (a := 1) (ty := .int) (μ2 := (va_up μ 1 (upd (upd (μ 1) 2 0) 3 n))) dX7_readFirst_7 rfl lay_X7 tyX7_ok nmX7 (by decide) wd_79 rfl rfl rfl rfl (by decide) ly_1 rfl vx_m1 ?_
    exact vx_vret dX7_readFirst_10 rfl (Nat.le_refl 0) (Nat.le_refl 0) (vx_pst hP rfl rfl)
  exact vx_J.M pn_X7_readFirst (Nat.le_of_ble_eq_true rfl) (key _ _ ⟨rfl, rfl, rfl, rfl, rfl⟩)
set_option maxRecDepth 20000 in
set_option maxHeartbeats 2000000 in
theorem c_X7_isAtEnd (d : Nat) (ad : Nat → Nat) (μ : vx_mem) (p e : Nat) (hp : μ 1 2 = nI p) (he : μ 1 3 = nI e) (hpe : p ≤ e) (he3 : e ≤ 300)  : vx_Mf yX7_isAtEnd cX7_isAtEnd 1 (some (.boolean)) d ad 82 vx_lay μ [vx_r 1] (some (.inl (if p < e then 0 else 1))) μ := by
  have key : ∀ (Post : vx_P) (ini : Bool), Post (some (.inl (if p < e then 0 else 1))) ad 82 vx_lay μ → vx_J RX7 cX7_isAtEnd 1 (some (.boolean)) ini d 0 0 Post ad 0 0 82 vx_lay μ 0 [(0, vx_r 1)] [] := by
    intro Post ini hP
    refine vx_aload_n dX7_isAtEnd_0 rfl ?_
    refine vx_getI (ci := 7) (T := TX7) (n := 4) (j := 2) (a := 1) (v := (nI p)) dX7_isAtEnd_1 rfl lay_X7 (by decide) wd_77 (by decide) ly_1 rfl hp ?_
    refine vx_aload_n dX7_isAtEnd_4 rfl ?_
    refine vx_getI (ci := 7) (T := TX7) (n := 4) (j := 3) (a := 1) (v := (nI e)) dX7_isAtEnd_5 rfl lay_X7 (by decide) wd_79 (by decide) ly_1 rfl he ?_
    refine vx_icmp_lt (tgt := 15) dX7_isAtEnd_8 (by decide) (fun c_8 => ?_) (fun c_8 => ?_)
    · refine vx_iconst (v := 0) dX7_isAtEnd_15 (by decide) ?_
      exact vx_ret (ty := .boolean) dX7_isAtEnd_16 rfl rfl (Nat.le_refl 0) (Nat.le_refl 0) (vx_pst hP (by rw [nI_ltI (by omega) (by omega)] at c_8; simp [c_8]) rfl)
    · refine vx_iconst (v := 1) dX7_isAtEnd_11 (by decide) ?_
      refine vx_goto (tgt := 16) dX7_isAtEnd_12 (by decide) ?_
      exact vx_ret (ty := .boolean) dX7_isAtEnd_16 rfl rfl (Nat.le_refl 0) (Nat.le_refl 0) (vx_pst hP (by rw [nI_ltI (by omega) (by omega)] at c_8; simp [c_8]) rfl)
  exact vx_J.M pn_X7_isAtEnd (Nat.le_of_ble_eq_true rfl) (key _ _ ⟨rfl, rfl, rfl, rfl, rfl⟩)
set_option maxRecDepth 20000 in
set_option maxHeartbeats 2000000 in
theorem c_X7_byteAt (d : Nat) (hd : 1 ≤ d) (ad : Nat → Nat) (μ : vx_mem) (q e : Nat) (he : μ 1 3 = nI e) (he3 : e ≤ 300) (hq : q < 2 ^ 31) : vx_Mf yX7_byteAt cX7_byteAt 2 (some (.int)) d ad 82 vx_lay μ [vx_r 1, .inl (nI q)] (some (.inl (sp_ba (μ 2) e q))) μ := by
  have key : ∀ (Post : vx_P) (ini : Bool), Post (some (.inl (sp_ba (μ 2) e q))) ad 82 vx_lay μ → vx_J RX7 cX7_byteAt 2 (some (.int)) ini d 0 0 Post ad 0 0 82 vx_lay μ 0 [(0, vx_r 1), (1, .inl (nI q))] [] := by
    intro Post ini hP
    refine vx_iload_n dX7_byteAt_0 rfl ?_
    refine vx_aload_n dX7_byteAt_1 rfl ?_
    refine vx_getI (ci := 7) (T := TX7) (n := 4) (j := 3) (a := 1) (v := (nI e)) dX7_byteAt_2 rfl lay_X7 (by decide) wd_79 (by decide) ly_1 rfl he ?_
    refine vx_icmp_ge (tgt := 19) dX7_byteAt_5 (by decide) (fun c_5 => ?_) (fun c_5 => ?_)
    · have q5 : ¬ q < e := by rw [nI_leI (by omega) (by omega)] at c_5; omega
      refine vx_iconst (v := (-1)) dX7_byteAt_19 (by decide) ?_
      exact vx_ret (ty := .int) dX7_byteAt_20 rfl rfl (Nat.le_refl 0) (Nat.le_refl 0) (vx_pst hP (by unfold sp_ba; simp [q5]) rfl)
    · have q5 : q < e := by rw [nI_leI (by omega) (by omega)] at c_5; omega
      refine vx_aload_n dX7_byteAt_8 rfl ?_
      refine vx_getR (ci := 7) (T := TX7) (n := 4) (j := 0) (a := 1) (r := 2) dX7_byteAt_9 rfl lay_X7 (by decide) wd_74 (by decide) ly_1 rfl ?_
      refine vx_iload_n dX7_byteAt_12 rfl ?_
      refine vx_callX (vs := [vx_r 2, .inl (nI q)]) (st := []) (r0 := (some (.inl (μ 2 q)))) (μ0 := μ) dX7_byteAt_13 ((c_X8_at (d - 1) ad 82 vx_lay μ 2 300 (by decide) ly_2 (by decide) (nI q)).to (by first | rfl | (exact congrArg (fun z => some (Sum.inl z)) (sp_at_nI (k := q) _ (by omega) (by decide)))) rfl) nst_4 wd_109 wd_45 hy_X8_at wd_108 (by omega) (Nat.le_of_ble_eq_true rfl) (Nat.le_of_ble_eq_true rfl) (Nat.le_refl 0) (Nat.le_refl 0) ?_
      refine vx_eq (μ2 := μ) (ls2 := [(0, vx_r 1), (1, .inl (nI q))]) (st2 := [.inl (μ 2 q)]) rfl rfl rfl ?_
      refine vx_goto (tgt := 20) dX7_byteAt_16 (by decide) ?_
      exact vx_ret (ty := .int) dX7_byteAt_20 rfl rfl (Nat.le_refl 0) (Nat.le_refl 0) (vx_pst hP (by unfold sp_ba; simp [q5]) rfl)
  exact vx_J.M pn_X7_byteAt (Nat.le_of_ble_eq_true rfl) (key _ _ ⟨rfl, rfl, rfl, rfl, rfl⟩)
set_option maxRecDepth 20000 in
set_option maxHeartbeats 2000000 in
theorem c_X7_skipBlanks (d : Nat) (hd : 2 ≤ d) (ad : Nat → Nat) (μ : vx_mem) (p e : Nat) (hp : μ 1 2 = nI p) (he : μ 1 3 = nI e) (hpe : p ≤ e) (he3 : e ≤ 300)  : vx_Mf yX7_skipBlanks cX7_skipBlanks 1 none d ad 82 vx_lay μ [vx_r 1] none (va_up μ 1 (upd (μ 1) 2 (nI (sp_run sp_bl (μ 2) e p)))) := by
  have key : ∀ (Post : vx_P) (ini : Bool), Post none ad 82 vx_lay (va_up μ 1 (upd (μ 1) 2 (nI (sp_run sp_bl (μ 2) e p)))) → vx_J RX7 cX7_skipBlanks 1 none ini d 0 0 Post ad 0 0 82 vx_lay μ 0 [(0, vx_r 1)] [] := by
    intro Post ini hP
    have loop : ∀ (r q : Nat), q + r = e → sp_run sp_bl (μ 2) e p = sp_run sp_bl (μ 2) e q → vx_J RX7 cX7_skipBlanks 1 none ini d 0 0 Post ad 0 0 82 vx_lay (va_up μ 1 (upd (μ 1) 2 (nI q))) 0 [(0, vx_r 1)] [] := by
      intro r
      induction r with
      | zero =>
        intro q hq hr
        refine vx_aload_n dX7_skipBlanks_0 rfl ?_
        refine vx_getI (ci := 7) (T := TX7) (n := 4) (j := 2) (a := 1) (v := (nI q)) dX7_skipBlanks_1 rfl lay_X7 (by decide) wd_77 (by decide) ly_1 rfl rfl ?_
        refine vx_aload_n dX7_skipBlanks_4 rfl ?_
        refine vx_getI (ci := 7) (T := TX7) (n := 4) (j := 3) (a := 1) (v := (nI e)) dX7_skipBlanks_5 rfl lay_X7 (by decide) wd_79 (by decide) ly_1 rfl he ?_
        refine vx_icmp_ge (tgt := 50) dX7_skipBlanks_8 (by decide) (fun _ => ?_) (fun h => absurd (by show (nI (e) ≤ nI (q)); rw [nI_leI (by omega) (by omega)]; omega) h)
        exact vx_vret dX7_skipBlanks_50 rfl (Nat.le_refl 0) (Nat.le_refl 0) (vx_pst hP rfl (by rw [hr, sp_run_e (by omega)]))
      | succ r ih =>
        intro q hq hr
        refine vx_aload_n dX7_skipBlanks_0 rfl ?_
        refine vx_getI (ci := 7) (T := TX7) (n := 4) (j := 2) (a := 1) (v := (nI q)) dX7_skipBlanks_1 rfl lay_X7 (by decide) wd_77 (by decide) ly_1 rfl rfl ?_
        refine vx_aload_n dX7_skipBlanks_4 rfl ?_
        refine vx_getI (ci := 7) (T := TX7) (n := 4) (j := 3) (a := 1) (v := (nI e)) dX7_skipBlanks_5 rfl lay_X7 (by decide) wd_79 (by decide) ly_1 rfl he ?_
        refine vx_icmp_ge (tgt := 50) dX7_skipBlanks_8 (by decide) (fun h => absurd h (by show ¬ (nI (e) ≤ nI (q)); rw [nI_leI (by omega) (by omega)]; omega)) (fun _ => ?_)
        refine vx_aload_n dX7_skipBlanks_11 rfl ?_
        refine vx_aload_n dX7_skipBlanks_12 rfl ?_
        refine vx_getI (ci := 7) (T := TX7) (n := 4) (j := 2) (a := 1) (v := (nI q)) dX7_skipBlanks_13 rfl lay_X7 (by decide) wd_77 (by decide) ly_1 rfl rfl ?_
        refine vx_callV (b := 1) (vs := [.inl (nI q)]) (st := []) (r0 := (some (.inl (μ 2 q)))) (μ0 := (va_up μ 1 (upd (μ 1) 2 (nI q)))) dX7_skipBlanks_16 ((c_X7_byteAt (d - 1) (by omega) ad (va_up μ 1 (upd (μ 1) 2 (nI q))) (q) e he he3 (by omega)).to (congrArg (fun z => some (Sum.inl z)) (if_pos (by omega))) rfl) wd_397 wd_400 wd_46 hy_X7_byteAt wd_398 wd_399 (by decide) ly_1 rfl rfl (by omega) (Nat.le_of_ble_eq_true rfl) (Nat.le_of_ble_eq_true rfl) (Nat.le_refl 0) (Nat.le_refl 0) ?_
        refine vx_eq (μ2 := (va_up μ 1 (upd (μ 1) 2 (nI q)))) (ls2 := [(0, vx_r 1)]) (st2 := [.inl (μ 2 q)]) rfl rfl rfl ?_
        refine vx_bipush (v := 32) dX7_skipBlanks_19 (by decide) ?_
        refine vx_icmp_eq (tgt := 37) dX7_skipBlanks_21 (by decide) (fun c_21 => ?_) (fun c_21 => ?_)
        · refine vx_aload_n dX7_skipBlanks_37 rfl ?_
          refine vx_dup dX7_skipBlanks_38 ?_
          refine vx_getI (ci := 7) (T := TX7) (n := 4) (j := 2) (a := 1) (v := (nI q)) dX7_skipBlanks_39 rfl lay_X7 (by decide) wd_77 (by decide) ly_1 rfl rfl ?_
          refine vx_iconst (v := 1) dX7_skipBlanks_42 (by decide) ?_
          refine vx_iadd dX7_skipBlanks_43 ?_
          refine vx_eq (st2 := [.inl (nI (q + 1)), vx_r 1]) rfl rfl (by rw [nI_1]) ?_
          refine vx_putI (ci := 7) (T := TX7) (n := 4) (j := 2) (a := 1) (ty := .int) (μ2 := (va_up μ 1 (upd (μ 1) 2 (nI (q + 1))))) dX7_skipBlanks_44 rfl lay_X7 tyX7_ok nmX7 (by decide) wd_77 rfl rfl rfl rfl (by decide) ly_1 rfl ((congrArg (fun z => va_up (va_up μ 1 (upd (μ 1) 2 (nI q))) 1 z) (sp_uu (f := (μ 1)) (k := 2))).trans vx_m1) ?_
          refine vx_goto (tgt := 0) dX7_skipBlanks_47 (by decide) ?_
          exact ih (q + 1) (by omega) (by rw [hr, sp_run_s (by omega) (by simp [sp_bl, c_21])])
        · refine vx_aload_n dX7_skipBlanks_24 rfl ?_
          refine vx_aload_n dX7_skipBlanks_25 rfl ?_
          refine vx_getI (ci := 7) (T := TX7) (n := 4) (j := 2) (a := 1) (v := (nI q)) dX7_skipBlanks_26 rfl lay_X7 (by decide) wd_77 (by decide) ly_1 rfl rfl ?_
          refine vx_callV (b := 1) (vs := [.inl (nI q)]) (st := []) (r0 := (some (.inl (μ 2 q)))) (μ0 := (va_up μ 1 (upd (μ 1) 2 (nI q)))) dX7_skipBlanks_29 ((c_X7_byteAt (d - 1) (by omega) ad (va_up μ 1 (upd (μ 1) 2 (nI q))) (q) e he he3 (by omega)).to (congrArg (fun z => some (Sum.inl z)) (if_pos (by omega))) rfl) wd_397 wd_400 wd_46 hy_X7_byteAt wd_398 wd_399 (by decide) ly_1 rfl rfl (by omega) (Nat.le_of_ble_eq_true rfl) (Nat.le_of_ble_eq_true rfl) (Nat.le_refl 0) (Nat.le_refl 0) ?_
          refine vx_eq (μ2 := (va_up μ 1 (upd (μ 1) 2 (nI q)))) (ls2 := [(0, vx_r 1)]) (st2 := [.inl (μ 2 q)]) rfl rfl rfl ?_
          refine vx_bipush (v := 10) dX7_skipBlanks_32 (by decide) ?_
          refine vx_icmp_ne (tgt := 50) dX7_skipBlanks_34 (by decide) (fun c_34 => ?_) (fun c_34 => ?_)
          · exact vx_vret dX7_skipBlanks_50 rfl (Nat.le_refl 0) (Nat.le_refl 0) (vx_pst hP rfl (by rw [hr, sp_run_e (by simp [sp_bl, c_21, c_34])]))
          · refine vx_aload_n dX7_skipBlanks_37 rfl ?_
            refine vx_dup dX7_skipBlanks_38 ?_
            refine vx_getI (ci := 7) (T := TX7) (n := 4) (j := 2) (a := 1) (v := (nI q)) dX7_skipBlanks_39 rfl lay_X7 (by decide) wd_77 (by decide) ly_1 rfl rfl ?_
            refine vx_iconst (v := 1) dX7_skipBlanks_42 (by decide) ?_
            refine vx_iadd dX7_skipBlanks_43 ?_
            refine vx_eq (st2 := [.inl (nI (q + 1)), vx_r 1]) rfl rfl (by rw [nI_1]) ?_
            refine vx_putI (ci := 7) (T := TX7) (n := 4) (j := 2) (a := 1) (ty := .int) (μ2 := (va_up μ 1 (upd (μ 1) 2 (nI (q + 1))))) dX7_skipBlanks_44 rfl lay_X7 tyX7_ok nmX7 (by decide) wd_77 rfl rfl rfl rfl (by decide) ly_1 rfl ((congrArg (fun z => va_up (va_up μ 1 (upd (μ 1) 2 (nI q))) 1 z) (sp_uu (f := (μ 1)) (k := 2))).trans vx_m1) ?_
            refine vx_goto (tgt := 0) dX7_skipBlanks_47 (by decide) ?_
            exact ih (q + 1) (by omega) (by rw [hr, sp_run_s (by omega) (by simp [sp_bl, c_34])])
    refine vx_eq (μ2 := (va_up μ 1 (upd (μ 1) 2 (nI p)))) (by rw [sp_ups hp, vx_up_id]) rfl rfl ?_
    exact loop (e - p) p (by omega) rfl
  exact vx_J.M pn_X7_skipBlanks (Nat.le_of_ble_eq_true rfl) (key _ _ ⟨rfl, rfl, rfl, rfl, rfl⟩)
set_option maxRecDepth 20000 in
set_option maxHeartbeats 2000000 in
theorem c_X7_endOfRow (d : Nat) (hd : 2 ≤ d) (ad : Nat → Nat) (μ : vx_mem) (p e : Nat) (hp : μ 1 2 = nI p) (he : μ 1 3 = nI e) (hpe : p ≤ e) (he3 : e ≤ 300) (a b : Int32) : vx_Mf yX7_endOfRow cX7_endOfRow 4 (some (.int)) d ad 82 vx_lay μ [vx_r 1, .inl a, .inl b] (some (.inl (nI (sp_run (sp_inB a b) (μ 2) e p)))) μ := by
  have key : ∀ (Post : vx_P) (ini : Bool), Post (some (.inl (nI (sp_run (sp_inB a b) (μ 2) e p)))) ad 82 vx_lay μ → vx_J RX7 cX7_endOfRow 4 (some (.int)) ini d 0 0 Post ad 0 0 82 vx_lay μ 0 [(0, vx_r 1), (1, .inl a), (2, .inl b)] [] := by
    intro Post ini hP
    have loop : ∀ (r q : Nat), q + r = e → sp_run (sp_inB a b) (μ 2) e p = sp_run (sp_inB a b) (μ 2) e q → vx_J RX7 cX7_endOfRow 4 (some (.int)) ini d 0 0 Post ad 0 0 82 vx_lay μ 5 [(3, .inl (nI q)), (0, vx_r 1), (1, .inl a), (2, .inl b)] [] := by
      intro r
      induction r with
      | zero =>
        intro q hq hr
        refine vx_iload_n dX7_endOfRow_5 rfl ?_
        refine vx_aload_n dX7_endOfRow_6 rfl ?_
        refine vx_getI (ci := 7) (T := TX7) (n := 4) (j := 3) (a := 1) (v := (nI e)) dX7_endOfRow_7 rfl lay_X7 (by decide) wd_79 (by decide) ly_1 rfl he ?_
        refine vx_icmp_ge (tgt := 32) dX7_endOfRow_10 (by decide) (fun _ => ?_) (fun h => absurd (by show (nI (e) ≤ nI (q)); rw [nI_leI (by omega) (by omega)]; omega) h)
        refine vx_iload_n dX7_endOfRow_32 rfl ?_
        exact vx_ret (ty := .int) dX7_endOfRow_33 rfl rfl (Nat.le_refl 0) (Nat.le_refl 0) (vx_pst hP (by rw [hr, sp_run_e (by omega)]) rfl)
      | succ r ih =>
        intro q hq hr
        refine vx_iload_n dX7_endOfRow_5 rfl ?_
        refine vx_aload_n dX7_endOfRow_6 rfl ?_
        refine vx_getI (ci := 7) (T := TX7) (n := 4) (j := 3) (a := 1) (v := (nI e)) dX7_endOfRow_7 rfl lay_X7 (by decide) wd_79 (by decide) ly_1 rfl he ?_
        refine vx_icmp_ge (tgt := 32) dX7_endOfRow_10 (by decide) (fun h => absurd h (by show ¬ (nI (e) ≤ nI (q)); rw [nI_leI (by omega) (by omega)]; omega)) (fun _ => ?_)
        refine vx_aload_n dX7_endOfRow_13 rfl ?_
        refine vx_iload_n dX7_endOfRow_14 rfl ?_
        refine vx_callV (b := 1) (vs := [.inl (nI q)]) (st := []) (r0 := (some (.inl (μ 2 q)))) (μ0 := μ) dX7_endOfRow_15 ((c_X7_byteAt (d - 1) (by omega) ad μ (q) e he he3 (by omega)).to (congrArg (fun z => some (Sum.inl z)) (if_pos (by omega))) rfl) wd_397 wd_400 wd_46 hy_X7_byteAt wd_398 wd_399 (by decide) ly_1 rfl rfl (by omega) (Nat.le_of_ble_eq_true rfl) (Nat.le_of_ble_eq_true rfl) (Nat.le_refl 0) (Nat.le_refl 0) ?_
        refine vx_eq (μ2 := μ) (ls2 := [(3, .inl (nI q)), (0, vx_r 1), (1, .inl a), (2, .inl b)]) (st2 := [.inl (μ 2 q)]) rfl rfl rfl ?_
        refine vx_iload_n dX7_endOfRow_18 rfl ?_
        refine vx_iload_n dX7_endOfRow_19 rfl ?_
        refine vx_callX (vs := [.inl (μ 2 q), .inl a, .inl b]) (st := []) (r0 := (some (.inl (sp_in (μ 2 q) a b)))) (μ0 := μ) dX7_endOfRow_20 (c_X8_within (d - 1) ad 82 vx_lay μ (μ 2 q) a b) nst_5 wd_416 wd_45 hy_X8_within wd_415 (by omega) (Nat.le_of_ble_eq_true rfl) (Nat.le_of_ble_eq_true rfl) (Nat.le_refl 0) (Nat.le_refl 0) ?_
        refine vx_eq (μ2 := μ) (ls2 := [(3, .inl (nI q)), (0, vx_r 1), (1, .inl a), (2, .inl b)]) (st2 := [.inl (sp_in (μ 2 q) a b)]) rfl rfl rfl ?_
        refine vx_if_eq (tgt := 32) dX7_endOfRow_23 (by decide) (fun c_23 => ?_) (fun c_23 => ?_)
        · refine vx_iload_n dX7_endOfRow_32 rfl ?_
          exact vx_ret (ty := .int) dX7_endOfRow_33 rfl rfl (Nat.le_refl 0) (Nat.le_refl 0) (vx_pst hP (by rw [hr, sp_run_e (by simp [sp_inB, c_23])]) rfl)
        · refine vx_iinc (v := (nI (q + 1))) (ls2 := [(3, .inl (nI (q + 1))), (0, vx_r 1), (1, .inl a), (2, .inl b)]) dX7_endOfRow_26 rfl (nI_1 _) (by decide) rfl ?_
          refine vx_goto (tgt := 5) dX7_endOfRow_29 (by decide) ?_
          exact ih (q + 1) (by omega) (by rw [hr, sp_run_s (by omega) (by unfold sp_inB; exact decide_eq_true c_23)])
    refine vx_aload_n dX7_endOfRow_0 rfl ?_
    refine vx_getI (ci := 7) (T := TX7) (n := 4) (j := 2) (a := 1) (v := (nI p)) dX7_endOfRow_1 rfl lay_X7 (by decide) wd_77 (by decide) ly_1 rfl hp ?_
    refine vx_istore_n (ls2 := [(3, .inl (nI p)), (0, vx_r 1), (1, .inl a), (2, .inl b)]) dX7_endOfRow_4 (by decide) rfl ?_
    exact loop (e - p) p (by omega) rfl
  exact vx_J.M pn_X7_endOfRow (Nat.le_of_ble_eq_true rfl) (key _ _ ⟨rfl, rfl, rfl, rfl, rfl⟩)
set_option maxRecDepth 20000 in
set_option maxHeartbeats 2000000 in
theorem c_X7_numberUpTo (d : Nat) (hd : 2 ≤ d) (ad : Nat → Nat) (μ : vx_mem) (p e : Nat) (hp : μ 1 2 = nI p) (he : μ 1 3 = nI e) (hpe : p ≤ e) (he3 : e ≤ 300) (q : Nat) (hpq : p ≤ q) (hqe : q ≤ e) : vx_Mf yX7_numberUpTo cX7_numberUpTo 4 (some (.int)) d ad 82 vx_lay μ [vx_r 1, .inl (nI q)] (some (.inl (sp_numC (μ 2) p (q - p)))) μ := by
  have key : ∀ (Post : vx_P) (ini : Bool), Post (some (.inl (sp_numC (μ 2) p (q - p)))) ad 82 vx_lay μ → vx_J RX7 cX7_numberUpTo 4 (some (.int)) ini d 0 0 Post ad 0 0 82 vx_lay μ 0 [(0, vx_r 1), (1, .inl (nI q))] [] := by
    intro Post ini hP
    have loop : ∀ (r i : Nat) (x : Int32), p + i + r = q → x = sp_numC (μ 2) p i → vx_J RX7 cX7_numberUpTo 4 (some (.int)) ini d 0 0 Post ad 0 0 82 vx_lay μ 7 [(3, .inl (nI (p + i))), (2, .inl x), (0, vx_r 1), (1, .inl (nI q))] [] := by
      intro r
      induction r with
      | zero =>
        intro i x hi hx
        refine vx_iload_n dX7_numberUpTo_7 rfl ?_
        refine vx_iload_n dX7_numberUpTo_8 rfl ?_
        refine vx_icmp_ge (tgt := 38) dX7_numberUpTo_9 (by decide) (fun _ => ?_) (fun h => absurd (by show (nI (q) ≤ nI ((p + i))); rw [nI_leI (by omega) (by omega)]; omega) h)
        refine vx_iload_n dX7_numberUpTo_38 rfl ?_
        exact vx_ret (ty := .int) dX7_numberUpTo_39 rfl rfl (Nat.le_refl 0) (Nat.le_refl 0) (vx_pst hP (by rw [hx, show q - p = i by omega]) rfl)
      | succ r ih =>
        intro i x hi hx
        refine vx_iload_n dX7_numberUpTo_7 rfl ?_
        refine vx_iload_n dX7_numberUpTo_8 rfl ?_
        refine vx_icmp_ge (tgt := 38) dX7_numberUpTo_9 (by decide) (fun h => absurd h (by show ¬ (nI (q) ≤ nI ((p + i))); rw [nI_leI (by omega) (by omega)]; omega)) (fun _ => ?_)
        refine vx_iload_n dX7_numberUpTo_12 rfl ?_
        refine vx_bipush (v := 10) dX7_numberUpTo_13 (by decide) ?_
        refine vx_imul dX7_numberUpTo_15 ?_
        refine vx_aload_n dX7_numberUpTo_16 rfl ?_
        refine vx_iload_n dX7_numberUpTo_17 rfl ?_
        refine vx_callV (b := 1) (vs := [.inl (nI (p + i))]) (st := [.inl (x * 10)]) (r0 := (some (.inl (μ 2 (p + i))))) (μ0 := μ) dX7_numberUpTo_18 ((c_X7_byteAt (d - 1) (by omega) ad μ ((p + i)) e he he3 (by omega)).to (congrArg (fun z => some (Sum.inl z)) (if_pos (by omega))) rfl) wd_397 wd_400 wd_46 hy_X7_byteAt wd_398 wd_399 (by decide) ly_1 rfl rfl (by omega) (Nat.le_of_ble_eq_true rfl) (Nat.le_of_ble_eq_true rfl) (Nat.le_refl 0) (Nat.le_refl 0) ?_
        refine vx_eq (μ2 := μ) (ls2 := [(3, .inl (nI (p + i))), (2, .inl x), (0, vx_r 1), (1, .inl (nI q))]) (st2 := [.inl (μ 2 (p + i)), .inl (x * 10)]) rfl rfl rfl ?_
        refine vx_iadd dX7_numberUpTo_21 ?_
        refine vx_bipush (v := 48) dX7_numberUpTo_22 (by decide) ?_
        refine vx_isub dX7_numberUpTo_24 ?_
        refine vx_sipush (v := 1000) dX7_numberUpTo_25 (by decide) ?_
        refine vx_mmin dX7_numberUpTo_28 wd_489 (by omega) (Nat.le_of_ble_eq_true rfl) (Nat.le_refl 0) (Nat.le_refl 0) ?_
        refine vx_istore_n (ls2 := [(2, .inl (if 1000 < (((x * 10) + (μ 2 (p + i))) - 48) then 1000 else (((x * 10) + (μ 2 (p + i))) - 48))), (3, .inl (nI (p + i))), (0, vx_r 1), (1, .inl (nI q))]) dX7_numberUpTo_31 (by decide) rfl ?_
        refine vx_iinc (v := (nI ((p + i) + 1))) (ls2 := [(3, .inl (nI ((p + i) + 1))), (2, .inl (if 1000 < (((x * 10) + (μ 2 (p + i))) - 48) then 1000 else (((x * 10) + (μ 2 (p + i))) - 48))), (0, vx_r 1), (1, .inl (nI q))]) dX7_numberUpTo_32 rfl (nI_1 _) (by decide) rfl ?_
        refine vx_goto (tgt := 7) dX7_numberUpTo_35 (by decide) ?_
        refine vx_keep (ls2 := [(3, .inl (nI ((p + i) + 1))), (2, .inl (if 1000 < (((x * 10) + (μ 2 (p + i))) - 48) then 1000 else (((x * 10) + (μ 2 (p + i))) - 48))), (0, vx_r 1), (1, .inl (nI q))]) ⟨rfl, rfl, rfl, rfl, trivial⟩ ?_
        exact ih (i + 1) _ (by omega) (by rw [hx]; rfl)
    refine vx_iconst (v := 0) dX7_numberUpTo_0 (by decide) ?_
    refine vx_istore_n (ls2 := [(2, .inl 0), (0, vx_r 1), (1, .inl (nI q))]) dX7_numberUpTo_1 (by decide) rfl ?_
    refine vx_aload_n dX7_numberUpTo_2 rfl ?_
    refine vx_getI (ci := 7) (T := TX7) (n := 4) (j := 2) (a := 1) (v := (nI p)) dX7_numberUpTo_3 rfl lay_X7 (by decide) wd_77 (by decide) ly_1 rfl hp ?_
    refine vx_istore_n (ls2 := [(3, .inl (nI p)), (2, .inl 0), (0, vx_r 1), (1, .inl (nI q))]) dX7_numberUpTo_6 (by decide) rfl ?_
    refine vx_keep (ls2 := [(3, .inl (nI p)), (2, .inl 0), (0, vx_r 1), (1, .inl (nI q))]) ⟨rfl, rfl, rfl, rfl, trivial⟩ ?_
    exact loop (q - p) 0 0 (by omega) rfl
  exact vx_J.M pn_X7_numberUpTo (Nat.le_of_ble_eq_true rfl) (key _ _ ⟨rfl, rfl, rfl, rfl, rfl⟩)
end
