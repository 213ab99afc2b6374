section
set_option maxRecDepth 20000 in
set_option maxHeartbeats 2000000 in
theorem c_X7_isWordUpTo (d : Nat) (hd : 4 ≤ d) (ad : Nat → Nat) (μ : vx_mem) (p e : Nat) (hp : μ 1 2 = nI p) (he : μ 1 3 = nI e) (hpe : p ≤ e) (he3 : e ≤ 300) (q : Nat) (hpq : p ≤ q) (hqe : q ≤ e) (i : Nat) (hi7 : i < 7) : vx_Mf yX7_isWordUpTo cX7_isWordUpTo 4 (some (.boolean)) d ad 82 vx_lay μ [vx_r 1, .inl (nI q), vx_r (1000 + i)] (some (.inl (sp_isw (μ 2) p q i))) μ := by
  have key : ∀ (Post : vx_P) (ini : Bool), Post (some (.inl (sp_isw (μ 2) p q i))) ad 82 vx_lay μ → vx_J RX7 cX7_isWordUpTo 4 (some (.boolean)) ini d 0 0 Post ad 0 0 82 vx_lay μ 0 [(0, vx_r 1), (1, .inl (nI q)), (2, vx_r (1000 + i))] [] := by
    intro Post ini hP
    have hl7 := (sp_ll7 i hi7).1
    have loop : ∀ (r k : Nat), k + r = vx_ll.getD i 0 → q - p = vx_ll.getD i 0 → (∀ j, j < k → μ 2 (p + j) = sp_chr i j) → vx_J RX7 cX7_isWordUpTo 4 (some (.boolean)) ini d 0 0 Post ad 0 0 82 vx_lay μ 17 [(3, .inl (nI k)), (0, vx_r 1), (1, .inl (nI q)), (2, vx_r (1000 + i))] [] := by
      intro r
      induction r with
      | zero =>
        intro k hk hl hj
        refine vx_iload_n dX7_isWordUpTo_17 rfl ?_
        refine vx_aload_n dX7_isWordUpTo_18 rfl ?_
        refine vx_callK (i := i) (vs := []) (st := [.inl (nI k)]) (r0 := (some (.inl (nI (vx_ll.getD i 0))))) (μ0 := μ) dX7_isWordUpTo_19 (c_J0_length_8abf5 (d - 1) (by omega) ad 82 vx_lay μ i hi7) wd_433 wd_436 wd_55 hy_J0_length_8abf5 wd_434 wd_435 hi7 rfl (by omega) (Nat.le_of_ble_eq_true rfl) (Nat.le_of_ble_eq_true rfl) (Nat.le_refl 0) (Nat.le_refl 0) ?_
        refine vx_eq (μ2 := μ) (ls2 := [(3, .inl (nI k)), (0, vx_r 1), (1, .inl (nI q)), (2, vx_r (1000 + i))]) (st2 := [.inl (nI (vx_ll.getD i 0)), .inl (nI k)]) rfl rfl rfl ?_
        refine vx_icmp_ge (tgt := 51) dX7_isWordUpTo_22 (by decide) (fun _ => ?_) (fun h => absurd (by show (nI ((vx_ll.getD i 0)) ≤ nI (k)); rw [nI_leI (by omega) (by omega)]; omega) h)
        refine vx_iconst (v := 1) dX7_isWordUpTo_51 (by decide) ?_
        exact vx_ret (ty := .boolean) dX7_isWordUpTo_52 rfl rfl (Nat.le_refl 0) (Nat.le_refl 0) (vx_pst hP (by unfold sp_isw; rw [if_pos ⟨hl, fun j h => hj j (by omega)⟩]) rfl)
      | succ r ih =>
        intro k hk hl hj
        refine vx_iload_n dX7_isWordUpTo_17 rfl ?_
        refine vx_aload_n dX7_isWordUpTo_18 rfl ?_
        refine vx_callK (i := i) (vs := []) (st := [.inl (nI k)]) (r0 := (some (.inl (nI (vx_ll.getD i 0))))) (μ0 := μ) dX7_isWordUpTo_19 (c_J0_length_8abf5 (d - 1) (by omega) ad 82 vx_lay μ i hi7) wd_433 wd_436 wd_55 hy_J0_length_8abf5 wd_434 wd_435 hi7 rfl (by omega) (Nat.le_of_ble_eq_true rfl) (Nat.le_of_ble_eq_true rfl) (Nat.le_refl 0) (Nat.le_refl 0) ?_
        refine vx_eq (μ2 := μ) (ls2 := [(3, .inl (nI k)), (0, vx_r 1), (1, .inl (nI q)), (2, vx_r (1000 + i))]) (st2 := [.inl (nI (vx_ll.getD i 0)), .inl (nI k)]) rfl rfl rfl ?_
        refine vx_icmp_ge (tgt := 51) dX7_isWordUpTo_22 (by decide) (fun h => absurd h (by show ¬ (nI ((vx_ll.getD i 0)) ≤ nI (k)); rw [nI_leI (by omega) (by omega)]; omega)) (fun _ => ?_)
        refine vx_aload_n dX7_isWordUpTo_25 rfl ?_
        refine vx_aload_n dX7_isWordUpTo_26 rfl ?_
        refine vx_getI (ci := 7) (T := TX7) (n := 4) (j := 2) (a := 1) (v := (nI p)) dX7_isWordUpTo_27 rfl lay_X7 (by decide) wd_77 (by decide) ly_1 rfl hp ?_
        refine vx_iload_n dX7_isWordUpTo_30 rfl ?_
        refine vx_iadd dX7_isWordUpTo_31 ?_
        refine vx_eq (st2 := [.inl (nI (p + k)), vx_r 1]) rfl rfl (by rw [nI_add]) ?_
        refine vx_callV (b := 1) (vs := [.inl (nI (p + k))]) (st := []) (r0 := (some (.inl (μ 2 (p + k))))) (μ0 := μ) dX7_isWordUpTo_32 ((c_X7_byteAt (d - 1) (by omega) ad μ ((p + k)) e he he3 (by omega)).to (congrArg (fun z => some (Sum.inl z)) (if_pos (by omega))) rfl) wd_397 wd_400 wd_46 hy_X7_byteAt wd_398 wd_399 (by decide) ly_1 rfl rfl (by omega) (Nat.le_of_ble_eq_true rfl) (Nat.le_of_ble_eq_true rfl) (Nat.le_refl 0) (Nat.le_refl 0) ?_
        refine vx_eq (μ2 := μ) (ls2 := [(3, .inl (nI k)), (0, vx_r 1), (1, .inl (nI q)), (2, vx_r (1000 + i))]) (st2 := [.inl (μ 2 (p + k))]) rfl rfl rfl ?_
        refine vx_aload_n dX7_isWordUpTo_35 rfl ?_
        refine vx_iload_n dX7_isWordUpTo_36 rfl ?_
        refine vx_callK (i := i) (vs := [.inl (nI k)]) (st := [.inl (μ 2 (p + k))]) (r0 := (some (.inl (sp_chr i k)))) (μ0 := μ) dX7_isWordUpTo_37 (c_J0_charAt_5068e (d - 1) (by omega) ad 82 vx_lay μ i hi7 k (by omega)) wd_443 wd_446 wd_55 hy_J0_charAt_5068e wd_444 wd_445 hi7 rfl (by omega) (Nat.le_of_ble_eq_true rfl) (Nat.le_of_ble_eq_true rfl) (Nat.le_refl 0) (Nat.le_refl 0) ?_
        refine vx_eq (μ2 := μ) (ls2 := [(3, .inl (nI k)), (0, vx_r 1), (1, .inl (nI q)), (2, vx_r (1000 + i))]) (st2 := [.inl (sp_chr i k), .inl (μ 2 (p + k))]) rfl rfl rfl ?_
        refine vx_icmp_eq (tgt := 45) dX7_isWordUpTo_40 (by decide) (fun c_40 => ?_) (fun c_40 => ?_)
        · refine vx_iinc (v := (nI (k + 1))) (ls2 := [(3, .inl (nI (k + 1))), (0, vx_r 1), (1, .inl (nI q)), (2, vx_r (1000 + i))]) dX7_isWordUpTo_45 rfl (nI_1 _) (by decide) rfl ?_
          refine vx_goto (tgt := 17) dX7_isWordUpTo_48 (by decide) ?_
          exact ih (k + 1) (by omega) hl (fun j h => by
            rcases Nat.lt_succ_iff_lt_or_eq.mp h with h | h
            · exact hj j h
            · rw [h]; exact c_40)
        · refine vx_iconst (v := 0) dX7_isWordUpTo_43 (by decide) ?_
          exact vx_ret (ty := .boolean) dX7_isWordUpTo_44 rfl rfl (Nat.le_refl 0) (Nat.le_refl 0) (vx_pst hP (by unfold sp_isw; rw [if_neg (fun h => c_40 (h.2 k (by omega)))]) rfl)
    refine vx_iload_n dX7_isWordUpTo_0 rfl ?_
    refine vx_aload_n dX7_isWordUpTo_1 rfl ?_
    refine vx_getI (ci := 7) (T := TX7) (n := 4) (j := 2) (a := 1) (v := (nI p)) dX7_isWordUpTo_2 rfl lay_X7 (by decide) wd_77 (by decide) ly_1 rfl hp ?_
    refine vx_isub dX7_isWordUpTo_5 ?_
    refine vx_eq (st2 := [.inl (nI (q - p))]) rfl rfl (by rw [pk_sub hpq]) ?_
    refine vx_aload_n dX7_isWordUpTo_6 rfl ?_
    refine vx_callK (i := i) (vs := []) (st := [.inl (nI (q - p))]) (r0 := (some (.inl (nI (vx_ll.getD i 0))))) (μ0 := μ) dX7_isWordUpTo_7 (c_J0_length_8abf5 (d - 1) (by omega) ad 82 vx_lay μ i hi7) wd_433 wd_436 wd_55 hy_J0_length_8abf5 wd_434 wd_435 hi7 rfl (by omega) (Nat.le_of_ble_eq_true rfl) (Nat.le_of_ble_eq_true rfl) (Nat.le_refl 0) (Nat.le_refl 0) ?_
    refine vx_eq (μ2 := μ) (ls2 := [(0, vx_r 1), (1, .inl (nI q)), (2, vx_r (1000 + i))]) (st2 := [.inl (nI (vx_ll.getD i 0)), .inl (nI (q - p))]) rfl rfl rfl ?_
    refine vx_icmp_eq (tgt := 15) dX7_isWordUpTo_10 (by decide) (fun c_10 => ?_) (fun c_10 => ?_)
    · refine vx_iconst (v := 0) dX7_isWordUpTo_15 (by decide) ?_
      refine vx_istore_n (ls2 := [(3, .inl 0), (0, vx_r 1), (1, .inl (nI q)), (2, vx_r (1000 + i))]) dX7_isWordUpTo_16 (by decide) rfl ?_
      have hl : q - p = vx_ll.getD i 0 := by rw [nI_eq (by omega) (by omega)] at c_10; exact c_10
      refine vx_keep (ls2 := [(3, .inl (nI 0)), (0, vx_r 1), (1, .inl (nI q)), (2, vx_r (1000 + i))]) ⟨rfl, rfl, rfl, rfl, trivial⟩ ?_
      exact loop (vx_ll.getD i 0) 0 (by omega) hl (fun j h => absurd h (by omega))
    · refine vx_iconst (v := 0) dX7_isWordUpTo_13 (by decide) ?_
      exact vx_ret (ty := .boolean) dX7_isWordUpTo_14 rfl rfl (Nat.le_refl 0) (Nat.le_refl 0) (vx_pst hP (by unfold sp_isw; rw [if_neg (fun h => c_10 (by rw [h.1]))]) rfl)
  exact vx_J.M pn_X7_isWordUpTo (Nat.le_of_ble_eq_true rfl) (key _ _ ⟨rfl, rfl, rfl, rfl, rfl⟩)
set_option maxRecDepth 20000 in
set_option maxHeartbeats 2000000 in
theorem c_X0_word_0 (d : Nat) (ad : Nat → Nat) (μ : vx_mem)  : vx_Mf yX0_word cX0_word 1 (some (.object "java/lang/String")) d ad 82 vx_lay μ [.inl 0] (some (vx_r (1000 + 0))) μ := by
  have key : ∀ (Post : vx_P) (ini : Bool), Post (some (vx_r (1000 + 0))) ad 82 vx_lay μ → vx_J RX0 cX0_word 1 (some (.object "java/lang/String")) ini d 0 0 Post ad 0 0 82 vx_lay μ 0 [(0, .inl 0)] [] := by
    intro Post ini hP
    refine vx_iload_n dX0_word_0 rfl ?_
    refine vx_tabIn (tgt := 36) dX0_word_1 (by decide) (by decide) rfl (by decide) ?_
    refine vx_ldcS (i := 0) dX0_word_36 rfl ?_
    exact vx_aret (ty := "java/lang/String") dX0_word_38 rfl (Nat.le_refl 0) (Nat.le_refl 0) (vx_pst hP rfl rfl)
  exact vx_J.M pn_X0_word (Nat.le_of_ble_eq_true rfl) (key _ _ ⟨rfl, rfl, rfl, rfl, rfl⟩)
set_option maxRecDepth 20000 in
set_option maxHeartbeats 2000000 in
theorem c_X0_word_1 (d : Nat) (ad : Nat → Nat) (μ : vx_mem)  : vx_Mf yX0_word cX0_word 1 (some (.object "java/lang/String")) d ad 82 vx_lay μ [.inl 1] (some (vx_r (1000 + 1))) μ := by
  have key : ∀ (Post : vx_P) (ini : Bool), Post (some (vx_r (1000 + 1))) ad 82 vx_lay μ → vx_J RX0 cX0_word 1 (some (.object "java/lang/String")) ini d 0 0 Post ad 0 0 82 vx_lay μ 0 [(0, .inl 1)] [] := by
    intro Post ini hP
    refine vx_iload_n dX0_word_0 rfl ?_
    refine vx_tabIn (tgt := 39) dX0_word_1 (by decide) (by decide) rfl (by decide) ?_
    refine vx_ldcS (i := 1) dX0_word_39 rfl ?_
    exact vx_aret (ty := "java/lang/String") dX0_word_41 rfl (Nat.le_refl 0) (Nat.le_refl 0) (vx_pst hP rfl rfl)
  exact vx_J.M pn_X0_word (Nat.le_of_ble_eq_true rfl) (key _ _ ⟨rfl, rfl, rfl, rfl, rfl⟩)
set_option maxRecDepth 20000 in
set_option maxHeartbeats 2000000 in
theorem c_X0_word_2 (d : Nat) (ad : Nat → Nat) (μ : vx_mem)  : vx_Mf yX0_word cX0_word 1 (some (.object "java/lang/String")) d ad 82 vx_lay μ [.inl 2] (some (vx_r (1000 + 2))) μ := by
  have key : ∀ (Post : vx_P) (ini : Bool), Post (some (vx_r (1000 + 2))) ad 82 vx_lay μ → vx_J RX0 cX0_word 1 (some (.object "java/lang/String")) ini d 0 0 Post ad 0 0 82 vx_lay μ 0 [(0, .inl 2)] [] := by
    intro Post ini hP
    refine vx_iload_n dX0_word_0 rfl ?_
    refine vx_tabIn (tgt := 42) dX0_word_1 (by decide) (by decide) rfl (by decide) ?_
    refine vx_ldcS (i := 2) dX0_word_42 rfl ?_
    exact vx_aret (ty := "java/lang/String") dX0_word_44 rfl (Nat.le_refl 0) (Nat.le_refl 0) (vx_pst hP rfl rfl)
  exact vx_J.M pn_X0_word (Nat.le_of_ble_eq_true rfl) (key _ _ ⟨rfl, rfl, rfl, rfl, rfl⟩)
set_option maxRecDepth 20000 in
set_option maxHeartbeats 2000000 in
theorem c_X0_word_3 (d : Nat) (ad : Nat → Nat) (μ : vx_mem)  : vx_Mf yX0_word cX0_word 1 (some (.object "java/lang/String")) d ad 82 vx_lay μ [.inl 3] (some (vx_r (1000 + 3))) μ := by
  have key : ∀ (Post : vx_P) (ini : Bool), Post (some (vx_r (1000 + 3))) ad 82 vx_lay μ → vx_J RX0 cX0_word 1 (some (.object "java/lang/String")) ini d 0 0 Post ad 0 0 82 vx_lay μ 0 [(0, .inl 3)] [] := by
    intro Post ini hP
    refine vx_iload_n dX0_word_0 rfl ?_
    refine vx_tabIn (tgt := 45) dX0_word_1 (by decide) (by decide) rfl (by decide) ?_
    refine vx_ldcS (i := 3) dX0_word_45 rfl ?_
    exact vx_aret (ty := "java/lang/String") dX0_word_47 rfl (Nat.le_refl 0) (Nat.le_refl 0) (vx_pst hP rfl rfl)
  exact vx_J.M pn_X0_word (Nat.le_of_ble_eq_true rfl) (key _ _ ⟨rfl, rfl, rfl, rfl, rfl⟩)
set_option maxRecDepth 20000 in
set_option maxHeartbeats 2000000 in
theorem c_X0_word_4 (d : Nat) (ad : Nat → Nat) (μ : vx_mem)  : vx_Mf yX0_word cX0_word 1 (some (.object "java/lang/String")) d ad 82 vx_lay μ [.inl 4] (some (vx_r (1000 + 4))) μ := by
  have key : ∀ (Post : vx_P) (ini : Bool), Post (some (vx_r (1000 + 4))) ad 82 vx_lay μ → vx_J RX0 cX0_word 1 (some (.object "java/lang/String")) ini d 0 0 Post ad 0 0 82 vx_lay μ 0 [(0, .inl 4)] [] := by
    intro Post ini hP
    refine vx_iload_n dX0_word_0 rfl ?_
    refine vx_tabIn (tgt := 48) dX0_word_1 (by decide) (by decide) rfl (by decide) ?_
    refine vx_ldcS (i := 4) dX0_word_48 rfl ?_
    exact vx_aret (ty := "java/lang/String") dX0_word_50 rfl (Nat.le_refl 0) (Nat.le_refl 0) (vx_pst hP rfl rfl)
  exact vx_J.M pn_X0_word (Nat.le_of_ble_eq_true rfl) (key _ _ ⟨rfl, rfl, rfl, rfl, rfl⟩)
set_option maxRecDepth 20000 in
set_option maxHeartbeats 2000000 in
theorem c_X0_word_5 (d : Nat) (ad : Nat → Nat) (μ : vx_mem)  : vx_Mf yX0_word cX0_word 1 (some (.object "java/lang/String")) d ad 82 vx_lay μ [.inl 5] (some (vx_r (1000 + 5))) μ := by
  have key : ∀ (Post : vx_P) (ini : Bool), Post (some (vx_r (1000 + 5))) ad 82 vx_lay μ → vx_J RX0 cX0_word 1 (some (.object "java/lang/String")) ini d 0 0 Post ad 0 0 82 vx_lay μ 0 [(0, .inl 5)] [] := by
    intro Post ini hP
    refine vx_iload_n dX0_word_0 rfl ?_
    refine vx_tabOut (tgt := 51) dX0_word_1 (by decide) (by decide) ?_
    refine vx_ldcS (i := 5) dX0_word_51 rfl ?_
    exact vx_aret (ty := "java/lang/String") dX0_word_53 rfl (Nat.le_refl 0) (Nat.le_refl 0) (vx_pst hP rfl rfl)
  exact vx_J.M pn_X0_word (Nat.le_of_ble_eq_true rfl) (key _ _ ⟨rfl, rfl, rfl, rfl, rfl⟩)
def sp_kind (t : Nat → Int32) (p q : Nat) : Int32 := if ¬ sp_isw t p q 0 = 0 then 0 else if ¬ sp_isw t p q 1 = 0 then 1 else if ¬ sp_isw t p q 2 = 0 then 2 else if ¬ sp_isw t p q 3 = 0 then 3 else if ¬ sp_isw t p q 4 = 0 then 4 else if ¬ sp_isw t p q 5 = 0 then 5 else -1
set_option maxRecDepth 20000 in
set_option maxHeartbeats 2000000 in
theorem c_X0_kindOfWord (d : Nat) (hd : 5 ≤ d) (ad : Nat → Nat) (μ : vx_mem) (p e : Nat) (hp : μ 1 2 = nI p) (he : μ 1 3 = nI e) (hpe : p ≤ e) (he3 : e ≤ 300) (q : Nat) (hpq : p ≤ q) (hqe : q ≤ e) : vx_Mf yX0_kindOfWord cX0_kindOfWord 3 (some (.int)) d ad 82 vx_lay μ [vx_r 1, .inl (nI q)] (some (.inl (sp_kind (μ 2) p q))) μ := by
  have key : ∀ (Post : vx_P) (ini : Bool), Post (some (.inl (sp_kind (μ 2) p q))) ad 82 vx_lay μ → vx_J RX0 cX0_kindOfWord 3 (some (.int)) ini d 0 0 Post ad 0 0 82 vx_lay μ 0 [(0, vx_r 1), (1, .inl (nI q))] [] := by
    intro Post ini hP
    refine vx_iconst (v := 0) dX0_kindOfWord_0 (by decide) ?_
    refine vx_istore_n (ls2 := [(2, .inl 0), (0, vx_r 1), (1, .inl (nI q))]) dX0_kindOfWord_1 (by decide) rfl ?_
    refine vx_iload_n dX0_kindOfWord_2 rfl ?_
    refine vx_bipush (v := 6) dX0_kindOfWord_3 (by decide) ?_
    refine vx_icmp_ge (tgt := 28) dX0_kindOfWord_5 (by decide) (fun h => absurd h (by decide)) (fun _ => ?_)
    refine vx_aload_n dX0_kindOfWord_8 rfl ?_
    refine vx_iload_n dX0_kindOfWord_9 rfl ?_
    refine vx_iload_n dX0_kindOfWord_10 rfl ?_
    refine vx_callS (vs := [.inl 0]) (st := [.inl (nI q), vx_r 1]) (r0 := (some (vx_r 1000))) (μ0 := μ) dX0_kindOfWord_11 (c_X0_word_0 (d - 1) ad μ) wd_420 wd_422 wd_47 hy_X0_word wd_421 (by omega) (Nat.le_of_ble_eq_true rfl) (Nat.le_of_ble_eq_true rfl) (Nat.le_refl 0) (Nat.le_refl 0) ?_
    refine vx_eq (μ2 := μ) (ls2 := [(2, .inl 0), (0, vx_r 1), (1, .inl (nI q))]) (st2 := [vx_r 1000, .inl (nI q), vx_r 1]) rfl rfl rfl ?_
    refine vx_callV (b := 1) (vs := [.inl (nI q), vx_r 1000]) (st := []) (r0 := (some (.inl (sp_isw (μ 2) p q 0)))) (μ0 := μ) dX0_kindOfWord_14 (c_X7_isWordUpTo (d - 1) (by omega) ad μ p e hp he hpe he3 q hpq hqe 0 (by decide)) wd_429 wd_432 wd_46 hy_X7_isWordUpTo wd_430 wd_431 (by decide) ly_1 rfl rfl (by omega) (Nat.le_of_ble_eq_true rfl) (Nat.le_of_ble_eq_true rfl) (Nat.le_refl 0) (Nat.le_refl 0) ?_
    refine vx_eq (μ2 := μ) (ls2 := [(2, .inl 0), (0, vx_r 1), (1, .inl (nI q))]) (st2 := [.inl (sp_isw (μ 2) p q 0)]) rfl rfl rfl ?_
    refine vx_if_eq (tgt := 22) dX0_kindOfWord_17 (by decide) (fun c_17 => ?_) (fun c_17 => ?_)
    · have k0 := c_17
      refine vx_iinc (v := 1) (ls2 := [(2, .inl 1), (0, vx_r 1), (1, .inl (nI q))]) dX0_kindOfWord_22 rfl (by decide) (by decide) rfl ?_
      refine vx_goto (tgt := 2) dX0_kindOfWord_25 (by decide) ?_
      refine vx_iload_n dX0_kindOfWord_2 rfl ?_
      refine vx_bipush (v := 6) dX0_kindOfWord_3 (by decide) ?_
      refine vx_icmp_ge (tgt := 28) dX0_kindOfWord_5 (by decide) (fun h => absurd h (by decide)) (fun _ => ?_)
      refine vx_aload_n dX0_kindOfWord_8 rfl ?_
      refine vx_iload_n dX0_kindOfWord_9 rfl ?_
      refine vx_iload_n dX0_kindOfWord_10 rfl ?_
      refine vx_callS (vs := [.inl 1]) (st := [.inl (nI q), vx_r 1]) (r0 := (some (vx_r 1001))) (μ0 := μ) dX0_kindOfWord_11 (c_X0_word_1 (d - 1) ad μ) wd_420 wd_422 wd_47 hy_X0_word wd_421 (by omega) (Nat.le_of_ble_eq_true rfl) (Nat.le_of_ble_eq_true rfl) (Nat.le_refl 0) (Nat.le_refl 0) ?_
      refine vx_eq (μ2 := μ) (ls2 := [(2, .inl 1), (0, vx_r 1), (1, .inl (nI q))]) (st2 := [vx_r 1001, .inl (nI q), vx_r 1]) rfl rfl rfl ?_
      refine vx_callV (b := 1) (vs := [.inl (nI q), vx_r 1001]) (st := []) (r0 := (some (.inl (sp_isw (μ 2) p q 1)))) (μ0 := μ) dX0_kindOfWord_14 (c_X7_isWordUpTo (d - 1) (by omega) ad μ p e hp he hpe he3 q hpq hqe 1 (by decide)) wd_429 wd_432 wd_46 hy_X7_isWordUpTo wd_430 wd_431 (by decide) ly_1 rfl rfl (by omega) (Nat.le_of_ble_eq_true rfl) (Nat.le_of_ble_eq_true rfl) (Nat.le_refl 0) (Nat.le_refl 0) ?_
      refine vx_eq (μ2 := μ) (ls2 := [(2, .inl 1), (0, vx_r 1), (1, .inl (nI q))]) (st2 := [.inl (sp_isw (μ 2) p q 1)]) rfl rfl rfl ?_
      refine vx_if_eq (tgt := 22) dX0_kindOfWord_17 (by decide) (fun c_17_1 => ?_) (fun c_17_1 => ?_)
      · have k1 := c_17_1
        refine vx_iinc (v := 2) (ls2 := [(2, .inl 2), (0, vx_r 1), (1, .inl (nI q))]) dX0_kindOfWord_22 rfl (by decide) (by decide) rfl ?_
        refine vx_goto (tgt := 2) dX0_kindOfWord_25 (by decide) ?_
        refine vx_iload_n dX0_kindOfWord_2 rfl ?_
        refine vx_bipush (v := 6) dX0_kindOfWord_3 (by decide) ?_
        refine vx_icmp_ge (tgt := 28) dX0_kindOfWord_5 (by decide) (fun h => absurd h (by decide)) (fun _ => ?_)
        refine vx_aload_n dX0_kindOfWord_8 rfl ?_
        refine vx_iload_n dX0_kindOfWord_9 rfl ?_
        refine vx_iload_n dX0_kindOfWord_10 rfl ?_
        refine vx_callS (vs := [.inl 2]) (st := [.inl (nI q), vx_r 1]) (r0 := (some (vx_r 1002))) (μ0 := μ) dX0_kindOfWord_11 (c_X0_word_2 (d - 1) ad μ) wd_420 wd_422 wd_47 hy_X0_word wd_421 (by omega) (Nat.le_of_ble_eq_true rfl) (Nat.le_of_ble_eq_true rfl) (Nat.le_refl 0) (Nat.le_refl 0) ?_
        refine vx_eq (μ2 := μ) (ls2 := [(2, .inl 2), (0, vx_r 1), (1, .inl (nI q))]) (st2 := [vx_r 1002, .inl (nI q), vx_r 1]) rfl rfl rfl ?_
        refine vx_callV (b := 1) (vs := [.inl (nI q), vx_r 1002]) (st := []) (r0 := (some (.inl (sp_isw (μ 2) p q 2)))) (μ0 := μ) dX0_kindOfWord_14 (c_X7_isWordUpTo (d - 1) (by omega) ad μ p e hp he hpe he3 q hpq hqe 2 (by decide)) wd_429 wd_432 wd_46 hy_X7_isWordUpTo wd_430 wd_431 (by decide) ly_1 rfl rfl (by omega) (Nat.le_of_ble_eq_true rfl) (Nat.le_of_ble_eq_true rfl) (Nat.le_refl 0) (Nat.le_refl 0) ?_
        refine vx_eq (μ2 := μ) (ls2 := [(2, .inl 2), (0, vx_r 1), (1, .inl (nI q))]) (st2 := [.inl (sp_isw (μ 2) p q 2)]) rfl rfl rfl ?_
        refine vx_if_eq (tgt := 22) dX0_kindOfWord_17 (by decide) (fun c_17_2 => ?_) (fun c_17_2 => ?_)
        · have k2 := c_17_2
          refine vx_iinc (v := 3) (ls2 := [(2, .inl 3), (0, vx_r 1), (1, .inl (nI q))]) dX0_kindOfWord_22 rfl (by decide) (by decide) rfl ?_
          refine vx_goto (tgt := 2) dX0_kindOfWord_25 (by decide) ?_
          refine vx_iload_n dX0_kindOfWord_2 rfl ?_
          refine vx_bipush (v := 6) dX0_kindOfWord_3 (by decide) ?_
          refine vx_icmp_ge (tgt := 28) dX0_kindOfWord_5 (by decide) (fun h => absurd h (by decide)) (fun _ => ?_)
          refine vx_aload_n dX0_kindOfWord_8 rfl ?_
          refine vx_iload_n dX0_kindOfWord_9 rfl ?_
          refine vx_iload_n dX0_kindOfWord_10 rfl ?_
          refine vx_callS (vs := [.inl 3]) (st := [.inl (nI q), vx_r 1]) (r0 := (some (vx_r 1003))) (μ0 := μ) dX0_kindOfWord_11 (c_X0_word_3 (d - 1) ad μ) wd_420 wd_422 wd_47 hy_X0_word wd_421 (by omega) (Nat.le_of_ble_eq_true rfl) (Nat.le_of_ble_eq_true rfl) (Nat.le_refl 0) (Nat.le_refl 0) ?_
          refine vx_eq (μ2 := μ) (ls2 := [(2, .inl 3), (0, vx_r 1), (1, .inl (nI q))]) (st2 := [vx_r 1003, .inl (nI q), vx_r 1]) rfl rfl rfl ?_
          refine vx_callV (b := 1) (vs := [.inl (nI q), vx_r 1003]) (st := []) (r0 := (some (.inl (sp_isw (μ 2) p q 3)))) (μ0 := μ) dX0_kindOfWord_14 (c_X7_isWordUpTo (d - 1) (by omega) ad μ p e hp he hpe he3 q hpq hqe 3 (by decide)) wd_429 wd_432 wd_46 hy_X7_isWordUpTo wd_430 wd_431 (by decide) ly_1 rfl rfl (by omega) (Nat.le_of_ble_eq_true rfl) (Nat.le_of_ble_eq_true rfl) (Nat.le_refl 0) (Nat.le_refl 0) ?_
          refine vx_eq (μ2 := μ) (ls2 := [(2, .inl 3), (0, vx_r 1), (1, .inl (nI q))]) (st2 := [.inl (sp_isw (μ 2) p q 3)]) rfl rfl rfl ?_
          refine vx_if_eq (tgt := 22) dX0_kindOfWord_17 (by decide) (fun c_17_3 => ?_) (fun c_17_3 => ?_)
          · have k3 := c_17_3
            refine vx_iinc (v := 4) (ls2 := [(2, .inl 4), (0, vx_r 1), (1, .inl (nI q))]) dX0_kindOfWord_22 rfl (by decide) (by decide) rfl ?_
            refine vx_goto (tgt := 2) dX0_kindOfWord_25 (by decide) ?_
            refine vx_iload_n dX0_kindOfWord_2 rfl ?_
            refine vx_bipush (v := 6) dX0_kindOfWord_3 (by decide) ?_
            refine vx_icmp_ge (tgt := 28) dX0_kindOfWord_5 (by decide) (fun h => absurd h (by decide)) (fun _ => ?_)
            refine vx_aload_n dX0_kindOfWord_8 rfl ?_
            refine vx_iload_n dX0_kindOfWord_9 rfl ?_
            refine vx_iload_n dX0_kindOfWord_10 rfl ?_
            refine vx_callS (vs := [.inl 4]) (st := [.inl (nI q), vx_r 1]) (r0 := (some (vx_r 1004))) (μ0 := μ) dX0_kindOfWord_11 (c_X0_word_4 (d - 1) ad μ) wd_420 wd_422 wd_47 hy_X0_word wd_421 (by omega) (Nat.le_of_ble_eq_true rfl) (Nat.le_of_ble_eq_true rfl) (Nat.le_refl 0) (Nat.le_refl 0) ?_
            refine vx_eq (μ2 := μ) (ls2 := [(2, .inl 4), (0, vx_r 1), (1, .inl (nI q))]) (st2 := [vx_r 1004, .inl (nI q), vx_r 1]) rfl rfl rfl ?_
            refine vx_callV (b := 1) (vs := [.inl (nI q), vx_r 1004]) (st := []) (r0 := (some (.inl (sp_isw (μ 2) p q 4)))) (μ0 := μ) dX0_kindOfWord_14 (c_X7_isWordUpTo (d - 1) (by omega) ad μ p e hp he hpe he3 q hpq hqe 4 (by decide)) wd_429 wd_432 wd_46 hy_X7_isWordUpTo wd_430 wd_431 (by decide) ly_1 rfl rfl (by omega) (Nat.le_of_ble_eq_true rfl) (Nat.le_of_ble_eq_true rfl) (Nat.le_refl 0) (Nat.le_refl 0) ?_
            refine vx_eq (μ2 := μ) (ls2 := [(2, .inl 4), (0, vx_r 1), (1, .inl (nI q))]) (st2 := [.inl (sp_isw (μ 2) p q 4)]) rfl rfl rfl ?_
            refine vx_if_eq (tgt := 22) dX0_kindOfWord_17 (by decide) (fun c_17_4 => ?_) (fun c_17_4 => ?_)
            · have k4 := c_17_4
              refine vx_iinc (v := 5) (ls2 := [(2, .inl 5), (0, vx_r 1), (1, .inl (nI q))]) dX0_kindOfWord_22 rfl (by decide) (by decide) rfl ?_
              refine vx_goto (tgt := 2) dX0_kindOfWord_25 (by decide) ?_
              refine vx_iload_n dX0_kindOfWord_2 rfl ?_
              refine vx_bipush (v := 6) dX0_kindOfWord_3 (by decide) ?_
              refine vx_icmp_ge (tgt := 28) dX0_kindOfWord_5 (by decide) (fun h => absurd h (by decide)) (fun _ => ?_)
              refine vx_aload_n dX0_kindOfWord_8 rfl ?_
              refine vx_iload_n dX0_kindOfWord_9 rfl ?_
              refine vx_iload_n dX0_kindOfWord_10 rfl ?_
              refine vx_callS (vs := [.inl 5]) (st := [.inl (nI q), vx_r 1]) (r0 := (some (vx_r 1005))) (μ0 := μ) dX0_kindOfWord_11 (c_X0_word_5 (d - 1) ad μ) wd_420 wd_422 wd_47 hy_X0_word wd_421 (by omega) (Nat.le_of_ble_eq_true rfl) (Nat.le_of_ble_eq_true rfl) (Nat.le_refl 0) (Nat.le_refl 0) ?_
              refine vx_eq (μ2 := μ) (ls2 := [(2, .inl 5), (0, vx_r 1), (1, .inl (nI q))]) (st2 := [vx_r 1005, .inl (nI q), vx_r 1]) rfl rfl rfl ?_
              refine vx_callV (b := 1) (vs := [.inl (nI q), vx_r 1005]) (st := []) (r0 := (some (.inl (sp_isw (μ 2) p q 5)))) (μ0 := μ) dX0_kindOfWord_14 (c_X7_isWordUpTo (d - 1) (by omega) ad μ p e hp he hpe he3 q hpq hqe 5 (by decide)) wd_429 wd_432 wd_46 hy_X7_isWordUpTo wd_430 wd_431 (by decide) ly_1 rfl rfl (by omega) (Nat.le_of_ble_eq_true rfl) (Nat.le_of_ble_eq_true rfl) (Nat.le_refl 0) (Nat.le_refl 0) ?_
              refine vx_eq (μ2 := μ) (ls2 := [(2, .inl 5), (0, vx_r 1), (1, .inl (nI q))]) (st2 := [.inl (sp_isw (μ 2) p q 5)]) rfl rfl rfl ?_
              refine vx_if_eq (tgt := 22) dX0_kindOfWord_17 (by decide) (fun c_17_5 => ?_) (fun c_17_5 => ?_)
              · have k5 := c_17_5
                refine vx_iinc (v := 6) (ls2 := [(2, .inl 6), (0, vx_r 1), (1, .inl (nI q))]) dX0_kindOfWord_22 rfl (by decide) (by decide) rfl ?_
                refine vx_goto (tgt := 2) dX0_kindOfWord_25 (by decide) ?_
                refine vx_iload_n dX0_kindOfWord_2 rfl ?_
                refine vx_bipush (v := 6) dX0_kindOfWord_3 (by decide) ?_
                refine vx_icmp_ge (tgt := 28) dX0_kindOfWord_5 (by decide) (fun _ => ?_) (fun h => absurd h (by decide))
                refine vx_iconst (v := (-1)) dX0_kindOfWord_28 (by decide) ?_
                exact vx_ret (ty := .int) dX0_kindOfWord_29 rfl rfl (Nat.le_refl 0) (Nat.le_refl 0) (vx_pst hP (by unfold sp_kind; rw [if_neg (fun h => h k0), if_neg (fun h => h k1), if_neg (fun h => h k2), if_neg (fun h => h k3), if_neg (fun h => h k4), if_neg (fun h => h k5)]) rfl)
              · have k5 := c_17_5
                refine vx_iload_n dX0_kindOfWord_20 rfl ?_
                exact vx_ret (ty := .int) dX0_kindOfWord_21 rfl rfl (Nat.le_refl 0) (Nat.le_refl 0) (vx_pst hP (by unfold sp_kind; rw [if_neg (fun h => h k0), if_neg (fun h => h k1), if_neg (fun h => h k2), if_neg (fun h => h k3), if_neg (fun h => h k4), if_pos k5]) rfl)
            · have k4 := c_17_4
              refine vx_iload_n dX0_kindOfWord_20 rfl ?_
              exact vx_ret (ty := .int) dX0_kindOfWord_21 rfl rfl (Nat.le_refl 0) (Nat.le_refl 0) (vx_pst hP (by unfold sp_kind; rw [if_neg (fun h => h k0), if_neg (fun h => h k1), if_neg (fun h => h k2), if_neg (fun h => h k3), if_pos k4]) rfl)
          · have k3 := c_17_3
            refine vx_iload_n dX0_kindOfWord_20 rfl ?_
            exact vx_ret (ty := .int) dX0_kindOfWord_21 rfl rfl (Nat.le_refl 0) (Nat.le_refl 0) (vx_pst hP (by unfold sp_kind; rw [if_neg (fun h => h k0), if_neg (fun h => h k1), if_neg (fun h => h k2), if_pos k3]) rfl)
        · have k2 := c_17_2
          refine vx_iload_n dX0_kindOfWord_20 rfl ?_
          exact vx_ret (ty := .int) dX0_kindOfWord_21 rfl rfl (Nat.le_refl 0) (Nat.le_refl 0) (vx_pst hP (by unfold sp_kind; rw [if_neg (fun h => h k0), if_neg (fun h => h k1), if_pos k2]) rfl)
      · have k1 := c_17_1
        refine vx_iload_n dX0_kindOfWord_20 rfl ?_
        exact vx_ret (ty := .int) dX0_kindOfWord_21 rfl rfl (Nat.le_refl 0) (Nat.le_refl 0) (vx_pst hP (by unfold sp_kind; rw [if_neg (fun h => h k0), if_pos k1]) rfl)
    · have k0 := c_17
      refine vx_iload_n dX0_kindOfWord_20 rfl ?_
      exact vx_ret (ty := .int) dX0_kindOfWord_21 rfl rfl (Nat.le_refl 0) (Nat.le_refl 0) (vx_pst hP (by unfold sp_kind; rw [if_pos k0]) rfl)
  exact vx_J.M pn_X0_kindOfWord (Nat.le_of_ble_eq_true rfl) (key _ _ ⟨rfl, rfl, rfl, rfl, rfl⟩)
set_option maxRecDepth 20000 in
set_option maxHeartbeats 2000000 in
theorem c_X0_fails (d : Nat) (ad : Nat → Nat) (μ : vx_mem) (a b : Int32) : vx_Mf yX0_fails cX0_fails 3 (some (.boolean)) d ad 82 vx_lay μ [vx_r 3, .inl a, .inl b] (some (.inl 0)) (va_up μ 3 (upd (upd (μ 3) 2 a) 3 b)) := by
  have key : ∀ (Post : vx_P) (ini : Bool), Post (some (.inl 0)) ad 82 vx_lay (va_up μ 3 (upd (upd (μ 3) 2 a) 3 b)) → vx_J RX0 cX0_fails 3 (some (.boolean)) ini d 0 0 Post ad 0 0 82 vx_lay μ 0 [(0, vx_r 3), (1, .inl a), (2, .inl b)] [] := by
    intro Post ini hP
    refine vx_aload_n dX0_fails_0 rfl ?_
    refine vx_iload_n dX0_fails_1 rfl ?_
    refine vx_putI (ci := 0) (T := TX0) (n := 4) (j := 2) (a := 3) (ty := .int) (μ2 := (va_up μ 3 (upd (μ 3) 2 a))) dX0_fails_2 rfl lay_X0 tyX0_ok nmX0 (by decide) wd_114 rfl rfl rfl rfl (by decide) ly_3 rfl rfl ?_
    refine vx_aload_n dX0_fails_5 rfl ?_
    refine vx_iload_n dX0_fails_6 rfl ?_
    refine vx_putI (ci := 0) (T := TX0) (n := 4) (j := 3) (a := 3) (ty := .int) (μ2 := (va_up μ 3 (upd (upd (μ 3) 2 a) 3 b))) dX0_fails_7 rfl lay_X0 tyX0_ok nmX0 (by decide) wd_116 rfl rfl rfl rfl (by decide) ly_3 rfl vx_m1 ?_
    refine vx_iconst (v := 0) dX0_fails_10 (by decide) ?_
    exact vx_ret (ty := .boolean) dX0_fails_11 rfl rfl (Nat.le_refl 0) (Nat.le_refl 0) (vx_pst hP rfl rfl)
  exact vx_J.M pn_X0_fails (Nat.le_of_ble_eq_true rfl) (key _ _ ⟨rfl, rfl, rfl, rfl, rfl⟩)
def sp_no (f : Nat → Int32) : Nat → Int32 := upd (upd (upd (upd (upd (upd f 0 (-1)) 1 (-1)) 2 (-1)) 3 (-1)) 4 (-1)) 5 (-1)
set_option maxRecDepth 20000 in
set_option maxHeartbeats 2000000 in
theorem c_X0_forgetTold (d : Nat) (hd : 1 ≤ d) (ad : Nat → Nat) (N : Nat) (Λ : vx_L) (μ : vx_mem) (h3 : 3 < N) (k3 : Λ 3 = (.inl (0, [some (some 4), some (some 5), none, none]))) (h4 : 4 < N) (k4 : Λ 4 = (.inr (0, 6, none))) (h5 : 5 < N) (k5 : Λ 5 = (.inr (0, 6, none))) : vx_Mf yX0_forgetTold cX0_forgetTold 2 none d ad N Λ μ [vx_r 3] none (va_up (va_up μ 3 (upd (upd (μ 3) 2 0) 3 (-1))) 5 (sp_no (μ 5))) := by
  have key : ∀ (Post : vx_P) (ini : Bool), Post none ad N Λ (va_up (va_up μ 3 (upd (upd (μ 3) 2 0) 3 (-1))) 5 (sp_no (μ 5))) → vx_J RX0 cX0_forgetTold 2 none ini d 0 0 Post ad 0 0 N Λ μ 0 [(0, vx_r 3)] [] := by
    intro Post ini hP
    refine vx_aload_n dX0_forgetTold_0 rfl ?_
    refine vx_iconst (v := 0) dX0_forgetTold_1 (by decide) ?_
    refine vx_putI (ci := 0) (T := TX0) (n := 4) (j := 2) (a := 3) (ty := .int) (μ2 := (va_up μ 3 (upd (μ 3) 2 0))) dX0_forgetTold_2 rfl lay_X0 tyX0_ok nmX0 (by decide) wd_114 rfl rfl rfl rfl h3 k3 rfl rfl ?_
    refine vx_aload_n dX0_forgetTold_5 rfl ?_
    refine vx_iconst (v := (-1)) dX0_forgetTold_6 (by decide) ?_
    refine vx_putI (ci := 0) (T := TX0) (n := 4) (j := 3) (a := 3) (ty := .int) (μ2 := (va_up μ 3 (upd (upd (μ 3) 2 0) 3 (-1)))) dX0_forgetTold_7 rfl lay_X0 tyX0_ok nmX0 (by decide) wd_116 rfl rfl rfl rfl h3 k3 rfl vx_m1 ?_
    refine vx_iconst (v := 0) dX0_forgetTold_10 (by decide) ?_
    refine vx_istore_n (ls2 := [(1, .inl 0), (0, vx_r 3)]) dX0_forgetTold_11 (by decide) rfl ?_
    refine vx_iload_n dX0_forgetTold_12 rfl ?_
    refine vx_bipush (v := 6) dX0_forgetTold_13 (by decide) ?_
    refine vx_icmp_ge (tgt := 33) dX0_forgetTold_15 (by decide) (fun h => absurd h (by decide)) (fun _ => ?_)
    refine vx_aload_n dX0_forgetTold_18 rfl ?_
    refine vx_getR (ci := 0) (T := TX0) (n := 4) (j := 1) (a := 3) (r := 5) dX0_forgetTold_19 rfl lay_X0 (by decide) wd_113 h3 k3 rfl ?_
    refine vx_iload_n dX0_forgetTold_22 rfl ?_
    refine vx_iconst (v := (-1)) dX0_forgetTold_23 (by decide) ?_
    refine vx_callX (vs := [vx_r 5, .inl 0, .inl (-1)]) (st := []) (r0 := none) (μ0 := (va_up (va_up μ 3 (upd (upd (μ 3) 2 0) 3 (-1))) 5 (upd (μ 5) 0 (-1)))) dX0_forgetTold_24 ((c_X8_put (d - 1) ad N Λ (va_up μ 3 (upd (upd (μ 3) 2 0) 3 (-1))) 5 6 h5 k5 (by decide) 0 (-1)).to rfl (congrArg (fun z => va_up (va_up μ 3 (upd (upd (μ 3) 2 0) 3 (-1))) 5 z) (sp_put_nI (k := 0) _ _ (by omega) (by decide)))) nst_0 wd_102 wd_45 hy_X8_put wd_101 (by omega) (Nat.le_of_ble_eq_true rfl) (Nat.le_of_ble_eq_true rfl) (Nat.le_refl 0) (Nat.le_refl 0) ?_
    refine vx_eq (μ2 := (va_up (va_up μ 3 (upd (upd (μ 3) 2 0) 3 (-1))) 5 (upd (μ 5) 0 (-1)))) (ls2 := [(1, .inl 0), (0, vx_r 3)]) (st2 := []) rfl rfl rfl ?_
    refine vx_iinc (v := 1) (ls2 := [(1, .inl 1), (0, vx_r 3)]) dX0_forgetTold_27 rfl (by decide) (by decide) rfl ?_
    refine vx_goto (tgt := 12) dX0_forgetTold_30 (by decide) ?_
    refine vx_iload_n dX0_forgetTold_12 rfl ?_
    refine vx_bipush (v := 6) dX0_forgetTold_13 (by decide) ?_
    refine vx_icmp_ge (tgt := 33) dX0_forgetTold_15 (by decide) (fun h => absurd h (by decide)) (fun _ => ?_)
    refine vx_aload_n dX0_forgetTold_18 rfl ?_
    refine vx_getR (ci := 0) (T := TX0) (n := 4) (j := 1) (a := 3) (r := 5) dX0_forgetTold_19 rfl lay_X0 (by decide) wd_113 h3 k3 rfl ?_
    refine vx_iload_n dX0_forgetTold_22 rfl ?_
    refine vx_iconst (v := (-1)) dX0_forgetTold_23 (by decide) ?_
    refine vx_callX (vs := [vx_r 5, .inl 1, .inl (-1)]) (st := []) (r0 := none) (μ0 := (va_up (va_up μ 3 (upd (upd (μ 3) 2 0) 3 (-1))) 5 (upd (upd (μ 5) 0 (-1)) 1 (-1)))) dX0_forgetTold_24 (((c_X8_put (d - 1) ad N Λ (va_up (va_up μ 3 (upd (upd (μ 3) 2 0) 3 (-1))) 5 (upd (μ 5) 0 (-1))) 5 6 h5 k5 (by decide) 1 (-1)).to rfl (congrArg (fun z => va_up (va_up (va_up μ 3 (upd (upd (μ 3) 2 0) 3 (-1))) 5 (upd (μ 5) 0 (-1))) 5 z) (sp_put_nI (k := 1) _ _ (by omega) (by decide)))).to rfl vx_m1) nst_0 wd_102 wd_45 hy_X8_put wd_101 (by omega) (Nat.le_of_ble_eq_true rfl) (Nat.le_of_ble_eq_true rfl) (Nat.le_refl 0) (Nat.le_refl 0) ?_
    refine vx_eq (μ2 := (va_up (va_up μ 3 (upd (upd (μ 3) 2 0) 3 (-1))) 5 (upd (upd (μ 5) 0 (-1)) 1 (-1)))) (ls2 := [(1, .inl 1), (0, vx_r 3)]) (st2 := []) rfl rfl rfl ?_
    refine vx_iinc (v := 2) (ls2 := [(1, .inl 2), (0, vx_r 3)]) dX0_forgetTold_27 rfl (by decide) (by decide) rfl ?_
    refine vx_goto (tgt := 12) dX0_forgetTold_30 (by decide) ?_
    refine vx_iload_n dX0_forgetTold_12 rfl ?_
    refine vx_bipush (v := 6) dX0_forgetTold_13 (by decide) ?_
    refine vx_icmp_ge (tgt := 33) dX0_forgetTold_15 (by decide) (fun h => absurd h (by decide)) (fun _ => ?_)
    refine vx_aload_n dX0_forgetTold_18 rfl ?_
    refine vx_getR (ci := 0) (T := TX0) (n := 4) (j := 1) (a := 3) (r := 5) dX0_forgetTold_19 rfl lay_X0 (by decide) wd_113 h3 k3 rfl ?_
    refine vx_iload_n dX0_forgetTold_22 rfl ?_
    refine vx_iconst (v := (-1)) dX0_forgetTold_23 (by decide) ?_
    refine vx_callX (vs := [vx_r 5, .inl 2, .inl (-1)]) (st := []) (r0 := none) (μ0 := (va_up (va_up μ 3 (upd (upd (μ 3) 2 0) 3 (-1))) 5 (upd (upd (upd (μ 5) 0 (-1)) 1 (-1)) 2 (-1)))) dX0_forgetTold_24 (((c_X8_put (d - 1) ad N Λ (va_up (va_up μ 3 (upd (upd (μ 3) 2 0) 3 (-1))) 5 (upd (upd (μ 5) 0 (-1)) 1 (-1))) 5 6 h5 k5 (by decide) 2 (-1)).to rfl (congrArg (fun z => va_up (va_up (va_up μ 3 (upd (upd (μ 3) 2 0) 3 (-1))) 5 (upd (upd (μ 5) 0 (-1)) 1 (-1))) 5 z) (sp_put_nI (k := 2) _ _ (by omega) (by decide)))).to rfl vx_m1) nst_0 wd_102 wd_45 hy_X8_put wd_101 (by omega) (Nat.le_of_ble_eq_true rfl) (Nat.le_of_ble_eq_true rfl) (Nat.le_refl 0) (Nat.le_refl 0) ?_
    refine vx_eq (μ2 := (va_up (va_up μ 3 (upd (upd (μ 3) 2 0) 3 (-1))) 5 (upd (upd (upd (μ 5) 0 (-1)) 1 (-1)) 2 (-1)))) (ls2 := [(1, .inl 2), (0, vx_r 3)]) (st2 := []) rfl rfl rfl ?_
    refine vx_iinc (v := 3) (ls2 := [(1, .inl 3), (0, vx_r 3)]) dX0_forgetTold_27 rfl (by decide) (by decide) rfl ?_
    refine vx_goto (tgt := 12) dX0_forgetTold_30 (by decide) ?_
    refine vx_iload_n dX0_forgetTold_12 rfl ?_
    refine vx_bipush (v := 6) dX0_forgetTold_13 (by decide) ?_
    refine vx_icmp_ge (tgt := 33) dX0_forgetTold_15 (by decide) (fun h => absurd h (by decide)) (fun _ => ?_)
    refine vx_aload_n dX0_forgetTold_18 rfl ?_
    refine vx_getR (ci := 0) (T := TX0) (n := 4) (j := 1) (a := 3) (r := 5) dX0_forgetTold_19 rfl lay_X0 (by decide) wd_113 h3 k3 rfl ?_
    refine vx_iload_n dX0_forgetTold_22 rfl ?_
    refine vx_iconst (v := (-1)) dX0_forgetTold_23 (by decide) ?_
    refine vx_callX (vs := [vx_r 5, .inl 3, .inl (-1)]) (st := []) (r0 := none) (μ0 := (va_up (va_up μ 3 (upd (upd (μ 3) 2 0) 3 (-1))) 5 (upd (upd (upd (upd (μ 5) 0 (-1)) 1 (-1)) 2 (-1)) 3 (-1)))) dX0_forgetTold_24 (((c_X8_put (d - 1) ad N Λ (va_up (va_up μ 3 (upd (upd (μ 3) 2 0) 3 (-1))) 5 (upd (upd (upd (μ 5) 0 (-1)) 1 (-1)) 2 (-1))) 5 6 h5 k5 (by decide) 3 (-1)).to rfl (congrArg (fun z => va_up (va_up (va_up μ 3 (upd (upd (μ 3) 2 0) 3 (-1))) 5 (upd (upd (upd (μ 5) 0 (-1)) 1 (-1)) 2 (-1))) 5 z) (sp_put_nI (k := 3) _ _ (by omega) (by decide)))).to rfl vx_m1) nst_0 wd_102 wd_45 hy_X8_put wd_101 (by omega) (Nat.le_of_ble_eq_true rfl) (Nat.le_of_ble_eq_true rfl) (Nat.le_refl 0) (Nat.le_refl 0) ?_
    refine vx_eq (μ2 := (va_up (va_up μ 3 (upd (upd (μ 3) 2 0) 3 (-1))) 5 (upd (upd (upd (upd (μ 5) 0 (-1)) 1 (-1)) 2 (-1)) 3 (-1)))) (ls2 := [(1, .inl 3), (0, vx_r 3)]) (st2 := []) rfl rfl rfl ?_
    refine vx_iinc (v := 4) (ls2 := [(1, .inl 4), (0, vx_r 3)]) dX0_forgetTold_27 rfl (by decide) (by decide) rfl ?_
    refine vx_goto (tgt := 12) dX0_forgetTold_30 (by decide) ?_
    refine vx_iload_n dX0_forgetTold_12 rfl ?_
    refine vx_bipush (v := 6) dX0_forgetTold_13 (by decide) ?_
    refine vx_icmp_ge (tgt := 33) dX0_forgetTold_15 (by decide) (fun h => absurd h (by decide)) (fun _ => ?_)
    refine vx_aload_n dX0_forgetTold_18 rfl ?_
    refine vx_getR (ci := 0) (T := TX0) (n := 4) (j := 1) (a := 3) (r := 5) dX0_forgetTold_19 rfl lay_X0 (by decide) wd_113 h3 k3 rfl ?_
    refine vx_iload_n dX0_forgetTold_22 rfl ?_
    refine vx_iconst (v := (-1)) dX0_forgetTold_23 (by decide) ?_
    refine vx_callX (vs := [vx_r 5, .inl 4, .inl (-1)]) (st := []) (r0 := none) (μ0 := (va_up (va_up μ 3 (upd (upd (μ 3) 2 0) 3 (-1))) 5 (upd (upd (upd (upd (upd (μ 5) 0 (-1)) 1 (-1)) 2 (-1)) 3 (-1)) 4 (-1)))) dX0_forgetTold_24 (((c_X8_put (d - 1) ad N Λ (va_up (va_up μ 3 (upd (upd (μ 3) 2 0) 3 (-1))) 5 (upd (upd (upd (upd (μ 5) 0 (-1)) 1 (-1)) 2 (-1)) 3 (-1))) 5 6 h5 k5 (by decide) 4 (-1)).to rfl (congrArg (fun z => va_up (va_up (va_up μ 3 (upd (upd (μ 3) 2 0) 3 (-1))) 5 (upd (upd (upd (upd (μ 5) 0 (-1)) 1 (-1)) 2 (-1)) 3 (-1))) 5 z) (sp_put_nI (k := 4) _ _ (by omega) (by decide)))).to rfl vx_m1) nst_0 wd_102 wd_45 hy_X8_put wd_101 (by omega) (Nat.le_of_ble_eq_true rfl) (Nat.le_of_ble_eq_true rfl) (Nat.le_refl 0) (Nat.le_refl 0) ?_
    refine vx_eq (μ2 := (va_up (va_up μ 3 (upd (upd (μ 3) 2 0) 3 (-1))) 5 (upd (upd (upd (upd (upd (μ 5) 0 (-1)) 1 (-1)) 2 (-1)) 3 (-1)) 4 (-1)))) (ls2 := [(1, .inl 4), (0, vx_r 3)]) (st2 := []) rfl rfl rfl ?_
    refine vx_iinc (v := 5) (ls2 := [(1, .inl 5), (0, vx_r 3)]) dX0_forgetTold_27 rfl (by decide) (by decide) rfl ?_
    refine vx_goto (tgt := 12) dX0_forgetTold_30 (by decide) ?_
    refine vx_iload_n dX0_forgetTold_12 rfl ?_
    refine vx_bipush (v := 6) dX0_forgetTold_13 (by decide) ?_
    refine vx_icmp_ge (tgt := 33) dX0_forgetTold_15 (by decide) (fun h => absurd h (by decide)) (fun _ => ?_)
    refine vx_aload_n dX0_forgetTold_18 rfl ?_
    refine vx_getR (ci := 0) (T := TX0) (n := 4) (j := 1) (a := 3) (r := 5) dX0_forgetTold_19 rfl lay_X0 (by decide) wd_113 h3 k3 rfl ?_
    refine vx_iload_n dX0_forgetTold_22 rfl ?_
    refine vx_iconst (v := (-1)) dX0_forgetTold_23 (by decide) ?_
    refine vx_callX (vs := [vx_r 5, .inl 5, .inl (-1)]) (st := []) (r0 := none) (μ0 := (va_up (va_up μ 3 (upd (upd (μ 3) 2 0) 3 (-1))) 5 (upd (upd (upd (upd (upd (upd (μ 5) 0 (-1)) 1 (-1)) 2 (-1)) 3 (-1)) 4 (-1)) 5 (-1)))) dX0_forgetTold_24 (((c_X8_put (d - 1) ad N Λ (va_up (va_up μ 3 (upd (upd (μ 3) 2 0) 3 (-1))) 5 (upd (upd (upd (upd (upd (μ 5) 0 (-1)) 1 (-1)) 2 (-1)) 3 (-1)) 4 (-1))) 5 6 h5 k5 (by decide) 5 (-1)).to rfl (congrArg (fun z => va_up (va_up (va_up μ 3 (upd (upd (μ 3) 2 0) 3 (-1))) 5 (upd (upd (upd (upd (upd (μ 5) 0 (-1)) 1 (-1)) 2 (-1)) 3 (-1)) 4 (-1))) 5 z) (sp_put_nI (k := 5) _ _ (by omega) (by decide)))).to rfl vx_m1) nst_0 wd_102 wd_45 hy_X8_put wd_101 (by omega) (Nat.le_of_ble_eq_true rfl) (Nat.le_of_ble_eq_true rfl) (Nat.le_refl 0) (Nat.le_refl 0) ?_
    refine vx_eq (μ2 := (va_up (va_up μ 3 (upd (upd (μ 3) 2 0) 3 (-1))) 5 (upd (upd (upd (upd (upd (upd (μ 5) 0 (-1)) 1 (-1)) 2 (-1)) 3 (-1)) 4 (-1)) 5 (-1)))) (ls2 := [(1, .inl 5), (0, vx_r 3)]) (st2 := []) rfl rfl rfl ?_
    refine vx_iinc (v := 6) (ls2 := [(1, .inl 6), (0, vx_r 3)]) dX0_forgetTold_27 rfl (by decide) (by decide) rfl ?_
    refine vx_goto (tgt := 12) dX0_forgetTold_30 (by decide) ?_
    refine vx_iload_n dX0_forgetTold_12 rfl ?_
    refine vx_bipush (v := 6) dX0_forgetTold_13 (by decide) ?_
    refine vx_icmp_ge (tgt := 33) dX0_forgetTold_15 (by decide) (fun _ => ?_) (fun h => absurd h (by decide))
    exact vx_vret dX0_forgetTold_33 rfl (Nat.le_refl 0) (Nat.le_refl 0) (vx_pst hP rfl rfl)
  exact vx_J.M pn_X0_forgetTold (Nat.le_of_ble_eq_true rfl) (key _ _ ⟨rfl, rfl, rfl, rfl, rfl⟩)
def sp_pif (f told : Nat → Int32) (i : Nat) : Nat → Int32 := fun g => if g < i then (if told g = -1 then (vx_sv 0).getD g 0 else told g) else f g
theorem sp_pif0 (f told : Nat → Int32) : sp_pif f told 0 = f := by
  funext g
  simp [sp_pif]
theorem sp_pifs (f told : Nat → Int32) (i : Nat) {x : Int32} (h : x = if told i = -1 then (vx_sv 0).getD i 0 else told i) : upd (sp_pif f told i) i x = sp_pif f told (i + 1) := by
  funext g
  unfold upd sp_pif
  by_cases e : g = i
  · rw [if_pos e, if_pos (by omega), h, e]
  · by_cases h2 : g < i
    · rw [if_neg e, if_pos h2, if_pos (show g < i + 1 by omega)]
    · rw [if_neg e, if_neg h2, if_neg (show ¬ g < i + 1 by omega)]
set_option maxRecDepth 20000 in
set_option maxHeartbeats 2000000 in
theorem c_X0_putInForce (d : Nat) (hd : 1 ≤ d) (ad : Nat → Nat) (N : Nat) (Λ : vx_L) (μ : vx_mem) (h3 : 3 < N) (k3 : Λ 3 = (.inl (0, [some (some 4), some (some 5), none, none]))) (h4 : 4 < N) (k4 : Λ 4 = (.inr (0, 6, none))) (h5 : 5 < N) (k5 : Λ 5 = (.inr (0, 6, none))) : vx_Mf yX0_putInForce cX0_putInForce 3 none d ad N Λ μ [vx_r 3] none (va_up μ 4 (sp_pif (μ 4) (μ 5) 6)) := by
  have key : ∀ (Post : vx_P) (ini : Bool), Post none ad N Λ (va_up μ 4 (sp_pif (μ 4) (μ 5) 6)) → vx_J RX0 cX0_putInForce 3 none ini d 0 0 Post ad 0 0 N Λ μ 0 [(0, vx_r 3)] [] := by
    intro Post ini hP
    have loop : ∀ (r i : Nat), i + r = 6 → vx_J RX0 cX0_putInForce 3 none ini d 0 0 Post ad 0 0 N Λ (va_up μ 4 (sp_pif (μ 4) (μ 5) i)) 2 [(1, .inl (nI i)), (0, vx_r 3)] [] := by
      intro r
      induction r with
      | zero =>
        intro i hi
        refine vx_iload_n dX0_putInForce_2 rfl ?_
        refine vx_bipush (v := 6) dX0_putInForce_3 (by decide) ?_
        refine vx_icmp_ge (tgt := 47) dX0_putInForce_5 (by decide) (fun _ => ?_) (fun h => absurd (by show (nI (6) ≤ nI (i)); rw [nI_leI (by omega) (by omega)]; omega) h)
        exact vx_vret dX0_putInForce_47 rfl (Nat.le_refl 0) (Nat.le_refl 0) (vx_pst hP rfl (by rw [show i = 6 by omega]))
      | succ r ih =>
        intro i hi
        refine vx_iload_n dX0_putInForce_2 rfl ?_
        refine vx_bipush (v := 6) dX0_putInForce_3 (by decide) ?_
        refine vx_icmp_ge (tgt := 47) dX0_putInForce_5 (by decide) (fun h => absurd h (by show ¬ (nI (6) ≤ nI (i)); rw [nI_leI (by omega) (by omega)]; omega)) (fun _ => ?_)
        refine vx_aload_n dX0_putInForce_8 rfl ?_
        refine vx_getR (ci := 0) (T := TX0) (n := 4) (j := 1) (a := 3) (r := 5) dX0_putInForce_9 rfl lay_X0 (by decide) wd_113 h3 k3 rfl ?_
        refine vx_iload_n dX0_putInForce_12 rfl ?_
        refine vx_callX (vs := [vx_r 5, .inl (nI i)]) (st := []) (r0 := (some (.inl (μ 5 i)))) (μ0 := (va_up μ 4 (sp_pif (μ 4) (μ 5) i))) dX0_putInForce_13 ((c_X8_at (d - 1) ad N Λ (va_up μ 4 (sp_pif (μ 4) (μ 5) i)) 5 6 h5 k5 (by decide) (nI i)).to (by first | rfl | (exact congrArg (fun z => some (Sum.inl z)) (sp_at_nI (k := i) _ (by omega) (by decide)))) rfl) nst_1 wd_109 wd_45 hy_X8_at wd_108 (by omega) (Nat.le_of_ble_eq_true rfl) (Nat.le_of_ble_eq_true rfl) (Nat.le_refl 0) (Nat.le_refl 0) ?_
        refine vx_eq (μ2 := (va_up μ 4 (sp_pif (μ 4) (μ 5) i))) (ls2 := [(1, .inl (nI i)), (0, vx_r 3)]) (st2 := [.inl (μ 5 i)]) rfl rfl rfl ?_
        refine vx_istore_n (ls2 := [(2, .inl (μ 5 i)), (1, .inl (nI i)), (0, vx_r 3)]) dX0_putInForce_16 (by decide) rfl ?_
        refine vx_aload_n dX0_putInForce_17 rfl ?_
        refine vx_getR (ci := 0) (T := TX0) (n := 4) (j := 0) (a := 3) (r := 4) dX0_putInForce_18 rfl lay_X0 (by decide) wd_112 h3 k3 rfl ?_
        refine vx_iload_n dX0_putInForce_21 rfl ?_
        refine vx_iload_n dX0_putInForce_22 rfl ?_
        refine vx_iconst (v := (-1)) dX0_putInForce_23 (by decide) ?_
        refine vx_icmp_ne (tgt := 37) dX0_putInForce_24 (by decide) (fun c_24 => ?_) (fun c_24 => ?_)
        · refine vx_iload_n dX0_putInForce_37 rfl ?_
          refine vx_callX (vs := [vx_r 4, .inl (nI i), .inl (μ 5 i)]) (st := []) (r0 := none) (μ0 := (va_up μ 4 (upd (sp_pif (μ 4) (μ 5) i) i (μ 5 i)))) dX0_putInForce_38 (((c_X8_put (d - 1) ad N Λ (va_up μ 4 (sp_pif (μ 4) (μ 5) i)) 4 6 h4 k4 (by decide) (nI i) (μ 5 i)).to rfl (congrArg (fun z => va_up (va_up μ 4 (sp_pif (μ 4) (μ 5) i)) 4 z) (sp_put_nI (k := i) _ _ (by omega) (by decide)))).to rfl vx_m1) nst_0 wd_102 wd_45 hy_X8_put wd_101 (by omega) (Nat.le_of_ble_eq_true rfl) (Nat.le_of_ble_eq_true rfl) (Nat.le_refl 0) (Nat.le_refl 0) ?_
          refine vx_eq (μ2 := (va_up μ 4 (upd (sp_pif (μ 4) (μ 5) i) i (μ 5 i)))) (ls2 := [(2, .inl (μ 5 i)), (1, .inl (nI i)), (0, vx_r 3)]) (st2 := []) rfl rfl rfl ?_
          refine vx_iinc (v := (nI (i + 1))) (ls2 := [(1, .inl (nI (i + 1))), (2, .inl (μ 5 i)), (0, vx_r 3)]) dX0_putInForce_41 rfl (nI_1 _) (by decide) rfl ?_
          refine vx_goto (tgt := 2) dX0_putInForce_44 (by decide) ?_
          refine vx_keep (ls2 := [(1, .inl (nI (i + 1))), (0, vx_r 3)]) ⟨rfl, rfl, trivial⟩ ?_
          refine vx_eq (μ2 := (va_up μ 4 (sp_pif (μ 4) (μ 5) (i + 1)))) (by rw [sp_pifs _ _ _ (by rw [if_neg c_24])]) rfl rfl ?_
          exact ih (i + 1) (by omega)
        · refine vx_getsX (j := 0) dX0_putInForce_27 (by decide) wd_110 ?_
          refine vx_iload_n dX0_putInForce_30 rfl ?_
          refine vx_callX (vs := [vx_r 1200, .inl (nI i)]) (st := [.inl (nI i), vx_r 4]) (r0 := (some (.inl ((vx_sv 0).getD i 0)))) (μ0 := (va_up μ 4 (sp_pif (μ 4) (μ 5) i))) dX0_putInForce_31 ((c_X8_atX (d - 1) ad N Λ (va_up μ 4 (sp_pif (μ 4) (μ 5) i)) 0 (by decide) (nI i)).to (congrArg (fun z => some (Sum.inl z)) (sp_at_nI (k := i) _ (by omega) (by decide))) rfl) nst_1 wd_109 wd_45 hy_X8_at wd_108 (by omega) (Nat.le_of_ble_eq_true rfl) (Nat.le_of_ble_eq_true rfl) (Nat.le_refl 0) (Nat.le_refl 0) ?_
          refine vx_eq (μ2 := (va_up μ 4 (sp_pif (μ 4) (μ 5) i))) (ls2 := [(2, .inl (μ 5 i)), (1, .inl (nI i)), (0, vx_r 3)]) (st2 := [.inl ((vx_sv 0).getD i 0), .inl (nI i), vx_r 4]) rfl rfl rfl ?_
          refine vx_goto (tgt := 38) dX0_putInForce_34 (by decide) ?_
          refine vx_callX (vs := [vx_r 4, .inl (nI i), .inl ((vx_sv 0).getD i 0)]) (st := []) (r0 := none) (μ0 := (va_up μ 4 (upd (sp_pif (μ 4) (μ 5) i) i ((vx_sv 0).getD i 0)))) dX0_putInForce_38 (((c_X8_put (d - 1) ad N Λ (va_up μ 4 (sp_pif (μ 4) (μ 5) i)) 4 6 h4 k4 (by decide) (nI i) ((vx_sv 0).getD i 0)).to rfl (congrArg (fun z => va_up (va_up μ 4 (sp_pif (μ 4) (μ 5) i)) 4 z) (sp_put_nI (k := i) _ _ (by omega) (by decide)))).to rfl vx_m1) nst_0 wd_102 wd_45 hy_X8_put wd_101 (by omega) (Nat.le_of_ble_eq_true rfl) (Nat.le_of_ble_eq_true rfl) (Nat.le_refl 0) (Nat.le_refl 0) ?_
          refine vx_eq (μ2 := (va_up μ 4 (upd (sp_pif (μ 4) (μ 5) i) i ((vx_sv 0).getD i 0)))) (ls2 := [(2, .inl (μ 5 i)), (1, .inl (nI i)), (0, vx_r 3)]) (st2 := []) rfl rfl rfl ?_
          refine vx_iinc (v := (nI (i + 1))) (ls2 := [(1, .inl (nI (i + 1))), (2, .inl (μ 5 i)), (0, vx_r 3)]) dX0_putInForce_41 rfl (nI_1 _) (by decide) rfl ?_
          refine vx_goto (tgt := 2) dX0_putInForce_44 (by decide) ?_
          refine vx_keep (ls2 := [(1, .inl (nI (i + 1))), (0, vx_r 3)]) ⟨rfl, rfl, trivial⟩ ?_
          refine vx_eq (μ2 := (va_up μ 4 (sp_pif (μ 4) (μ 5) (i + 1)))) (by rw [sp_pifs _ _ _ (by rw [if_pos c_24])]) rfl rfl ?_
          exact ih (i + 1) (by omega)
    refine vx_iconst (v := 0) dX0_putInForce_0 (by decide) ?_
    refine vx_istore_n (ls2 := [(1, .inl 0), (0, vx_r 3)]) dX0_putInForce_1 (by decide) rfl ?_
    refine vx_eq (μ2 := (va_up μ 4 (sp_pif (μ 4) (μ 5) 0))) (ls2 := [(1, .inl (nI 0)), (0, vx_r 3)]) (by rw [sp_pif0, vx_up_id]) rfl rfl ?_
    exact loop 6 0 (by omega)
  exact vx_J.M pn_X0_putInForce (Nat.le_of_ble_eq_true rfl) (key _ _ ⟨rfl, rfl, rfl, rfl, rfl⟩)
end
