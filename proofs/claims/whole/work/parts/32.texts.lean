section
theorem sp_ll7 : ∀ i, i < 7 → vx_ll.getD i 0 < 1000 ∧ (Int32.ofNat (vx_ll.getD i 0)) >>> ((0 : Int32) &&& 31) = nI (vx_ll.getD i 0) := by decide +kernel
def sp_chr (i k : Nat) : Int32 := vx_tb i k &&& 255
set_option maxRecDepth 20000 in
set_option maxHeartbeats 2000000 in
theorem c_J0_coder_7d493 (d : Nat) (hd : 0 ≤ d) (ad : Nat → Nat) (N : Nat) (Λ : vx_L) (μ : vx_mem) (i : Nat) (hi : i < 7) : vx_Mf yJ0_coder_7d493 cJ0_coder_7d493 1 (some (.byte)) d ad N Λ μ [vx_r (1000 + i)] (some (.inl 0)) μ := by
  have key : ∀ (Post : vx_P) (ini : Bool), Post (some (.inl 0)) ad N Λ μ → vx_J RJ0 cJ0_coder_7d493 1 (some (.byte)) ini d 0 0 Post ad 0 0 N Λ μ 0 [(0, vx_r (1000 + i))] [] := by
    intro Post ini hP
    refine vx_getCS dJ0_coder_7d493_0 wd_441 ?_
    refine vx_if_eq (tgt := 13) dJ0_coder_7d493_3 (by decide) (fun h => absurd h (by decide)) (fun _ => ?_)
    refine vx_aload_n dJ0_coder_7d493_6 rfl ?_
    refine vx_getCo dJ0_coder_7d493_7 wd_1061 hi ?_
    refine vx_goto (tgt := 14) dJ0_coder_7d493_10 (by decide) ?_
    exact vx_ret (ty := .byte) dJ0_coder_7d493_14 rfl (by decide) (Nat.le_refl 0) (Nat.le_refl 0) hP
  exact vx_J.M pn_J0_coder_7d493 (Nat.le_of_ble_eq_true rfl) (key _ _ ⟨rfl, rfl, rfl, rfl, rfl⟩)
set_option maxRecDepth 20000 in
set_option maxHeartbeats 2000000 in
theorem c_J0_isLatin1_aae02 (d : Nat) (hd : 0 ≤ d) (ad : Nat → Nat) (N : Nat) (Λ : vx_L) (μ : vx_mem) (i : Nat) (hi : i < 7) : vx_Mf yJ0_isLatin1_aae02 cJ0_isLatin1_aae02 1 (some (.boolean)) d ad N Λ μ [vx_r (1000 + i)] (some (.inl 1)) μ := by
  have key : ∀ (Post : vx_P) (ini : Bool), Post (some (.inl 1)) ad N Λ μ → vx_J RJ0 cJ0_isLatin1_aae02 1 (some (.boolean)) ini d 0 0 Post ad 0 0 N Λ μ 0 [(0, vx_r (1000 + i))] [] := by
    intro Post ini hP
    refine vx_getCS dJ0_isLatin1_aae02_0 wd_441 ?_
    refine vx_if_eq (tgt := 17) dJ0_isLatin1_aae02_3 (by decide) (fun h => absurd h (by decide)) (fun _ => ?_)
    refine vx_aload_n dJ0_isLatin1_aae02_6 rfl ?_
    refine vx_getCo dJ0_isLatin1_aae02_7 wd_1061 hi ?_
    refine vx_if_ne (tgt := 17) dJ0_isLatin1_aae02_10 (by decide) (fun h => absurd rfl h) (fun _ => ?_)
    refine vx_iconst (v := 1) dJ0_isLatin1_aae02_13 (by decide) ?_
    refine vx_goto (tgt := 18) dJ0_isLatin1_aae02_14 (by decide) ?_
    exact vx_ret (ty := .boolean) dJ0_isLatin1_aae02_18 rfl (by decide) (Nat.le_refl 0) (Nat.le_refl 0) hP
  exact vx_J.M pn_J0_isLatin1_aae02 (Nat.le_of_ble_eq_true rfl) (key _ _ ⟨rfl, rfl, rfl, rfl, rfl⟩)
set_option maxRecDepth 20000 in
set_option maxHeartbeats 2000000 in
theorem c_J0_length_8abf5 (d : Nat) (hd : 1 ≤ d) (ad : Nat → Nat) (N : Nat) (Λ : vx_L) (μ : vx_mem) (i : Nat) (hi : i < 7) : vx_Mf yJ0_length_8abf5 cJ0_length_8abf5 1 (some (.int)) d ad N Λ μ [vx_r (1000 + i)] (some (.inl (nI (vx_ll.getD i 0)))) μ := by
  have key : ∀ (Post : vx_P) (ini : Bool), Post (some (.inl (nI (vx_ll.getD i 0)))) ad N Λ μ → vx_J RJ0 cJ0_length_8abf5 1 (some (.int)) ini d 0 0 Post ad 0 0 N Λ μ 0 [(0, vx_r (1000 + i))] [] := by
    intro Post ini hP
    refine vx_aload_n dJ0_length_8abf5_0 rfl ?_
    refine vx_getVa dJ0_length_8abf5_1 wd_1060 hi ?_
    refine vx_alenB (v := Int32.ofNat (vx_ll.getD i 0)) dJ0_length_8abf5_4 hi rfl ?_
    refine vx_aload_n dJ0_length_8abf5_5 rfl ?_
    refine vx_callK (i := i) (vs := []) (st := [.inl (Int32.ofNat (vx_ll.getD i 0))]) (r0 := (some (.inl 0))) (μ0 := μ) dJ0_length_8abf5_6 (c_J0_coder_7d493 (d - 1) (by omega) ad N Λ μ i hi) wd_437 wd_440 wd_55 hy_J0_coder_7d493 wd_438 wd_439 hi rfl (by omega) (Nat.le_of_ble_eq_true rfl) (Nat.le_of_ble_eq_true rfl) (Nat.le_refl 0) (Nat.le_refl 0) ?_
    refine vx_eq (st2 := [.inl 0, .inl (Int32.ofNat (vx_ll.getD i 0))]) rfl rfl rfl ?_
    refine vx_ishr dJ0_length_8abf5_9 ?_
    exact vx_ret (ty := .int) dJ0_length_8abf5_10 rfl rfl (Nat.le_refl 0) (Nat.le_refl 0) (vx_pst hP (by rw [(sp_ll7 i hi).2]) rfl)
  exact vx_J.M pn_J0_length_8abf5 (Nat.le_of_ble_eq_true rfl) (key _ _ ⟨rfl, rfl, rfl, rfl, rfl⟩)
set_option maxRecDepth 20000 in
set_option maxHeartbeats 2000000 in
theorem c_J3_checkIndex_8e157 (d : Nat) (hd : 0 ≤ d) (ad : Nat → Nat) (N : Nat) (Λ : vx_L) (μ : vx_mem) (k m : Nat) (hk : k < m) (hm : m < 1000) (v : vx_v) : vx_Mf yJ3_checkIndex_8e157 cJ3_checkIndex_8e157 3 (some (.int)) d ad N Λ μ [.inl (nI k), .inl (nI m), v] (some (.inl (nI k))) μ := by
  have key : ∀ (Post : vx_P) (ini : Bool), Post (some (.inl (nI k))) ad N Λ μ → vx_J RJ3 cJ3_checkIndex_8e157 3 (some (.int)) ini d 0 0 Post ad 0 0 N Λ μ 0 [(0, .inl (nI k)), (1, .inl (nI m)), (2, v)] [] := by
    intro Post ini hP
    refine vx_iload_n dJ3_checkIndex_8e157_0 rfl ?_
    refine vx_if_lt (tgt := 9) dJ3_checkIndex_8e157_1 (by decide) (fun h => absurd h (nI_pos (by omega))) (fun _ => ?_)
    refine vx_iload_n dJ3_checkIndex_8e157_4 rfl ?_
    refine vx_iload_n dJ3_checkIndex_8e157_5 rfl ?_
    refine vx_icmp_lt (tgt := 16) dJ3_checkIndex_8e157_6 (by decide) (fun _ => ?_) (fun h => absurd (nI_lt hk (by omega)) h)
    refine vx_iload_n dJ3_checkIndex_8e157_16 rfl ?_
    exact vx_ret (ty := .int) dJ3_checkIndex_8e157_17 rfl rfl (Nat.le_refl 0) (Nat.le_refl 0) hP
  exact vx_J.M pn_J3_checkIndex_8e157 (Nat.le_of_ble_eq_true rfl) (key _ _ ⟨rfl, rfl, rfl, rfl, rfl⟩)
set_option maxRecDepth 20000 in
set_option maxHeartbeats 2000000 in
theorem c_J0_checkIndex_df160 (d : Nat) (hd : 1 ≤ d) (ad : Nat → Nat) (N : Nat) (Λ : vx_L) (μ : vx_mem) (k m : Nat) (hk : k < m) (hm : m < 1000) : vx_Mf yJ0_checkIndex_df160 cJ0_checkIndex_df160 2 none d ad N Λ μ [.inl (nI k), .inl (nI m)] none μ := by
  have key : ∀ (Post : vx_P) (ini : Bool), Post none ad N Λ μ → vx_J RJ0 cJ0_checkIndex_df160 2 none ini d 0 0 Post ad 0 0 N Λ μ 0 [(0, .inl (nI k)), (1, .inl (nI m))] [] := by
    intro Post ini hP
    refine vx_iload_n dJ0_checkIndex_df160_0 rfl ?_
    refine vx_iload_n dJ0_checkIndex_df160_1 rfl ?_
    refine vx_getFm dJ0_checkIndex_df160_2 wd_457 (fun v => ?_)
    refine vx_callS (vs := [.inl (nI k), .inl (nI m), v]) (st := []) (r0 := (some (.inl (nI k)))) (μ0 := μ) dJ0_checkIndex_df160_5 (c_J3_checkIndex_8e157 (d - 1) (by omega) ad N Λ μ k m hk hm v) wd_459 wd_461 wd_57 hy_J3_checkIndex_8e157 wd_460 (by omega) (Nat.le_of_ble_eq_true rfl) (Nat.le_of_ble_eq_true rfl) (Nat.le_refl 0) (Nat.le_refl 0) ?_
    refine vx_eq (st2 := [.inl (nI k)]) rfl rfl rfl ?_
    refine vx_pop dJ0_checkIndex_df160_8 ?_
    exact vx_vret dJ0_checkIndex_df160_9 rfl (Nat.le_refl 0) (Nat.le_refl 0) hP
  exact vx_J.M pn_J0_checkIndex_df160 (Nat.le_of_ble_eq_true rfl) (key _ _ ⟨rfl, rfl, rfl, rfl, rfl⟩)
set_option maxRecDepth 20000 in
set_option maxHeartbeats 2000000 in
theorem c_J1_charAt_3b067 (d : Nat) (hd : 2 ≤ d) (ad : Nat → Nat) (N : Nat) (Λ : vx_L) (μ : vx_mem) (i : Nat) (hi : i < 7) (k : Nat) (hk : k < vx_ll.getD i 0) : vx_Mf yJ1_charAt_3b067 cJ1_charAt_3b067 2 (some (.char)) d ad N Λ μ [vx_r (1100 + i), .inl (nI k)] (some (.inl (sp_chr i k))) μ := by
  have key : ∀ (Post : vx_P) (ini : Bool), Post (some (.inl (sp_chr i k))) ad N Λ μ → vx_J RJ1 cJ1_charAt_3b067 2 (some (.char)) ini d 0 0 Post ad 0 0 N Λ μ 0 [(0, vx_r (1100 + i)), (1, .inl (nI k))] [] := by
    intro Post ini hP
    have hm := (sp_ll7 i hi).1
    refine vx_iload_n dJ1_charAt_3b067_0 rfl ?_
    refine vx_aload_n dJ1_charAt_3b067_1 rfl ?_
    refine vx_alenB (v := nI (vx_ll.getD i 0)) dJ1_charAt_3b067_2 hi rfl ?_
    refine vx_callS (vs := [.inl (nI k), .inl (nI (vx_ll.getD i 0))]) (st := []) (r0 := none) (μ0 := μ) dJ1_charAt_3b067_3 (c_J0_checkIndex_df160 (d - 1) (by omega) ad N Λ μ k _ hk hm) wd_454 wd_456 wd_55 hy_J0_checkIndex_df160 wd_455 (by omega) (Nat.le_of_ble_eq_true rfl) (Nat.le_of_ble_eq_true rfl) (Nat.le_refl 0) (Nat.le_refl 0) ?_
    refine vx_eq (st2 := []) rfl rfl rfl ?_
    refine vx_aload_n dJ1_charAt_3b067_6 rfl ?_
    refine vx_iload_n dJ1_charAt_3b067_7 rfl ?_
    refine vx_baldX (v := vx_tb i k) dJ1_charAt_3b067_8 hi (vp_in_nI hk (by omega)) (by rw [nI_clamp (by omega)]) ?_
    refine vx_sipush (v := 255) dJ1_charAt_3b067_9 (by decide) ?_
    refine vx_iand dJ1_charAt_3b067_12 ?_
    refine vx_i2c (v := sp_chr i k) dJ1_charAt_3b067_13 (sc_c2 _) ?_
    exact vx_ret (ty := .char) dJ1_charAt_3b067_14 rfl (sc_nar _) (Nat.le_refl 0) (Nat.le_refl 0) hP
  exact vx_J.M pn_J1_charAt_3b067 (Nat.le_of_ble_eq_true rfl) (key _ _ ⟨rfl, rfl, rfl, rfl, rfl⟩)
set_option maxRecDepth 20000 in
set_option maxHeartbeats 2000000 in
theorem c_J0_charAt_5068e (d : Nat) (hd : 3 ≤ d) (ad : Nat → Nat) (N : Nat) (Λ : vx_L) (μ : vx_mem) (i : Nat) (hi : i < 7) (k : Nat) (hk : k < vx_ll.getD i 0) : vx_Mf yJ0_charAt_5068e cJ0_charAt_5068e 2 (some (.char)) d ad N Λ μ [vx_r (1000 + i), .inl (nI k)] (some (.inl (sp_chr i k))) μ := by
  have key : ∀ (Post : vx_P) (ini : Bool), Post (some (.inl (sp_chr i k))) ad N Λ μ → vx_J RJ0 cJ0_charAt_5068e 2 (some (.char)) ini d 0 0 Post ad 0 0 N Λ μ 0 [(0, vx_r (1000 + i)), (1, .inl (nI k))] [] := by
    intro Post ini hP
    refine vx_aload_n dJ0_charAt_5068e_0 rfl ?_
    refine vx_callK (i := i) (vs := []) (st := []) (r0 := (some (.inl 1))) (μ0 := μ) dJ0_charAt_5068e_1 (c_J0_isLatin1_aae02 (d - 1) (by omega) ad N Λ μ i hi) wd_447 wd_450 wd_55 hy_J0_isLatin1_aae02 wd_448 wd_449 hi rfl (by omega) (Nat.le_of_ble_eq_true rfl) (Nat.le_of_ble_eq_true rfl) (Nat.le_refl 0) (Nat.le_refl 0) ?_
    refine vx_eq (st2 := [.inl 1]) rfl rfl rfl ?_
    refine vx_if_eq (tgt := 16) dJ0_charAt_5068e_4 (by decide) (fun h => absurd h (by decide)) (fun _ => ?_)
    refine vx_aload_n dJ0_charAt_5068e_7 rfl ?_
    refine vx_getVa dJ0_charAt_5068e_8 wd_1060 hi ?_
    refine vx_iload_n dJ0_charAt_5068e_11 rfl ?_
    refine vx_callS (vs := [vx_r (1100 + i), .inl (nI k)]) (st := []) (r0 := (some (.inl (sp_chr i k)))) (μ0 := μ) dJ0_charAt_5068e_12 (c_J1_charAt_3b067 (d - 1) (by omega) ad N Λ μ i hi k hk) wd_451 wd_453 wd_56 hy_J1_charAt_3b067 wd_452 (by omega) (Nat.le_of_ble_eq_true rfl) (Nat.le_of_ble_eq_true rfl) (Nat.le_refl 0) (Nat.le_refl 0) ?_
    refine vx_eq (st2 := [.inl (sp_chr i k)]) rfl rfl rfl ?_
    exact vx_ret (ty := .char) dJ0_charAt_5068e_15 rfl (sc_nar _) (Nat.le_refl 0) (Nat.le_refl 0) hP
  exact vx_J.M pn_J0_charAt_5068e (Nat.le_of_ble_eq_true rfl) (key _ _ ⟨rfl, rfl, rfl, rfl, rfl⟩)
end
