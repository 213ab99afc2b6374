section
theorem rl_cm {μ1 μ2 : vx_mem} (h : rl μ1 μ2) (f : ∀ p, p < 54 → μ2 p = μ1 p) : rl μ2 μ2 := by
  obtain ⟨a1, a2, a3, a4, a5, a6, a7, a8, h⟩ := h
  exact ⟨a1, a2, a3, a4, a5, a6, a7, a8, rlp_cm h f (fun _ _ => rfl)⟩
set_option maxRecDepth 20000 in
set_option maxHeartbeats 2000000 in
theorem law_c0 {p : Program} {l : Launch} {e : Env} {s : State} {m : MethodId} {below : List Frame} {meth : Method} {c : Code} {D : va_G} {dA : Nat → ClassId} {b L : Nat} {xs : Nat → Int32} {ad : Nat → Nat} {kc ks : Nat} (hC : vl_C p s m meth c D dA b L xs) (hB : ad 1400 = b) (hkc : kc ≤ 600000) (hks : ks ≤ 7302250) (hL : L ≤ 3584) {i : Nat} (hi : i + 7 ≤ L) {μ : vx_mem} (hrl : rl μ μ) (hnext : ∀ μ', rl μ' μ' → vl_J p l e s m below meth c D dA b ad kc ks 82 vx_lay μ' 605 [(3, .inl (nI i)), (2, vx_r 54), (1, vx_r 0), (0, vx_r 1400)] []) : vl_J p l e s m below meth c D dA b ad kc ks 82 vx_lay μ 108 [(3, .inl (nI i)), (2, vx_r 54), (1, vx_r 0), (0, vx_r 1400)] [] := by
  obtain ⟨a1, a2, a3, a4, a5, a6, a7, a8, hR⟩ := hrl
  obtain ⟨r, μ1, h1, f1, h2⟩ := st_feed (xs (i + 1)) (xs (i + 2)) (xs (i + 3)) (xs (i + 4)) (xs (i + 5)) ad μ μ _ _ _ _ _ _ _ _ hR
  obtain ⟨μ2, h3, f2, h4⟩ := h2 μ1 (rlp_cm hR (fun _ _ => rfl) f1)
  have h5 := rl_cm h4 f2
  refine vl_aload_n hC dL_law_108 rfl ?_
  refine vl_aload_n hC dL_law_109 rfl ?_
  refine vl_iload_n hC dL_law_110 rfl ?_
  refine vl_iconst (v := 1) hC dL_law_111 (by decide) ?_
  refine vl_iadd hC dL_law_112 ?_
  refine vl_eq (st2 := [.inl (nI (i + 1)), vx_r 1400, vx_r 0]) rfl rfl (by rw [show (1 : Int32) = nI 1 from rfl, nI_add]) ?_
  refine vl_sld (v := (xs ((i + 1)))) hC hB dL_law_113 (vp_in_nI (by omega) (by omega)) (by rw [nI_clamp (by omega)]) ?_
  refine vl_aload_n hC dL_law_114 rfl ?_
  refine vl_iload_n hC dL_law_115 rfl ?_
  refine vl_iconst (v := 2) hC dL_law_116 (by decide) ?_
  refine vl_iadd hC dL_law_117 ?_
  refine vl_eq (st2 := [.inl (nI (i + 2)), vx_r 1400, .inl (xs ((i + 1))), vx_r 0]) rfl rfl (by rw [show (2 : Int32) = nI 2 from rfl, nI_add]) ?_
  refine vl_sld (v := (xs ((i + 2)))) hC hB dL_law_118 (vp_in_nI (by omega) (by omega)) (by rw [nI_clamp (by omega)]) ?_
  refine vl_aload_n hC dL_law_119 rfl ?_
  refine vl_iload_n hC dL_law_120 rfl ?_
  refine vl_iconst (v := 3) hC dL_law_121 (by decide) ?_
  refine vl_iadd hC dL_law_122 ?_
  refine vl_eq (st2 := [.inl (nI (i + 3)), vx_r 1400, .inl (xs ((i + 2))), .inl (xs ((i + 1))), vx_r 0]) rfl rfl (by rw [show (3 : Int32) = nI 3 from rfl, nI_add]) ?_
  refine vl_sld (v := (xs ((i + 3)))) hC hB dL_law_123 (vp_in_nI (by omega) (by omega)) (by rw [nI_clamp (by omega)]) ?_
  refine vl_aload_n hC dL_law_124 rfl ?_
  refine vl_iload_n hC dL_law_125 rfl ?_
  refine vl_iconst (v := 4) hC dL_law_126 (by decide) ?_
  refine vl_iadd hC dL_law_127 ?_
  refine vl_eq (st2 := [.inl (nI (i + 4)), vx_r 1400, .inl (xs ((i + 3))), .inl (xs ((i + 2))), .inl (xs ((i + 1))), vx_r 0]) rfl rfl (by rw [show (4 : Int32) = nI 4 from rfl, nI_add]) ?_
  refine vl_sld (v := (xs ((i + 4)))) hC hB dL_law_128 (vp_in_nI (by omega) (by omega)) (by rw [nI_clamp (by omega)]) ?_
  refine vl_aload_n hC dL_law_129 rfl ?_
  refine vl_iload_n hC dL_law_130 rfl ?_
  refine vl_iconst (v := 5) hC dL_law_131 (by decide) ?_
  refine vl_iadd hC dL_law_132 ?_
  refine vl_eq (st2 := [.inl (nI (i + 5)), vx_r 1400, .inl (xs ((i + 4))), .inl (xs ((i + 3))), .inl (xs ((i + 2))), .inl (xs ((i + 1))), vx_r 0]) rfl rfl (by rw [show (5 : Int32) = nI 5 from rfl, nI_add]) ?_
  refine vl_sld (v := (xs ((i + 5)))) hC hB dL_law_133 (vp_in_nI (by omega) (by omega)) (by rw [nI_clamp (by omega)]) ?_
  refine vl_callV (bb := 0) (vs := [.inl (xs ((i + 1))), .inl (xs ((i + 2))), .inl (xs ((i + 3))), .inl (xs ((i + 4))), .inl (xs ((i + 5)))]) (st := []) (r0 := some (.inl r)) (μ0 := μ1) hC dL_law_134 h1 wd_368 wd_371 wd_45 hy_X8_feed wd_369 wd_370 (by decide) ly_0 rfl rfl (by decide) (Nat.le_of_ble_eq_true rfl) (Nat.le_of_ble_eq_true rfl) hkc hks ?_
  refine vl_eq (μ2 := μ1) (ls2 := [(3, .inl (nI i)), (2, vx_r 54), (1, vx_r 0), (0, vx_r 1400)]) (st2 := [.inl r]) rfl rfl rfl ?_
  refine vl_aload_n hC dL_law_137 rfl ?_
  refine vl_aload_n hC dL_law_138 rfl ?_
  refine vl_iload_n hC dL_law_139 rfl ?_
  refine vl_iconst (v := 1) hC dL_law_140 (by decide) ?_
  refine vl_iadd hC dL_law_141 ?_
  refine vl_eq (st2 := [.inl (nI (i + 1)), vx_r 1400, vx_r 54, .inl r]) rfl rfl (by rw [show (1 : Int32) = nI 1 from rfl, nI_add]) ?_
  refine vl_sld (v := (xs ((i + 1)))) hC hB dL_law_142 (vp_in_nI (by omega) (by omega)) (by rw [nI_clamp (by omega)]) ?_
  refine vl_aload_n hC dL_law_143 rfl ?_
  refine vl_iload_n hC dL_law_144 rfl ?_
  refine vl_iconst (v := 2) hC dL_law_145 (by decide) ?_
  refine vl_iadd hC dL_law_146 ?_
  refine vl_eq (st2 := [.inl (nI (i + 2)), vx_r 1400, .inl (xs ((i + 1))), vx_r 54, .inl r]) rfl rfl (by rw [show (2 : Int32) = nI 2 from rfl, nI_add]) ?_
  refine vl_sld (v := (xs ((i + 2)))) hC hB dL_law_147 (vp_in_nI (by omega) (by omega)) (by rw [nI_clamp (by omega)]) ?_
  refine vl_aload_n hC dL_law_148 rfl ?_
  refine vl_iload_n hC dL_law_149 rfl ?_
  refine vl_iconst (v := 3) hC dL_law_150 (by decide) ?_
  refine vl_iadd hC dL_law_151 ?_
  refine vl_eq (st2 := [.inl (nI (i + 3)), vx_r 1400, .inl (xs ((i + 2))), .inl (xs ((i + 1))), vx_r 54, .inl r]) rfl rfl (by rw [show (3 : Int32) = nI 3 from rfl, nI_add]) ?_
  refine vl_sld (v := (xs ((i + 3)))) hC hB dL_law_152 (vp_in_nI (by omega) (by omega)) (by rw [nI_clamp (by omega)]) ?_
  refine vl_aload_n hC dL_law_153 rfl ?_
  refine vl_iload_n hC dL_law_154 rfl ?_
  refine vl_iconst (v := 4) hC dL_law_155 (by decide) ?_
  refine vl_iadd hC dL_law_156 ?_
  refine vl_eq (st2 := [.inl (nI (i + 4)), vx_r 1400, .inl (xs ((i + 3))), .inl (xs ((i + 2))), .inl (xs ((i + 1))), vx_r 54, .inl r]) rfl rfl (by rw [show (4 : Int32) = nI 4 from rfl, nI_add]) ?_
  refine vl_sld (v := (xs ((i + 4)))) hC hB dL_law_157 (vp_in_nI (by omega) (by omega)) (by rw [nI_clamp (by omega)]) ?_
  refine vl_aload_n hC dL_law_158 rfl ?_
  refine vl_iload_n hC dL_law_159 rfl ?_
  refine vl_iconst (v := 5) hC dL_law_160 (by decide) ?_
  refine vl_iadd hC dL_law_161 ?_
  refine vl_eq (st2 := [.inl (nI (i + 5)), vx_r 1400, .inl (xs ((i + 4))), .inl (xs ((i + 3))), .inl (xs ((i + 2))), .inl (xs ((i + 1))), vx_r 54, .inl r]) rfl rfl (by rw [show (5 : Int32) = nI 5 from rfl, nI_add]) ?_
  refine vl_sld (v := (xs ((i + 5)))) hC hB dL_law_162 (vp_in_nI (by omega) (by omega)) (by rw [nI_clamp (by omega)]) ?_
  refine vl_callV (bb := 54) (vs := [.inl (xs ((i + 1))), .inl (xs ((i + 2))), .inl (xs ((i + 3))), .inl (xs ((i + 4))), .inl (xs ((i + 5)))]) (st := [.inl r]) (r0 := some (.inl r)) (μ0 := μ2) hC dL_law_163 h3 wd_905 wd_908 wd_54 hy_X9_feed wd_906 wd_907 (by decide) ly_54 rfl rfl (by decide) (Nat.le_of_ble_eq_true rfl) (Nat.le_of_ble_eq_true rfl) hkc hks ?_
  refine vl_eq (μ2 := μ2) (ls2 := [(3, .inl (nI i)), (2, vx_r 54), (1, vx_r 0), (0, vx_r 1400)]) (st2 := [.inl r, .inl r]) rfl rfl rfl ?_
  refine vl_icmp_eqT (tgt := 605) hC dL_law_166 (by decide) ?_
  exact hnext μ2 h5
set_option maxRecDepth 20000 in
set_option maxHeartbeats 2000000 in
theorem law_c1 {p : Program} {l : Launch} {e : Env} {s : State} {m : MethodId} {below : List Frame} {meth : Method} {c : Code} {D : va_G} {dA : Nat → ClassId} {b L : Nat} {xs : Nat → Int32} {ad : Nat → Nat} {kc ks : Nat} (hC : vl_C p s m meth c D dA b L xs) (hB : ad 1400 = b) (hkc : kc ≤ 600000) (hks : ks ≤ 7302250) (hL : L ≤ 3584) {i : Nat} (hi : i + 7 ≤ L) {μ : vx_mem} (hrl : rl μ μ) (hnext : ∀ μ', rl μ' μ' → vl_J p l e s m below meth c D dA b ad kc ks 82 vx_lay μ' 605 [(3, .inl (nI i)), (2, vx_r 54), (1, vx_r 0), (0, vx_r 1400)] []) : vl_J p l e s m below meth c D dA b ad kc ks 82 vx_lay μ 171 [(3, .inl (nI i)), (2, vx_r 54), (1, vx_r 0), (0, vx_r 1400)] [] := by
  obtain ⟨a1, a2, a3, a4, a5, a6, a7, a8, hR⟩ := hrl
  obtain ⟨r, μ1, h1, f1, h2⟩ := st_customs (xs (i + 1)) ad μ μ _ _ _ _ _ _ _ _ hR
  obtain ⟨μ2, h3, f2, h4⟩ := h2 μ1 (rlp_cm hR (fun _ _ => rfl) f1)
  have h5 := rl_cm h4 f2
  refine vl_aload_n hC dL_law_171 rfl ?_
  refine vl_aload_n hC dL_law_172 rfl ?_
  refine vl_iload_n hC dL_law_173 rfl ?_
  refine vl_iconst (v := 1) hC dL_law_174 (by decide) ?_
  refine vl_iadd hC dL_law_175 ?_
  refine vl_eq (st2 := [.inl (nI (i + 1)), vx_r 1400, vx_r 0]) rfl rfl (by rw [show (1 : Int32) = nI 1 from rfl, nI_add]) ?_
  refine vl_sld (v := (xs ((i + 1)))) hC hB dL_law_176 (vp_in_nI (by omega) (by omega)) (by rw [nI_clamp (by omega)]) ?_
  refine vl_callV (bb := 0) (vs := [.inl (xs ((i + 1)))]) (st := []) (r0 := some (.inl r)) (μ0 := μ1) hC dL_law_177 h1 wd_381 wd_384 wd_45 hy_X8_customs wd_382 wd_383 (by decide) ly_0 rfl rfl (by decide) (Nat.le_of_ble_eq_true rfl) (Nat.le_of_ble_eq_true rfl) hkc hks ?_
  refine vl_eq (μ2 := μ1) (ls2 := [(3, .inl (nI i)), (2, vx_r 54), (1, vx_r 0), (0, vx_r 1400)]) (st2 := [.inl r]) rfl rfl rfl ?_
  refine vl_aload_n hC dL_law_180 rfl ?_
  refine vl_aload_n hC dL_law_181 rfl ?_
  refine vl_iload_n hC dL_law_182 rfl ?_
  refine vl_iconst (v := 1) hC dL_law_183 (by decide) ?_
  refine vl_iadd hC dL_law_184 ?_
  refine vl_eq (st2 := [.inl (nI (i + 1)), vx_r 1400, vx_r 54, .inl r]) rfl rfl (by rw [show (1 : Int32) = nI 1 from rfl, nI_add]) ?_
  refine vl_sld (v := (xs ((i + 1)))) hC hB dL_law_185 (vp_in_nI (by omega) (by omega)) (by rw [nI_clamp (by omega)]) ?_
  refine vl_callV (bb := 54) (vs := [.inl (xs ((i + 1)))]) (st := [.inl r]) (r0 := some (.inl r)) (μ0 := μ2) hC dL_law_186 h3 wd_909 wd_912 wd_54 hy_X9_customs wd_910 wd_911 (by decide) ly_54 rfl rfl (by decide) (Nat.le_of_ble_eq_true rfl) (Nat.le_of_ble_eq_true rfl) hkc hks ?_
  refine vl_eq (μ2 := μ2) (ls2 := [(3, .inl (nI i)), (2, vx_r 54), (1, vx_r 0), (0, vx_r 1400)]) (st2 := [.inl r, .inl r]) rfl rfl rfl ?_
  refine vl_icmp_eqT (tgt := 605) hC dL_law_189 (by decide) ?_
  exact hnext μ2 h5
set_option maxRecDepth 20000 in
set_option maxHeartbeats 2000000 in
theorem law_c2 {p : Program} {l : Launch} {e : Env} {s : State} {m : MethodId} {below : List Frame} {meth : Method} {c : Code} {D : va_G} {dA : Nat → ClassId} {b L : Nat} {xs : Nat → Int32} {ad : Nat → Nat} {kc ks : Nat} (hC : vl_C p s m meth c D dA b L xs) (hB : ad 1400 = b) (hkc : kc ≤ 600000) (hks : ks ≤ 7302250) (hL : L ≤ 3584) {i : Nat} (hi : i + 7 ≤ L) {μ : vx_mem} (hrl : rl μ μ) (hnext : ∀ μ', rl μ' μ' → vl_J p l e s m below meth c D dA b ad kc ks 82 vx_lay μ' 605 [(3, .inl (nI i)), (2, vx_r 54), (1, vx_r 0), (0, vx_r 1400)] []) : vl_J p l e s m below meth c D dA b ad kc ks 82 vx_lay μ 194 [(3, .inl (nI i)), (2, vx_r 54), (1, vx_r 0), (0, vx_r 1400)] [] := by
  obtain ⟨a1, a2, a3, a4, a5, a6, a7, a8, hR⟩ := hrl
  obtain ⟨r, μ1, h1, f1, h2⟩ := st_fault (xs (i + 1)) ad μ μ _ _ _ _ _ _ _ _ hR
  obtain ⟨μ2, h3, f2, h4⟩ := h2 μ1 (rlp_cm hR (fun _ _ => rfl) f1)
  have h5 := rl_cm h4 f2
  refine vl_aload_n hC dL_law_194 rfl ?_
  refine vl_aload_n hC dL_law_195 rfl ?_
  refine vl_iload_n hC dL_law_196 rfl ?_
  refine vl_iconst (v := 1) hC dL_law_197 (by decide) ?_
  refine vl_iadd hC dL_law_198 ?_
  refine vl_eq (st2 := [.inl (nI (i + 1)), vx_r 1400, vx_r 0]) rfl rfl (by rw [show (1 : Int32) = nI 1 from rfl, nI_add]) ?_
  refine vl_sld (v := (xs ((i + 1)))) hC hB dL_law_199 (vp_in_nI (by omega) (by omega)) (by rw [nI_clamp (by omega)]) ?_
  refine vl_callV (bb := 0) (vs := [.inl (xs ((i + 1)))]) (st := []) (r0 := some (.inl r)) (μ0 := μ1) hC dL_law_200 h1 wd_499 wd_502 wd_45 hy_X8_fault wd_500 wd_501 (by decide) ly_0 rfl rfl (by decide) (Nat.le_of_ble_eq_true rfl) (Nat.le_of_ble_eq_true rfl) hkc hks ?_
  refine vl_eq (μ2 := μ1) (ls2 := [(3, .inl (nI i)), (2, vx_r 54), (1, vx_r 0), (0, vx_r 1400)]) (st2 := [.inl r]) rfl rfl rfl ?_
  refine vl_aload_n hC dL_law_203 rfl ?_
  refine vl_aload_n hC dL_law_204 rfl ?_
  refine vl_iload_n hC dL_law_205 rfl ?_
  refine vl_iconst (v := 1) hC dL_law_206 (by decide) ?_
  refine vl_iadd hC dL_law_207 ?_
  refine vl_eq (st2 := [.inl (nI (i + 1)), vx_r 1400, vx_r 54, .inl r]) rfl rfl (by rw [show (1 : Int32) = nI 1 from rfl, nI_add]) ?_
  refine vl_sld (v := (xs ((i + 1)))) hC hB dL_law_208 (vp_in_nI (by omega) (by omega)) (by rw [nI_clamp (by omega)]) ?_
  refine vl_callV (bb := 54) (vs := [.inl (xs ((i + 1)))]) (st := [.inl r]) (r0 := some (.inl r)) (μ0 := μ2) hC dL_law_209 h3 wd_942 wd_945 wd_54 hy_X9_fault wd_943 wd_944 (by decide) ly_54 rfl rfl (by decide) (Nat.le_of_ble_eq_true rfl) (Nat.le_of_ble_eq_true rfl) hkc hks ?_
  refine vl_eq (μ2 := μ2) (ls2 := [(3, .inl (nI i)), (2, vx_r 54), (1, vx_r 0), (0, vx_r 1400)]) (st2 := [.inl r, .inl r]) rfl rfl rfl ?_
  refine vl_icmp_eqT (tgt := 605) hC dL_law_212 (by decide) ?_
  exact hnext μ2 h5
set_option maxRecDepth 20000 in
set_option maxHeartbeats 2000000 in
theorem law_c3 {p : Program} {l : Launch} {e : Env} {s : State} {m : MethodId} {below : List Frame} {meth : Method} {c : Code} {D : va_G} {dA : Nat → ClassId} {b L : Nat} {xs : Nat → Int32} {ad : Nat → Nat} {kc ks : Nat} (hC : vl_C p s m meth c D dA b L xs) (hB : ad 1400 = b) (hkc : kc ≤ 600000) (hks : ks ≤ 7302250) (hL : L ≤ 3584) {i : Nat} (hi : i + 7 ≤ L) {μ : vx_mem} (hrl : rl μ μ) (hnext : ∀ μ', rl μ' μ' → vl_J p l e s m below meth c D dA b ad kc ks 82 vx_lay μ' 605 [(3, .inl (nI i)), (2, vx_r 54), (1, vx_r 0), (0, vx_r 1400)] []) : vl_J p l e s m below meth c D dA b ad kc ks 82 vx_lay μ 217 [(3, .inl (nI i)), (2, vx_r 54), (1, vx_r 0), (0, vx_r 1400)] [] := by
  obtain ⟨a1, a2, a3, a4, a5, a6, a7, a8, hR⟩ := hrl
  obtain ⟨r, μ1, h1, f1, h2⟩ := st_farm (xs (i + 1)) (xs (i + 2)) (xs (i + 3)) (xs (i + 4)) (xs (i + 5)) (xs (i + 6)) ad μ μ _ _ _ _ _ _ _ _ hR
  obtain ⟨μ2, h3, f2, h4⟩ := h2 μ1 (rlp_cm hR (fun _ _ => rfl) f1)
  have h5 := rl_cm h4 f2
  refine vl_aload_n hC dL_law_217 rfl ?_
  refine vl_aload_n hC dL_law_218 rfl ?_
  refine vl_iload_n hC dL_law_219 rfl ?_
  refine vl_iconst (v := 1) hC dL_law_220 (by decide) ?_
  refine vl_iadd hC dL_law_221 ?_
  refine vl_eq (st2 := [.inl (nI (i + 1)), vx_r 1400, vx_r 0]) rfl rfl (by rw [show (1 : Int32) = nI 1 from rfl, nI_add]) ?_
  refine vl_sld (v := (xs ((i + 1)))) hC hB dL_law_222 (vp_in_nI (by omega) (by omega)) (by rw [nI_clamp (by omega)]) ?_
  refine vl_aload_n hC dL_law_223 rfl ?_
  refine vl_iload_n hC dL_law_224 rfl ?_
  refine vl_iconst (v := 2) hC dL_law_225 (by decide) ?_
  refine vl_iadd hC dL_law_226 ?_
  refine vl_eq (st2 := [.inl (nI (i + 2)), vx_r 1400, .inl (xs ((i + 1))), vx_r 0]) rfl rfl (by rw [show (2 : Int32) = nI 2 from rfl, nI_add]) ?_
  refine vl_sld (v := (xs ((i + 2)))) hC hB dL_law_227 (vp_in_nI (by omega) (by omega)) (by rw [nI_clamp (by omega)]) ?_
  refine vl_aload_n hC dL_law_228 rfl ?_
  refine vl_iload_n hC dL_law_229 rfl ?_
  refine vl_iconst (v := 3) hC dL_law_230 (by decide) ?_
  refine vl_iadd hC dL_law_231 ?_
  refine vl_eq (st2 := [.inl (nI (i + 3)), vx_r 1400, .inl (xs ((i + 2))), .inl (xs ((i + 1))), vx_r 0]) rfl rfl (by rw [show (3 : Int32) = nI 3 from rfl, nI_add]) ?_
  refine vl_sld (v := (xs ((i + 3)))) hC hB dL_law_232 (vp_in_nI (by omega) (by omega)) (by rw [nI_clamp (by omega)]) ?_
  refine vl_aload_n hC dL_law_233 rfl ?_
  refine vl_iload_n hC dL_law_234 rfl ?_
  refine vl_iconst (v := 4) hC dL_law_235 (by decide) ?_
  refine vl_iadd hC dL_law_236 ?_
  refine vl_eq (st2 := [.inl (nI (i + 4)), vx_r 1400, .inl (xs ((i + 3))), .inl (xs ((i + 2))), .inl (xs ((i + 1))), vx_r 0]) rfl rfl (by rw [show (4 : Int32) = nI 4 from rfl, nI_add]) ?_
  refine vl_sld (v := (xs ((i + 4)))) hC hB dL_law_237 (vp_in_nI (by omega) (by omega)) (by rw [nI_clamp (by omega)]) ?_
  refine vl_aload_n hC dL_law_238 rfl ?_
  refine vl_iload_n hC dL_law_239 rfl ?_
  refine vl_iconst (v := 5) hC dL_law_240 (by decide) ?_
  refine vl_iadd hC dL_law_241 ?_
  refine vl_eq (st2 := [.inl (nI (i + 5)), vx_r 1400, .inl (xs ((i + 4))), .inl (xs ((i + 3))), .inl (xs ((i + 2))), .inl (xs ((i + 1))), vx_r 0]) rfl rfl (by rw [show (5 : Int32) = nI 5 from rfl, nI_add]) ?_
  refine vl_sld (v := (xs ((i + 5)))) hC hB dL_law_242 (vp_in_nI (by omega) (by omega)) (by rw [nI_clamp (by omega)]) ?_
  refine vl_aload_n hC dL_law_243 rfl ?_
  refine vl_iload_n hC dL_law_244 rfl ?_
  refine vl_bipush (v := 6) hC dL_law_245 (by decide) ?_
  refine vl_iadd hC dL_law_247 ?_
  refine vl_eq (st2 := [.inl (nI (i + 6)), vx_r 1400, .inl (xs ((i + 5))), .inl (xs ((i + 4))), .inl (xs ((i + 3))), .inl (xs ((i + 2))), .inl (xs ((i + 1))), vx_r 0]) rfl rfl (by rw [show (6 : Int32) = nI 6 from rfl, nI_add]) ?_
  refine vl_sld (v := (xs ((i + 6)))) hC hB dL_law_248 (vp_in_nI (by omega) (by omega)) (by rw [nI_clamp (by omega)]) ?_
  refine vl_callV (bb := 0) (vs := [.inl (xs ((i + 1))), .inl (xs ((i + 2))), .inl (xs ((i + 3))), .inl (xs ((i + 4))), .inl (xs ((i + 5))), .inl (xs ((i + 6)))]) (st := []) (r0 := some (.inl r)) (μ0 := μ1) hC dL_law_249 h1 wd_503 wd_506 wd_45 hy_X8_farm wd_504 wd_505 (by decide) ly_0 rfl rfl (by decide) (Nat.le_of_ble_eq_true rfl) (Nat.le_of_ble_eq_true rfl) hkc hks ?_
  refine vl_eq (μ2 := μ1) (ls2 := [(3, .inl (nI i)), (2, vx_r 54), (1, vx_r 0), (0, vx_r 1400)]) (st2 := [.inl r]) rfl rfl rfl ?_
  refine vl_aload_n hC dL_law_252 rfl ?_
  refine vl_aload_n hC dL_law_253 rfl ?_
  refine vl_iload_n hC dL_law_254 rfl ?_
  refine vl_iconst (v := 1) hC dL_law_255 (by decide) ?_
  refine vl_iadd hC dL_law_256 ?_
  refine vl_eq (st2 := [.inl (nI (i + 1)), vx_r 1400, vx_r 54, .inl r]) rfl rfl (by rw [show (1 : Int32) = nI 1 from rfl, nI_add]) ?_
  refine vl_sld (v := (xs ((i + 1)))) hC hB dL_law_257 (vp_in_nI (by omega) (by omega)) (by rw [nI_clamp (by omega)]) ?_
  refine vl_aload_n hC dL_law_258 rfl ?_
  refine vl_iload_n hC dL_law_259 rfl ?_
  refine vl_iconst (v := 2) hC dL_law_260 (by decide) ?_
  refine vl_iadd hC dL_law_261 ?_
  refine vl_eq (st2 := [.inl (nI (i + 2)), vx_r 1400, .inl (xs ((i + 1))), vx_r 54, .inl r]) rfl rfl (by rw [show (2 : Int32) = nI 2 from rfl, nI_add]) ?_
  refine vl_sld (v := (xs ((i + 2)))) hC hB dL_law_262 (vp_in_nI (by omega) (by omega)) (by rw [nI_clamp (by omega)]) ?_
  refine vl_aload_n hC dL_law_263 rfl ?_
  refine vl_iload_n hC dL_law_264 rfl ?_
  refine vl_iconst (v := 3) hC dL_law_265 (by decide) ?_
  refine vl_iadd hC dL_law_266 ?_
  refine vl_eq (st2 := [.inl (nI (i + 3)), vx_r 1400, .inl (xs ((i + 2))), .inl (xs ((i + 1))), vx_r 54, .inl r]) rfl rfl (by rw [show (3 : Int32) = nI 3 from rfl, nI_add]) ?_
  refine vl_sld (v := (xs ((i + 3)))) hC hB dL_law_267 (vp_in_nI (by omega) (by omega)) (by rw [nI_clamp (by omega)]) ?_
  refine vl_aload_n hC dL_law_268 rfl ?_
  refine vl_iload_n hC dL_law_269 rfl ?_
  refine vl_iconst (v := 4) hC dL_law_270 (by decide) ?_
  refine vl_iadd hC dL_law_271 ?_
  refine vl_eq (st2 := [.inl (nI (i + 4)), vx_r 1400, .inl (xs ((i + 3))), .inl (xs ((i + 2))), .inl (xs ((i + 1))), vx_r 54, .inl r]) rfl rfl (by rw [show (4 : Int32) = nI 4 from rfl, nI_add]) ?_
  refine vl_sld (v := (xs ((i + 4)))) hC hB dL_law_272 (vp_in_nI (by omega) (by omega)) (by rw [nI_clamp (by omega)]) ?_
  refine vl_aload_n hC dL_law_273 rfl ?_
  refine vl_iload_n hC dL_law_274 rfl ?_
  refine vl_iconst (v := 5) hC dL_law_275 (by decide) ?_
  refine vl_iadd hC dL_law_276 ?_
  refine vl_eq (st2 := [.inl (nI (i + 5)), vx_r 1400, .inl (xs ((i + 4))), .inl (xs ((i + 3))), .inl (xs ((i + 2))), .inl (xs ((i + 1))), vx_r 54, .inl r]) rfl rfl (by rw [show (5 : Int32) = nI 5 from rfl, nI_add]) ?_
  refine vl_sld (v := (xs ((i + 5)))) hC hB dL_law_277 (vp_in_nI (by omega) (by omega)) (by rw [nI_clamp (by omega)]) ?_
  refine vl_aload_n hC dL_law_278 rfl ?_
  refine vl_iload_n hC dL_law_279 rfl ?_
  refine vl_bipush (v := 6) hC dL_law_280 (by decide) ?_
  refine vl_iadd hC dL_law_282 ?_
  refine vl_eq (st2 := [.inl (nI (i + 6)), vx_r 1400, .inl (xs ((i + 5))), .inl (xs ((i + 4))), .inl (xs ((i + 3))), .inl (xs ((i + 2))), .inl (xs ((i + 1))), vx_r 54, .inl r]) rfl rfl (by rw [show (6 : Int32) = nI 6 from rfl, nI_add]) ?_
  refine vl_sld (v := (xs ((i + 6)))) hC hB dL_law_283 (vp_in_nI (by omega) (by omega)) (by rw [nI_clamp (by omega)]) ?_
  refine vl_callV (bb := 54) (vs := [.inl (xs ((i + 1))), .inl (xs ((i + 2))), .inl (xs ((i + 3))), .inl (xs ((i + 4))), .inl (xs ((i + 5))), .inl (xs ((i + 6)))]) (st := [.inl r]) (r0 := some (.inl r)) (μ0 := μ2) hC dL_law_284 h3 wd_946 wd_949 wd_54 hy_X9_farm wd_947 wd_948 (by decide) ly_54 rfl rfl (by decide) (Nat.le_of_ble_eq_true rfl) (Nat.le_of_ble_eq_true rfl) hkc hks ?_
  refine vl_eq (μ2 := μ2) (ls2 := [(3, .inl (nI i)), (2, vx_r 54), (1, vx_r 0), (0, vx_r 1400)]) (st2 := [.inl r, .inl r]) rfl rfl rfl ?_
  refine vl_icmp_eqT (tgt := 605) hC dL_law_287 (by decide) ?_
  exact hnext μ2 h5
set_option maxRecDepth 20000 in
set_option maxHeartbeats 2000000 in
theorem law_c4 {p : Program} {l : Launch} {e : Env} {s : State} {m : MethodId} {below : List Frame} {meth : Method} {c : Code} {D : va_G} {dA : Nat → ClassId} {b L : Nat} {xs : Nat → Int32} {ad : Nat → Nat} {kc ks : Nat} (hC : vl_C p s m meth c D dA b L xs) (hB : ad 1400 = b) (hkc : kc ≤ 600000) (hks : ks ≤ 7302250) (hL : L ≤ 3584) {i : Nat} (hi : i + 7 ≤ L) {μ : vx_mem} (hrl : rl μ μ) (hnext : ∀ μ', rl μ' μ' → vl_J p l e s m below meth c D dA b ad kc ks 82 vx_lay μ' 605 [(3, .inl (nI i)), (2, vx_r 54), (1, vx_r 0), (0, vx_r 1400)] []) : vl_J p l e s m below meth c D dA b ad kc ks 82 vx_lay μ 292 [(3, .inl (nI i)), (2, vx_r 54), (1, vx_r 0), (0, vx_r 1400)] [] := by
  obtain ⟨a1, a2, a3, a4, a5, a6, a7, a8, hR⟩ := hrl
  obtain ⟨r, μ1, h1, f1, h2⟩ := st_way (xs (i + 1)) (xs (i + 2)) (xs (i + 3)) ad μ μ _ _ _ _ _ _ _ _ hR
  obtain ⟨μ2, h3, f2, h4⟩ := h2 μ1 (rlp_cm hR (fun _ _ => rfl) f1)
  have h5 := rl_cm h4 f2
  refine vl_aload_n hC dL_law_292 rfl ?_
  refine vl_aload_n hC dL_law_293 rfl ?_
  refine vl_iload_n hC dL_law_294 rfl ?_
  refine vl_iconst (v := 1) hC dL_law_295 (by decide) ?_
  refine vl_iadd hC dL_law_296 ?_
  refine vl_eq (st2 := [.inl (nI (i + 1)), vx_r 1400, vx_r 0]) rfl rfl (by rw [show (1 : Int32) = nI 1 from rfl, nI_add]) ?_
  refine vl_sld (v := (xs ((i + 1)))) hC hB dL_law_297 (vp_in_nI (by omega) (by omega)) (by rw [nI_clamp (by omega)]) ?_
  refine vl_aload_n hC dL_law_298 rfl ?_
  refine vl_iload_n hC dL_law_299 rfl ?_
  refine vl_iconst (v := 2) hC dL_law_300 (by decide) ?_
  refine vl_iadd hC dL_law_301 ?_
  refine vl_eq (st2 := [.inl (nI (i + 2)), vx_r 1400, .inl (xs ((i + 1))), vx_r 0]) rfl rfl (by rw [show (2 : Int32) = nI 2 from rfl, nI_add]) ?_
  refine vl_sld (v := (xs ((i + 2)))) hC hB dL_law_302 (vp_in_nI (by omega) (by omega)) (by rw [nI_clamp (by omega)]) ?_
  refine vl_aload_n hC dL_law_303 rfl ?_
  refine vl_iload_n hC dL_law_304 rfl ?_
  refine vl_iconst (v := 3) hC dL_law_305 (by decide) ?_
  refine vl_iadd hC dL_law_306 ?_
  refine vl_eq (st2 := [.inl (nI (i + 3)), vx_r 1400, .inl (xs ((i + 2))), .inl (xs ((i + 1))), vx_r 0]) rfl rfl (by rw [show (3 : Int32) = nI 3 from rfl, nI_add]) ?_
  refine vl_sld (v := (xs ((i + 3)))) hC hB dL_law_307 (vp_in_nI (by omega) (by omega)) (by rw [nI_clamp (by omega)]) ?_
  refine vl_callV (bb := 0) (vs := [.inl (xs ((i + 1))), .inl (xs ((i + 2))), .inl (xs ((i + 3)))]) (st := []) (r0 := some (.inl r)) (μ0 := μ1) hC dL_law_308 h1 wd_514 wd_517 wd_45 hy_X8_way wd_515 wd_516 (by decide) ly_0 rfl rfl (by decide) (Nat.le_of_ble_eq_true rfl) (Nat.le_of_ble_eq_true rfl) hkc hks ?_
  refine vl_eq (μ2 := μ1) (ls2 := [(3, .inl (nI i)), (2, vx_r 54), (1, vx_r 0), (0, vx_r 1400)]) (st2 := [.inl r]) rfl rfl rfl ?_
  refine vl_aload_n hC dL_law_311 rfl ?_
  refine vl_aload_n hC dL_law_312 rfl ?_
  refine vl_iload_n hC dL_law_313 rfl ?_
  refine vl_iconst (v := 1) hC dL_law_314 (by decide) ?_
  refine vl_iadd hC dL_law_315 ?_
  refine vl_eq (st2 := [.inl (nI (i + 1)), vx_r 1400, vx_r 54, .inl r]) rfl rfl (by rw [show (1 : Int32) = nI 1 from rfl, nI_add]) ?_
  refine vl_sld (v := (xs ((i + 1)))) hC hB dL_law_316 (vp_in_nI (by omega) (by omega)) (by rw [nI_clamp (by omega)]) ?_
  refine vl_aload_n hC dL_law_317 rfl ?_
  refine vl_iload_n hC dL_law_318 rfl ?_
  refine vl_iconst (v := 2) hC dL_law_319 (by decide) ?_
  refine vl_iadd hC dL_law_320 ?_
  refine vl_eq (st2 := [.inl (nI (i + 2)), vx_r 1400, .inl (xs ((i + 1))), vx_r 54, .inl r]) rfl rfl (by rw [show (2 : Int32) = nI 2 from rfl, nI_add]) ?_
  refine vl_sld (v := (xs ((i + 2)))) hC hB dL_law_321 (vp_in_nI (by omega) (by omega)) (by rw [nI_clamp (by omega)]) ?_
  refine vl_aload_n hC dL_law_322 rfl ?_
  refine vl_iload_n hC dL_law_323 rfl ?_
  refine vl_iconst (v := 3) hC dL_law_324 (by decide) ?_
  refine vl_iadd hC dL_law_325 ?_
  refine vl_eq (st2 := [.inl (nI (i + 3)), vx_r 1400, .inl (xs ((i + 2))), .inl (xs ((i + 1))), vx_r 54, .inl r]) rfl rfl (by rw [show (3 : Int32) = nI 3 from rfl, nI_add]) ?_
  refine vl_sld (v := (xs ((i + 3)))) hC hB dL_law_326 (vp_in_nI (by omega) (by omega)) (by rw [nI_clamp (by omega)]) ?_
  refine vl_callV (bb := 54) (vs := [.inl (xs ((i + 1))), .inl (xs ((i + 2))), .inl (xs ((i + 3)))]) (st := [.inl r]) (r0 := some (.inl r)) (μ0 := μ2) hC dL_law_327 h3 wd_953 wd_956 wd_54 hy_X9_way wd_954 wd_955 (by decide) ly_54 rfl rfl (by decide) (Nat.le_of_ble_eq_true rfl) (Nat.le_of_ble_eq_true rfl) hkc hks ?_
  refine vl_eq (μ2 := μ2) (ls2 := [(3, .inl (nI i)), (2, vx_r 54), (1, vx_r 0), (0, vx_r 1400)]) (st2 := [.inl r, .inl r]) rfl rfl rfl ?_
  refine vl_icmp_eqT (tgt := 605) hC dL_law_330 (by decide) ?_
  exact hnext μ2 h5
set_option maxRecDepth 20000 in
set_option maxHeartbeats 2000000 in
theorem law_c5 {p : Program} {l : Launch} {e : Env} {s : State} {m : MethodId} {below : List Frame} {meth : Method} {c : Code} {D : va_G} {dA : Nat → ClassId} {b L : Nat} {xs : Nat → Int32} {ad : Nat → Nat} {kc ks : Nat} (hC : vl_C p s m meth c D dA b L xs) (hB : ad 1400 = b) (hkc : kc ≤ 600000) (hks : ks ≤ 7302250) (hL : L ≤ 3584) {i : Nat} (hi : i + 7 ≤ L) {μ : vx_mem} (hrl : rl μ μ) (hnext : ∀ μ', rl μ' μ' → vl_J p l e s m below meth c D dA b ad kc ks 82 vx_lay μ' 605 [(3, .inl (nI i)), (2, vx_r 54), (1, vx_r 0), (0, vx_r 1400)] []) : vl_J p l e s m below meth c D dA b ad kc ks 82 vx_lay μ 335 [(3, .inl (nI i)), (2, vx_r 54), (1, vx_r 0), (0, vx_r 1400)] [] := by
  obtain ⟨a1, a2, a3, a4, a5, a6, a7, a8, hR⟩ := hrl
  obtain ⟨r, μ1, h1, f1, h2⟩ := st_bargain (xs (i + 1)) (xs (i + 2)) (xs (i + 3)) ad μ μ _ _ _ _ _ _ _ _ hR
  obtain ⟨μ2, h3, f2, h4⟩ := h2 μ1 (rlp_cm hR (fun _ _ => rfl) f1)
  have h5 := rl_cm h4 f2
  refine vl_aload_n hC dL_law_335 rfl ?_
  refine vl_aload_n hC dL_law_336 rfl ?_
  refine vl_iload_n hC dL_law_337 rfl ?_
  refine vl_iconst (v := 1) hC dL_law_338 (by decide) ?_
  refine vl_iadd hC dL_law_339 ?_
  refine vl_eq (st2 := [.inl (nI (i + 1)), vx_r 1400, vx_r 0]) rfl rfl (by rw [show (1 : Int32) = nI 1 from rfl, nI_add]) ?_
  refine vl_sld (v := (xs ((i + 1)))) hC hB dL_law_340 (vp_in_nI (by omega) (by omega)) (by rw [nI_clamp (by omega)]) ?_
  refine vl_aload_n hC dL_law_341 rfl ?_
  refine vl_iload_n hC dL_law_342 rfl ?_
  refine vl_iconst (v := 2) hC dL_law_343 (by decide) ?_
  refine vl_iadd hC dL_law_344 ?_
  refine vl_eq (st2 := [.inl (nI (i + 2)), vx_r 1400, .inl (xs ((i + 1))), vx_r 0]) rfl rfl (by rw [show (2 : Int32) = nI 2 from rfl, nI_add]) ?_
  refine vl_sld (v := (xs ((i + 2)))) hC hB dL_law_345 (vp_in_nI (by omega) (by omega)) (by rw [nI_clamp (by omega)]) ?_
  refine vl_aload_n hC dL_law_346 rfl ?_
  refine vl_iload_n hC dL_law_347 rfl ?_
  refine vl_iconst (v := 3) hC dL_law_348 (by decide) ?_
  refine vl_iadd hC dL_law_349 ?_
  refine vl_eq (st2 := [.inl (nI (i + 3)), vx_r 1400, .inl (xs ((i + 2))), .inl (xs ((i + 1))), vx_r 0]) rfl rfl (by rw [show (3 : Int32) = nI 3 from rfl, nI_add]) ?_
  refine vl_sld (v := (xs ((i + 3)))) hC hB dL_law_350 (vp_in_nI (by omega) (by omega)) (by rw [nI_clamp (by omega)]) ?_
  refine vl_callV (bb := 0) (vs := [.inl (xs ((i + 1))), .inl (xs ((i + 2))), .inl (xs ((i + 3)))]) (st := []) (r0 := some (.inl r)) (μ0 := μ1) hC dL_law_351 h1 wd_527 wd_530 wd_45 hy_X8_bargain wd_528 wd_529 (by decide) ly_0 rfl rfl (by decide) (Nat.le_of_ble_eq_true rfl) (Nat.le_of_ble_eq_true rfl) hkc hks ?_
  refine vl_eq (μ2 := μ1) (ls2 := [(3, .inl (nI i)), (2, vx_r 54), (1, vx_r 0), (0, vx_r 1400)]) (st2 := [.inl r]) rfl rfl rfl ?_
  refine vl_aload_n hC dL_law_354 rfl ?_
  refine vl_aload_n hC dL_law_355 rfl ?_
  refine vl_iload_n hC dL_law_356 rfl ?_
  refine vl_iconst (v := 1) hC dL_law_357 (by decide) ?_
  refine vl_iadd hC dL_law_358 ?_
  refine vl_eq (st2 := [.inl (nI (i + 1)), vx_r 1400, vx_r 54, .inl r]) rfl rfl (by rw [show (1 : Int32) = nI 1 from rfl, nI_add]) ?_
  refine vl_sld (v := (xs ((i + 1)))) hC hB dL_law_359 (vp_in_nI (by omega) (by omega)) (by rw [nI_clamp (by omega)]) ?_
  refine vl_aload_n hC dL_law_360 rfl ?_
  refine vl_iload_n hC dL_law_361 rfl ?_
  refine vl_iconst (v := 2) hC dL_law_362 (by decide) ?_
  refine vl_iadd hC dL_law_363 ?_
  refine vl_eq (st2 := [.inl (nI (i + 2)), vx_r 1400, .inl (xs ((i + 1))), vx_r 54, .inl r]) rfl rfl (by rw [show (2 : Int32) = nI 2 from rfl, nI_add]) ?_
  refine vl_sld (v := (xs ((i + 2)))) hC hB dL_law_364 (vp_in_nI (by omega) (by omega)) (by rw [nI_clamp (by omega)]) ?_
  refine vl_aload_n hC dL_law_365 rfl ?_
  refine vl_iload_n hC dL_law_366 rfl ?_
  refine vl_iconst (v := 3) hC dL_law_367 (by decide) ?_
  refine vl_iadd hC dL_law_368 ?_
  refine vl_eq (st2 := [.inl (nI (i + 3)), vx_r 1400, .inl (xs ((i + 2))), .inl (xs ((i + 1))), vx_r 54, .inl r]) rfl rfl (by rw [show (3 : Int32) = nI 3 from rfl, nI_add]) ?_
  refine vl_sld (v := (xs ((i + 3)))) hC hB dL_law_369 (vp_in_nI (by omega) (by omega)) (by rw [nI_clamp (by omega)]) ?_
  refine vl_callV (bb := 54) (vs := [.inl (xs ((i + 1))), .inl (xs ((i + 2))), .inl (xs ((i + 3)))]) (st := [.inl r]) (r0 := some (.inl r)) (μ0 := μ2) hC dL_law_370 h3 wd_957 wd_960 wd_54 hy_X9_bargain wd_958 wd_959 (by decide) ly_54 rfl rfl (by decide) (Nat.le_of_ble_eq_true rfl) (Nat.le_of_ble_eq_true rfl) hkc hks ?_
  refine vl_eq (μ2 := μ2) (ls2 := [(3, .inl (nI i)), (2, vx_r 54), (1, vx_r 0), (0, vx_r 1400)]) (st2 := [.inl r, .inl r]) rfl rfl rfl ?_
  refine vl_icmp_eqT (tgt := 605) hC dL_law_373 (by decide) ?_
  exact hnext μ2 h5
set_option maxRecDepth 20000 in
set_option maxHeartbeats 2000000 in
theorem law_c6 {p : Program} {l : Launch} {e : Env} {s : State} {m : MethodId} {below : List Frame} {meth : Method} {c : Code} {D : va_G} {dA : Nat → ClassId} {b L : Nat} {xs : Nat → Int32} {ad : Nat → Nat} {kc ks : Nat} (hC : vl_C p s m meth c D dA b L xs) (hB : ad 1400 = b) (hkc : kc ≤ 600000) (hks : ks ≤ 7302250) (hL : L ≤ 3584) {i : Nat} (hi : i + 7 ≤ L) {μ : vx_mem} (hrl : rl μ μ) (hnext : ∀ μ', rl μ' μ' → vl_J p l e s m below meth c D dA b ad kc ks 82 vx_lay μ' 605 [(3, .inl (nI i)), (2, vx_r 54), (1, vx_r 0), (0, vx_r 1400)] []) : vl_J p l e s m below meth c D dA b ad kc ks 82 vx_lay μ 378 [(3, .inl (nI i)), (2, vx_r 54), (1, vx_r 0), (0, vx_r 1400)] [] := by
  obtain ⟨a1, a2, a3, a4, a5, a6, a7, a8, hR⟩ := hrl
  obtain ⟨r, μ1, h1, f1, h2⟩ := st_plan  ad μ μ _ _ _ _ _ _ _ _ hR
  obtain ⟨μ2, h3, f2, h4⟩ := h2 μ1 (rlp_cm hR (fun _ _ => rfl) f1)
  have h5 := rl_cm h4 f2
  refine vl_aload_n hC dL_law_378 rfl ?_
  refine vl_callV (bb := 0) (vs := []) (st := []) (r0 := some (.inl r)) (μ0 := μ1) hC dL_law_379 h1 wd_531 wd_534 wd_45 hy_X8_plan wd_532 wd_533 (by decide) ly_0 rfl rfl (by decide) (Nat.le_of_ble_eq_true rfl) (Nat.le_of_ble_eq_true rfl) hkc hks ?_
  refine vl_eq (μ2 := μ1) (ls2 := [(3, .inl (nI i)), (2, vx_r 54), (1, vx_r 0), (0, vx_r 1400)]) (st2 := [.inl r]) rfl rfl rfl ?_
  refine vl_aload_n hC dL_law_382 rfl ?_
  refine vl_callV (bb := 54) (vs := []) (st := [.inl r]) (r0 := some (.inl r)) (μ0 := μ2) hC dL_law_383 h3 wd_965 wd_968 wd_54 hy_X9_plan wd_966 wd_967 (by decide) ly_54 rfl rfl (by decide) (Nat.le_of_ble_eq_true rfl) (Nat.le_of_ble_eq_true rfl) hkc hks ?_
  refine vl_eq (μ2 := μ2) (ls2 := [(3, .inl (nI i)), (2, vx_r 54), (1, vx_r 0), (0, vx_r 1400)]) (st2 := [.inl r, .inl r]) rfl rfl rfl ?_
  refine vl_icmp_eqT (tgt := 605) hC dL_law_386 (by decide) ?_
  exact hnext μ2 h5
set_option maxRecDepth 20000 in
set_option maxHeartbeats 2000000 in
theorem law_c7 {p : Program} {l : Launch} {e : Env} {s : State} {m : MethodId} {below : List Frame} {meth : Method} {c : Code} {D : va_G} {dA : Nat → ClassId} {b L : Nat} {xs : Nat → Int32} {ad : Nat → Nat} {kc ks : Nat} (hC : vl_C p s m meth c D dA b L xs) (hB : ad 1400 = b) (hkc : kc ≤ 600000) (hks : ks ≤ 7302250) (hL : L ≤ 3584) {i : Nat} (hi : i + 7 ≤ L) {μ : vx_mem} (hrl : rl μ μ) (hnext : ∀ μ', rl μ' μ' → vl_J p l e s m below meth c D dA b ad kc ks 82 vx_lay μ' 605 [(3, .inl (nI i)), (2, vx_r 54), (1, vx_r 0), (0, vx_r 1400)] []) : vl_J p l e s m below meth c D dA b ad kc ks 82 vx_lay μ 391 [(3, .inl (nI i)), (2, vx_r 54), (1, vx_r 0), (0, vx_r 1400)] [] := by
  obtain ⟨a1, a2, a3, a4, a5, a6, a7, a8, hR⟩ := hrl
  obtain ⟨r, μ1, h1, f1, h2⟩ := st_planned (xs (i + 1)) (xs (i + 2)) ad μ μ _ _ _ _ _ _ _ _ hR
  obtain ⟨μ2, h3, f2, h4⟩ := h2 μ1 (rlp_cm hR (fun _ _ => rfl) f1)
  have h5 := rl_cm h4 f2
  refine vl_aload_n hC dL_law_391 rfl ?_
  refine vl_aload_n hC dL_law_392 rfl ?_
  refine vl_iload_n hC dL_law_393 rfl ?_
  refine vl_iconst (v := 1) hC dL_law_394 (by decide) ?_
  refine vl_iadd hC dL_law_395 ?_
  refine vl_eq (st2 := [.inl (nI (i + 1)), vx_r 1400, vx_r 0]) rfl rfl (by rw [show (1 : Int32) = nI 1 from rfl, nI_add]) ?_
  refine vl_sld (v := (xs ((i + 1)))) hC hB dL_law_396 (vp_in_nI (by omega) (by omega)) (by rw [nI_clamp (by omega)]) ?_
  refine vl_aload_n hC dL_law_397 rfl ?_
  refine vl_iload_n hC dL_law_398 rfl ?_
  refine vl_iconst (v := 2) hC dL_law_399 (by decide) ?_
  refine vl_iadd hC dL_law_400 ?_
  refine vl_eq (st2 := [.inl (nI (i + 2)), vx_r 1400, .inl (xs ((i + 1))), vx_r 0]) rfl rfl (by rw [show (2 : Int32) = nI 2 from rfl, nI_add]) ?_
  refine vl_sld (v := (xs ((i + 2)))) hC hB dL_law_401 (vp_in_nI (by omega) (by omega)) (by rw [nI_clamp (by omega)]) ?_
  refine vl_callV (bb := 0) (vs := [.inl (xs ((i + 1))), .inl (xs ((i + 2)))]) (st := []) (r0 := some (.inl r)) (μ0 := μ1) hC dL_law_402 h1 wd_640 wd_643 wd_45 hy_X8_planned wd_641 wd_642 (by decide) ly_0 rfl rfl (by decide) (Nat.le_of_ble_eq_true rfl) (Nat.le_of_ble_eq_true rfl) hkc hks ?_
  refine vl_eq (μ2 := μ1) (ls2 := [(3, .inl (nI i)), (2, vx_r 54), (1, vx_r 0), (0, vx_r 1400)]) (st2 := [.inl r]) rfl rfl rfl ?_
  refine vl_aload_n hC dL_law_405 rfl ?_
  refine vl_aload_n hC dL_law_406 rfl ?_
  refine vl_iload_n hC dL_law_407 rfl ?_
  refine vl_iconst (v := 1) hC dL_law_408 (by decide) ?_
  refine vl_iadd hC dL_law_409 ?_
  refine vl_eq (st2 := [.inl (nI (i + 1)), vx_r 1400, vx_r 54, .inl r]) rfl rfl (by rw [show (1 : Int32) = nI 1 from rfl, nI_add]) ?_
  refine vl_sld (v := (xs ((i + 1)))) hC hB dL_law_410 (vp_in_nI (by omega) (by omega)) (by rw [nI_clamp (by omega)]) ?_
  refine vl_aload_n hC dL_law_411 rfl ?_
  refine vl_iload_n hC dL_law_412 rfl ?_
  refine vl_iconst (v := 2) hC dL_law_413 (by decide) ?_
  refine vl_iadd hC dL_law_414 ?_
  refine vl_eq (st2 := [.inl (nI (i + 2)), vx_r 1400, .inl (xs ((i + 1))), vx_r 54, .inl r]) rfl rfl (by rw [show (2 : Int32) = nI 2 from rfl, nI_add]) ?_
  refine vl_sld (v := (xs ((i + 2)))) hC hB dL_law_415 (vp_in_nI (by omega) (by omega)) (by rw [nI_clamp (by omega)]) ?_
  refine vl_callV (bb := 54) (vs := [.inl (xs ((i + 1))), .inl (xs ((i + 2)))]) (st := [.inl r]) (r0 := some (.inl r)) (μ0 := μ2) hC dL_law_416 h3 wd_1007 wd_1010 wd_54 hy_X9_planned wd_1008 wd_1009 (by decide) ly_54 rfl rfl (by decide) (Nat.le_of_ble_eq_true rfl) (Nat.le_of_ble_eq_true rfl) hkc hks ?_
  refine vl_eq (μ2 := μ2) (ls2 := [(3, .inl (nI i)), (2, vx_r 54), (1, vx_r 0), (0, vx_r 1400)]) (st2 := [.inl r, .inl r]) rfl rfl rfl ?_
  refine vl_icmp_eqT (tgt := 605) hC dL_law_419 (by decide) ?_
  exact hnext μ2 h5
set_option maxRecDepth 20000 in
set_option maxHeartbeats 2000000 in
theorem law_c8 {p : Program} {l : Launch} {e : Env} {s : State} {m : MethodId} {below : List Frame} {meth : Method} {c : Code} {D : va_G} {dA : Nat → ClassId} {b L : Nat} {xs : Nat → Int32} {ad : Nat → Nat} {kc ks : Nat} (hC : vl_C p s m meth c D dA b L xs) (hB : ad 1400 = b) (hkc : kc ≤ 600000) (hks : ks ≤ 7302250) (hL : L ≤ 3584) {i : Nat} (hi : i + 7 ≤ L) {μ : vx_mem} (hrl : rl μ μ) (hnext : ∀ μ', rl μ' μ' → vl_J p l e s m below meth c D dA b ad kc ks 82 vx_lay μ' 605 [(3, .inl (nI i)), (2, vx_r 54), (1, vx_r 0), (0, vx_r 1400)] []) : vl_J p l e s m below meth c D dA b ad kc ks 82 vx_lay μ 424 [(3, .inl (nI i)), (2, vx_r 54), (1, vx_r 0), (0, vx_r 1400)] [] := by
  obtain ⟨a1, a2, a3, a4, a5, a6, a7, a8, hR⟩ := hrl
  obtain ⟨r, μ1, h1, f1, h2⟩ := st_out  ad μ μ _ _ _ _ _ _ _ _ hR
  obtain ⟨μ2, h3, f2, h4⟩ := h2 μ1 (rlp_cm hR (fun _ _ => rfl) f1)
  have h5 := rl_cm h4 f2
  refine vl_aload_n hC dL_law_424 rfl ?_
  refine vl_callV (bb := 0) (vs := []) (st := []) (r0 := some (.inl r)) (μ0 := μ1) hC dL_law_425 h1 wd_644 wd_647 wd_45 hy_X8_out wd_645 wd_646 (by decide) ly_0 rfl rfl (by decide) (Nat.le_of_ble_eq_true rfl) (Nat.le_of_ble_eq_true rfl) hkc hks ?_
  refine vl_eq (μ2 := μ1) (ls2 := [(3, .inl (nI i)), (2, vx_r 54), (1, vx_r 0), (0, vx_r 1400)]) (st2 := [.inl r]) rfl rfl rfl ?_
  refine vl_aload_n hC dL_law_428 rfl ?_
  refine vl_callV (bb := 54) (vs := []) (st := [.inl r]) (r0 := some (.inl r)) (μ0 := μ2) hC dL_law_429 h3 wd_1011 wd_1014 wd_54 hy_X9_out wd_1012 wd_1013 (by decide) ly_54 rfl rfl (by decide) (Nat.le_of_ble_eq_true rfl) (Nat.le_of_ble_eq_true rfl) hkc hks ?_
  refine vl_eq (μ2 := μ2) (ls2 := [(3, .inl (nI i)), (2, vx_r 54), (1, vx_r 0), (0, vx_r 1400)]) (st2 := [.inl r, .inl r]) rfl rfl rfl ?_
  refine vl_icmp_eqT (tgt := 605) hC dL_law_432 (by decide) ?_
  exact hnext μ2 h5
set_option maxRecDepth 20000 in
set_option maxHeartbeats 2000000 in
theorem law_c9 {p : Program} {l : Launch} {e : Env} {s : State} {m : MethodId} {below : List Frame} {meth : Method} {c : Code} {D : va_G} {dA : Nat → ClassId} {b L : Nat} {xs : Nat → Int32} {ad : Nat → Nat} {kc ks : Nat} (hC : vl_C p s m meth c D dA b L xs) (hB : ad 1400 = b) (hkc : kc ≤ 600000) (hks : ks ≤ 7302250) (hL : L ≤ 3584) {i : Nat} (hi : i + 7 ≤ L) {μ : vx_mem} (hrl : rl μ μ) (hnext : ∀ μ', rl μ' μ' → vl_J p l e s m below meth c D dA b ad kc ks 82 vx_lay μ' 605 [(3, .inl (nI i)), (2, vx_r 54), (1, vx_r 0), (0, vx_r 1400)] []) : vl_J p l e s m below meth c D dA b ad kc ks 82 vx_lay μ 437 [(3, .inl (nI i)), (2, vx_r 54), (1, vx_r 0), (0, vx_r 1400)] [] := by
  obtain ⟨a1, a2, a3, a4, a5, a6, a7, a8, hR⟩ := hrl
  obtain ⟨r, μ1, h1, f1, h2⟩ := st_breaks (xs (i + 1)) ad μ μ _ _ _ _ _ _ _ _ hR
  obtain ⟨μ2, h3, f2, h4⟩ := h2 μ1 (rlp_cm hR (fun _ _ => rfl) f1)
  have h5 := rl_cm h4 f2
  refine vl_aload_n hC dL_law_437 rfl ?_
  refine vl_aload_n hC dL_law_438 rfl ?_
  refine vl_iload_n hC dL_law_439 rfl ?_
  refine vl_iconst (v := 1) hC dL_law_440 (by decide) ?_
  refine vl_iadd hC dL_law_441 ?_
  refine vl_eq (st2 := [.inl (nI (i + 1)), vx_r 1400, vx_r 0]) rfl rfl (by rw [show (1 : Int32) = nI 1 from rfl, nI_add]) ?_
  refine vl_sld (v := (xs ((i + 1)))) hC hB dL_law_442 (vp_in_nI (by omega) (by omega)) (by rw [nI_clamp (by omega)]) ?_
  refine vl_callV (bb := 0) (vs := [.inl (xs ((i + 1)))]) (st := []) (r0 := some (.inl r)) (μ0 := μ1) hC dL_law_443 h1 wd_653 wd_656 wd_45 hy_X8_breaks wd_654 wd_655 (by decide) ly_0 rfl rfl (by decide) (Nat.le_of_ble_eq_true rfl) (Nat.le_of_ble_eq_true rfl) hkc hks ?_
  refine vl_eq (μ2 := μ1) (ls2 := [(3, .inl (nI i)), (2, vx_r 54), (1, vx_r 0), (0, vx_r 1400)]) (st2 := [.inl r]) rfl rfl rfl ?_
  refine vl_aload_n hC dL_law_446 rfl ?_
  refine vl_aload_n hC dL_law_447 rfl ?_
  refine vl_iload_n hC dL_law_448 rfl ?_
  refine vl_iconst (v := 1) hC dL_law_449 (by decide) ?_
  refine vl_iadd hC dL_law_450 ?_
  refine vl_eq (st2 := [.inl (nI (i + 1)), vx_r 1400, vx_r 54, .inl r]) rfl rfl (by rw [show (1 : Int32) = nI 1 from rfl, nI_add]) ?_
  refine vl_sld (v := (xs ((i + 1)))) hC hB dL_law_451 (vp_in_nI (by omega) (by omega)) (by rw [nI_clamp (by omega)]) ?_
  refine vl_callV (bb := 54) (vs := [.inl (xs ((i + 1)))]) (st := [.inl r]) (r0 := some (.inl r)) (μ0 := μ2) hC dL_law_452 h3 wd_1019 wd_1022 wd_54 hy_X9_breaks wd_1020 wd_1021 (by decide) ly_54 rfl rfl (by decide) (Nat.le_of_ble_eq_true rfl) (Nat.le_of_ble_eq_true rfl) hkc hks ?_
  refine vl_eq (μ2 := μ2) (ls2 := [(3, .inl (nI i)), (2, vx_r 54), (1, vx_r 0), (0, vx_r 1400)]) (st2 := [.inl r, .inl r]) rfl rfl rfl ?_
  refine vl_icmp_eqT (tgt := 605) hC dL_law_455 (by decide) ?_
  exact hnext μ2 h5
set_option maxRecDepth 20000 in
set_option maxHeartbeats 2000000 in
theorem law_c10 {p : Program} {l : Launch} {e : Env} {s : State} {m : MethodId} {below : List Frame} {meth : Method} {c : Code} {D : va_G} {dA : Nat → ClassId} {b L : Nat} {xs : Nat → Int32} {ad : Nat → Nat} {kc ks : Nat} (hC : vl_C p s m meth c D dA b L xs) (hB : ad 1400 = b) (hkc : kc ≤ 600000) (hks : ks ≤ 7302250) (hL : L ≤ 3584) {i : Nat} (hi : i + 7 ≤ L) {μ : vx_mem} (hrl : rl μ μ) (hnext : ∀ μ', rl μ' μ' → vl_J p l e s m below meth c D dA b ad kc ks 82 vx_lay μ' 605 [(3, .inl (nI i)), (2, vx_r 54), (1, vx_r 0), (0, vx_r 1400)] []) : vl_J p l e s m below meth c D dA b ad kc ks 82 vx_lay μ 460 [(3, .inl (nI i)), (2, vx_r 54), (1, vx_r 0), (0, vx_r 1400)] [] := by
  obtain ⟨a1, a2, a3, a4, a5, a6, a7, a8, hR⟩ := hrl
  obtain ⟨r, μ1, h1, f1, h2⟩ := st_day (xs (i + 1)) ad μ μ _ _ _ _ _ _ _ _ hR
  obtain ⟨μ2, h3, f2, h4⟩ := h2 μ1 (rlp_cm hR (fun _ _ => rfl) f1)
  have h5 := rl_cm h4 f2
  refine vl_aload_n hC dL_law_460 rfl ?_
  refine vl_aload_n hC dL_law_461 rfl ?_
  refine vl_iload_n hC dL_law_462 rfl ?_
  refine vl_iconst (v := 1) hC dL_law_463 (by decide) ?_
  refine vl_iadd hC dL_law_464 ?_
  refine vl_eq (st2 := [.inl (nI (i + 1)), vx_r 1400, vx_r 0]) rfl rfl (by rw [show (1 : Int32) = nI 1 from rfl, nI_add]) ?_
  refine vl_sld (v := (xs ((i + 1)))) hC hB dL_law_465 (vp_in_nI (by omega) (by omega)) (by rw [nI_clamp (by omega)]) ?_
  refine vl_callV (bb := 0) (vs := [.inl (xs ((i + 1)))]) (st := []) (r0 := some (.inl r)) (μ0 := μ1) hC dL_law_466 h1 wd_657 wd_660 wd_45 hy_X8_day wd_658 wd_659 (by decide) ly_0 rfl rfl (by decide) (Nat.le_of_ble_eq_true rfl) (Nat.le_of_ble_eq_true rfl) hkc hks ?_
  refine vl_eq (μ2 := μ1) (ls2 := [(3, .inl (nI i)), (2, vx_r 54), (1, vx_r 0), (0, vx_r 1400)]) (st2 := [.inl r]) rfl rfl rfl ?_
  refine vl_aload_n hC dL_law_469 rfl ?_
  refine vl_aload_n hC dL_law_470 rfl ?_
  refine vl_iload_n hC dL_law_471 rfl ?_
  refine vl_iconst (v := 1) hC dL_law_472 (by decide) ?_
  refine vl_iadd hC dL_law_473 ?_
  refine vl_eq (st2 := [.inl (nI (i + 1)), vx_r 1400, vx_r 54, .inl r]) rfl rfl (by rw [show (1 : Int32) = nI 1 from rfl, nI_add]) ?_
  refine vl_sld (v := (xs ((i + 1)))) hC hB dL_law_474 (vp_in_nI (by omega) (by omega)) (by rw [nI_clamp (by omega)]) ?_
  refine vl_callV (bb := 54) (vs := [.inl (xs ((i + 1)))]) (st := [.inl r]) (r0 := some (.inl r)) (μ0 := μ2) hC dL_law_475 h3 wd_1023 wd_1026 wd_54 hy_X9_day wd_1024 wd_1025 (by decide) ly_54 rfl rfl (by decide) (Nat.le_of_ble_eq_true rfl) (Nat.le_of_ble_eq_true rfl) hkc hks ?_
  refine vl_eq (μ2 := μ2) (ls2 := [(3, .inl (nI i)), (2, vx_r 54), (1, vx_r 0), (0, vx_r 1400)]) (st2 := [.inl r, .inl r]) rfl rfl rfl ?_
  refine vl_icmp_eqT (tgt := 605) hC dL_law_478 (by decide) ?_
  exact hnext μ2 h5
set_option maxRecDepth 20000 in
set_option maxHeartbeats 2000000 in
theorem law_c11 {p : Program} {l : Launch} {e : Env} {s : State} {m : MethodId} {below : List Frame} {meth : Method} {c : Code} {D : va_G} {dA : Nat → ClassId} {b L : Nat} {xs : Nat → Int32} {ad : Nat → Nat} {kc ks : Nat} (hC : vl_C p s m meth c D dA b L xs) (hB : ad 1400 = b) (hkc : kc ≤ 600000) (hks : ks ≤ 7302250) (hL : L ≤ 3584) {i : Nat} (hi : i + 7 ≤ L) {μ : vx_mem} (hrl : rl μ μ) (hnext : ∀ μ', rl μ' μ' → vl_J p l e s m below meth c D dA b ad kc ks 82 vx_lay μ' 605 [(3, .inl (nI i)), (2, vx_r 54), (1, vx_r 0), (0, vx_r 1400)] []) : vl_J p l e s m below meth c D dA b ad kc ks 82 vx_lay μ 483 [(3, .inl (nI i)), (2, vx_r 54), (1, vx_r 0), (0, vx_r 1400)] [] := by
  obtain ⟨a1, a2, a3, a4, a5, a6, a7, a8, hR⟩ := hrl
  obtain ⟨r, μ1, h1, f1, h2⟩ := st_look (xs (i + 1)) (xs (i + 2)) ad μ μ _ _ _ _ _ _ _ _ hR
  obtain ⟨μ2, h3, f2, h4⟩ := h2 μ1 (rlp_cm hR (fun _ _ => rfl) f1)
  have h5 := rl_cm h4 f2
  refine vl_aload_n hC dL_law_483 rfl ?_
  refine vl_aload_n hC dL_law_484 rfl ?_
  refine vl_iload_n hC dL_law_485 rfl ?_
  refine vl_iconst (v := 1) hC dL_law_486 (by decide) ?_
  refine vl_iadd hC dL_law_487 ?_
  refine vl_eq (st2 := [.inl (nI (i + 1)), vx_r 1400, vx_r 0]) rfl rfl (by rw [show (1 : Int32) = nI 1 from rfl, nI_add]) ?_
  refine vl_sld (v := (xs ((i + 1)))) hC hB dL_law_488 (vp_in_nI (by omega) (by omega)) (by rw [nI_clamp (by omega)]) ?_
  refine vl_aload_n hC dL_law_489 rfl ?_
  refine vl_iload_n hC dL_law_490 rfl ?_
  refine vl_iconst (v := 2) hC dL_law_491 (by decide) ?_
  refine vl_iadd hC dL_law_492 ?_
  refine vl_eq (st2 := [.inl (nI (i + 2)), vx_r 1400, .inl (xs ((i + 1))), vx_r 0]) rfl rfl (by rw [show (2 : Int32) = nI 2 from rfl, nI_add]) ?_
  refine vl_sld (v := (xs ((i + 2)))) hC hB dL_law_493 (vp_in_nI (by omega) (by omega)) (by rw [nI_clamp (by omega)]) ?_
  refine vl_callV (bb := 0) (vs := [.inl (xs ((i + 1))), .inl (xs ((i + 2)))]) (st := []) (r0 := some (.inl r)) (μ0 := μ1) hC dL_law_494 h1 wd_683 wd_686 wd_45 hy_X8_look wd_684 wd_685 (by decide) ly_0 rfl rfl (by decide) (Nat.le_of_ble_eq_true rfl) (Nat.le_of_ble_eq_true rfl) hkc hks ?_
  refine vl_eq (μ2 := μ1) (ls2 := [(3, .inl (nI i)), (2, vx_r 54), (1, vx_r 0), (0, vx_r 1400)]) (st2 := [.inl r]) rfl rfl rfl ?_
  refine vl_aload_n hC dL_law_497 rfl ?_
  refine vl_aload_n hC dL_law_498 rfl ?_
  refine vl_iload_n hC dL_law_499 rfl ?_
  refine vl_iconst (v := 1) hC dL_law_500 (by decide) ?_
  refine vl_iadd hC dL_law_501 ?_
  refine vl_eq (st2 := [.inl (nI (i + 1)), vx_r 1400, vx_r 54, .inl r]) rfl rfl (by rw [show (1 : Int32) = nI 1 from rfl, nI_add]) ?_
  refine vl_sld (v := (xs ((i + 1)))) hC hB dL_law_502 (vp_in_nI (by omega) (by omega)) (by rw [nI_clamp (by omega)]) ?_
  refine vl_aload_n hC dL_law_503 rfl ?_
  refine vl_iload_n hC dL_law_504 rfl ?_
  refine vl_iconst (v := 2) hC dL_law_505 (by decide) ?_
  refine vl_iadd hC dL_law_506 ?_
  refine vl_eq (st2 := [.inl (nI (i + 2)), vx_r 1400, .inl (xs ((i + 1))), vx_r 54, .inl r]) rfl rfl (by rw [show (2 : Int32) = nI 2 from rfl, nI_add]) ?_
  refine vl_sld (v := (xs ((i + 2)))) hC hB dL_law_507 (vp_in_nI (by omega) (by omega)) (by rw [nI_clamp (by omega)]) ?_
  refine vl_callV (bb := 54) (vs := [.inl (xs ((i + 1))), .inl (xs ((i + 2)))]) (st := [.inl r]) (r0 := some (.inl r)) (μ0 := μ2) hC dL_law_508 h3 wd_1039 wd_1042 wd_54 hy_X9_look wd_1040 wd_1041 (by decide) ly_54 rfl rfl (by decide) (Nat.le_of_ble_eq_true rfl) (Nat.le_of_ble_eq_true rfl) hkc hks ?_
  refine vl_eq (μ2 := μ2) (ls2 := [(3, .inl (nI i)), (2, vx_r 54), (1, vx_r 0), (0, vx_r 1400)]) (st2 := [.inl r, .inl r]) rfl rfl rfl ?_
  refine vl_icmp_eqT (tgt := 605) hC dL_law_511 (by decide) ?_
  exact hnext μ2 h5
set_option maxRecDepth 20000 in
set_option maxHeartbeats 2000000 in
theorem law_c12 {p : Program} {l : Launch} {e : Env} {s : State} {m : MethodId} {below : List Frame} {meth : Method} {c : Code} {D : va_G} {dA : Nat → ClassId} {b L : Nat} {xs : Nat → Int32} {ad : Nat → Nat} {kc ks : Nat} (hC : vl_C p s m meth c D dA b L xs) (hB : ad 1400 = b) (hkc : kc ≤ 600000) (hks : ks ≤ 7302250) (hL : L ≤ 3584) {i : Nat} (hi : i + 7 ≤ L) {μ : vx_mem} (hrl : rl μ μ) (hnext : ∀ μ', rl μ' μ' → vl_J p l e s m below meth c D dA b ad kc ks 82 vx_lay μ' 605 [(3, .inl (nI i)), (2, vx_r 54), (1, vx_r 0), (0, vx_r 1400)] []) : vl_J p l e s m below meth c D dA b ad kc ks 82 vx_lay μ 516 [(3, .inl (nI i)), (2, vx_r 54), (1, vx_r 0), (0, vx_r 1400)] [] := by
  obtain ⟨a1, a2, a3, a4, a5, a6, a7, a8, hR⟩ := hrl
  obtain ⟨r, μ1, h1, f1, h2⟩ := st_owed (xs (i + 1)) (xs (i + 2)) ad μ μ _ _ _ _ _ _ _ _ hR
  obtain ⟨μ2, h3, f2, h4⟩ := h2 μ1 (rlp_cm hR (fun _ _ => rfl) f1)
  have h5 := rl_cm h4 f2
  refine vl_aload_n hC dL_law_516 rfl ?_
  refine vl_aload_n hC dL_law_517 rfl ?_
  refine vl_iload_n hC dL_law_518 rfl ?_
  refine vl_iconst (v := 1) hC dL_law_519 (by decide) ?_
  refine vl_iadd hC dL_law_520 ?_
  refine vl_eq (st2 := [.inl (nI (i + 1)), vx_r 1400, vx_r 0]) rfl rfl (by rw [show (1 : Int32) = nI 1 from rfl, nI_add]) ?_
  refine vl_sld (v := (xs ((i + 1)))) hC hB dL_law_521 (vp_in_nI (by omega) (by omega)) (by rw [nI_clamp (by omega)]) ?_
  refine vl_aload_n hC dL_law_522 rfl ?_
  refine vl_iload_n hC dL_law_523 rfl ?_
  refine vl_iconst (v := 2) hC dL_law_524 (by decide) ?_
  refine vl_iadd hC dL_law_525 ?_
  refine vl_eq (st2 := [.inl (nI (i + 2)), vx_r 1400, .inl (xs ((i + 1))), vx_r 0]) rfl rfl (by rw [show (2 : Int32) = nI 2 from rfl, nI_add]) ?_
  refine vl_sld (v := (xs ((i + 2)))) hC hB dL_law_526 (vp_in_nI (by omega) (by omega)) (by rw [nI_clamp (by omega)]) ?_
  refine vl_callV (bb := 0) (vs := [.inl (xs ((i + 1))), .inl (xs ((i + 2)))]) (st := []) (r0 := some (.inl r)) (μ0 := μ1) hC dL_law_527 h1 wd_703 wd_706 wd_45 hy_X8_owed wd_704 wd_705 (by decide) ly_0 rfl rfl (by decide) (Nat.le_of_ble_eq_true rfl) (Nat.le_of_ble_eq_true rfl) hkc hks ?_
  refine vl_eq (μ2 := μ1) (ls2 := [(3, .inl (nI i)), (2, vx_r 54), (1, vx_r 0), (0, vx_r 1400)]) (st2 := [.inl r]) rfl rfl rfl ?_
  refine vl_aload_n hC dL_law_530 rfl ?_
  refine vl_aload_n hC dL_law_531 rfl ?_
  refine vl_iload_n hC dL_law_532 rfl ?_
  refine vl_iconst (v := 1) hC dL_law_533 (by decide) ?_
  refine vl_iadd hC dL_law_534 ?_
  refine vl_eq (st2 := [.inl (nI (i + 1)), vx_r 1400, vx_r 54, .inl r]) rfl rfl (by rw [show (1 : Int32) = nI 1 from rfl, nI_add]) ?_
  refine vl_sld (v := (xs ((i + 1)))) hC hB dL_law_535 (vp_in_nI (by omega) (by omega)) (by rw [nI_clamp (by omega)]) ?_
  refine vl_aload_n hC dL_law_536 rfl ?_
  refine vl_iload_n hC dL_law_537 rfl ?_
  refine vl_iconst (v := 2) hC dL_law_538 (by decide) ?_
  refine vl_iadd hC dL_law_539 ?_
  refine vl_eq (st2 := [.inl (nI (i + 2)), vx_r 1400, .inl (xs ((i + 1))), vx_r 54, .inl r]) rfl rfl (by rw [show (2 : Int32) = nI 2 from rfl, nI_add]) ?_
  refine vl_sld (v := (xs ((i + 2)))) hC hB dL_law_540 (vp_in_nI (by omega) (by omega)) (by rw [nI_clamp (by omega)]) ?_
  refine vl_callV (bb := 54) (vs := [.inl (xs ((i + 1))), .inl (xs ((i + 2)))]) (st := [.inl r]) (r0 := some (.inl r)) (μ0 := μ2) hC dL_law_541 h3 wd_1047 wd_1050 wd_54 hy_X9_owed wd_1048 wd_1049 (by decide) ly_54 rfl rfl (by decide) (Nat.le_of_ble_eq_true rfl) (Nat.le_of_ble_eq_true rfl) hkc hks ?_
  refine vl_eq (μ2 := μ2) (ls2 := [(3, .inl (nI i)), (2, vx_r 54), (1, vx_r 0), (0, vx_r 1400)]) (st2 := [.inl r, .inl r]) rfl rfl rfl ?_
  refine vl_icmp_eqT (tgt := 605) hC dL_law_544 (by decide) ?_
  exact hnext μ2 h5
set_option maxRecDepth 20000 in
set_option maxHeartbeats 2000000 in
theorem law_c13 {p : Program} {l : Launch} {e : Env} {s : State} {m : MethodId} {below : List Frame} {meth : Method} {c : Code} {D : va_G} {dA : Nat → ClassId} {b L : Nat} {xs : Nat → Int32} {ad : Nat → Nat} {kc ks : Nat} (hC : vl_C p s m meth c D dA b L xs) (hB : ad 1400 = b) (hkc : kc ≤ 600000) (hks : ks ≤ 7302250) (hL : L ≤ 3584) {i : Nat} (hi : i + 7 ≤ L) {μ : vx_mem} (hrl : rl μ μ) (hnext : ∀ μ', rl μ' μ' → vl_J p l e s m below meth c D dA b ad kc ks 82 vx_lay μ' 605 [(3, .inl (nI i)), (2, vx_r 54), (1, vx_r 0), (0, vx_r 1400)] []) : vl_J p l e s m below meth c D dA b ad kc ks 82 vx_lay μ 549 [(3, .inl (nI i)), (2, vx_r 54), (1, vx_r 0), (0, vx_r 1400)] [] := by
  obtain ⟨a1, a2, a3, a4, a5, a6, a7, a8, hR⟩ := hrl
  obtain ⟨r, μ1, h1, f1, h2⟩ := st_lent (xs (i + 1)) (xs (i + 2)) ad μ μ _ _ _ _ _ _ _ _ hR
  obtain ⟨μ2, h3, f2, h4⟩ := h2 μ1 (rlp_cm hR (fun _ _ => rfl) f1)
  have h5 := rl_cm h4 f2
  refine vl_aload_n hC dL_law_549 rfl ?_
  refine vl_aload_n hC dL_law_550 rfl ?_
  refine vl_iload_n hC dL_law_551 rfl ?_
  refine vl_iconst (v := 1) hC dL_law_552 (by decide) ?_
  refine vl_iadd hC dL_law_553 ?_
  refine vl_eq (st2 := [.inl (nI (i + 1)), vx_r 1400, vx_r 0]) rfl rfl (by rw [show (1 : Int32) = nI 1 from rfl, nI_add]) ?_
  refine vl_sld (v := (xs ((i + 1)))) hC hB dL_law_554 (vp_in_nI (by omega) (by omega)) (by rw [nI_clamp (by omega)]) ?_
  refine vl_aload_n hC dL_law_555 rfl ?_
  refine vl_iload_n hC dL_law_556 rfl ?_
  refine vl_iconst (v := 2) hC dL_law_557 (by decide) ?_
  refine vl_iadd hC dL_law_558 ?_
  refine vl_eq (st2 := [.inl (nI (i + 2)), vx_r 1400, .inl (xs ((i + 1))), vx_r 0]) rfl rfl (by rw [show (2 : Int32) = nI 2 from rfl, nI_add]) ?_
  refine vl_sld (v := (xs ((i + 2)))) hC hB dL_law_559 (vp_in_nI (by omega) (by omega)) (by rw [nI_clamp (by omega)]) ?_
  refine vl_callV (bb := 0) (vs := [.inl (xs ((i + 1))), .inl (xs ((i + 2)))]) (st := []) (r0 := some (.inl r)) (μ0 := μ1) hC dL_law_560 h1 wd_713 wd_716 wd_45 hy_X8_lent wd_714 wd_715 (by decide) ly_0 rfl rfl (by decide) (Nat.le_of_ble_eq_true rfl) (Nat.le_of_ble_eq_true rfl) hkc hks ?_
  refine vl_eq (μ2 := μ1) (ls2 := [(3, .inl (nI i)), (2, vx_r 54), (1, vx_r 0), (0, vx_r 1400)]) (st2 := [.inl r]) rfl rfl rfl ?_
  refine vl_aload_n hC dL_law_563 rfl ?_
  refine vl_aload_n hC dL_law_564 rfl ?_
  refine vl_iload_n hC dL_law_565 rfl ?_
  refine vl_iconst (v := 1) hC dL_law_566 (by decide) ?_
  refine vl_iadd hC dL_law_567 ?_
  refine vl_eq (st2 := [.inl (nI (i + 1)), vx_r 1400, vx_r 54, .inl r]) rfl rfl (by rw [show (1 : Int32) = nI 1 from rfl, nI_add]) ?_
  refine vl_sld (v := (xs ((i + 1)))) hC hB dL_law_568 (vp_in_nI (by omega) (by omega)) (by rw [nI_clamp (by omega)]) ?_
  refine vl_aload_n hC dL_law_569 rfl ?_
  refine vl_iload_n hC dL_law_570 rfl ?_
  refine vl_iconst (v := 2) hC dL_law_571 (by decide) ?_
  refine vl_iadd hC dL_law_572 ?_
  refine vl_eq (st2 := [.inl (nI (i + 2)), vx_r 1400, .inl (xs ((i + 1))), vx_r 54, .inl r]) rfl rfl (by rw [show (2 : Int32) = nI 2 from rfl, nI_add]) ?_
  refine vl_sld (v := (xs ((i + 2)))) hC hB dL_law_573 (vp_in_nI (by omega) (by omega)) (by rw [nI_clamp (by omega)]) ?_
  refine vl_callV (bb := 54) (vs := [.inl (xs ((i + 1))), .inl (xs ((i + 2)))]) (st := [.inl r]) (r0 := some (.inl r)) (μ0 := μ2) hC dL_law_574 h3 wd_1052 wd_1055 wd_54 hy_X9_lent wd_1053 wd_1054 (by decide) ly_54 rfl rfl (by decide) (Nat.le_of_ble_eq_true rfl) (Nat.le_of_ble_eq_true rfl) hkc hks ?_
  refine vl_eq (μ2 := μ2) (ls2 := [(3, .inl (nI i)), (2, vx_r 54), (1, vx_r 0), (0, vx_r 1400)]) (st2 := [.inl r, .inl r]) rfl rfl rfl ?_
  refine vl_icmp_eqT (tgt := 605) hC dL_law_577 (by decide) ?_
  exact hnext μ2 h5
set_option maxRecDepth 20000 in
set_option maxHeartbeats 2000000 in
theorem law_c14 {p : Program} {l : Launch} {e : Env} {s : State} {m : MethodId} {below : List Frame} {meth : Method} {c : Code} {D : va_G} {dA : Nat → ClassId} {b L : Nat} {xs : Nat → Int32} {ad : Nat → Nat} {kc ks : Nat} (hC : vl_C p s m meth c D dA b L xs) (hB : ad 1400 = b) (hkc : kc ≤ 600000) (hks : ks ≤ 7302250) (hL : L ≤ 3584) {i : Nat} (hi : i + 7 ≤ L) {μ : vx_mem} (hrl : rl μ μ) (hnext : ∀ μ', rl μ' μ' → vl_J p l e s m below meth c D dA b ad kc ks 82 vx_lay μ' 605 [(3, .inl (nI i)), (2, vx_r 54), (1, vx_r 0), (0, vx_r 1400)] []) : vl_J p l e s m below meth c D dA b ad kc ks 82 vx_lay μ 582 [(3, .inl (nI i)), (2, vx_r 54), (1, vx_r 0), (0, vx_r 1400)] [] := by
  obtain ⟨a1, a2, a3, a4, a5, a6, a7, a8, hR⟩ := hrl
  obtain ⟨r, μ1, h1, f1, h2⟩ := st_count (xs (i + 1)) ad μ μ _ _ _ _ _ _ _ _ hR
  obtain ⟨μ2, h3, f2, h4⟩ := h2 μ1 (rlp_cm hR (fun _ _ => rfl) f1)
  have h5 := rl_cm h4 f2
  refine vl_aload_n hC dL_law_582 rfl ?_
  refine vl_aload_n hC dL_law_583 rfl ?_
  refine vl_iload_n hC dL_law_584 rfl ?_
  refine vl_iconst (v := 1) hC dL_law_585 (by decide) ?_
  refine vl_iadd hC dL_law_586 ?_
  refine vl_eq (st2 := [.inl (nI (i + 1)), vx_r 1400, vx_r 0]) rfl rfl (by rw [show (1 : Int32) = nI 1 from rfl, nI_add]) ?_
  refine vl_sld (v := (xs ((i + 1)))) hC hB dL_law_587 (vp_in_nI (by omega) (by omega)) (by rw [nI_clamp (by omega)]) ?_
  refine vl_callV (bb := 0) (vs := [.inl (xs ((i + 1)))]) (st := []) (r0 := some (.inl r)) (μ0 := μ1) hC dL_law_588 h1 wd_717 wd_720 wd_45 hy_X8_count wd_718 wd_719 (by decide) ly_0 rfl rfl (by decide) (Nat.le_of_ble_eq_true rfl) (Nat.le_of_ble_eq_true rfl) hkc hks ?_
  refine vl_eq (μ2 := μ1) (ls2 := [(3, .inl (nI i)), (2, vx_r 54), (1, vx_r 0), (0, vx_r 1400)]) (st2 := [.inl r]) rfl rfl rfl ?_
  refine vl_aload_n hC dL_law_591 rfl ?_
  refine vl_aload_n hC dL_law_592 rfl ?_
  refine vl_iload_n hC dL_law_593 rfl ?_
  refine vl_iconst (v := 1) hC dL_law_594 (by decide) ?_
  refine vl_iadd hC dL_law_595 ?_
  refine vl_eq (st2 := [.inl (nI (i + 1)), vx_r 1400, vx_r 54, .inl r]) rfl rfl (by rw [show (1 : Int32) = nI 1 from rfl, nI_add]) ?_
  refine vl_sld (v := (xs ((i + 1)))) hC hB dL_law_596 (vp_in_nI (by omega) (by omega)) (by rw [nI_clamp (by omega)]) ?_
  refine vl_callV (bb := 54) (vs := [.inl (xs ((i + 1)))]) (st := [.inl r]) (r0 := some (.inl r)) (μ0 := μ2) hC dL_law_597 h3 wd_1056 wd_1059 wd_54 hy_X9_count wd_1057 wd_1058 (by decide) ly_54 rfl rfl (by decide) (Nat.le_of_ble_eq_true rfl) (Nat.le_of_ble_eq_true rfl) hkc hks ?_
  refine vl_eq (μ2 := μ2) (ls2 := [(3, .inl (nI i)), (2, vx_r 54), (1, vx_r 0), (0, vx_r 1400)]) (st2 := [.inl r, .inl r]) rfl rfl rfl ?_
  refine vl_icmp_eqT (tgt := 605) hC dL_law_600 (by decide) ?_
  exact hnext μ2 h5
set_option maxRecDepth 20000 in
set_option maxHeartbeats 2000000 in
theorem law_loop {p : Program} {l : Launch} {e : Env} {s : State} {m : MethodId} {below : List Frame} {meth : Method} {c : Code} {D : va_G} {dA : Nat → ClassId} {b L : Nat} {xs : Nat → Int32} {ad : Nat → Nat} {kc ks : Nat} (hC : vl_C p s m meth c D dA b L xs) (hB : ad 1400 = b) (hkc : kc ≤ 600000) (hks : ks ≤ 7302250) (hL : L ≤ 3584) : ∀ (r i : Nat) (μ : vx_mem), L < i + r → i ≤ L + 7 → rl μ μ → vl_J p l e s m below meth c D dA b ad kc ks 82 vx_lay μ 18 [(3, .inl (nI i)), (2, vx_r 54), (1, vx_r 0), (0, vx_r 1400)] [] := by
  intro r
  induction r with
  | zero =>
    intro i μ hr hi7 hrl
    have hlt : nI L - 7 < nI i := by
      rw [show (7 : Int32) = nI 7 from rfl, zz_lt, pk_sub_toInt (by omega) (by omega), nI_toInt (by omega)]
      omega
    refine vl_iload_n hC dL_law_18 rfl ?_
    refine vl_aload_n hC dL_law_19 rfl ?_
    refine vl_slen hC hB dL_law_20 ?_
    refine vl_bipush (v := 7) hC dL_law_21 (by decide) ?_
    refine vl_isub hC dL_law_23 ?_
    refine vl_icmp_gt (tgt := 611) hC dL_law_24 (by decide) (fun _ => ?_) (fun h => absurd hlt h)
    refine vl_iconst (v := 1) hC dL_law_611 (by decide) ?_
    exact vl_ret1 hC dL_law_612 hkc hks
  | succ r ih =>
    intro i μ hr hi7 hrl
    by_cases hc : i + 7 ≤ L
    · have hlt : ¬ nI L - 7 < nI i := by
        rw [show (7 : Int32) = nI 7 from rfl, zz_lt, pk_sub_toInt (by omega) (by omega), nI_toInt (by omega)]
        omega
      have hnext : ∀ μ', rl μ' μ' → vl_J p l e s m below meth c D dA b ad kc ks 82 vx_lay μ' 605 [(3, .inl (nI i)), (2, vx_r 54), (1, vx_r 0), (0, vx_r 1400)] [] := by
        intro μ' hrl'
        refine vl_iinc (v := (nI (i + 7))) (ls2 := [(3, .inl (nI (i + 7))), (2, vx_r 54), (1, vx_r 0), (0, vx_r 1400)]) hC dL_law_605 rfl (by show nI i + nI 7 = _; rw [nI_add]) (by decide) rfl ?_
        refine vl_goto (tgt := 18) hC dL_law_608 (by decide) ?_
        exact ih (i + 7) μ' (by omega) (by omega) hrl'
      refine vl_iload_n hC dL_law_18 rfl ?_
      refine vl_aload_n hC dL_law_19 rfl ?_
      refine vl_slen hC hB dL_law_20 ?_
      refine vl_bipush (v := 7) hC dL_law_21 (by decide) ?_
      refine vl_isub hC dL_law_23 ?_
      refine vl_icmp_gt (tgt := 611) hC dL_law_24 (by decide) (fun h => absurd h hlt) (fun _ => ?_)
      refine vl_aload_n hC dL_law_27 rfl ?_
      refine vl_iload_n hC dL_law_28 rfl ?_
      refine vl_sld (v := (xs i)) hC hB dL_law_29 (vp_in_nI (by omega) (by omega)) (by rw [nI_clamp (by omega)]) ?_
      refine vl_bipush (v := 15) hC dL_law_30 (by decide) ?_
      refine vl_iand hC dL_law_32 ?_
      by_cases e0 : (xs i &&& 15) = 0
      · refine vl_eq (st2 := [.inl 0]) rfl rfl (by rw [e0]) ?_
        refine vl_tabIn (tgt := 108) hC dL_law_33 (by decide) (by decide) rfl (by decide) ?_
        exact law_c0 hC hB hkc hks hL hc hrl hnext
      by_cases e1 : (xs i &&& 15) = 1
      · refine vl_eq (st2 := [.inl 1]) rfl rfl (by rw [e1]) ?_
        refine vl_tabIn (tgt := 171) hC dL_law_33 (by decide) (by decide) rfl (by decide) ?_
        exact law_c1 hC hB hkc hks hL hc hrl hnext
      by_cases e2 : (xs i &&& 15) = 2
      · refine vl_eq (st2 := [.inl 2]) rfl rfl (by rw [e2]) ?_
        refine vl_tabIn (tgt := 194) hC dL_law_33 (by decide) (by decide) rfl (by decide) ?_
        exact law_c2 hC hB hkc hks hL hc hrl hnext
      by_cases e3 : (xs i &&& 15) = 3
      · refine vl_eq (st2 := [.inl 3]) rfl rfl (by rw [e3]) ?_
        refine vl_tabIn (tgt := 217) hC dL_law_33 (by decide) (by decide) rfl (by decide) ?_
        exact law_c3 hC hB hkc hks hL hc hrl hnext
      by_cases e4 : (xs i &&& 15) = 4
      · refine vl_eq (st2 := [.inl 4]) rfl rfl (by rw [e4]) ?_
        refine vl_tabIn (tgt := 292) hC dL_law_33 (by decide) (by decide) rfl (by decide) ?_
        exact law_c4 hC hB hkc hks hL hc hrl hnext
      by_cases e5 : (xs i &&& 15) = 5
      · refine vl_eq (st2 := [.inl 5]) rfl rfl (by rw [e5]) ?_
        refine vl_tabIn (tgt := 335) hC dL_law_33 (by decide) (by decide) rfl (by decide) ?_
        exact law_c5 hC hB hkc hks hL hc hrl hnext
      by_cases e6 : (xs i &&& 15) = 6
      · refine vl_eq (st2 := [.inl 6]) rfl rfl (by rw [e6]) ?_
        refine vl_tabIn (tgt := 378) hC dL_law_33 (by decide) (by decide) rfl (by decide) ?_
        exact law_c6 hC hB hkc hks hL hc hrl hnext
      by_cases e7 : (xs i &&& 15) = 7
      · refine vl_eq (st2 := [.inl 7]) rfl rfl (by rw [e7]) ?_
        refine vl_tabIn (tgt := 391) hC dL_law_33 (by decide) (by decide) rfl (by decide) ?_
        exact law_c7 hC hB hkc hks hL hc hrl hnext
      by_cases e8 : (xs i &&& 15) = 8
      · refine vl_eq (st2 := [.inl 8]) rfl rfl (by rw [e8]) ?_
        refine vl_tabIn (tgt := 424) hC dL_law_33 (by decide) (by decide) rfl (by decide) ?_
        exact law_c8 hC hB hkc hks hL hc hrl hnext
      by_cases e9 : (xs i &&& 15) = 9
      · refine vl_eq (st2 := [.inl 9]) rfl rfl (by rw [e9]) ?_
        refine vl_tabIn (tgt := 437) hC dL_law_33 (by decide) (by decide) rfl (by decide) ?_
        exact law_c9 hC hB hkc hks hL hc hrl hnext
      by_cases e10 : (xs i &&& 15) = 10
      · refine vl_eq (st2 := [.inl 10]) rfl rfl (by rw [e10]) ?_
        refine vl_tabIn (tgt := 460) hC dL_law_33 (by decide) (by decide) rfl (by decide) ?_
        exact law_c10 hC hB hkc hks hL hc hrl hnext
      by_cases e11 : (xs i &&& 15) = 11
      · refine vl_eq (st2 := [.inl 11]) rfl rfl (by rw [e11]) ?_
        refine vl_tabIn (tgt := 483) hC dL_law_33 (by decide) (by decide) rfl (by decide) ?_
        exact law_c11 hC hB hkc hks hL hc hrl hnext
      by_cases e12 : (xs i &&& 15) = 12
      · refine vl_eq (st2 := [.inl 12]) rfl rfl (by rw [e12]) ?_
        refine vl_tabIn (tgt := 516) hC dL_law_33 (by decide) (by decide) rfl (by decide) ?_
        exact law_c12 hC hB hkc hks hL hc hrl hnext
      by_cases e13 : (xs i &&& 15) = 13
      · refine vl_eq (st2 := [.inl 13]) rfl rfl (by rw [e13]) ?_
        refine vl_tabIn (tgt := 549) hC dL_law_33 (by decide) (by decide) rfl (by decide) ?_
        exact law_c13 hC hB hkc hks hL hc hrl hnext
      by_cases e14 : (xs i &&& 15) = 14
      · refine vl_eq (st2 := [.inl 14]) rfl rfl (by rw [e14]) ?_
        refine vl_tabIn (tgt := 582) hC dL_law_33 (by decide) (by decide) rfl (by decide) ?_
        exact law_c14 hC hB hkc hks hL hc hrl hnext
      refine vl_tabOut (tgt := 605) hC dL_law_33 (by have t0 : (xs i &&& 15).toInt ≠ 0 := fun q => e0 (Int32.toInt_inj.mp (q.trans (by decide))); have t1 : (xs i &&& 15).toInt ≠ 1 := fun q => e1 (Int32.toInt_inj.mp (q.trans (by decide))); have t2 : (xs i &&& 15).toInt ≠ 2 := fun q => e2 (Int32.toInt_inj.mp (q.trans (by decide))); have t3 : (xs i &&& 15).toInt ≠ 3 := fun q => e3 (Int32.toInt_inj.mp (q.trans (by decide))); have t4 : (xs i &&& 15).toInt ≠ 4 := fun q => e4 (Int32.toInt_inj.mp (q.trans (by decide))); have t5 : (xs i &&& 15).toInt ≠ 5 := fun q => e5 (Int32.toInt_inj.mp (q.trans (by decide))); have t6 : (xs i &&& 15).toInt ≠ 6 := fun q => e6 (Int32.toInt_inj.mp (q.trans (by decide))); have t7 : (xs i &&& 15).toInt ≠ 7 := fun q => e7 (Int32.toInt_inj.mp (q.trans (by decide))); have t8 : (xs i &&& 15).toInt ≠ 8 := fun q => e8 (Int32.toInt_inj.mp (q.trans (by decide))); have t9 : (xs i &&& 15).toInt ≠ 9 := fun q => e9 (Int32.toInt_inj.mp (q.trans (by decide))); have t10 : (xs i &&& 15).toInt ≠ 10 := fun q => e10 (Int32.toInt_inj.mp (q.trans (by decide))); have t11 : (xs i &&& 15).toInt ≠ 11 := fun q => e11 (Int32.toInt_inj.mp (q.trans (by decide))); have t12 : (xs i &&& 15).toInt ≠ 12 := fun q => e12 (Int32.toInt_inj.mp (q.trans (by decide))); have t13 : (xs i &&& 15).toInt ≠ 13 := fun q => e13 (Int32.toInt_inj.mp (q.trans (by decide))); have t14 : (xs i &&& 15).toInt ≠ 14 := fun q => e14 (Int32.toInt_inj.mp (q.trans (by decide))); omega) (by decide) ?_
      exact hnext μ hrl
    · have hlt : nI L - 7 < nI i := by
        rw [show (7 : Int32) = nI 7 from rfl, zz_lt, pk_sub_toInt (by omega) (by omega), nI_toInt (by omega)]
        omega
      refine vl_iload_n hC dL_law_18 rfl ?_
      refine vl_aload_n hC dL_law_19 rfl ?_
      refine vl_slen hC hB dL_law_20 ?_
      refine vl_bipush (v := 7) hC dL_law_21 (by decide) ?_
      refine vl_isub hC dL_law_23 ?_
      refine vl_icmp_gt (tgt := 611) hC dL_law_24 (by decide) (fun _ => ?_) (fun h => absurd hlt h)
      refine vl_iconst (v := 1) hC dL_law_611 (by decide) ?_
      exact vl_ret1 hC dL_law_612 hkc hks
def vl_z : vx_mem := fun _ _ => 0
def vl_m1 : vx_mem := (va_up (va_up (rd_m (va_up (va_up (va_up vl_z 3 (upd (upd (vl_z 3) 2 0) 3 (-1))) 4 (sp_pif (vl_z 4) (sp_no (vl_z 5)) 6)) 5 (sp_no (vl_z 5))) 8 0) 39 (sp_s0 ((rd_m (va_up (va_up (va_up vl_z 3 (upd (upd (vl_z 3) 2 0) 3 (-1))) 4 (sp_pif (vl_z 4) (sp_no (vl_z 5)) 6)) 5 (sp_no (vl_z 5))) 8 0) 39) 0)) 43 (sp_w0 ((rd_m (va_up (va_up (va_up vl_z 3 (upd (upd (vl_z 3) 2 0) 3 (-1))) 4 (sp_pif (vl_z 4) (sp_no (vl_z 5)) 6)) 5 (sp_no (vl_z 5))) 8 0) 43)))
def vl_m2 : vx_mem := (va_up (va_up (va_up (va_up (va_up vl_m1 54 (upd (vl_m1 54) 17 (-1))) 56 (upd (upd (upd (upd (upd (upd (upd (upd (upd (upd (upd (upd (vl_m1 56) 0 8) 1 10) 2 4) 3 1) 4 0) 5 5) 6 0) 7 0) 8 0) 9 0) 10 0) 11 0)) 57 (upd (upd (upd (upd (upd (upd (vl_m1 57) 0 8) 1 10) 2 4) 3 1) 4 0) 5 5)) 58 (upd (upd (upd (upd (upd (upd (vl_m1 58) 0 1) 1 1) 2 1) 3 0) 4 1) 5 0)) 59 (upd (upd (upd (upd (upd (upd (vl_m1 59) 0 20) 1 99) 2 50) 3 99) 4 7) 5 10))
theorem vl_m1z : ∀ k, 54 ≤ k → k < 82 → vl_m1 k = fun _ => 0 := by
  intro k h1 h2
  unfold vl_m1
  rw [vu_ne (by omega), vu_ne (by omega), rd_m_o (by omega), vu_ne (by omega), vu_ne (by omega), vu_ne (by omega)]
  rfl
theorem vl_m2r {a b : Nat} (ha : a < 8) (hb : b < 8) : vl_m2 (20 + a) b = -1 := by
  unfold vl_m2
  rw [vu_ne (by omega), vu_ne (by omega), vu_ne (by omega), vu_ne (by omega), vu_ne (by omega)]
  unfold vl_m1
  rw [vu_ne (by omega), vu_ne (by omega)]
  unfold rd_m
  rw [if_pos (by omega)]
theorem vl_m2z {k : Nat} (h : k = 1 ∨ k = 2 ∨ (6 ≤ k ∧ k < 20) ∨ (28 ≤ k ∧ k < 39) ∨ (44 ≤ k ∧ k < 54) ∨ k = 55 ∨ (60 ≤ k ∧ k < 82)) : vl_m2 k = fun _ => 0 := by
  unfold vl_m2
  rw [vu_ne (by omega), vu_ne (by omega), vu_ne (by omega), vu_ne (by omega), vu_ne (by omega)]
  unfold vl_m1
  rw [vu_ne (by omega), vu_ne (by omega), rd_m_o (by omega), vu_ne (by omega), vu_ne (by omega), vu_ne (by omega)]
  rfl
theorem vl_rl : rl vl_m2 vl_m2 := by
  have z : ∀ k j, (k = 1 ∨ k = 2 ∨ (6 ≤ k ∧ k < 20) ∨ (28 ≤ k ∧ k < 39) ∨ (44 ≤ k ∧ k < 54) ∨ k = 55 ∨ (60 ≤ k ∧ k < 82)) → vl_m2 k j = 0 := fun k j h => by rw [vl_m2z h]
  have e54 : ∀ j, j ≠ 17 → vl_m2 54 j = 0 := by
    intro j hj
    unfold vl_m2
    rw [vu_ne (by omega), vu_ne (by omega), vu_ne (by omega), vu_ne (by omega), vu_eq, pk_un hj]
    rw [vl_m1z 54 (by omega) (by omega)]
  refine ⟨0, 0, 0, 0, 0, 0, 0, 0, ⟨z 1 1 (by omega), e54 2 (by decide), by omega, by rw [vl_m2z (by omega), vl_m2z (by omega)], fun j _ h => ?_⟩, ⟨fun k hk => ?_, ?_, fun k hk => ?_, fun k hk => ?_, fun k hk => ?_, ?_, rfl, e54 0 (by decide)⟩,
    ⟨z 6 0 (by omega), e54 18 (by decide), by omega, fun q hq => by rw [vl_m2z (by omega), vl_m2z (by omega)], fun g h1 h2 => by omega, fun g h1 h2 => by omega, fun g _ => Or.inl (z 16 g (by omega))⟩, ⟨fun a b ha hb => ⟨0, by omega, z 71 _ (by omega), by rw [vl_m2r ha hb]; decide⟩, fun a b ha hb => by rw [z (30 + a) b (by omega), z 72 _ (by omega)]⟩,
    ⟨z 53 0 (by omega), e54 34 (by decide), by omega, z 53 1 (by omega), by omega, e54 35 (by decide), by omega, z 53 2 (by omega), e54 36 (by decide), by omega, by rw [z 53 3 (by omega), e54 38 (by decide)], fun _ => rfl, fun h => by omega⟩,
    ⟨z 47 0 (by omega), by omega, ⟨fun _ => rfl, fun _ => e54 46 (by decide)⟩, fun h => by omega, fun k h => by omega, fun k h => by omega, fun h => absurd (z 53 4 (by omega)) h, fun _ => ⟨rfl, fun h => by omega⟩, fun h => by omega⟩⟩
  · rw [z 55 j (by omega)] at h
    exact absurd h (by decide)
  · rcases k with _ | _ | _ | _ | _ | _ | k
    · rfl
    · rfl
    · rfl
    · rfl
    · rfl
    · rfl
    · omega
  · have q0 : vl_m2 4 0 = 8 := rfl
    have q1 : vl_m2 4 1 = 10 := rfl
    have q2 : vl_m2 4 2 = 4 := rfl
    have q3 : vl_m2 4 3 = 1 := rfl
    have q4 : vl_m2 4 4 = 0 := rfl
    have q5 : vl_m2 4 5 = 5 := rfl
    rw [q0, q1, q2, q3, q4, q5]
    exact ⟨⟨by decide, by decide⟩, ⟨by decide, by decide⟩, ⟨by decide, by decide⟩, ⟨by decide, by decide⟩, ⟨by decide, by decide⟩, ⟨by decide, by decide⟩⟩
  · rcases k with _ | _ | _ | _ | _ | _ | k
    · rfl
    · rfl
    · rfl
    · rfl
    · rfl
    · rfl
    · omega
  · rcases k with _ | _ | _ | _ | _ | _ | k
    · rfl
    · rfl
    · rfl
    · rfl
    · rfl
    · rfl
    · omega
  · rcases k with _ | _ | _ | _ | _ | _ | k
    · rfl
    · rfl
    · rfl
    · rfl
    · rfl
    · rfl
    · omega
  · rw [e54 16 (by decide)]
    rfl
set_option maxRecDepth 20000 in
set_option maxHeartbeats 2000000 in
theorem whole_start {p : Program} {e : Env} {s : State} {m : MethodId} {below : List Frame} {meth : Method} {c : Code} (l : Launch) (hflags : l.flags = flags0) {b L : Nat} {xs : Nat → Int32} (hL : L ≤ 3584) (C0 : lw_At p s m meth c b L xs) : W p l e room_1 s m #[Value.ref b] below meth c s.heap [] 0 0 (lw_Z below #[Value.ref b] s) (entryFrame m ([Value.ref b] : List Value).toArray 4) := by
  obtain ⟨D, dA, ad, hK, hX0, hB⟩ := vl_start C0
  obtain ⟨hx, hb, hr, hml, hown, hts, hX, hbl, hlocks, hgv⟩ := id C0
  have hC : vl_C p s m meth c D dA b L xs := ⟨hx, hb, hml, hown, fun w hw => hts w (List.mem_filter.mp hw).1, hr, hlocks, hK, hX, hbl⟩
  have hl := lv_entry ([.ref b]) (n := 4) (Nat.le_of_ble_eq_true rfl)
  rw [lg_entry_eq]
  generalize (lg_sl ([.ref b]) ++ List.replicate (4 - (lg_sl ([.ref b])).length) Slot.unset).toArray = LS0 at hl ⊢
  have hl0 : lv_has LS0 4 ([(0, vx_r 1400)].map (fun q => (q.1, vx_V ad q.2))) := by
    show lv_has LS0 4 [(0, va_rf (some (ad 1400)))]
    rw [hB]
    exact hl
  have hP : va_P D vwCl (vx_W dA ad 0 vx_lay vl_z) s.heap := fun k q h => by simp [vx_W] at h
  have hD : va_D (vl_A s) (vx_W dA ad 0 vx_lay vl_z) := ⟨fun i j p q h => by simp [vx_W] at h, fun k q h => by simp [vx_W] at h⟩
  have key : vl_J p l e s m below meth c D dA b ad 0 0 0 vx_lay vl_z 0 [(0, vx_r 1400)] [] := by
    refine vl_new (ci := 8) (T := TX8) (n := 8) (fr := [some none, some none, some none, some none, some none, some none, some none, some none]) tyX8 hC dL_law_0 rfl lay_X8 tyX8_ok wd_60 wd_61 wd_45 (by decide) rfl (by decide) (by decide +kernel) (by decide) (Nat.le_of_ble_eq_true rfl) (Nat.le_of_ble_eq_true rfl) (by decide) (fun ad1 g1 => ?_)
    have hB1 : ad1 1400 = b := (g1 1400 (by decide)).trans hB
    refine vl_dup hC dL_law_3 ?_
    refine vl_callI (bb := 0) (vs := []) (st := [vx_r 0]) hC dL_law_4 (c_X8_init ad1 vl_z (fun _ _ _ => rfl)) wd_62 wd_64 wd_45 hy_X8_init wd_63 rfl (by decide) (Nat.le_of_ble_eq_true rfl) (by decide) (Nat.le_of_ble_eq_true rfl) (Nat.le_of_ble_eq_true rfl) (fun r_ ad2 N_ L_ m_ hp => ?_)
    obtain ⟨hr_, g2, hN_, hL_, hm_⟩ := hp
    rw [hr_, hN_, hL_, hm_]
    clear hr_ hN_ hL_ hm_
    have hB2 : ad2 1400 = b := (g2 1400 (by decide)).trans hB1
    refine ⟨vx_fars_al (a := 1) (b := 1000) g2 (by decide) (by decide), ?_⟩
    refine vl_eq (μ2 := vl_m1) (ls2 := [(0, vx_r 1400)]) (st2 := [vx_r 0]) rfl rfl rfl ?_
    refine vl_astore_n (ls2 := [(1, vx_r 0), (0, vx_r 1400)]) hC dL_law_7 (by decide) rfl ?_
    refine vl_new (ci := 9) (T := TX9) (n := 56) (fr := [none, some none, none, some none, some none, some none, some none, none, none, none, none, none, none, none, none, none, none, none, none, some none, some none, some none, some none, some none, some none, some none, some none, some none, some none, some none, some none, some none, some none, none, none, none, none, none, none, some none, some none, some none, some none, some none, none, none, none, none, none, some none, some none, none, none, none, none, some none]) tyX9 hC dL_law_8 rfl lay_X9 tyX9_ok wd_730 wd_731 wd_54 (by decide) (vl_m1z 54 (by decide) (by decide)) (by decide) (by decide +kernel) (by decide) (Nat.le_of_ble_eq_true rfl) (Nat.le_of_ble_eq_true rfl) (by decide) (fun ad3 g3 => ?_)
    have hB3 : ad3 1400 = b := (g3 1400 (by decide)).trans hB2
    refine vl_dup hC dL_law_11 ?_
    refine vl_callI (bb := 54) (vs := []) (st := [vx_r 54]) hC dL_law_12 (c_X9_init ad3 vl_m1 vl_m1z) wd_732 wd_734 wd_54 hy_X9_init wd_733 rfl (by decide) (Nat.le_of_ble_eq_true rfl) (by decide) (Nat.le_of_ble_eq_true rfl) (Nat.le_of_ble_eq_true rfl) (fun r_ ad4 N_ L_ m_ hp => ?_)
    obtain ⟨hr_, g4, hN_, hL_, hm_⟩ := hp
    rw [hr_, hN_, hL_, hm_]
    clear hr_ hN_ hL_ hm_
    have hB4 : ad4 1400 = b := (g4 1400 (by decide)).trans hB3
    refine ⟨vx_fars_al (a := 55) (b := 1000) g4 (by decide) (by decide), ?_⟩
    refine vl_eq (μ2 := vl_m2) (ls2 := [(1, vx_r 0), (0, vx_r 1400)]) (st2 := [vx_r 54]) rfl rfl rfl ?_
    refine vl_astore_n (ls2 := [(2, vx_r 54), (1, vx_r 0), (0, vx_r 1400)]) hC dL_law_15 (by decide) rfl ?_
    refine vl_iconst (v := 0) hC dL_law_16 (by decide) ?_
    refine vl_istore_n (ls2 := [(3, .inl 0), (2, vx_r 54), (1, vx_r 0), (0, vx_r 1400)]) hC dL_law_17 (by decide) rfl ?_
    exact law_loop hC hB4 (Nat.le_of_ble_eq_true rfl) (Nat.le_of_ble_eq_true rfl) hL (L + 1) 0 vl_m2 (by omega) (by omega) vl_rl
  exact key s.heap [] LS0 va_S.rf hP hD hX0 hl0
end
