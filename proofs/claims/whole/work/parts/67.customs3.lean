section
variable {len n dy pl sa wy L sp : Nat} {μc μm μc' μm' : vx_mem}
def told_ok (told : Nat → Int32) : Prop := ∀ k, k < 6 → told k = -1 ∨ ¬ sp_in (told k) ((vx_sv 1).getD k 0) ((vx_sv 2).getD k 0) = 0
theorem told_ln {t : Nat → Int32} {e : Nat} {told : Nat → Int32} {p : Nat} (h : told_ok told) : told_ok (sp_ln t e told p).2.2 := by
  unfold sp_ln
  split
  · exact h
  · split
    · exact h
    · split
      · exact h
      · split
        · exact h
        · rename_i h4
          split
          · exact h
          · intro k hk
            dsimp only
            unfold upd
            split
            · rename_i e1
              rw [e1]
              exact Or.inr h4
            · exact h k hk
theorem told_rd {t : Nat → Int32} {e : Nat} : ∀ (f : Nat) (told : Nat → Int32) (p k : Nat), told_ok told → told_ok (sp_rd t e f told p k).2.2.2
  | 0, told, p, k, h => h
  | f + 1, told, p, k, h => by
    unfold sp_rd
    split
    · split
      · exact told_rd f _ _ _ (told_ln h)
      · exact told_ln h
    · exact h
theorem told_rng {told : Nat → Int32} (h : told_ok told) {k : Nat} (hk : k < 6) {a b : Int} (ha : ((vx_sv 1).getD k 0).toInt = a) (hb : ((vx_sv 2).getD k 0).toInt = b) (hu : zz_in ((vx_sv 0).getD k 0) a b) : zz_in (if told k = -1 then (vx_sv 0).getD k 0 else told k) a b := by
  by_cases e : told k = -1
  · rw [if_pos e]; exact hu
  · rw [if_neg e]
    have h2 := (h k hk).resolve_left e
    rw [sp_inI, ha, hb] at h2
    unfold zz_in
    omega
theorem sp_no_at {f : Nat → Int32} {k : Nat} (h : k < 6) : sp_no f k = -1 := by
  rcases k with _ | _ | _ | _ | _ | _ | k <;> first | rfl | omega
theorem st_customs (x : Int32) : rl_st yX8_customs cX8_customs 3 (some (.int)) yX9_customs cX9_customs 3 (some (.int)) [.inl x] := by
  intro ad μc μ0 len n dy pl sa wy L sp h0
  obtain ⟨hl1, -, hl3, -⟩ := h0.1
  by_cases hk : sp_cok μc x
  · obtain ⟨e, rfl, hel⟩ : ∃ e, x = nI e ∧ e ≤ len := by
      obtain ⟨k1, k2⟩ := hk
      rw [zz_lt, tI_0] at k1
      rw [hl1, zz_le, nI_toInt (by omega)] at k2
      refine ⟨x.toInt.toNat, ?_, by omega⟩
      rw [zz_eq, nI_toInt (by omega)]
      omega
    have hC := c_X8_customs 20 (by omega) ad μc len hl1 hl3 (nI e)
    rw [if_pos hk, if_pos hk, nI_clamp (by omega)] at hC
    refine ⟨_, _, hC, fun p hp => by unfold sp_cuM; repeat rw [vu_ne (by omega)], fun μm h => ?_⟩
    obtain ⟨⟨a1, a2, a3, a4, a5⟩, ⟨b1, b2, b3, b4, b5, b6, b7, b8⟩, hC', hD, hE, hF⟩ := h
    obtain ⟨G, C, hfin, hM⟩ := c_X9_customs 20 (by omega) ad μm b8 len e a2 a3 hel a5 b3 b4 b5 (sp_no (μc 5)) (fun k hk => sp_no_at hk)
    have hZ : sp_rd (μm 55) e (e + 1) (sp_no (μc 5)) (sp_run sp_bl (μm 55) e 0) 0 = sp_Z μc e := by unfold sp_Z; rw [a4]
    have hok : told_ok (sp_Z μc e).2.2.2 := told_rd _ _ _ _ (fun k hk => Or.inl (sp_no_at hk))
    rw [hZ] at hfin hM
    obtain ⟨g1, g2, g3, g4, g5, g6⟩ := hfin
    refine ⟨_, hM, fun p hp => by rw [vu_ne (by omega), vu_ne (by omega)], ?_⟩
    unfold sp_cuM
    generalize sp_Z μc e = Z at *
    have hM4 : ∀ k, k < 6 → (if Z.1 = 0 then sp_pif (μc 4) Z.2.2.2 6 else μc 4) k = C k := by
      intro k hk
      rw [g6 k hk]
      by_cases z : Z.1 = 0
      · rw [if_pos z, if_pos z]
        unfold sp_pif
        rw [if_pos hk]
      · rw [if_neg z, if_neg z]
        exact b1 k hk
    have hrng : zz_in (C 0) 1 20 ∧ zz_in (C 1) 1 99 ∧ zz_in (C 2) 1 50 ∧ zz_in (C 3) 0 99 ∧ zz_in (C 4) 0 7 ∧ zz_in (C 5) 0 10 := by
      rw [g6 0 (by omega), g6 1 (by omega), g6 2 (by omega), g6 3 (by omega), g6 4 (by omega), g6 5 (by omega)]
      by_cases z : Z.1 = 0
      · rw [if_pos z, if_pos z, if_pos z, if_pos z, if_pos z, if_pos z]
        have u4 : zz_in (if Z.2.2.2 4 = -1 then (vx_sv 0).getD 4 0 else Z.2.2.2 4) 0 7 := by
          by_cases e4 : Z.2.2.2 4 = -1
          · rw [if_pos e4]; exact ⟨by decide, by decide⟩
          · rw [if_neg e4]
            have h2 := (hok 4 (by omega)).resolve_left e4
            rw [sp_inI, show ((vx_sv 1).getD 4 0).toInt = 1 by decide, show ((vx_sv 2).getD 4 0).toInt = 7 by decide] at h2
            unfold zz_in
            omega
        exact ⟨told_rng hok (by omega) (by decide) (by decide) ⟨by decide, by decide⟩, told_rng hok (by omega) (by decide) (by decide) ⟨by decide, by decide⟩, told_rng hok (by omega) (by decide) (by decide) ⟨by decide, by decide⟩, told_rng hok (by omega) (by decide) (by decide) ⟨by decide, by decide⟩, u4, told_rng hok (by omega) (by decide) (by decide) ⟨by decide, by decide⟩⟩
      · rw [if_neg z, if_neg z, if_neg z, if_neg z, if_neg z, if_neg z, ← b1 0 (by omega), ← b1 1 (by omega), ← b1 2 (by omega), ← b1 3 (by omega), ← b1 4 (by omega), ← b1 5 (by omega)]
        exact b2
    refine ⟨0, n, dy, pl, sa, wy, L, sp, ⟨rfl, g3, by omega, a4, a5⟩, ⟨fun k hk => hM4 k hk, ?_, b3, b4, b5, g4.symm, g5.symm, g2⟩, rlC_c hC' rfl (fun p _ _ => by repeat rw [vu_ne (by omega)]) (g1 18 (by omega)) (fun p _ _ => by rw [vu_ne (by omega), vu_ne (by omega)]), rlD_c hD (fun p _ _ => by repeat rw [vu_ne (by omega)]) (fun p _ _ => by repeat rw [vu_ne (by omega)]) rfl rfl, rlE_c hE (fun j _ => rfl) (fun j _ _ => g1 j (by omega)), rlF_c hF rfl (fun p _ _ => by repeat rw [vu_ne (by omega)]) rfl rfl (fun j _ _ => g1 j (by omega)) (fun p _ _ => by rw [vu_ne (by omega), vu_ne (by omega)])⟩
    rw [← hM4 0 (by omega), ← hM4 1 (by omega), ← hM4 2 (by omega), ← hM4 3 (by omega), ← hM4 4 (by omega), ← hM4 5 (by omega)] at hrng
    exact hrng
  · have hC := c_X8_customs 20 (by omega) ad μc len hl1 hl3 x
    rw [if_neg hk, if_neg hk] at hC
    refine ⟨-2, μc, hC, fun _ _ => rfl, fun μm h => ?_⟩
    have hm : ¬ (¬ x < 0 ∧ x ≤ nI len) := fun z => hk ⟨z.1, by rw [hl1]; exact z.2⟩
    exact ⟨μm, mo_custNo 20 ad μm h.2.1.2.2.2.2.2.2.2 len h.1.2.1 x hm, fun _ _ => rfl, h.rl⟩
end
