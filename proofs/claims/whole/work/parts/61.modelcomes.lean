section
/-- the best order's places, days -/
def sr_pk (p : Nat) (os : List Nat) : Nat → Nat
  | 0 => p
  | k + 1 => os.getD k 0
def sr_wh (P : sr_P) (p d : Nat) (os : List Nat) : Nat → Nat
  | 0 => d
  | k + 1 => sr_d P (sr_pk p os k) (sr_wh P p d os k) (os.getD k 0)
def sr_ar (P : sr_P) (p d : Nat) (os : List Nat) (k : Nat) : Nat := sr_wh P p d os k + P.1 (sr_pk p os k) (os.getD k 0) - 1
def sr_be (P : sr_P) (p d : Nat) (os : List Nat) (k : Nat) : Nat := max (sr_ar P p d os k) (P.2.1 (os.getD k 0))
def sr_lo (P : sr_P) (p d : Nat) (os : List Nat) (k : Nat) : Nat := P.2.2.2.2 * (sr_wh P p d os (k + 1) - P.2.2.1 (os.getD k 0) - 1)
/-- an order that can be gone has its ways -/
theorem sr_go_ne {P : sr_P} : ∀ (os : List Nat) (p d l e l' : Nat), sr_go P p d l os = some (e, l') → ∀ k, k < os.length → ¬ P.1 (sr_pk p os k) (os.getD k 0) = 0
  | [], p, d, l, e, l', h, k, hk => absurd hk (by simp)
  | f :: o, p, d, l, e, l', h, k, hk => by
    unfold sr_go at h
    split at h
    · cases h
    · rename_i h0
      rcases k with _ | k
      · exact h0
      · have := sr_go_ne o _ _ _ _ _ h k (by simpa using hk)
        rcases k with _ | k
        · exact this
        · exact this
def mo_c54 (μ : vx_mem) (m : Nat) : Nat → Int32 := upd (upd (upd (upd (upd (μ 54) 46 1) 47 0) 45 (μ 54 34)) 44 (nI m)) 48 0
def mo_cmM (μ : vx_mem) (P : sr_P) (p d : Nat) (os : List Nat) (m k : Nat) : vx_mem := va_up (va_up (va_up (va_up (va_up (va_up μ 54 (mo_c54 μ m)) 74 (sp_fil (fun j => nI (os.getD j 0)) (μ 74) k)) 75 (sp_fil (fun j => nI (sr_ar P p d os j)) (μ 75) k)) 76 (sp_fil (fun j => nI (sr_be P p d os j)) (μ 76) k)) 77 (sp_fil (fun j => nI (sr_wh P p d os (j + 1))) (μ 77) k)) 78 (sp_fil (fun j => nI (sr_lo P p d os j)) (μ 78) k)

set_option maxRecDepth 20000 in
set_option maxHeartbeats 2000000 in
theorem c_X9_comes (d : Nat) (hd : 2 ≤ d) (ad : Nat → Nat) (μ : vx_mem) {P : sr_P} {ω0 : Nat → Bool} (hs : sr_ml P ω0 μ) {os : List Nat} {m : Nat} (hm : os.length = m) (hm7 : m ≤ 7) (hmany : μ 54 51 = nI m) (hT : ∀ j, j < m → μ 81 j = nI (os.getD j 0)) (hos : ∀ j, j < m → os.getD j 0 < 8 ∧ ω0 (os.getD j 0) = true) (p d0 : Nat) (hp : μ 54 35 = nI p) (hp8 : p < 8) (hd0 : μ 54 34 = nI d0) (hd9 : d0 ≤ 1000) (hne : ∀ k, k < m → ¬ P.1 (sr_pk p os k) (os.getD k 0) = 0) : vx_Mf yX9_comes cX9_comes 5 none d ad 82 vx_lay μ [vx_r 54] none (mo_cmM μ P p d0 os m m) := by
  have key : ∀ (Post : vx_P) (ini : Bool), Post none ad 82 vx_lay (mo_cmM μ P p d0 os m m) → vx_J RX9 cX9_comes 5 none ini d 0 0 Post ad 0 0 82 vx_lay μ 0 [(0, vx_r 54)] [] := by
    intro Post ini hP
    have loop : ∀ (r k q t : Nat), k + r = m → q = sr_pk p os k → t = sr_wh P p d0 os k → t ≤ 1000 + 409 * k → vx_J RX9 cX9_comes 5 none ini d 0 0 Post ad 0 0 82 vx_lay (va_up (va_up (va_up (va_up (va_up (va_up μ 54 (mo_c54 μ m)) 74 (sp_fil (fun j => nI (os.getD j 0)) (μ 74) k)) 75 (sp_fil (fun j => nI (sr_ar P p d0 os j)) (μ 75) k)) 76 (sp_fil (fun j => nI (sr_be P p d0 os j)) (μ 76) k)) 77 (sp_fil (fun j => nI (sr_wh P p d0 os (j + 1))) (μ 77) k)) 78 (sp_fil (fun j => nI (sr_lo P p d0 os j)) (μ 78) k)) 43 [(3, .inl (nI k)), (2, .inl (nI t)), (1, .inl (nI q)), (0, vx_r 54)] [] := by
      intro r
      induction r with
      | zero =>
        intro k q t hk hpk hwh hd1
        refine vx_iload_n dX9_comes_43 rfl ?_
        refine vx_aload_n dX9_comes_44 rfl ?_
        refine vx_getI (ci := 9) (T := TX9) (n := 56) (j := 51) (a := 54) (v := (nI m)) dX9_comes_45 rfl lay_X9 (by decide) wd_787 (by decide) ly_54 rfl hmany ?_
        refine vx_icmp_ge (tgt := 193) dX9_comes_48 (by decide) (fun _ => ?_) (fun h => absurd (by show (nI (m) ≤ nI (k)); rw [nI_leI (by omega) (by omega)]; omega) h)
        exact vx_vret dX9_comes_193 rfl (Nat.le_refl 0) (Nat.le_refl 0) (vx_pst hP rfl (by rw [show k = m by omega]; rfl))
      | succ r ih =>
        intro k q t hk hpk hwh hd1
        have hq8 : q < 8 := by
          rw [hpk]
          cases k with
          | zero => exact hp8
          | succ k => exact (hos k (by omega)).1
        have hTk := hT k (by omega)
        have hnk := hne k (by omega)
        obtain ⟨hf8, hwf⟩ := hos k (by omega)
        rw [← hpk] at hnk
        obtain ⟨f, hf⟩ : ∃ f, f = os.getD k 0 := ⟨_, rfl⟩
        rw [← hf] at hTk hf8 hwf hnk
        obtain ⟨w1, w2, w3⟩ := hs.1 q f hq8 hf8 hwf
        obtain ⟨b1, b2, b3, b4, b5, b6, b7⟩ := hs.2.1 f hf8 hwf
        obtain ⟨b8, b9⟩ := hs.2.2
        have hd2 : (sr_d P q t f) ≤ 1000 + 409 * (k + 1) := by
          unfold sr_d
          have : max (t + P.1 q f - 1) (P.2.1 f) ≤ t + 109 := by omega
          omega
        have hmm : P.2.2.2.2 * ((sr_d P q t f) - P.2.2.1 f - 1) ≤ 99 * 4000 := Nat.mul_le_mul b9 (by omega)
        have ear : (t + P.1 q f - 1) = sr_ar P p d0 os k := by rw [hwh, hpk, hf]; rfl
        have ebe : (max (t + P.1 q f - 1) (P.2.1 f)) = sr_be P p d0 os k := by rw [hwh, hpk, hf]; rfl
        have ewh : (sr_d P q t f) = sr_wh P p d0 os (k + 1) := by rw [hwh, hpk, hf]; rfl
        have elo : (P.2.2.2.2 * (sr_d P q t f - P.2.2.1 f - 1)) = sr_lo P p d0 os k := by rw [hwh, hpk, hf]; rfl
        refine vx_iload_n dX9_comes_43 rfl ?_
        refine vx_aload_n dX9_comes_44 rfl ?_
        refine vx_getI (ci := 9) (T := TX9) (n := 56) (j := 51) (a := 54) (v := (nI m)) dX9_comes_45 rfl lay_X9 (by decide) wd_787 (by decide) ly_54 rfl hmany ?_
        refine vx_icmp_ge (tgt := 193) dX9_comes_48 (by decide) (fun h => absurd h (by show ¬ (nI (m) ≤ nI (k)); rw [nI_leI (by omega) (by omega)]; omega)) (fun _ => ?_)
        refine vx_aload_n dX9_comes_51 rfl ?_
        refine vx_getR (ci := 9) (T := TX9) (n := 56) (j := 55) (a := 54) (r := 81) dX9_comes_52 rfl lay_X9 (by decide) wd_791 (by decide) ly_54 rfl ?_
        refine vx_iload_n dX9_comes_55 rfl ?_
        refine vx_iald (a := 81) (n := 7) (v := (nI f)) dX9_comes_56 (by decide) ly_81 (vp_in_nI (by omega) (by omega)) (by rw [nI_clamp (by omega)]; exact hTk) ?_
        refine vx_istore (ls2 := [(4, .inl (nI f)), (3, .inl (nI k)), (2, .inl (nI t)), (1, .inl (nI q)), (0, vx_r 54)]) dX9_comes_57 (by decide) rfl ?_
        refine vx_aload_n dX9_comes_59 rfl ?_
        refine vx_getR (ci := 9) (T := TX9) (n := 56) (j := 39) (a := 54) (r := 74) dX9_comes_60 rfl lay_X9 (by decide) wd_775 (by decide) ly_54 rfl ?_
        refine vx_iload_n dX9_comes_63 rfl ?_
        refine vx_iload dX9_comes_64 rfl ?_
        refine vx_iast (a := 74) (n := 7) (μ2 := (va_up (va_up (va_up (va_up (va_up (va_up μ 54 (mo_c54 μ m)) 74 (upd (sp_fil (fun j => nI (os.getD j 0)) (μ 74) k) k (nI f))) 75 (sp_fil (fun j => nI (sr_ar P p d0 os j)) (μ 75) k)) 76 (sp_fil (fun j => nI (sr_be P p d0 os j)) (μ 76) k)) 77 (sp_fil (fun j => nI (sr_wh P p d0 os (j + 1))) (μ 77) k)) 78 (sp_fil (fun j => nI (sr_lo P p d0 os j)) (μ 78) k))) dX9_comes_66 (by decide) ly_74 (vp_in_nI (by omega) (by omega)) (by rw [nI_clamp (by omega)]; try exact ((vx_m2 (by decide)).trans (congrArg (fun m => va_up m 78 (sp_fil (fun j => nI (sr_lo P p d0 os j)) (μ 78) k)) ((vx_m2 (by decide)).trans (congrArg (fun m => va_up m 77 (sp_fil (fun j => nI (sr_wh P p d0 os (j + 1))) (μ 77) k)) ((vx_m2 (by decide)).trans (congrArg (fun m => va_up m 76 (sp_fil (fun j => nI (sr_be P p d0 os j)) (μ 76) k)) ((vx_m2 (by decide)).trans (congrArg (fun m => va_up m 75 (sp_fil (fun j => nI (sr_ar P p d0 os j)) (μ 75) k)) vx_m1))))))))) ?_
        refine vx_aload_n dX9_comes_67 rfl ?_
        refine vx_getR (ci := 9) (T := TX9) (n := 56) (j := 40) (a := 54) (r := 75) dX9_comes_68 rfl lay_X9 (by decide) wd_776 (by decide) ly_54 rfl ?_
        refine vx_iload_n dX9_comes_71 rfl ?_
        refine vx_iload dX9_comes_72 rfl ?_
        refine vx_iload_n dX9_comes_74 rfl ?_
        refine vx_icmp_ne (tgt := 82) dX9_comes_75 (by decide) (fun c_75 => ?_) (fun c_75 => ?_)
        · have hnq : ¬ q = f := fun z => c_75 (by rw [z])
          refine vx_iload_n dX9_comes_82 rfl ?_
          refine vx_aload_n dX9_comes_83 rfl ?_
          refine vx_getR (ci := 9) (T := TX9) (n := 56) (j := 30) (a := 54) (r := 71) dX9_comes_84 rfl lay_X9 (by decide) wd_766 (by decide) ly_54 rfl ?_
          refine vx_bipush (v := 8) dX9_comes_87 (by decide) ?_
          refine vx_iload_n dX9_comes_89 rfl ?_
          refine vx_imul dX9_comes_90 ?_
          refine vx_eq (st2 := [.inl (nI (8 * q)), vx_r 71, .inl (nI t), .inl (nI k), vx_r 75]) rfl rfl (by rw [show (8 : Int32) = nI 8 from rfl, pk_mul]) ?_
          refine vx_iload dX9_comes_91 rfl ?_
          refine vx_iadd dX9_comes_93 ?_
          refine vx_eq (st2 := [.inl (nI ((8 * q) + f)), vx_r 71, .inl (nI t), .inl (nI k), vx_r 75]) rfl rfl (by rw [nI_add]) ?_
          refine vx_iald (a := 71) (n := 64) (v := (nI (P.1 q f))) dX9_comes_94 (by decide) ly_71 (vp_in_nI (by omega) (by omega)) (by rw [nI_clamp (by omega)]; exact (w2 hnq)) ?_
          refine vx_iadd dX9_comes_95 ?_
          refine vx_eq (st2 := [.inl (nI (t + (P.1 q f))), .inl (nI k), vx_r 75]) rfl rfl (by rw [nI_add]) ?_
          refine vx_iconst (v := 1) dX9_comes_96 (by decide) ?_
          refine vx_isub dX9_comes_97 ?_
          refine vx_eq (st2 := [.inl (nI (t + P.1 q f - 1)), .inl (nI k), vx_r 75]) rfl rfl (by rw [show (1 : Int32) = nI 1 from rfl, pk_sub (by omega)]) ?_
          refine vx_iast (a := 75) (n := 7) (μ2 := (va_up (va_up (va_up (va_up (va_up (va_up μ 54 (mo_c54 μ m)) 74 (upd (sp_fil (fun j => nI (os.getD j 0)) (μ 74) k) k (nI f))) 75 (upd (sp_fil (fun j => nI (sr_ar P p d0 os j)) (μ 75) k) k (nI (t + P.1 q f - 1)))) 76 (sp_fil (fun j => nI (sr_be P p d0 os j)) (μ 76) k)) 77 (sp_fil (fun j => nI (sr_wh P p d0 os (j + 1))) (μ 77) k)) 78 (sp_fil (fun j => nI (sr_lo P p d0 os j)) (μ 78) k))) dX9_comes_98 (by decide) ly_75 (vp_in_nI (by omega) (by omega)) (by rw [nI_clamp (by omega)]; try exact ((vx_m2 (by decide)).trans (congrArg (fun m => va_up m 78 (sp_fil (fun j => nI (sr_lo P p d0 os j)) (μ 78) k)) ((vx_m2 (by decide)).trans (congrArg (fun m => va_up m 77 (sp_fil (fun j => nI (sr_wh P p d0 os (j + 1))) (μ 77) k)) ((vx_m2 (by decide)).trans (congrArg (fun m => va_up m 76 (sp_fil (fun j => nI (sr_be P p d0 os j)) (μ 76) k)) vx_m1))))))) ?_
          refine vx_aload_n dX9_comes_99 rfl ?_
          refine vx_getR (ci := 9) (T := TX9) (n := 56) (j := 41) (a := 54) (r := 76) dX9_comes_100 rfl lay_X9 (by decide) wd_777 (by decide) ly_54 rfl ?_
          refine vx_iload_n dX9_comes_103 rfl ?_
          refine vx_aload_n dX9_comes_104 rfl ?_
          refine vx_getR (ci := 9) (T := TX9) (n := 56) (j := 40) (a := 54) (r := 75) dX9_comes_105 rfl lay_X9 (by decide) wd_776 (by decide) ly_54 rfl ?_
          refine vx_iload_n dX9_comes_108 rfl ?_
          refine vx_iald (a := 75) (n := 7) (v := (nI (t + P.1 q f - 1))) dX9_comes_109 (by decide) ly_75 (vp_in_nI (by omega) (by omega)) (by rw [nI_clamp (by omega)]; exact (pk_us : upd (sp_fil (fun j => nI (sr_ar P p d0 os j)) (μ 75) k) k (nI (t + P.1 q f - 1)) k = _)) ?_
          refine vx_aload_n dX9_comes_110 rfl ?_
          refine vx_getR (ci := 9) (T := TX9) (n := 56) (j := 24) (a := 54) (r := 65) dX9_comes_111 rfl lay_X9 (by decide) wd_760 (by decide) ly_54 rfl ?_
          refine vx_iload dX9_comes_114 rfl ?_
          refine vx_iald (a := 65) (n := 8) (v := (nI (P.2.1 f))) dX9_comes_116 (by decide) ly_65 (vp_in_nI (by omega) (by omega)) (by rw [nI_clamp (by omega)]; exact b1) ?_
          refine vx_mmax dX9_comes_117 wd_986 (by omega) (Nat.le_of_ble_eq_true rfl) (Nat.le_refl 0) (Nat.le_refl 0) ?_
          refine vx_eq (st2 := [.inl (nI (max (t + P.1 q f - 1) (P.2.1 f))), .inl (nI k), vx_r 76]) rfl rfl (by rw [show (if (nI (t + P.1 q f - 1)) < (nI (P.2.1 f)) then (nI (P.2.1 f)) else (nI (t + P.1 q f - 1))) = nI (max (t + P.1 q f - 1) (P.2.1 f)) from sr_max (by omega) (by omega)]) ?_
          refine vx_iast (a := 76) (n := 7) (μ2 := (va_up (va_up (va_up (va_up (va_up (va_up μ 54 (mo_c54 μ m)) 74 (upd (sp_fil (fun j => nI (os.getD j 0)) (μ 74) k) k (nI f))) 75 (upd (sp_fil (fun j => nI (sr_ar P p d0 os j)) (μ 75) k) k (nI (t + P.1 q f - 1)))) 76 (upd (sp_fil (fun j => nI (sr_be P p d0 os j)) (μ 76) k) k (nI (max (t + P.1 q f - 1) (P.2.1 f))))) 77 (sp_fil (fun j => nI (sr_wh P p d0 os (j + 1))) (μ 77) k)) 78 (sp_fil (fun j => nI (sr_lo P p d0 os j)) (μ 78) k))) dX9_comes_120 (by decide) ly_76 (vp_in_nI (by omega) (by omega)) (by rw [nI_clamp (by omega)]; try exact ((vx_m2 (by decide)).trans (congrArg (fun m => va_up m 78 (sp_fil (fun j => nI (sr_lo P p d0 os j)) (μ 78) k)) ((vx_m2 (by decide)).trans (congrArg (fun m => va_up m 77 (sp_fil (fun j => nI (sr_wh P p d0 os (j + 1))) (μ 77) k)) vx_m1))))) ?_
          refine vx_aload_n dX9_comes_121 rfl ?_
          refine vx_getR (ci := 9) (T := TX9) (n := 56) (j := 42) (a := 54) (r := 77) dX9_comes_122 rfl lay_X9 (by decide) wd_778 (by decide) ly_54 rfl ?_
          refine vx_iload_n dX9_comes_125 rfl ?_
          refine vx_aload_n dX9_comes_126 rfl ?_
          refine vx_getR (ci := 9) (T := TX9) (n := 56) (j := 41) (a := 54) (r := 76) dX9_comes_127 rfl lay_X9 (by decide) wd_777 (by decide) ly_54 rfl ?_
          refine vx_iload_n dX9_comes_130 rfl ?_
          refine vx_iald (a := 76) (n := 7) (v := (nI (max (t + P.1 q f - 1) (P.2.1 f)))) dX9_comes_131 (by decide) ly_76 (vp_in_nI (by omega) (by omega)) (by rw [nI_clamp (by omega)]; exact (pk_us : upd (sp_fil (fun j => nI (sr_be P p d0 os j)) (μ 76) k) k (nI (max (t + P.1 q f - 1) (P.2.1 f))) k = _)) ?_
          refine vx_aload_n dX9_comes_132 rfl ?_
          refine vx_getR (ci := 9) (T := TX9) (n := 56) (j := 20) (a := 54) (r := 61) dX9_comes_133 rfl lay_X9 (by decide) wd_756 (by decide) ly_54 rfl ?_
          refine vx_iload dX9_comes_136 rfl ?_
          refine vx_iald (a := 61) (n := 8) (v := (μ 61 f)) dX9_comes_138 (by decide) ly_61 (vp_in_nI (by omega) (by omega)) (by rw [nI_clamp (by omega)] <;> rfl) ?_
          refine vx_aload_n dX9_comes_139 rfl ?_
          refine vx_getR (ci := 9) (T := TX9) (n := 56) (j := 50) (a := 54) (r := 80) dX9_comes_140 rfl lay_X9 (by decide) wd_786 (by decide) ly_54 rfl ?_
          refine vx_iload dX9_comes_143 rfl ?_
          refine vx_iald (a := 80) (n := 8) (v := (μ 80 f)) dX9_comes_145 (by decide) ly_80 (vp_in_nI (by omega) (by omega)) (by rw [nI_clamp (by omega)] <;> rfl) ?_
          refine vx_iadd dX9_comes_146 ?_
          refine vx_iconst (v := 1) dX9_comes_147 (by decide) ?_
          refine vx_isub dX9_comes_148 ?_
          refine vx_aload_n dX9_comes_149 rfl ?_
          refine vx_getR (ci := 9) (T := TX9) (n := 56) (j := 50) (a := 54) (r := 80) dX9_comes_150 rfl lay_X9 (by decide) wd_786 (by decide) ly_54 rfl ?_
          refine vx_iload dX9_comes_153 rfl ?_
          refine vx_iald (a := 80) (n := 8) (v := (μ 80 f)) dX9_comes_155 (by decide) ly_80 (vp_in_nI (by omega) (by omega)) (by rw [nI_clamp (by omega)] <;> rfl) ?_
          refine vx_idiv dX9_comes_156 b7 ?_
          refine vx_iadd dX9_comes_157 ?_
          refine vx_eq (st2 := [.inl (nI (sr_d P q t f)), .inl (nI k), vx_r 77]) rfl rfl (by rw [b5, nI_add]; rfl) ?_
          refine vx_iast (a := 77) (n := 7) (μ2 := (va_up (va_up (va_up (va_up (va_up (va_up μ 54 (mo_c54 μ m)) 74 (upd (sp_fil (fun j => nI (os.getD j 0)) (μ 74) k) k (nI f))) 75 (upd (sp_fil (fun j => nI (sr_ar P p d0 os j)) (μ 75) k) k (nI (t + P.1 q f - 1)))) 76 (upd (sp_fil (fun j => nI (sr_be P p d0 os j)) (μ 76) k) k (nI (max (t + P.1 q f - 1) (P.2.1 f))))) 77 (upd (sp_fil (fun j => nI (sr_wh P p d0 os (j + 1))) (μ 77) k) k (nI (sr_d P q t f)))) 78 (sp_fil (fun j => nI (sr_lo P p d0 os j)) (μ 78) k))) dX9_comes_158 (by decide) ly_77 (vp_in_nI (by omega) (by omega)) (by rw [nI_clamp (by omega)]; try exact ((vx_m2 (by decide)).trans (congrArg (fun m => va_up m 78 (sp_fil (fun j => nI (sr_lo P p d0 os j)) (μ 78) k)) vx_m1))) ?_
          refine vx_aload_n dX9_comes_159 rfl ?_
          refine vx_getR (ci := 9) (T := TX9) (n := 56) (j := 43) (a := 54) (r := 78) dX9_comes_160 rfl lay_X9 (by decide) wd_779 (by decide) ly_54 rfl ?_
          refine vx_iload_n dX9_comes_163 rfl ?_
          refine vx_aload_n dX9_comes_164 rfl ?_
          refine vx_aload_n dX9_comes_165 rfl ?_
          refine vx_getR (ci := 9) (T := TX9) (n := 56) (j := 42) (a := 54) (r := 77) dX9_comes_166 rfl lay_X9 (by decide) wd_778 (by decide) ly_54 rfl ?_
          refine vx_iload_n dX9_comes_169 rfl ?_
          refine vx_iald (a := 77) (n := 7) (v := (nI (sr_d P q t f))) dX9_comes_170 (by decide) ly_77 (vp_in_nI (by omega) (by omega)) (by rw [nI_clamp (by omega)]; exact (pk_us : upd (sp_fil (fun j => nI (sr_wh P p d0 os (j + 1))) (μ 77) k) k (nI (sr_d P q t f)) k = _)) ?_
          refine vx_iload dX9_comes_171 rfl ?_
          refine vx_callV (b := 54) (vs := [.inl (nI (sr_d P q t f)), .inl (nI f)]) (st := [.inl (nI k), vx_r 78]) (r0 := (some (.inl (μ 56 3 * sp_max 0 (nI (sr_d P q t f) - nI (P.2.2.1 f) - 1))))) (μ0 := (va_up (va_up (va_up (va_up (va_up (va_up μ 54 (mo_c54 μ m)) 74 (upd (sp_fil (fun j => nI (os.getD j 0)) (μ 74) k) k (nI f))) 75 (upd (sp_fil (fun j => nI (sr_ar P p d0 os j)) (μ 75) k) k (nI (t + P.1 q f - 1)))) 76 (upd (sp_fil (fun j => nI (sr_be P p d0 os j)) (μ 76) k) k (nI (max (t + P.1 q f - 1) (P.2.1 f))))) 77 (upd (sp_fil (fun j => nI (sr_wh P p d0 os (j + 1))) (μ 77) k) k (nI (sr_d P q t f)))) 78 (sp_fil (fun j => nI (sr_lo P p d0 os j)) (μ 78) k))) dX9_comes_173 ((c_X9_lossOf (d - 1) (by omega) ad (va_up (va_up (va_up (va_up (va_up (va_up μ 54 (mo_c54 μ m)) 74 (upd (sp_fil (fun j => nI (os.getD j 0)) (μ 74) k) k (nI f))) 75 (upd (sp_fil (fun j => nI (sr_ar P p d0 os j)) (μ 75) k) k (nI (t + P.1 q f - 1)))) 76 (upd (sp_fil (fun j => nI (sr_be P p d0 os j)) (μ 76) k) k (nI (max (t + P.1 q f - 1) (P.2.1 f))))) 77 (upd (sp_fil (fun j => nI (sr_wh P p d0 os (j + 1))) (μ 77) k) k (nI (sr_d P q t f)))) 78 (sp_fil (fun j => nI (sr_lo P p d0 os j)) (μ 78) k)) (nI (sr_d P q t f)) f (by omega)).to (by rw [show (va_up (va_up (va_up (va_up (va_up (va_up μ 54 (mo_c54 μ m)) 74 (upd (sp_fil (fun j => nI (os.getD j 0)) (μ 74) k) k (nI f))) 75 (upd (sp_fil (fun j => nI (sr_ar P p d0 os j)) (μ 75) k) k (nI (t + P.1 q f - 1)))) 76 (upd (sp_fil (fun j => nI (sr_be P p d0 os j)) (μ 76) k) k (nI (max (t + P.1 q f - 1) (P.2.1 f))))) 77 (upd (sp_fil (fun j => nI (sr_wh P p d0 os (j + 1))) (μ 77) k) k (nI (sr_d P q t f)))) 78 (sp_fil (fun j => nI (sr_lo P p d0 os j)) (μ 78) k)) 66 f = nI (P.2.2.1 f) from b3]; rfl) rfl) wd_991 wd_994 wd_54 hy_X9_lossOf wd_993 wd_35 (by decide) ly_54 rfl rfl (by omega) (Nat.le_of_ble_eq_true rfl) (Nat.le_of_ble_eq_true rfl) (Nat.le_refl 0) (Nat.le_refl 0) ?_
          refine vx_eq (μ2 := (va_up (va_up (va_up (va_up (va_up (va_up μ 54 (mo_c54 μ m)) 74 (upd (sp_fil (fun j => nI (os.getD j 0)) (μ 74) k) k (nI f))) 75 (upd (sp_fil (fun j => nI (sr_ar P p d0 os j)) (μ 75) k) k (nI (t + P.1 q f - 1)))) 76 (upd (sp_fil (fun j => nI (sr_be P p d0 os j)) (μ 76) k) k (nI (max (t + P.1 q f - 1) (P.2.1 f))))) 77 (upd (sp_fil (fun j => nI (sr_wh P p d0 os (j + 1))) (μ 77) k) k (nI (sr_d P q t f)))) 78 (sp_fil (fun j => nI (sr_lo P p d0 os j)) (μ 78) k))) (ls2 := [(4, .inl (nI f)), (3, .inl (nI k)), (2, .inl (nI t)), (1, .inl (nI q)), (0, vx_r 54)]) (st2 := [.inl (μ 56 3 * sp_max 0 (nI (sr_d P q t f) - nI (P.2.2.1 f) - 1)), .inl (nI k), vx_r 78]) rfl rfl rfl ?_
          refine vx_eq (st2 := [.inl (nI (P.2.2.2.2 * (sr_d P q t f - P.2.2.1 f - 1))), .inl (nI k), vx_r 78]) rfl rfl (by rw [b8, (sr_pos (by omega) (by omega)).2, pk_mul]) ?_
          refine vx_iast (a := 78) (n := 7) (μ2 := (va_up (va_up (va_up (va_up (va_up (va_up μ 54 (mo_c54 μ m)) 74 (upd (sp_fil (fun j => nI (os.getD j 0)) (μ 74) k) k (nI f))) 75 (upd (sp_fil (fun j => nI (sr_ar P p d0 os j)) (μ 75) k) k (nI (t + P.1 q f - 1)))) 76 (upd (sp_fil (fun j => nI (sr_be P p d0 os j)) (μ 76) k) k (nI (max (t + P.1 q f - 1) (P.2.1 f))))) 77 (upd (sp_fil (fun j => nI (sr_wh P p d0 os (j + 1))) (μ 77) k) k (nI (sr_d P q t f)))) 78 (upd (sp_fil (fun j => nI (sr_lo P p d0 os j)) (μ 78) k) k (nI (P.2.2.2.2 * (sr_d P q t f - P.2.2.1 f - 1)))))) dX9_comes_176 (by decide) ly_78 (vp_in_nI (by omega) (by omega)) (by rw [nI_clamp (by omega)]; try exact vx_m1) ?_
          refine vx_aload_n dX9_comes_177 rfl ?_
          refine vx_getR (ci := 9) (T := TX9) (n := 56) (j := 42) (a := 54) (r := 77) dX9_comes_178 rfl lay_X9 (by decide) wd_778 (by decide) ly_54 rfl ?_
          refine vx_iload_n dX9_comes_181 rfl ?_
          refine vx_iald (a := 77) (n := 7) (v := (nI (sr_d P q t f))) dX9_comes_182 (by decide) ly_77 (vp_in_nI (by omega) (by omega)) (by rw [nI_clamp (by omega)]; exact (pk_us : upd (sp_fil (fun j => nI (sr_wh P p d0 os (j + 1))) (μ 77) k) k (nI (sr_d P q t f)) k = _)) ?_
          refine vx_istore_n (ls2 := [(2, .inl (nI (sr_d P q t f))), (4, .inl (nI f)), (3, .inl (nI k)), (1, .inl (nI q)), (0, vx_r 54)]) dX9_comes_183 (by decide) rfl ?_
          refine vx_iload dX9_comes_184 rfl ?_
          refine vx_istore_n (ls2 := [(1, .inl (nI f)), (2, .inl (nI (sr_d P q t f))), (4, .inl (nI f)), (3, .inl (nI k)), (0, vx_r 54)]) dX9_comes_186 (by decide) rfl ?_
          refine vx_iinc (v := (nI (k + 1))) (ls2 := [(3, .inl (nI (k + 1))), (1, .inl (nI f)), (2, .inl (nI (sr_d P q t f))), (4, .inl (nI f)), (0, vx_r 54)]) dX9_comes_187 rfl (nI_1 _) (by decide) rfl ?_
          refine vx_goto (tgt := 43) dX9_comes_190 (by decide) ?_
          refine vx_keep (ls2 := [(3, .inl (nI (k + 1))), (2, .inl (nI (sr_d P q t f))), (1, .inl (nI f)), (0, vx_r 54)]) ⟨rfl, rfl, rfl, rfl, trivial⟩ ?_
          refine vx_eq (μ2 := (va_up (va_up (va_up (va_up (va_up (va_up μ 54 (mo_c54 μ m)) 74 (sp_fil (fun j => nI (os.getD j 0)) (μ 74) (k + 1))) 75 (sp_fil (fun j => nI (sr_ar P p d0 os j)) (μ 75) (k + 1))) 76 (sp_fil (fun j => nI (sr_be P p d0 os j)) (μ 76) (k + 1))) 77 (sp_fil (fun j => nI (sr_wh P p d0 os (j + 1))) (μ 77) (k + 1))) 78 (sp_fil (fun j => nI (sr_lo P p d0 os j)) (μ 78) (k + 1)))) (by rw [sp_fils (fun j => nI (os.getD j 0)) _ _ (show nI f = _ by rw [hf]), sp_fils (fun j => nI (sr_ar P p d0 os j)) _ _ (congrArg nI ear), sp_fils (fun j => nI (sr_be P p d0 os j)) _ _ (congrArg nI ebe), sp_fils (fun j => nI (sr_wh P p d0 os (j + 1))) _ _ (congrArg nI ewh), sp_fils (fun j => nI (sr_lo P p d0 os j)) _ _ (congrArg nI elo)]) rfl rfl ?_
          exact ih (k + 1) f _ (by omega) hf ewh hd2
        · have heq : q = f := ((nI_eq (by omega) (by omega)).mp c_75).symm
          refine vx_iload_n dX9_comes_78 rfl ?_
          refine vx_goto (tgt := 98) dX9_comes_79 (by decide) ?_
          refine vx_eq (st2 := [.inl (nI (t + P.1 q f - 1)), .inl (nI k), vx_r 75]) rfl rfl (by rw [w1 heq]; rfl) ?_
          refine vx_iast (a := 75) (n := 7) (μ2 := (va_up (va_up (va_up (va_up (va_up (va_up μ 54 (mo_c54 μ m)) 74 (upd (sp_fil (fun j => nI (os.getD j 0)) (μ 74) k) k (nI f))) 75 (upd (sp_fil (fun j => nI (sr_ar P p d0 os j)) (μ 75) k) k (nI (t + P.1 q f - 1)))) 76 (sp_fil (fun j => nI (sr_be P p d0 os j)) (μ 76) k)) 77 (sp_fil (fun j => nI (sr_wh P p d0 os (j + 1))) (μ 77) k)) 78 (sp_fil (fun j => nI (sr_lo P p d0 os j)) (μ 78) k))) dX9_comes_98 (by decide) ly_75 (vp_in_nI (by omega) (by omega)) (by rw [nI_clamp (by omega)]; try exact ((vx_m2 (by decide)).trans (congrArg (fun m => va_up m 78 (sp_fil (fun j => nI (sr_lo P p d0 os j)) (μ 78) k)) ((vx_m2 (by decide)).trans (congrArg (fun m => va_up m 77 (sp_fil (fun j => nI (sr_wh P p d0 os (j + 1))) (μ 77) k)) ((vx_m2 (by decide)).trans (congrArg (fun m => va_up m 76 (sp_fil (fun j => nI (sr_be P p d0 os j)) (μ 76) k)) vx_m1))))))) ?_
          refine vx_aload_n dX9_comes_99 rfl ?_
          refine vx_getR (ci := 9) (T := TX9) (n := 56) (j := 41) (a := 54) (r := 76) dX9_comes_100 rfl lay_X9 (by decide) wd_777 (by decide) ly_54 rfl ?_
          refine vx_iload_n dX9_comes_103 rfl ?_
          refine vx_aload_n dX9_comes_104 rfl ?_
          refine vx_getR (ci := 9) (T := TX9) (n := 56) (j := 40) (a := 54) (r := 75) dX9_comes_105 rfl lay_X9 (by decide) wd_776 (by decide) ly_54 rfl ?_
          refine vx_iload_n dX9_comes_108 rfl ?_
          refine vx_iald (a := 75) (n := 7) (v := (nI (t + P.1 q f - 1))) dX9_comes_109 (by decide) ly_75 (vp_in_nI (by omega) (by omega)) (by rw [nI_clamp (by omega)]; exact (pk_us : upd (sp_fil (fun j => nI (sr_ar P p d0 os j)) (μ 75) k) k (nI (t + P.1 q f - 1)) k = _)) ?_
          refine vx_aload_n dX9_comes_110 rfl ?_
          refine vx_getR (ci := 9) (T := TX9) (n := 56) (j := 24) (a := 54) (r := 65) dX9_comes_111 rfl lay_X9 (by decide) wd_760 (by decide) ly_54 rfl ?_
          refine vx_iload dX9_comes_114 rfl ?_
          refine vx_iald (a := 65) (n := 8) (v := (nI (P.2.1 f))) dX9_comes_116 (by decide) ly_65 (vp_in_nI (by omega) (by omega)) (by rw [nI_clamp (by omega)]; exact b1) ?_
          refine vx_mmax dX9_comes_117 wd_986 (by omega) (Nat.le_of_ble_eq_true rfl) (Nat.le_refl 0) (Nat.le_refl 0) ?_
          refine vx_eq (st2 := [.inl (nI (max (t + P.1 q f - 1) (P.2.1 f))), .inl (nI k), vx_r 76]) rfl rfl (by rw [show (if (nI (t + P.1 q f - 1)) < (nI (P.2.1 f)) then (nI (P.2.1 f)) else (nI (t + P.1 q f - 1))) = nI (max (t + P.1 q f - 1) (P.2.1 f)) from sr_max (by omega) (by omega)]) ?_
          refine vx_iast (a := 76) (n := 7) (μ2 := (va_up (va_up (va_up (va_up (va_up (va_up μ 54 (mo_c54 μ m)) 74 (upd (sp_fil (fun j => nI (os.getD j 0)) (μ 74) k) k (nI f))) 75 (upd (sp_fil (fun j => nI (sr_ar P p d0 os j)) (μ 75) k) k (nI (t + P.1 q f - 1)))) 76 (upd (sp_fil (fun j => nI (sr_be P p d0 os j)) (μ 76) k) k (nI (max (t + P.1 q f - 1) (P.2.1 f))))) 77 (sp_fil (fun j => nI (sr_wh P p d0 os (j + 1))) (μ 77) k)) 78 (sp_fil (fun j => nI (sr_lo P p d0 os j)) (μ 78) k))) dX9_comes_120 (by decide) ly_76 (vp_in_nI (by omega) (by omega)) (by rw [nI_clamp (by omega)]; try exact ((vx_m2 (by decide)).trans (congrArg (fun m => va_up m 78 (sp_fil (fun j => nI (sr_lo P p d0 os j)) (μ 78) k)) ((vx_m2 (by decide)).trans (congrArg (fun m => va_up m 77 (sp_fil (fun j => nI (sr_wh P p d0 os (j + 1))) (μ 77) k)) vx_m1))))) ?_
          refine vx_aload_n dX9_comes_121 rfl ?_
          refine vx_getR (ci := 9) (T := TX9) (n := 56) (j := 42) (a := 54) (r := 77) dX9_comes_122 rfl lay_X9 (by decide) wd_778 (by decide) ly_54 rfl ?_
          refine vx_iload_n dX9_comes_125 rfl ?_
          refine vx_aload_n dX9_comes_126 rfl ?_
          refine vx_getR (ci := 9) (T := TX9) (n := 56) (j := 41) (a := 54) (r := 76) dX9_comes_127 rfl lay_X9 (by decide) wd_777 (by decide) ly_54 rfl ?_
          refine vx_iload_n dX9_comes_130 rfl ?_
          refine vx_iald (a := 76) (n := 7) (v := (nI (max (t + P.1 q f - 1) (P.2.1 f)))) dX9_comes_131 (by decide) ly_76 (vp_in_nI (by omega) (by omega)) (by rw [nI_clamp (by omega)]; exact (pk_us : upd (sp_fil (fun j => nI (sr_be P p d0 os j)) (μ 76) k) k (nI (max (t + P.1 q f - 1) (P.2.1 f))) k = _)) ?_
          refine vx_aload_n dX9_comes_132 rfl ?_
          refine vx_getR (ci := 9) (T := TX9) (n := 56) (j := 20) (a := 54) (r := 61) dX9_comes_133 rfl lay_X9 (by decide) wd_756 (by decide) ly_54 rfl ?_
          refine vx_iload dX9_comes_136 rfl ?_
          refine vx_iald (a := 61) (n := 8) (v := (μ 61 f)) dX9_comes_138 (by decide) ly_61 (vp_in_nI (by omega) (by omega)) (by rw [nI_clamp (by omega)] <;> rfl) ?_
          refine vx_aload_n dX9_comes_139 rfl ?_
          refine vx_getR (ci := 9) (T := TX9) (n := 56) (j := 50) (a := 54) (r := 80) dX9_comes_140 rfl lay_X9 (by decide) wd_786 (by decide) ly_54 rfl ?_
          refine vx_iload dX9_comes_143 rfl ?_
          refine vx_iald (a := 80) (n := 8) (v := (μ 80 f)) dX9_comes_145 (by decide) ly_80 (vp_in_nI (by omega) (by omega)) (by rw [nI_clamp (by omega)] <;> rfl) ?_
          refine vx_iadd dX9_comes_146 ?_
          refine vx_iconst (v := 1) dX9_comes_147 (by decide) ?_
          refine vx_isub dX9_comes_148 ?_
          refine vx_aload_n dX9_comes_149 rfl ?_
          refine vx_getR (ci := 9) (T := TX9) (n := 56) (j := 50) (a := 54) (r := 80) dX9_comes_150 rfl lay_X9 (by decide) wd_786 (by decide) ly_54 rfl ?_
          refine vx_iload dX9_comes_153 rfl ?_
          refine vx_iald (a := 80) (n := 8) (v := (μ 80 f)) dX9_comes_155 (by decide) ly_80 (vp_in_nI (by omega) (by omega)) (by rw [nI_clamp (by omega)] <;> rfl) ?_
          refine vx_idiv dX9_comes_156 b7 ?_
          refine vx_iadd dX9_comes_157 ?_
          refine vx_eq (st2 := [.inl (nI (sr_d P q t f)), .inl (nI k), vx_r 77]) rfl rfl (by rw [b5, nI_add]; rfl) ?_
          refine vx_iast (a := 77) (n := 7) (μ2 := (va_up (va_up (va_up (va_up (va_up (va_up μ 54 (mo_c54 μ m)) 74 (upd (sp_fil (fun j => nI (os.getD j 0)) (μ 74) k) k (nI f))) 75 (upd (sp_fil (fun j => nI (sr_ar P p d0 os j)) (μ 75) k) k (nI (t + P.1 q f - 1)))) 76 (upd (sp_fil (fun j => nI (sr_be P p d0 os j)) (μ 76) k) k (nI (max (t + P.1 q f - 1) (P.2.1 f))))) 77 (upd (sp_fil (fun j => nI (sr_wh P p d0 os (j + 1))) (μ 77) k) k (nI (sr_d P q t f)))) 78 (sp_fil (fun j => nI (sr_lo P p d0 os j)) (μ 78) k))) dX9_comes_158 (by decide) ly_77 (vp_in_nI (by omega) (by omega)) (by rw [nI_clamp (by omega)]; try exact ((vx_m2 (by decide)).trans (congrArg (fun m => va_up m 78 (sp_fil (fun j => nI (sr_lo P p d0 os j)) (μ 78) k)) vx_m1))) ?_
          refine vx_aload_n dX9_comes_159 rfl ?_
          refine vx_getR (ci := 9) (T := TX9) (n := 56) (j := 43) (a := 54) (r := 78) dX9_comes_160 rfl lay_X9 (by decide) wd_779 (by decide) ly_54 rfl ?_
          refine vx_iload_n dX9_comes_163 rfl ?_
          refine vx_aload_n dX9_comes_164 rfl ?_
          refine vx_aload_n dX9_comes_165 rfl ?_
          refine vx_getR (ci := 9) (T := TX9) (n := 56) (j := 42) (a := 54) (r := 77) dX9_comes_166 rfl lay_X9 (by decide) wd_778 (by decide) ly_54 rfl ?_
          refine vx_iload_n dX9_comes_169 rfl ?_
          refine vx_iald (a := 77) (n := 7) (v := (nI (sr_d P q t f))) dX9_comes_170 (by decide) ly_77 (vp_in_nI (by omega) (by omega)) (by rw [nI_clamp (by omega)]; exact (pk_us : upd (sp_fil (fun j => nI (sr_wh P p d0 os (j + 1))) (μ 77) k) k (nI (sr_d P q t f)) k = _)) ?_
          refine vx_iload dX9_comes_171 rfl ?_
          refine vx_callV (b := 54) (vs := [.inl (nI (sr_d P q t f)), .inl (nI f)]) (st := [.inl (nI k), vx_r 78]) (r0 := (some (.inl (μ 56 3 * sp_max 0 (nI (sr_d P q t f) - nI (P.2.2.1 f) - 1))))) (μ0 := (va_up (va_up (va_up (va_up (va_up (va_up μ 54 (mo_c54 μ m)) 74 (upd (sp_fil (fun j => nI (os.getD j 0)) (μ 74) k) k (nI f))) 75 (upd (sp_fil (fun j => nI (sr_ar P p d0 os j)) (μ 75) k) k (nI (t + P.1 q f - 1)))) 76 (upd (sp_fil (fun j => nI (sr_be P p d0 os j)) (μ 76) k) k (nI (max (t + P.1 q f - 1) (P.2.1 f))))) 77 (upd (sp_fil (fun j => nI (sr_wh P p d0 os (j + 1))) (μ 77) k) k (nI (sr_d P q t f)))) 78 (sp_fil (fun j => nI (sr_lo P p d0 os j)) (μ 78) k))) dX9_comes_173 ((c_X9_lossOf (d - 1) (by omega) ad (va_up (va_up (va_up (va_up (va_up (va_up μ 54 (mo_c54 μ m)) 74 (upd (sp_fil (fun j => nI (os.getD j 0)) (μ 74) k) k (nI f))) 75 (upd (sp_fil (fun j => nI (sr_ar P p d0 os j)) (μ 75) k) k (nI (t + P.1 q f - 1)))) 76 (upd (sp_fil (fun j => nI (sr_be P p d0 os j)) (μ 76) k) k (nI (max (t + P.1 q f - 1) (P.2.1 f))))) 77 (upd (sp_fil (fun j => nI (sr_wh P p d0 os (j + 1))) (μ 77) k) k (nI (sr_d P q t f)))) 78 (sp_fil (fun j => nI (sr_lo P p d0 os j)) (μ 78) k)) (nI (sr_d P q t f)) f (by omega)).to (by rw [show (va_up (va_up (va_up (va_up (va_up (va_up μ 54 (mo_c54 μ m)) 74 (upd (sp_fil (fun j => nI (os.getD j 0)) (μ 74) k) k (nI f))) 75 (upd (sp_fil (fun j => nI (sr_ar P p d0 os j)) (μ 75) k) k (nI (t + P.1 q f - 1)))) 76 (upd (sp_fil (fun j => nI (sr_be P p d0 os j)) (μ 76) k) k (nI (max (t + P.1 q f - 1) (P.2.1 f))))) 77 (upd (sp_fil (fun j => nI (sr_wh P p d0 os (j + 1))) (μ 77) k) k (nI (sr_d P q t f)))) 78 (sp_fil (fun j => nI (sr_lo P p d0 os j)) (μ 78) k)) 66 f = nI (P.2.2.1 f) from b3]; rfl) rfl) wd_991 wd_994 wd_54 hy_X9_lossOf wd_993 wd_35 (by decide) ly_54 rfl rfl (by omega) (Nat.le_of_ble_eq_true rfl) (Nat.le_of_ble_eq_true rfl) (Nat.le_refl 0) (Nat.le_refl 0) ?_
          refine vx_eq (μ2 := (va_up (va_up (va_up (va_up (va_up (va_up μ 54 (mo_c54 μ m)) 74 (upd (sp_fil (fun j => nI (os.getD j 0)) (μ 74) k) k (nI f))) 75 (upd (sp_fil (fun j => nI (sr_ar P p d0 os j)) (μ 75) k) k (nI (t + P.1 q f - 1)))) 76 (upd (sp_fil (fun j => nI (sr_be P p d0 os j)) (μ 76) k) k (nI (max (t + P.1 q f - 1) (P.2.1 f))))) 77 (upd (sp_fil (fun j => nI (sr_wh P p d0 os (j + 1))) (μ 77) k) k (nI (sr_d P q t f)))) 78 (sp_fil (fun j => nI (sr_lo P p d0 os j)) (μ 78) k))) (ls2 := [(4, .inl (nI f)), (3, .inl (nI k)), (2, .inl (nI t)), (1, .inl (nI q)), (0, vx_r 54)]) (st2 := [.inl (μ 56 3 * sp_max 0 (nI (sr_d P q t f) - nI (P.2.2.1 f) - 1)), .inl (nI k), vx_r 78]) rfl rfl rfl ?_
          refine vx_eq (st2 := [.inl (nI (P.2.2.2.2 * (sr_d P q t f - P.2.2.1 f - 1))), .inl (nI k), vx_r 78]) rfl rfl (by rw [b8, (sr_pos (by omega) (by omega)).2, pk_mul]) ?_
          refine vx_iast (a := 78) (n := 7) (μ2 := (va_up (va_up (va_up (va_up (va_up (va_up μ 54 (mo_c54 μ m)) 74 (upd (sp_fil (fun j => nI (os.getD j 0)) (μ 74) k) k (nI f))) 75 (upd (sp_fil (fun j => nI (sr_ar P p d0 os j)) (μ 75) k) k (nI (t + P.1 q f - 1)))) 76 (upd (sp_fil (fun j => nI (sr_be P p d0 os j)) (μ 76) k) k (nI (max (t + P.1 q f - 1) (P.2.1 f))))) 77 (upd (sp_fil (fun j => nI (sr_wh P p d0 os (j + 1))) (μ 77) k) k (nI (sr_d P q t f)))) 78 (upd (sp_fil (fun j => nI (sr_lo P p d0 os j)) (μ 78) k) k (nI (P.2.2.2.2 * (sr_d P q t f - P.2.2.1 f - 1)))))) dX9_comes_176 (by decide) ly_78 (vp_in_nI (by omega) (by omega)) (by rw [nI_clamp (by omega)]; try exact vx_m1) ?_
          refine vx_aload_n dX9_comes_177 rfl ?_
          refine vx_getR (ci := 9) (T := TX9) (n := 56) (j := 42) (a := 54) (r := 77) dX9_comes_178 rfl lay_X9 (by decide) wd_778 (by decide) ly_54 rfl ?_
          refine vx_iload_n dX9_comes_181 rfl ?_
          refine vx_iald (a := 77) (n := 7) (v := (nI (sr_d P q t f))) dX9_comes_182 (by decide) ly_77 (vp_in_nI (by omega) (by omega)) (by rw [nI_clamp (by omega)]; exact (pk_us : upd (sp_fil (fun j => nI (sr_wh P p d0 os (j + 1))) (μ 77) k) k (nI (sr_d P q t f)) k = _)) ?_
          refine vx_istore_n (ls2 := [(2, .inl (nI (sr_d P q t f))), (4, .inl (nI f)), (3, .inl (nI k)), (1, .inl (nI q)), (0, vx_r 54)]) dX9_comes_183 (by decide) rfl ?_
          refine vx_iload dX9_comes_184 rfl ?_
          refine vx_istore_n (ls2 := [(1, .inl (nI f)), (2, .inl (nI (sr_d P q t f))), (4, .inl (nI f)), (3, .inl (nI k)), (0, vx_r 54)]) dX9_comes_186 (by decide) rfl ?_
          refine vx_iinc (v := (nI (k + 1))) (ls2 := [(3, .inl (nI (k + 1))), (1, .inl (nI f)), (2, .inl (nI (sr_d P q t f))), (4, .inl (nI f)), (0, vx_r 54)]) dX9_comes_187 rfl (nI_1 _) (by decide) rfl ?_
          refine vx_goto (tgt := 43) dX9_comes_190 (by decide) ?_
          refine vx_keep (ls2 := [(3, .inl (nI (k + 1))), (2, .inl (nI (sr_d P q t f))), (1, .inl (nI f)), (0, vx_r 54)]) ⟨rfl, rfl, rfl, rfl, trivial⟩ ?_
          refine vx_eq (μ2 := (va_up (va_up (va_up (va_up (va_up (va_up μ 54 (mo_c54 μ m)) 74 (sp_fil (fun j => nI (os.getD j 0)) (μ 74) (k + 1))) 75 (sp_fil (fun j => nI (sr_ar P p d0 os j)) (μ 75) (k + 1))) 76 (sp_fil (fun j => nI (sr_be P p d0 os j)) (μ 76) (k + 1))) 77 (sp_fil (fun j => nI (sr_wh P p d0 os (j + 1))) (μ 77) (k + 1))) 78 (sp_fil (fun j => nI (sr_lo P p d0 os j)) (μ 78) (k + 1)))) (by rw [sp_fils (fun j => nI (os.getD j 0)) _ _ (show nI f = _ by rw [hf]), sp_fils (fun j => nI (sr_ar P p d0 os j)) _ _ (congrArg nI ear), sp_fils (fun j => nI (sr_be P p d0 os j)) _ _ (congrArg nI ebe), sp_fils (fun j => nI (sr_wh P p d0 os (j + 1))) _ _ (congrArg nI ewh), sp_fils (fun j => nI (sr_lo P p d0 os j)) _ _ (congrArg nI elo)]) rfl rfl ?_
          exact ih (k + 1) f _ (by omega) hf ewh hd2
    have sp_mk0 : va_up μ 54 (mo_c54 μ m) = va_up (va_up (va_up (va_up (va_up (va_up μ 54 (mo_c54 μ m)) 74 (μ 74)) 75 (μ 75)) 76 (μ 76)) 77 (μ 77)) 78 (μ 78) := by
      funext a; unfold va_up; (repeat' split) <;> first | rfl | (exfalso; omega) | simp_all
    refine vx_aload_n dX9_comes_0 rfl ?_
    refine vx_iconst (v := 1) dX9_comes_1 (by decide) ?_
    refine vx_putI (ci := 9) (T := TX9) (n := 56) (j := 46) (a := 54) (ty := .boolean) (μ2 := (va_up μ 54 (upd (μ 54) 46 1))) dX9_comes_2 rfl lay_X9 tyX9_ok nmX9 (by decide) wd_782 rfl rfl rfl rfl (by decide) ly_54 rfl rfl ?_
    refine vx_aload_n dX9_comes_5 rfl ?_
    refine vx_iconst (v := 0) dX9_comes_6 (by decide) ?_
    refine vx_putI (ci := 9) (T := TX9) (n := 56) (j := 47) (a := 54) (ty := .boolean) (μ2 := (va_up μ 54 (upd (upd (μ 54) 46 1) 47 0))) dX9_comes_7 rfl lay_X9 tyX9_ok nmX9 (by decide) wd_783 rfl rfl rfl rfl (by decide) ly_54 rfl vx_m1 ?_
    refine vx_aload_n dX9_comes_10 rfl ?_
    refine vx_aload_n dX9_comes_11 rfl ?_
    refine vx_getI (ci := 9) (T := TX9) (n := 56) (j := 34) (a := 54) (v := (nI d0)) dX9_comes_12 rfl lay_X9 (by decide) wd_770 (by decide) ly_54 rfl hd0 ?_
    refine vx_putI (ci := 9) (T := TX9) (n := 56) (j := 45) (a := 54) (ty := .int) (μ2 := (va_up μ 54 (upd (upd (upd (μ 54) 46 1) 47 0) 45 (nI d0)))) dX9_comes_15 rfl lay_X9 tyX9_ok nmX9 (by decide) wd_781 rfl rfl rfl rfl (by decide) ly_54 rfl vx_m1 ?_
    refine vx_aload_n dX9_comes_18 rfl ?_
    refine vx_aload_n dX9_comes_19 rfl ?_
    refine vx_getI (ci := 9) (T := TX9) (n := 56) (j := 51) (a := 54) (v := (nI m)) dX9_comes_20 rfl lay_X9 (by decide) wd_787 (by decide) ly_54 rfl hmany ?_
    refine vx_putI (ci := 9) (T := TX9) (n := 56) (j := 44) (a := 54) (ty := .int) (μ2 := (va_up μ 54 (upd (upd (upd (upd (μ 54) 46 1) 47 0) 45 (nI d0)) 44 (nI m)))) dX9_comes_23 rfl lay_X9 tyX9_ok nmX9 (by decide) wd_780 rfl rfl rfl rfl (by decide) ly_54 rfl vx_m1 ?_
    refine vx_aload_n dX9_comes_26 rfl ?_
    refine vx_iconst (v := 0) dX9_comes_27 (by decide) ?_
    refine vx_putI (ci := 9) (T := TX9) (n := 56) (j := 48) (a := 54) (ty := .int) (μ2 := (va_up μ 54 (upd (upd (upd (upd (upd (μ 54) 46 1) 47 0) 45 (nI d0)) 44 (nI m)) 48 0))) dX9_comes_28 rfl lay_X9 tyX9_ok nmX9 (by decide) wd_784 rfl rfl rfl rfl (by decide) ly_54 rfl vx_m1 ?_
    refine vx_eq (μ2 := (va_up μ 54 (mo_c54 μ m))) (by unfold mo_c54; rw [hd0]) rfl rfl ?_
    refine vx_aload_n dX9_comes_31 rfl ?_
    refine vx_getI (ci := 9) (T := TX9) (n := 56) (j := 35) (a := 54) (v := (nI p)) dX9_comes_32 rfl lay_X9 (by decide) wd_771 (by decide) ly_54 rfl hp ?_
    refine vx_istore_n (ls2 := [(1, .inl (nI p)), (0, vx_r 54)]) dX9_comes_35 (by decide) rfl ?_
    refine vx_aload_n dX9_comes_36 rfl ?_
    refine vx_getI (ci := 9) (T := TX9) (n := 56) (j := 34) (a := 54) (v := (nI d0)) dX9_comes_37 rfl lay_X9 (by decide) wd_770 (by decide) ly_54 rfl hd0 ?_
    refine vx_istore_n (ls2 := [(2, .inl (nI d0)), (1, .inl (nI p)), (0, vx_r 54)]) dX9_comes_40 (by decide) rfl ?_
    refine vx_iconst (v := 0) dX9_comes_41 (by decide) ?_
    refine vx_istore_n (ls2 := [(3, .inl 0), (2, .inl (nI d0)), (1, .inl (nI p)), (0, vx_r 54)]) dX9_comes_42 (by decide) rfl ?_
    refine vx_keep (ls2 := [(3, .inl (nI 0)), (2, .inl (nI d0)), (1, .inl (nI p)), (0, vx_r 54)]) ⟨rfl, rfl, rfl, rfl, trivial⟩ ?_
    refine vx_eq (μ2 := (va_up (va_up (va_up (va_up (va_up (va_up μ 54 (mo_c54 μ m)) 74 (sp_fil (fun j => nI (os.getD j 0)) (μ 74) 0)) 75 (sp_fil (fun j => nI (sr_ar P p d0 os j)) (μ 75) 0)) 76 (sp_fil (fun j => nI (sr_be P p d0 os j)) (μ 76) 0)) 77 (sp_fil (fun j => nI (sr_wh P p d0 os (j + 1))) (μ 77) 0)) 78 (sp_fil (fun j => nI (sr_lo P p d0 os j)) (μ 78) 0))) (by rw [sp_fil0, sp_fil0, sp_fil0, sp_fil0, sp_fil0]; exact sp_mk0) rfl rfl ?_
    exact loop m 0 p d0 (by omega) rfl rfl (by omega)
  exact vx_J.M pn_X9_comes (Nat.le_of_ble_eq_true rfl) (key _ _ ⟨rfl, rfl, rfl, rfl, rfl⟩)
end
