section
/-- the farms that come first, and the rest -/
def sr_ad (ω : Nat → Bool) (x : Nat) (F : List Nat) : List Nat := if ω x = true ∧ ¬ x ∈ F then F ++ [x] else F
def sr_F (ω : Nat → Bool) (p fi : Nat) : List Nat := sr_ad ω fi (sr_ad ω p [])
def sr_w1 (ω : Nat → Bool) (F : List Nat) : Nat → Bool := F.foldl sr_mn ω
def sr_S (ω : Nat → Bool) (F : List Nat) : List Nat := sr_17.filter (sr_w1 ω F)
theorem sr_w1_at (ω : Nat → Bool) (k : Nat) : ∀ F : List Nat, sr_w1 ω F k = (ω k && decide (¬ k ∈ F)) := by
  intro F
  induction F generalizing ω with
  | nil => simp [sr_w1]
  | cons x F ih =>
    show sr_w1 (sr_mn ω x) F k = _
    rw [ih]
    unfold sr_mn
    by_cases e : k = x
    · simp [e]
    · have e2 : (k == x) = false := by simp [e]
      simp [e, e2]
theorem sr_cnt {ω : Nat → Bool} {x : Nat} : ∀ l : List Nat, l.Nodup → x ∈ l → ω x = true → (l.filter (sr_mn ω x)).length + 1 = (l.filter ω).length
  | [], _, h, _ => by cases h
  | a :: t, hn, h, hw => by
    have ha : a ∉ t := (List.nodup_cons.mp hn).1
    by_cases e : a = x
    · subst e
      have e1 : t.filter (sr_mn ω a) = t.filter ω := by
        apply List.filter_congr
        intro y hy
        unfold sr_mn
        have : ¬ y = a := fun z => ha (z ▸ hy)
        simp [this]
      rw [List.filter_cons_of_neg (by simp [sr_mn]), List.filter_cons_of_pos hw, e1, List.length_cons]
    · have ih := sr_cnt t (List.nodup_cons.mp hn).2 ((List.mem_cons.mp h).resolve_left (fun z => e z.symm)) hw
      by_cases hwa : ω a = true
      · rw [List.filter_cons_of_pos (by simp [sr_mn, hwa, e]), List.filter_cons_of_pos hwa, List.length_cons, List.length_cons]
        omega
      · rw [List.filter_cons_of_neg (by simp [sr_mn, hwa]), List.filter_cons_of_neg hwa]
        exact ih
/-- good forerunners -/
def sr_Fok (ω : Nat → Bool) (F : List Nat) : Prop := F.Nodup ∧ ∀ x, x ∈ F → x ∈ sr_17 ∧ ω x = true
theorem sr_Fok_ad {ω : Nat → Bool} {x : Nat} {F : List Nat} (h : sr_Fok ω F) (hx : ω x = true → x ∈ sr_17) : sr_Fok ω (sr_ad ω x F) := by
  unfold sr_ad
  split
  · rename_i c
    refine ⟨?_, fun y hy => ?_⟩
    · rw [List.nodup_append]
      refine ⟨h.1, List.nodup_cons.mpr ⟨List.not_mem_nil, List.nodup_nil⟩, fun a ha b hb => ?_⟩
      rw [List.mem_singleton.mp hb]
      exact fun z => c.2 (z ▸ ha)
    · rcases List.mem_append.mp hy with q | q
      · exact h.2 y q
      · rw [List.mem_singleton.mp q]
        exact ⟨hx c.1, c.1⟩
  · exact h
theorem sr_S_len {ω : Nat → Bool} : ∀ F : List Nat, sr_Fok ω F → (sr_S ω F).length + F.length = (sr_17.filter ω).length := by
  intro F
  induction F generalizing ω with
  | nil => intro _; rfl
  | cons x F ih =>
    intro h
    have hx := h.2 x (List.mem_cons_self ..)
    have hn := List.nodup_cons.mp h.1
    have h2 : sr_Fok (sr_mn ω x) F := ⟨hn.2, fun y hy => by
      have := h.2 y (List.mem_cons_of_mem _ hy)
      refine ⟨this.1, ?_⟩
      unfold sr_mn
      have e : ¬ y = x := fun z => hn.1 (z ▸ hy)
      simp [this.2, e]⟩
    have e2 := ih h2
    have e3 := sr_cnt sr_17 (by decide) hx.1 hx.2
    show (sr_S (sr_mn ω x) F).length + (F.length + 1) = _
    omega
theorem sr_take {g : Nat} (h1 : 1 ≤ g) (h7 : g ≤ 7) : sr_17.take g = sr_17.take (g - 1) ++ [g] := by
  have : ∀ g, 1 ≤ g → g ≤ 7 → sr_17.take g = sr_17.take (g - 1) ++ [g] := by
    intro g h1 h7
    rcases g with _ | _ | _ | _ | _ | _ | _ | _ | g <;> first | omega | rfl
  exact this g h1 h7
theorem sr_take_le {q : Nat → Bool} {g : Nat} : ((sr_17.take g).filter q).length ≤ (sr_17.filter q).length := by
  have h : (sr_17.take g ++ sr_17.drop g).filter q = sr_17.filter q := by rw [List.take_append_drop]
  rw [List.filter_append] at h
  rw [← h, List.length_append]
  omega
/-- a list laid into cells -/
def mo_lst (L : List Nat) (T : Nat → Int32) : Nat → Int32 := fun j => if j < L.length then nI (L.getD j 0) else T j
theorem mo_lst_0 {T : Nat → Int32} : mo_lst [] T = T := by
  funext j
  unfold mo_lst
  simp
theorem mo_lst_s {L : List Nat} {T : Nat → Int32} {n g : Nat} (h : L.length = n) : upd (mo_lst L T) n (nI g) = mo_lst (L ++ [g]) T := by
  funext j
  subst h
  unfold mo_lst
  by_cases e : j = L.length
  · rw [e, pk_us, if_pos (by simp), sr_getD_last]
  · rw [pk_un e]
    by_cases e2 : j < L.length
    · rw [if_pos e2, if_pos (by simp; omega), sr_getD_app e2]
    · rw [if_neg e2, if_neg (by simp; omega)]
theorem mo_lst_at {L : List Nat} {T : Nat → Int32} {j : Nat} (h : j < L.length) : mo_lst L T j = nI (L.getD j 0) := if_pos h
def mo_mf (F : Nat → Int32) (a b : Nat) : Nat → Int32 := upd (upd F 51 (nI a)) 52 (nI b)
theorem mo_mf51 {F : Nat → Int32} {a b c : Nat} : upd (mo_mf F a b) 51 (nI c) = mo_mf F c b := by
  funext j
  unfold mo_mf
  by_cases e : j = 51
  · simp [e, upd]
  · by_cases e2 : j = 52
    · simp [e2, upd]
    · simp [e, e2, upd]
theorem mo_mf52 {F : Nat → Int32} {a b c : Nat} : upd (mo_mf F a b) 52 (nI c) = mo_mf F a c := sp_uu
def mo_w (μ : vx_mem) (n : Nat) (k : Nat) : Bool := decide (1 ≤ k ∧ k ≤ n ∧ ¬ μ 61 k = 0)
theorem mo_w_17 {μ : vx_mem} {n k : Nat} (hn : n ≤ 7) (h : mo_w μ n k = true) : k ∈ sr_17 := by
  unfold mo_w at h
  have h2 := of_decide_eq_true h
  have : ∀ k, 1 ≤ k → k ≤ 7 → k ∈ sr_17 := by
    intro k a b
    simp only [List.mem_cons, List.not_mem_nil, or_false]
    omega
  exact this k h2.1 (by omega)

set_option maxRecDepth 20000 in
set_option maxHeartbeats 2000000 in
theorem mo_f_loop {d : Nat} (hd : 1 ≤ d) {ad : Nat → Nat} {μ : vx_mem} {n : Nat} (hn : μ 54 18 = nI n) (hn7 : n ≤ 7) {A : Int32} {F : List Nat} (hF : sr_Fok (mo_w μ n) F) (hA : ∀ k, k < 8 → bt A k = decide (k ∈ F)) {Post : vx_P} {ini : Bool} (hP : Post none ad 82 vx_lay (va_up (va_up μ 54 (mo_mf (μ 54) (F ++ sr_S (mo_w μ n) F).length F.length)) 79 (mo_lst (F ++ sr_S (mo_w μ n) F) (μ 79)))) : ∀ (r g : Nat) (L : List Nat), g + r = n + 1 → 1 ≤ g → L = (F ++ (sr_17.take (g - 1)).filter (sr_w1 (mo_w μ n) F)) → vx_J RX9 cX9_firstOrder 4 none ini d 0 0 Post ad 0 0 82 vx_lay (va_up (va_up μ 54 (mo_mf (μ 54) L.length F.length)) 79 (mo_lst L (μ 79))) 134 [(3, .inl (nI g)), (1, .inl A), (0, vx_r 54)] [] := by
  have hlen := sr_S_len F hF
  have h17 : (sr_17.filter (mo_w μ n)).length ≤ 7 := List.length_filter_le _ _
  intro r
  induction r with
  | zero =>
    intro g L hg h1 hL
    have e : L = F ++ sr_S (mo_w μ n) F := by
      rw [hL]
      unfold sr_S
      congr 1
      have h : (sr_17.take (g - 1) ++ sr_17.drop (g - 1)).filter (sr_w1 (mo_w μ n) F) = sr_17.filter (sr_w1 (mo_w μ n) F) := by rw [List.take_append_drop]
      rw [List.filter_append] at h
      have h2 : (sr_17.drop (g - 1)).filter (sr_w1 (mo_w μ n) F) = [] := by
        rw [List.filter_eq_nil_iff]
        intro x hx
        have hx2 : g ≤ x := by
          have : ∀ q x, x ∈ sr_17.drop q → q < x := by
            intro q
            rcases q with _ | _ | _ | _ | _ | _ | _ | q
            · decide
            · decide
            · decide
            · decide
            · decide
            · decide
            · decide
            · intro x hx
              rw [List.drop_eq_nil_of_le (by simp)] at hx
              cases hx
          have := this (g - 1) x hx
          omega
        rw [sr_w1_at]
        unfold mo_w
        rw [decide_eq_false (p := 1 ≤ x ∧ x ≤ n ∧ ¬ μ 61 x = 0) (fun z => by omega)]
        simp
      rw [h2, List.append_nil] at h
      exact h
    subst e
    refine vx_iload_n dX9_firstOrder_134 rfl ?_
    refine vx_aload_n dX9_firstOrder_135 rfl ?_
    refine vx_getI (ci := 9) (T := TX9) (n := 56) (j := 18) (a := 54) (v := (nI n)) dX9_firstOrder_136 rfl lay_X9 (by decide) wd_754 (by decide) ly_54 rfl hn ?_
    refine vx_icmp_gt (tgt := 188) dX9_firstOrder_139 (by decide) (fun _ => ?_) (fun h => absurd (by show (nI (n) < nI (g)); rw [nI_ltI (by omega) (by omega)]; omega) h)
    exact vx_vret dX9_firstOrder_188 rfl (Nat.le_refl 0) (Nat.le_refl 0) (vx_pst hP rfl rfl)
  | succ r ih =>
    intro g L hg h1 hL
    have hgt := sr_take h1 (by omega : g ≤ 7)
    have hl7 : L.length ≤ 7 := by
      rw [hL, List.length_append]
      have := sr_take_le (q := sr_w1 (mo_w μ n) F) (g := g - 1)
      unfold sr_S at hlen
      omega
    by_cases hdn : μ 61 g = 0
    · refine vx_iload_n dX9_firstOrder_134 rfl ?_
      refine vx_aload_n dX9_firstOrder_135 rfl ?_
      refine vx_getI (ci := 9) (T := TX9) (n := 56) (j := 18) (a := 54) (v := (nI n)) dX9_firstOrder_136 rfl lay_X9 (by decide) wd_754 (by decide) ly_54 rfl hn ?_
      refine vx_icmp_gt (tgt := 188) dX9_firstOrder_139 (by decide) (fun h => absurd h (by show ¬ (nI (n) < nI (g)); rw [nI_ltI (by omega) (by omega)]; omega)) (fun _ => ?_)
      refine vx_aload_n dX9_firstOrder_142 rfl ?_
      refine vx_iload_n dX9_firstOrder_143 rfl ?_
      refine vx_callV (b := 54) (vs := [.inl (nI g)]) (st := []) (r0 := (some (.inl (if (μ 61 g) = 0 then 1 else 0)))) (μ0 := (va_up (va_up μ 54 (mo_mf (μ 54) L.length F.length)) 79 (mo_lst L (μ 79)))) dX9_firstOrder_144 (c_X9_isDone (d - 1) ad (va_up (va_up μ 54 (mo_mf (μ 54) L.length F.length)) 79 (mo_lst L (μ 79))) g (by omega)) wd_973 wd_976 wd_54 hy_X9_isDone wd_975 wd_31 (by decide) ly_54 rfl rfl (by omega) (Nat.le_of_ble_eq_true rfl) (Nat.le_of_ble_eq_true rfl) (Nat.le_refl 0) (Nat.le_refl 0) ?_
      refine vx_eq (μ2 := (va_up (va_up μ 54 (mo_mf (μ 54) L.length F.length)) 79 (mo_lst L (μ 79)))) (ls2 := [(3, .inl (nI g)), (1, .inl A), (0, vx_r 54)]) (st2 := [.inl (if (μ 61 g) = 0 then 1 else 0)]) rfl rfl rfl ?_
      refine vx_if_ne (tgt := 182) dX9_firstOrder_147 (by decide) (fun _ => ?_) (fun h => absurd h (by rw [if_pos hdn]; decide))
      refine vx_iinc (v := (nI (g + 1))) (ls2 := [(3, .inl (nI (g + 1))), (1, .inl A), (0, vx_r 54)]) dX9_firstOrder_182 rfl (nI_1 _) (by decide) rfl ?_
      refine vx_goto (tgt := 134) dX9_firstOrder_185 (by decide) ?_
      refine vx_keep (ls2 := [(3, .inl (nI (g + 1))), (1, .inl A), (0, vx_r 54)]) ⟨rfl, rfl, rfl, trivial⟩ ?_
      exact ih (g + 1) L (by omega) (by omega) (by rw [hL, show g + 1 - 1 = g by omega, hgt, List.filter_append, List.filter_cons_of_neg (by rw [sr_w1_at]; simp [mo_w, hdn]), List.filter_nil, List.append_nil])
    · by_cases hmem : g ∈ F
      · refine vx_iload_n dX9_firstOrder_134 rfl ?_
        refine vx_aload_n dX9_firstOrder_135 rfl ?_
        refine vx_getI (ci := 9) (T := TX9) (n := 56) (j := 18) (a := 54) (v := (nI n)) dX9_firstOrder_136 rfl lay_X9 (by decide) wd_754 (by decide) ly_54 rfl hn ?_
        refine vx_icmp_gt (tgt := 188) dX9_firstOrder_139 (by decide) (fun h => absurd h (by show ¬ (nI (n) < nI (g)); rw [nI_ltI (by omega) (by omega)]; omega)) (fun _ => ?_)
        refine vx_aload_n dX9_firstOrder_142 rfl ?_
        refine vx_iload_n dX9_firstOrder_143 rfl ?_
        refine vx_callV (b := 54) (vs := [.inl (nI g)]) (st := []) (r0 := (some (.inl (if (μ 61 g) = 0 then 1 else 0)))) (μ0 := (va_up (va_up μ 54 (mo_mf (μ 54) L.length F.length)) 79 (mo_lst L (μ 79)))) dX9_firstOrder_144 (c_X9_isDone (d - 1) ad (va_up (va_up μ 54 (mo_mf (μ 54) L.length F.length)) 79 (mo_lst L (μ 79))) g (by omega)) wd_973 wd_976 wd_54 hy_X9_isDone wd_975 wd_31 (by decide) ly_54 rfl rfl (by omega) (Nat.le_of_ble_eq_true rfl) (Nat.le_of_ble_eq_true rfl) (Nat.le_refl 0) (Nat.le_refl 0) ?_
        refine vx_eq (μ2 := (va_up (va_up μ 54 (mo_mf (μ 54) L.length F.length)) 79 (mo_lst L (μ 79)))) (ls2 := [(3, .inl (nI g)), (1, .inl A), (0, vx_r 54)]) (st2 := [.inl (if (μ 61 g) = 0 then 1 else 0)]) rfl rfl rfl ?_
        refine vx_if_ne (tgt := 182) dX9_firstOrder_147 (by decide) (fun h => absurd (by rw [if_neg hdn]) h) (fun _ => ?_)
        refine vx_iload_n dX9_firstOrder_150 rfl ?_
        refine vx_iload_n dX9_firstOrder_151 rfl ?_
        refine vx_ishr dX9_firstOrder_152 ?_
        refine vx_iconst (v := 1) dX9_firstOrder_153 (by decide) ?_
        refine vx_iand dX9_firstOrder_154 ?_
        refine vx_iconst (v := 1) dX9_firstOrder_155 (by decide) ?_
        refine vx_icmp_ne (tgt := 162) dX9_firstOrder_156 (by decide) (fun h => absurd (by rw [mb_bit _ (by omega), hA g (by omega), decide_eq_true hmem]; rfl) h) (fun _ => ?_)
        refine vx_goto (tgt := 182) dX9_firstOrder_159 (by decide) ?_
        refine vx_iinc (v := (nI (g + 1))) (ls2 := [(3, .inl (nI (g + 1))), (1, .inl A), (0, vx_r 54)]) dX9_firstOrder_182 rfl (nI_1 _) (by decide) rfl ?_
        refine vx_goto (tgt := 134) dX9_firstOrder_185 (by decide) ?_
        refine vx_keep (ls2 := [(3, .inl (nI (g + 1))), (1, .inl A), (0, vx_r 54)]) ⟨rfl, rfl, rfl, trivial⟩ ?_
        exact ih (g + 1) L (by omega) (by omega) (by rw [hL, show g + 1 - 1 = g by omega, hgt, List.filter_append, List.filter_cons_of_neg (by rw [sr_w1_at]; simp [hmem]), List.filter_nil, List.append_nil])
      · have hw1 : sr_w1 (mo_w μ n) F g = true := by
          rw [sr_w1_at]
          unfold mo_w
          rw [decide_eq_true (p := 1 ≤ g ∧ g ≤ n ∧ ¬ μ 61 g = 0) ⟨by omega, by omega, hdn⟩]
          simp [hmem]
        have hL2 : L ++ [g] = (F ++ (sr_17.take (g + 1 - 1)).filter (sr_w1 (mo_w μ n) F)) := by
          rw [hL, show g + 1 - 1 = g by omega, hgt, List.filter_append, List.filter_cons_of_pos hw1, List.filter_nil, List.append_assoc]
        have hl8 : L.length < 7 := by
          have e := congrArg List.length hL2
          rw [List.length_append, List.length_append, List.length_singleton] at e
          have := sr_take_le (q := sr_w1 (mo_w μ n) F) (g := g + 1 - 1)
          unfold sr_S at hlen
          omega
        refine vx_iload_n dX9_firstOrder_134 rfl ?_
        refine vx_aload_n dX9_firstOrder_135 rfl ?_
        refine vx_getI (ci := 9) (T := TX9) (n := 56) (j := 18) (a := 54) (v := (nI n)) dX9_firstOrder_136 rfl lay_X9 (by decide) wd_754 (by decide) ly_54 rfl hn ?_
        refine vx_icmp_gt (tgt := 188) dX9_firstOrder_139 (by decide) (fun h => absurd h (by show ¬ (nI (n) < nI (g)); rw [nI_ltI (by omega) (by omega)]; omega)) (fun _ => ?_)
        refine vx_aload_n dX9_firstOrder_142 rfl ?_
        refine vx_iload_n dX9_firstOrder_143 rfl ?_
        refine vx_callV (b := 54) (vs := [.inl (nI g)]) (st := []) (r0 := (some (.inl (if (μ 61 g) = 0 then 1 else 0)))) (μ0 := (va_up (va_up μ 54 (mo_mf (μ 54) L.length F.length)) 79 (mo_lst L (μ 79)))) dX9_firstOrder_144 (c_X9_isDone (d - 1) ad (va_up (va_up μ 54 (mo_mf (μ 54) L.length F.length)) 79 (mo_lst L (μ 79))) g (by omega)) wd_973 wd_976 wd_54 hy_X9_isDone wd_975 wd_31 (by decide) ly_54 rfl rfl (by omega) (Nat.le_of_ble_eq_true rfl) (Nat.le_of_ble_eq_true rfl) (Nat.le_refl 0) (Nat.le_refl 0) ?_
        refine vx_eq (μ2 := (va_up (va_up μ 54 (mo_mf (μ 54) L.length F.length)) 79 (mo_lst L (μ 79)))) (ls2 := [(3, .inl (nI g)), (1, .inl A), (0, vx_r 54)]) (st2 := [.inl (if (μ 61 g) = 0 then 1 else 0)]) rfl rfl rfl ?_
        refine vx_if_ne (tgt := 182) dX9_firstOrder_147 (by decide) (fun h => absurd (by rw [if_neg hdn]) h) (fun _ => ?_)
        refine vx_iload_n dX9_firstOrder_150 rfl ?_
        refine vx_iload_n dX9_firstOrder_151 rfl ?_
        refine vx_ishr dX9_firstOrder_152 ?_
        refine vx_iconst (v := 1) dX9_firstOrder_153 (by decide) ?_
        refine vx_iand dX9_firstOrder_154 ?_
        refine vx_iconst (v := 1) dX9_firstOrder_155 (by decide) ?_
        refine vx_icmp_ne (tgt := 162) dX9_firstOrder_156 (by decide) (fun _ => ?_) (fun h => absurd h (by rw [mb_bit _ (by omega), hA g (by omega), decide_eq_false hmem]; decide))
        refine vx_aload_n dX9_firstOrder_162 rfl ?_
        refine vx_getR (ci := 9) (T := TX9) (n := 56) (j := 49) (a := 54) (r := 79) dX9_firstOrder_163 rfl lay_X9 (by decide) wd_785 (by decide) ly_54 rfl ?_
        refine vx_aload_n dX9_firstOrder_166 rfl ?_
        refine vx_getI (ci := 9) (T := TX9) (n := 56) (j := 51) (a := 54) (v := (nI L.length)) dX9_firstOrder_167 rfl lay_X9 (by decide) wd_787 (by decide) ly_54 rfl rfl ?_
        refine vx_iload_n dX9_firstOrder_170 rfl ?_
        refine vx_iast (a := 79) (n := 7) (μ2 := (va_up (va_up μ 54 (mo_mf (μ 54) L.length F.length)) 79 (upd (mo_lst L (μ 79)) L.length (nI g)))) dX9_firstOrder_171 (by decide) ly_79 (vp_in_nI (by omega) (by omega)) (by rw [nI_clamp (by omega)]; try exact vx_m1) ?_
        refine vx_aload_n dX9_firstOrder_172 rfl ?_
        refine vx_dup dX9_firstOrder_173 ?_
        refine vx_getI (ci := 9) (T := TX9) (n := 56) (j := 51) (a := 54) (v := (nI L.length)) dX9_firstOrder_174 rfl lay_X9 (by decide) wd_787 (by decide) ly_54 rfl rfl ?_
        refine vx_iconst (v := 1) dX9_firstOrder_177 (by decide) ?_
        refine vx_iadd dX9_firstOrder_178 ?_
        refine vx_eq (st2 := [.inl (nI (L.length + 1)), vx_r 54]) rfl rfl (by rw [nI_1]) ?_
        refine vx_putI (ci := 9) (T := TX9) (n := 56) (j := 51) (a := 54) (ty := .int) (μ2 := (va_up (va_up μ 54 (upd (mo_mf (μ 54) L.length F.length) 51 (nI (L.length + 1)))) 79 (upd (mo_lst L (μ 79)) L.length (nI g)))) dX9_firstOrder_179 rfl lay_X9 tyX9_ok nmX9 (by decide) wd_787 rfl rfl rfl rfl (by decide) ly_54 rfl ((vx_m2 (by decide)).trans (congrArg (fun m => va_up m 79 (upd (mo_lst L (μ 79)) L.length (nI g))) vx_m1)) ?_
        refine vx_iinc (v := (nI (g + 1))) (ls2 := [(3, .inl (nI (g + 1))), (1, .inl A), (0, vx_r 54)]) dX9_firstOrder_182 rfl (nI_1 _) (by decide) rfl ?_
        refine vx_goto (tgt := 134) dX9_firstOrder_185 (by decide) ?_
        refine vx_keep (ls2 := [(3, .inl (nI (g + 1))), (1, .inl A), (0, vx_r 54)]) ⟨rfl, rfl, rfl, trivial⟩ ?_
        refine vx_eq (μ2 := (va_up (va_up μ 54 (mo_mf (μ 54) (L ++ [g]).length F.length)) 79 (mo_lst (L ++ [g]) (μ 79)))) (by rw [mo_mf51, mo_lst_s rfl, List.length_append, List.length_singleton]) rfl rfl ?_
        exact ih (g + 1) (L ++ [g]) (by omega) (by omega) hL2
set_option maxRecDepth 20000 in
set_option maxHeartbeats 2000000 in
theorem mo_f_3 {d : Nat} (hd : 1 ≤ d) {ad : Nat → Nat} {μ : vx_mem} {n : Nat} (hn : μ 54 18 = nI n) (hn7 : n ≤ 7) {A : Int32} {F : List Nat} (hF : sr_Fok (mo_w μ n) F) (hA : ∀ k, k < 8 → bt A k = decide (k ∈ F)) {Post : vx_P} {ini : Bool} (hP : Post none ad 82 vx_lay (va_up (va_up μ 54 (mo_mf (μ 54) (F ++ sr_S (mo_w μ n) F).length F.length)) 79 (mo_lst (F ++ sr_S (mo_w μ n) F) (μ 79)))) : vx_J RX9 cX9_firstOrder 4 none ini d 0 0 Post ad 0 0 82 vx_lay (va_up (va_up μ 54 (mo_mf (μ 54) F.length 0)) 79 (mo_lst F (μ 79))) 124 [(1, .inl A), (0, vx_r 54)] [] := by
  refine vx_aload_n dX9_firstOrder_124 rfl ?_
  refine vx_aload_n dX9_firstOrder_125 rfl ?_
  refine vx_getI (ci := 9) (T := TX9) (n := 56) (j := 51) (a := 54) (v := (nI F.length)) dX9_firstOrder_126 rfl lay_X9 (by decide) wd_787 (by decide) ly_54 rfl rfl ?_
  refine vx_putI (ci := 9) (T := TX9) (n := 56) (j := 52) (a := 54) (ty := .int) (μ2 := (va_up (va_up μ 54 (upd (mo_mf (μ 54) F.length 0) 52 (nI F.length))) 79 (mo_lst F (μ 79)))) dX9_firstOrder_129 rfl lay_X9 tyX9_ok nmX9 (by decide) wd_788 rfl rfl rfl rfl (by decide) ly_54 rfl ((vx_m2 (by decide)).trans (congrArg (fun m => va_up m 79 (mo_lst F (μ 79))) vx_m1)) ?_
  refine vx_iconst (v := 1) dX9_firstOrder_132 (by decide) ?_
  refine vx_istore_n (ls2 := [(3, .inl 1), (1, .inl A), (0, vx_r 54)]) dX9_firstOrder_133 (by decide) rfl ?_
  refine vx_keep (ls2 := [(3, .inl 1), (1, .inl A), (0, vx_r 54)]) ⟨rfl, rfl, rfl, trivial⟩ ?_
  refine vx_eq (μ2 := (va_up (va_up μ 54 (mo_mf (μ 54) F.length F.length)) 79 (mo_lst F (μ 79)))) (by rw [mo_mf52]) rfl rfl ?_
  exact mo_f_loop hd hn hn7 hF hA hP n 1 F (by omega) (by omega) (by simp)
set_option maxRecDepth 20000 in
set_option maxHeartbeats 2000000 in
theorem mo_f_2 {d : Nat} (hd : 1 ≤ d) {ad : Nat → Nat} {μ : vx_mem} {n : Nat} (hn : μ 54 18 = nI n) (hn7 : n ≤ 7) {A1 : Int32} {F1 : List Nat} (hF1 : sr_Fok (mo_w μ n) F1) (hA1 : ∀ k, k < 8 → bt A1 k = decide (k ∈ F1)) (hl1 : F1.length ≤ 1) {fi : Nat} (hfi : μ 56 4 = nI fi) (hfi8 : fi < 8) {Post : vx_P} {ini : Bool} (hP : Post none ad 82 vx_lay (va_up (va_up μ 54 (mo_mf (μ 54) ((sr_ad (mo_w μ n) fi F1) ++ sr_S (mo_w μ n) (sr_ad (mo_w μ n) fi F1)).length (sr_ad (mo_w μ n) fi F1).length)) 79 (mo_lst ((sr_ad (mo_w μ n) fi F1) ++ sr_S (mo_w μ n) (sr_ad (mo_w μ n) fi F1)) (μ 79)))) : vx_J RX9 cX9_firstOrder 4 none ini d 0 0 Post ad 0 0 82 vx_lay (va_up (va_up μ 54 (mo_mf (μ 54) F1.length 0)) 79 (mo_lst F1 (μ 79))) 62 [(1, .inl A1), (0, vx_r 54)] [] := by
  have hF := sr_Fok_ad (x := fi) hF1 (fun h => mo_w_17 hn7 h)
  by_cases hc : (mo_w μ n) fi = true ∧ ¬ fi ∈ F1
  · have eF : sr_ad (mo_w μ n) fi F1 = F1 ++ [fi] := if_pos hc
    rw [eF] at hP hF
    have hw2 := of_decide_eq_true hc.1
    refine vx_aload_n dX9_firstOrder_62 rfl ?_
    refine vx_getR (ci := 9) (T := TX9) (n := 56) (j := 3) (a := 54) (r := 56) dX9_firstOrder_63 rfl lay_X9 (by decide) wd_739 (by decide) ly_54 rfl ?_
    refine vx_iconst (v := 4) dX9_firstOrder_66 (by decide) ?_
    refine vx_iald (a := 56) (n := 12) (v := (nI fi)) dX9_firstOrder_67 (by decide) ly_56 (by unfold vp_in; decide) hfi ?_
    refine vx_istore_n (ls2 := [(2, .inl (nI fi)), (1, .inl A1), (0, vx_r 54)]) dX9_firstOrder_68 (by decide) rfl ?_
    refine vx_iload_n dX9_firstOrder_69 rfl ?_
    refine vx_iconst (v := 1) dX9_firstOrder_70 (by decide) ?_
    refine vx_icmp_lt (tgt := 124) dX9_firstOrder_71 (by decide) (fun h => absurd h (by show ¬ (nI (fi) < nI (1)); rw [nI_ltI (by omega) (by omega)]; omega)) (fun _ => ?_)
    refine vx_iload_n dX9_firstOrder_74 rfl ?_
    refine vx_aload_n dX9_firstOrder_75 rfl ?_
    refine vx_getI (ci := 9) (T := TX9) (n := 56) (j := 18) (a := 54) (v := (nI n)) dX9_firstOrder_76 rfl lay_X9 (by decide) wd_754 (by decide) ly_54 rfl hn ?_
    refine vx_icmp_gt (tgt := 124) dX9_firstOrder_79 (by decide) (fun h => absurd h (by show ¬ (nI (n) < nI (fi)); rw [nI_ltI (by omega) (by omega)]; omega)) (fun _ => ?_)
    refine vx_aload_n dX9_firstOrder_82 rfl ?_
    refine vx_iload_n dX9_firstOrder_83 rfl ?_
    refine vx_callV (b := 54) (vs := [.inl (nI fi)]) (st := []) (r0 := (some (.inl (if (μ 61 fi) = 0 then 1 else 0)))) (μ0 := (va_up (va_up μ 54 (mo_mf (μ 54) F1.length 0)) 79 (mo_lst F1 (μ 79)))) dX9_firstOrder_84 (c_X9_isDone (d - 1) ad (va_up (va_up μ 54 (mo_mf (μ 54) F1.length 0)) 79 (mo_lst F1 (μ 79))) fi (by omega)) wd_973 wd_976 wd_54 hy_X9_isDone wd_975 wd_31 (by decide) ly_54 rfl rfl (by omega) (Nat.le_of_ble_eq_true rfl) (Nat.le_of_ble_eq_true rfl) (Nat.le_refl 0) (Nat.le_refl 0) ?_
    refine vx_eq (μ2 := (va_up (va_up μ 54 (mo_mf (μ 54) F1.length 0)) 79 (mo_lst F1 (μ 79)))) (ls2 := [(2, .inl (nI fi)), (1, .inl A1), (0, vx_r 54)]) (st2 := [.inl (if (μ 61 fi) = 0 then 1 else 0)]) rfl rfl rfl ?_
    refine vx_if_ne (tgt := 124) dX9_firstOrder_87 (by decide) (fun h => absurd (by rw [if_neg hw2.2.2]) h) (fun _ => ?_)
    refine vx_iload_n dX9_firstOrder_90 rfl ?_
    refine vx_iload_n dX9_firstOrder_91 rfl ?_
    refine vx_ishr dX9_firstOrder_92 ?_
    refine vx_iconst (v := 1) dX9_firstOrder_93 (by decide) ?_
    refine vx_iand dX9_firstOrder_94 ?_
    refine vx_if_ne (tgt := 124) dX9_firstOrder_95 (by decide) (fun h => absurd (by rw [mb_bit _ (by omega), hA1 fi (by omega), decide_eq_false hc.2]; rfl) h) (fun _ => ?_)
    refine vx_aload_n dX9_firstOrder_98 rfl ?_
    refine vx_getR (ci := 9) (T := TX9) (n := 56) (j := 49) (a := 54) (r := 79) dX9_firstOrder_99 rfl lay_X9 (by decide) wd_785 (by decide) ly_54 rfl ?_
    refine vx_aload_n dX9_firstOrder_102 rfl ?_
    refine vx_getI (ci := 9) (T := TX9) (n := 56) (j := 51) (a := 54) (v := (nI F1.length)) dX9_firstOrder_103 rfl lay_X9 (by decide) wd_787 (by decide) ly_54 rfl rfl ?_
    refine vx_iload_n dX9_firstOrder_106 rfl ?_
    refine vx_iast (a := 79) (n := 7) (μ2 := (va_up (va_up μ 54 (mo_mf (μ 54) F1.length 0)) 79 (upd (mo_lst F1 (μ 79)) F1.length (nI fi)))) dX9_firstOrder_107 (by decide) ly_79 (vp_in_nI (by omega) (by omega)) (by rw [nI_clamp (by omega)]; try exact vx_m1) ?_
    refine vx_iload_n dX9_firstOrder_108 rfl ?_
    refine vx_iconst (v := 1) dX9_firstOrder_109 (by decide) ?_
    refine vx_iload_n dX9_firstOrder_110 rfl ?_
    refine vx_ishl dX9_firstOrder_111 ?_
    refine vx_ior dX9_firstOrder_112 ?_
    refine vx_istore_n (ls2 := [(1, .inl (A1 ||| ((1 : Int32) <<< ((nI fi) &&& 31)))), (2, .inl (nI fi)), (0, vx_r 54)]) dX9_firstOrder_113 (by decide) rfl ?_
    refine vx_aload_n dX9_firstOrder_114 rfl ?_
    refine vx_dup dX9_firstOrder_115 ?_
    refine vx_getI (ci := 9) (T := TX9) (n := 56) (j := 51) (a := 54) (v := (nI F1.length)) dX9_firstOrder_116 rfl lay_X9 (by decide) wd_787 (by decide) ly_54 rfl rfl ?_
    refine vx_iconst (v := 1) dX9_firstOrder_119 (by decide) ?_
    refine vx_iadd dX9_firstOrder_120 ?_
    refine vx_eq (st2 := [.inl (nI (F1.length + 1)), vx_r 54]) rfl rfl (by rw [nI_1]) ?_
    refine vx_putI (ci := 9) (T := TX9) (n := 56) (j := 51) (a := 54) (ty := .int) (μ2 := (va_up (va_up μ 54 (upd (mo_mf (μ 54) F1.length 0) 51 (nI (F1.length + 1)))) 79 (upd (mo_lst F1 (μ 79)) F1.length (nI fi)))) dX9_firstOrder_121 rfl lay_X9 tyX9_ok nmX9 (by decide) wd_787 rfl rfl rfl rfl (by decide) ly_54 rfl ((vx_m2 (by decide)).trans (congrArg (fun m => va_up m 79 (upd (mo_lst F1 (μ 79)) F1.length (nI fi))) vx_m1)) ?_
    refine vx_keep (ls2 := [(1, .inl (A1 ||| ((1 : Int32) <<< ((nI fi) &&& 31)))), (0, vx_r 54)]) ⟨rfl, rfl, trivial⟩ ?_
    refine vx_eq (μ2 := (va_up (va_up μ 54 (mo_mf (μ 54) (F1 ++ [fi]).length 0)) 79 (mo_lst (F1 ++ [fi]) (μ 79)))) (by rw [mo_mf51, mo_lst_s rfl, List.length_append, List.length_singleton]) rfl rfl ?_
    exact mo_f_3 hd hn hn7 hF (fun k hk => by rw [mb_or A1 (by omega) (by omega), hA1 k hk]; simp) hP
  · have eF : sr_ad (mo_w μ n) fi F1 = F1 := if_neg hc
    rw [eF] at hP hF
    refine vx_aload_n dX9_firstOrder_62 rfl ?_
    refine vx_getR (ci := 9) (T := TX9) (n := 56) (j := 3) (a := 54) (r := 56) dX9_firstOrder_63 rfl lay_X9 (by decide) wd_739 (by decide) ly_54 rfl ?_
    refine vx_iconst (v := 4) dX9_firstOrder_66 (by decide) ?_
    refine vx_iald (a := 56) (n := 12) (v := (nI fi)) dX9_firstOrder_67 (by decide) ly_56 (by unfold vp_in; decide) hfi ?_
    refine vx_istore_n (ls2 := [(2, .inl (nI fi)), (1, .inl A1), (0, vx_r 54)]) dX9_firstOrder_68 (by decide) rfl ?_
    refine vx_iload_n dX9_firstOrder_69 rfl ?_
    refine vx_iconst (v := 1) dX9_firstOrder_70 (by decide) ?_
    refine vx_icmp_lt (tgt := 124) dX9_firstOrder_71 (by decide) (fun c_71 => ?_) (fun c_71 => ?_)
    · refine vx_keep (ls2 := [(1, .inl A1), (0, vx_r 54)]) ⟨rfl, rfl, trivial⟩ ?_
      exact mo_f_3 hd hn hn7 hF hA1 hP
    · refine vx_iload_n dX9_firstOrder_74 rfl ?_
      refine vx_aload_n dX9_firstOrder_75 rfl ?_
      refine vx_getI (ci := 9) (T := TX9) (n := 56) (j := 18) (a := 54) (v := (nI n)) dX9_firstOrder_76 rfl lay_X9 (by decide) wd_754 (by decide) ly_54 rfl hn ?_
      refine vx_icmp_gt (tgt := 124) dX9_firstOrder_79 (by decide) (fun c_79 => ?_) (fun c_79 => ?_)
      · refine vx_keep (ls2 := [(1, .inl A1), (0, vx_r 54)]) ⟨rfl, rfl, trivial⟩ ?_
        exact mo_f_3 hd hn hn7 hF hA1 hP
      · refine vx_aload_n dX9_firstOrder_82 rfl ?_
        refine vx_iload_n dX9_firstOrder_83 rfl ?_
        refine vx_callV (b := 54) (vs := [.inl (nI fi)]) (st := []) (r0 := (some (.inl (if (μ 61 fi) = 0 then 1 else 0)))) (μ0 := (va_up (va_up μ 54 (mo_mf (μ 54) F1.length 0)) 79 (mo_lst F1 (μ 79)))) dX9_firstOrder_84 (c_X9_isDone (d - 1) ad (va_up (va_up μ 54 (mo_mf (μ 54) F1.length 0)) 79 (mo_lst F1 (μ 79))) fi (by omega)) wd_973 wd_976 wd_54 hy_X9_isDone wd_975 wd_31 (by decide) ly_54 rfl rfl (by omega) (Nat.le_of_ble_eq_true rfl) (Nat.le_of_ble_eq_true rfl) (Nat.le_refl 0) (Nat.le_refl 0) ?_
        refine vx_eq (μ2 := (va_up (va_up μ 54 (mo_mf (μ 54) F1.length 0)) 79 (mo_lst F1 (μ 79)))) (ls2 := [(2, .inl (nI fi)), (1, .inl A1), (0, vx_r 54)]) (st2 := [.inl (if (μ 61 fi) = 0 then 1 else 0)]) rfl rfl rfl ?_
        refine vx_if_ne (tgt := 124) dX9_firstOrder_87 (by decide) (fun c_87 => ?_) (fun c_87 => ?_)
        · refine vx_keep (ls2 := [(1, .inl A1), (0, vx_r 54)]) ⟨rfl, rfl, trivial⟩ ?_
          exact mo_f_3 hd hn hn7 hF hA1 hP
        · refine vx_iload_n dX9_firstOrder_90 rfl ?_
          refine vx_iload_n dX9_firstOrder_91 rfl ?_
          refine vx_ishr dX9_firstOrder_92 ?_
          refine vx_iconst (v := 1) dX9_firstOrder_93 (by decide) ?_
          refine vx_iand dX9_firstOrder_94 ?_
          refine vx_if_ne (tgt := 124) dX9_firstOrder_95 (by decide) (fun c_95 => ?_) (fun c_95 => ?_)
          · refine vx_keep (ls2 := [(1, .inl A1), (0, vx_r 54)]) ⟨rfl, rfl, trivial⟩ ?_
            exact mo_f_3 hd hn hn7 hF hA1 hP
          · exfalso
            apply hc
            refine ⟨decide_eq_true ⟨?_, ?_, ?_⟩, ?_⟩
            · have z : ¬ nI fi < nI 1 := c_71
              rw [nI_ltI (by omega) (by omega)] at z; omega
            · have z := c_79
              rw [nI_ltI (by omega) (by omega)] at z; omega
            · intro z; have := c_87; rw [if_pos z] at this; exact absurd this (by decide)
            · intro z; have := c_95; rw [mb_bit _ (by omega), hA1 fi (by omega), decide_eq_true z] at this; exact absurd this (by decide)
set_option maxRecDepth 20000 in
set_option maxHeartbeats 2000000 in
theorem c_X9_firstOrder (d : Nat) (hd : 1 ≤ d) (ad : Nat → Nat) (μ : vx_mem) (n : Nat) (hn : μ 54 18 = nI n) (hn7 : n ≤ 7) (p fi : Nat) (hp : μ 54 35 = nI p) (hpn : p ≤ n) (hfi : μ 56 4 = nI fi) (hfi8 : fi < 8) : vx_Mf yX9_firstOrder cX9_firstOrder 4 none d ad 82 vx_lay μ [vx_r 54] none (va_up (va_up μ 54 (mo_mf (μ 54) ((sr_F (mo_w μ n) p fi) ++ sr_S (mo_w μ n) (sr_F (mo_w μ n) p fi)).length (sr_F (mo_w μ n) p fi).length)) 79 (mo_lst ((sr_F (mo_w μ n) p fi) ++ sr_S (mo_w μ n) (sr_F (mo_w μ n) p fi)) (μ 79))) := by
  have key : ∀ (Post : vx_P) (ini : Bool), Post none ad 82 vx_lay (va_up (va_up μ 54 (mo_mf (μ 54) ((sr_F (mo_w μ n) p fi) ++ sr_S (mo_w μ n) (sr_F (mo_w μ n) p fi)).length (sr_F (mo_w μ n) p fi).length)) 79 (mo_lst ((sr_F (mo_w μ n) p fi) ++ sr_S (mo_w μ n) (sr_F (mo_w μ n) p fi)) (μ 79))) → vx_J RX9 cX9_firstOrder 4 none ini d 0 0 Post ad 0 0 82 vx_lay μ 0 [(0, vx_r 54)] [] := by
    intro Post ini hP
    have h0 : sr_Fok (mo_w μ n) [] := ⟨List.nodup_nil, fun x hx => by cases hx⟩
    have hF1 := sr_Fok_ad (x := p) h0 (fun h => mo_w_17 hn7 h)
    by_cases hc : (mo_w μ n) p = true
    · have eF : sr_ad (mo_w μ n) p [] = [p] := if_pos ⟨hc, by simp⟩
      unfold sr_F at hP
      rw [eF] at hP hF1
      have hw2 := of_decide_eq_true hc
      have hp1 : ¬ nI p ≤ 0 := nI_nle (by omega) (by omega)
      refine vx_aload_n dX9_firstOrder_0 rfl ?_
      refine vx_iconst (v := 0) dX9_firstOrder_1 (by decide) ?_
      refine vx_putI (ci := 9) (T := TX9) (n := 56) (j := 51) (a := 54) (ty := .int) (μ2 := (va_up μ 54 (upd (μ 54) 51 0))) dX9_firstOrder_2 rfl lay_X9 tyX9_ok nmX9 (by decide) wd_787 rfl rfl rfl rfl (by decide) ly_54 rfl rfl ?_
      refine vx_aload_n dX9_firstOrder_5 rfl ?_
      refine vx_iconst (v := 0) dX9_firstOrder_6 (by decide) ?_
      refine vx_putI (ci := 9) (T := TX9) (n := 56) (j := 52) (a := 54) (ty := .int) (μ2 := (va_up μ 54 (upd (upd (μ 54) 51 0) 52 0))) dX9_firstOrder_7 rfl lay_X9 tyX9_ok nmX9 (by decide) wd_788 rfl rfl rfl rfl (by decide) ly_54 rfl vx_m1 ?_
      refine vx_iconst (v := 0) dX9_firstOrder_10 (by decide) ?_
      refine vx_istore_n (ls2 := [(1, .inl 0), (0, vx_r 54)]) dX9_firstOrder_11 (by decide) rfl ?_
      refine vx_aload_n dX9_firstOrder_12 rfl ?_
      refine vx_getI (ci := 9) (T := TX9) (n := 56) (j := 35) (a := 54) (v := (nI p)) dX9_firstOrder_13 rfl lay_X9 (by decide) wd_771 (by decide) ly_54 rfl hp ?_
      refine vx_if_le (tgt := 62) dX9_firstOrder_16 (by decide) (fun h => absurd h hp1) (fun _ => ?_)
      refine vx_aload_n dX9_firstOrder_19 rfl ?_
      refine vx_aload_n dX9_firstOrder_20 rfl ?_
      refine vx_getI (ci := 9) (T := TX9) (n := 56) (j := 35) (a := 54) (v := (nI p)) dX9_firstOrder_21 rfl lay_X9 (by decide) wd_771 (by decide) ly_54 rfl hp ?_
      refine vx_callV (b := 54) (vs := [.inl (nI p)]) (st := []) (r0 := (some (.inl (if (μ 61 p) = 0 then 1 else 0)))) (μ0 := (va_up μ 54 (upd (upd (μ 54) 51 0) 52 0))) dX9_firstOrder_24 (c_X9_isDone (d - 1) ad (va_up μ 54 (upd (upd (μ 54) 51 0) 52 0)) p (by omega)) wd_973 wd_976 wd_54 hy_X9_isDone wd_975 wd_31 (by decide) ly_54 rfl rfl (by omega) (Nat.le_of_ble_eq_true rfl) (Nat.le_of_ble_eq_true rfl) (Nat.le_refl 0) (Nat.le_refl 0) ?_
      refine vx_eq (μ2 := (va_up μ 54 (upd (upd (μ 54) 51 0) 52 0))) (ls2 := [(1, .inl 0), (0, vx_r 54)]) (st2 := [.inl (if (μ 61 p) = 0 then 1 else 0)]) rfl rfl rfl ?_
      refine vx_if_ne (tgt := 62) dX9_firstOrder_27 (by decide) (fun h => absurd (by rw [if_neg hw2.2.2]) h) (fun _ => ?_)
      refine vx_aload_n dX9_firstOrder_30 rfl ?_
      refine vx_getR (ci := 9) (T := TX9) (n := 56) (j := 49) (a := 54) (r := 79) dX9_firstOrder_31 rfl lay_X9 (by decide) wd_785 (by decide) ly_54 rfl ?_
      refine vx_aload_n dX9_firstOrder_34 rfl ?_
      refine vx_getI (ci := 9) (T := TX9) (n := 56) (j := 51) (a := 54) (v := 0) dX9_firstOrder_35 rfl lay_X9 (by decide) wd_787 (by decide) ly_54 rfl rfl ?_
      refine vx_aload_n dX9_firstOrder_38 rfl ?_
      refine vx_getI (ci := 9) (T := TX9) (n := 56) (j := 35) (a := 54) (v := (nI p)) dX9_firstOrder_39 rfl lay_X9 (by decide) wd_771 (by decide) ly_54 rfl hp ?_
      refine vx_iast (a := 79) (n := 7) (μ2 := (va_up (va_up μ 54 (upd (upd (μ 54) 51 0) 52 0)) 79 (upd (μ 79) 0 (nI p)))) dX9_firstOrder_42 (by decide) ly_79 (by unfold vp_in; decide) rfl ?_
      refine vx_iload_n dX9_firstOrder_43 rfl ?_
      refine vx_iconst (v := 1) dX9_firstOrder_44 (by decide) ?_
      refine vx_aload_n dX9_firstOrder_45 rfl ?_
      refine vx_getI (ci := 9) (T := TX9) (n := 56) (j := 35) (a := 54) (v := (nI p)) dX9_firstOrder_46 rfl lay_X9 (by decide) wd_771 (by decide) ly_54 rfl hp ?_
      refine vx_ishl dX9_firstOrder_49 ?_
      refine vx_ior dX9_firstOrder_50 ?_
      refine vx_istore_n (ls2 := [(1, .inl ((0 : Int32) ||| ((1 : Int32) <<< ((nI p) &&& 31)))), (0, vx_r 54)]) dX9_firstOrder_51 (by decide) rfl ?_
      refine vx_aload_n dX9_firstOrder_52 rfl ?_
      refine vx_dup dX9_firstOrder_53 ?_
      refine vx_getI (ci := 9) (T := TX9) (n := 56) (j := 51) (a := 54) (v := 0) dX9_firstOrder_54 rfl lay_X9 (by decide) wd_787 (by decide) ly_54 rfl rfl ?_
      refine vx_iconst (v := 1) dX9_firstOrder_57 (by decide) ?_
      refine vx_iadd dX9_firstOrder_58 ?_
      refine vx_eq (st2 := [.inl 1, vx_r 54]) rfl rfl (by rfl) ?_
      refine vx_putI (ci := 9) (T := TX9) (n := 56) (j := 51) (a := 54) (ty := .int) (μ2 := (va_up (va_up μ 54 (upd (upd (upd (μ 54) 51 0) 52 0) 51 1)) 79 (upd (μ 79) 0 (nI p)))) dX9_firstOrder_59 rfl lay_X9 tyX9_ok nmX9 (by decide) wd_787 rfl rfl rfl rfl (by decide) ly_54 rfl ((vx_m2 (by decide)).trans (congrArg (fun m => va_up m 79 (upd (μ 79) 0 (nI p))) vx_m1)) ?_
      refine vx_keep (ls2 := [(1, .inl ((0 : Int32) ||| ((1 : Int32) <<< ((nI p) &&& 31)))), (0, vx_r 54)]) ⟨rfl, rfl, trivial⟩ ?_
      refine vx_eq (μ2 := (va_up (va_up μ 54 (mo_mf (μ 54) [p].length 0)) 79 (mo_lst [p] (μ 79)))) (by rw [show upd (upd (μ 54) 51 0) 52 0 = mo_mf (μ 54) 0 0 from rfl, show (1 : Int32) = nI 1 from rfl, mo_mf51, show upd (μ 79) 0 (nI p) = mo_lst [p] (μ 79) from by rw [show ([p] : List Nat) = [] ++ [p] from rfl, ← mo_lst_s (n := 0) rfl, mo_lst_0]]; rfl) rfl rfl ?_
      exact mo_f_2 hd hn hn7 hF1 (fun k hk => by rw [mb_or 0 (by omega) (by omega), b_0]; simp) (by simp) hfi hfi8 hP
    · have eF : sr_ad (mo_w μ n) p [] = [] := if_neg (fun z => hc z.1)
      unfold sr_F at hP
      rw [eF] at hP hF1
      refine vx_aload_n dX9_firstOrder_0 rfl ?_
      refine vx_iconst (v := 0) dX9_firstOrder_1 (by decide) ?_
      refine vx_putI (ci := 9) (T := TX9) (n := 56) (j := 51) (a := 54) (ty := .int) (μ2 := (va_up μ 54 (upd (μ 54) 51 0))) dX9_firstOrder_2 rfl lay_X9 tyX9_ok nmX9 (by decide) wd_787 rfl rfl rfl rfl (by decide) ly_54 rfl rfl ?_
      refine vx_aload_n dX9_firstOrder_5 rfl ?_
      refine vx_iconst (v := 0) dX9_firstOrder_6 (by decide) ?_
      refine vx_putI (ci := 9) (T := TX9) (n := 56) (j := 52) (a := 54) (ty := .int) (μ2 := (va_up μ 54 (upd (upd (μ 54) 51 0) 52 0))) dX9_firstOrder_7 rfl lay_X9 tyX9_ok nmX9 (by decide) wd_788 rfl rfl rfl rfl (by decide) ly_54 rfl vx_m1 ?_
      refine vx_iconst (v := 0) dX9_firstOrder_10 (by decide) ?_
      refine vx_istore_n (ls2 := [(1, .inl 0), (0, vx_r 54)]) dX9_firstOrder_11 (by decide) rfl ?_
      refine vx_aload_n dX9_firstOrder_12 rfl ?_
      refine vx_getI (ci := 9) (T := TX9) (n := 56) (j := 35) (a := 54) (v := (nI p)) dX9_firstOrder_13 rfl lay_X9 (by decide) wd_771 (by decide) ly_54 rfl hp ?_
      refine vx_if_le (tgt := 62) dX9_firstOrder_16 (by decide) (fun c_16 => ?_) (fun c_16 => ?_)
      · refine vx_keep (ls2 := [(1, .inl 0), (0, vx_r 54)]) ⟨rfl, rfl, trivial⟩ ?_
        refine vx_eq (μ2 := (va_up (va_up μ 54 (mo_mf (μ 54) ([] : List Nat).length 0)) 79 (mo_lst [] (μ 79)))) (by rw [mo_lst_0]; exact (vx_up_id _ 79).symm) rfl rfl ?_
        exact mo_f_2 hd hn hn7 hF1 (fun k hk => by rw [b_0]; simp) (by simp) hfi hfi8 hP
      · refine vx_aload_n dX9_firstOrder_19 rfl ?_
        refine vx_aload_n dX9_firstOrder_20 rfl ?_
        refine vx_getI (ci := 9) (T := TX9) (n := 56) (j := 35) (a := 54) (v := (nI p)) dX9_firstOrder_21 rfl lay_X9 (by decide) wd_771 (by decide) ly_54 rfl hp ?_
        refine vx_callV (b := 54) (vs := [.inl (nI p)]) (st := []) (r0 := (some (.inl (if (μ 61 p) = 0 then 1 else 0)))) (μ0 := (va_up μ 54 (upd (upd (μ 54) 51 0) 52 0))) dX9_firstOrder_24 (c_X9_isDone (d - 1) ad (va_up μ 54 (upd (upd (μ 54) 51 0) 52 0)) p (by omega)) wd_973 wd_976 wd_54 hy_X9_isDone wd_975 wd_31 (by decide) ly_54 rfl rfl (by omega) (Nat.le_of_ble_eq_true rfl) (Nat.le_of_ble_eq_true rfl) (Nat.le_refl 0) (Nat.le_refl 0) ?_
        refine vx_eq (μ2 := (va_up μ 54 (upd (upd (μ 54) 51 0) 52 0))) (ls2 := [(1, .inl 0), (0, vx_r 54)]) (st2 := [.inl (if (μ 61 p) = 0 then 1 else 0)]) rfl rfl rfl ?_
        refine vx_if_ne (tgt := 62) dX9_firstOrder_27 (by decide) (fun c_27 => ?_) (fun c_27 => ?_)
        · refine vx_keep (ls2 := [(1, .inl 0), (0, vx_r 54)]) ⟨rfl, rfl, trivial⟩ ?_
          refine vx_eq (μ2 := (va_up (va_up μ 54 (mo_mf (μ 54) ([] : List Nat).length 0)) 79 (mo_lst [] (μ 79)))) (by rw [mo_lst_0]; exact (vx_up_id _ 79).symm) rfl rfl ?_
          exact mo_f_2 hd hn hn7 hF1 (fun k hk => by rw [b_0]; simp) (by simp) hfi hfi8 hP
        · exfalso
          apply hc
          refine decide_eq_true ⟨?_, hpn, ?_⟩
          · have z : ¬ nI p ≤ nI 0 := c_16
            rw [nI_leI (by omega) (by omega)] at z; omega
          · intro z; have := c_27; rw [if_pos z] at this; exact absurd this (by decide)
  exact vx_J.M pn_X9_firstOrder (Nat.le_of_ble_eq_true rfl) (key _ _ ⟨rfl, rfl, rfl, rfl, rfl⟩)
end
