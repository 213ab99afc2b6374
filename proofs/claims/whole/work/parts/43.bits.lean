section
def bt (x : Int32) (i : Nat) : Bool := x.toBitVec.getLsbD i
theorem b_ext {x y : Int32} (h : ∀ i, i < 32 → bt x i = bt y i) : x = y := Int32.toBitVec_inj.mp (BitVec.eq_of_getLsbD_eq (fun i hi => h i hi))
theorem b_or (x y : Int32) (i : Nat) : bt (x ||| y) i = (bt x i || bt y i) := by unfold bt; rw [Int32.toBitVec_or, BitVec.getLsbD_or]
theorem b_and (x y : Int32) (i : Nat) : bt (x &&& y) i = (bt x i && bt y i) := by unfold bt; rw [Int32.toBitVec_and, BitVec.getLsbD_and]
theorem b_xor (x y : Int32) (i : Nat) : bt (x ^^^ y) i = (bt x i ^^ bt y i) := by unfold bt; rw [Int32.toBitVec_xor, BitVec.getLsbD_xor]
theorem b_big {x : Int32} {i : Nat} (h : 32 ≤ i) : bt x i = false := BitVec.getLsbD_of_ge _ _ h
theorem b_255 (i : Nat) : bt 255 i = decide (i < 8) := by
  rcases Nat.lt_or_ge i 32 with h | h
  · exact (by decide +kernel : ∀ i, i < 32 → bt 255 i = decide (i < 8)) i h
  · rw [b_big h, decide_eq_false (by omega)]
theorem b_65535 (i : Nat) : bt 65535 i = decide (i < 16) := by
  rcases Nat.lt_or_ge i 32 with h | h
  · exact (by decide +kernel : ∀ i, i < 32 → bt 65535 i = decide (i < 16)) i h
  · rw [b_big h, decide_eq_false (by omega)]
theorem b_m1 : ∀ i, i < 32 → bt (-1) i = true := by decide +kernel
theorem b_0 (i : Nat) : bt 0 i = false := BitVec.getLsbD_zero
theorem s_l : ∀ n, n < 32 → ((nI n &&& 31).toBitVec.smod 32).toNat = n := by decide +kernel
theorem s_u : ∀ n, n < 32 → (((nI n).toUInt32 &&& Int32.toUInt32 31).toBitVec % 32).toNat = n := by decide +kernel
theorem b_shl (n : Nat) (hn : n < 32) (x : Int32) {i : Nat} (hi : i < 32) : bt (x <<< (nI n &&& 31)) i = (decide (n ≤ i) && bt x (i - n)) := by
  unfold bt
  rw [Int32.toBitVec_shiftLeft]
  show (x.toBitVec <<< ((nI n &&& 31).toBitVec.smod 32).toNat).getLsbD i = _
  rw [s_l n hn, BitVec.getLsbD_shiftLeft]
  rcases Nat.lt_or_ge i n with h | h
  · simp [h, Nat.not_le.mpr h]
  · simp [hi, h, Nat.not_lt.mpr h]
theorem b_ushr (n : Nat) (hn : n < 32) (x : Int32) (i : Nat) : bt ((x.toUInt32 >>> ((nI n).toUInt32 &&& Int32.toUInt32 31)).toInt32) i = bt x (n + i) := by
  show (x.toUInt32 >>> ((nI n).toUInt32 &&& Int32.toUInt32 31)).toBitVec.getLsbD i = x.toUInt32.toBitVec.getLsbD (n + i)
  rw [UInt32.toBitVec_shiftRight]
  show (x.toUInt32.toBitVec >>> (((nI n).toUInt32 &&& Int32.toUInt32 31).toBitVec % 32).toNat).getLsbD i = _
  rw [s_u n hn, BitVec.getLsbD_ushiftRight]
theorem b_sshr (n : Nat) (hn : n < 32) (x : Int32) {i : Nat} (hi : i < 32) : bt (x >>> (nI n &&& 31)) i = if n + i < 32 then bt x (n + i) else bt x 31 := by
  unfold bt
  rw [Int32.toBitVec_shiftRight]
  show (x.toBitVec.sshiftRight ((nI n &&& 31).toBitVec.smod 32).toNat).getLsbD i = _
  rw [s_l n hn, BitVec.getLsbD_sshiftRight, BitVec.msb_eq_getLsbD_last]
  simp [hi]
theorem b_shl8 (x : Int32) {i : Nat} (hi : i < 32) : bt (x <<< ((8 : Int32) &&& 31)) i = (decide (8 ≤ i) && bt x (i - 8)) := b_shl 8 (by omega) x hi
theorem b_shl16 (x : Int32) {i : Nat} (hi : i < 32) : bt (x <<< ((16 : Int32) &&& 31)) i = (decide (16 ≤ i) && bt x (i - 16)) := b_shl 16 (by omega) x hi
theorem b_shl24 (x : Int32) {i : Nat} (hi : i < 32) : bt (x <<< ((24 : Int32) &&& 31)) i = (decide (24 ≤ i) && bt x (i - 24)) := b_shl 24 (by omega) x hi
theorem b_sshr8 (x : Int32) {i : Nat} (hi : i < 32) : bt (x >>> ((8 : Int32) &&& 31)) i = if 8 + i < 32 then bt x (8 + i) else bt x 31 := b_sshr 8 (by omega) x hi
theorem mb_1 (i : Nat) : bt 1 i = decide (i = 0) := by
  rcases Nat.lt_or_ge i 32 with h | h
  · exact (by decide +kernel : ∀ i, i < 32 → bt 1 i = decide (i = 0)) i h
  · rw [b_big h, decide_eq_false (by omega)]
theorem mb_bit (x : Int32) {g : Nat} (hg : g < 32) : ((x >>> (nI g &&& 31)) &&& 1) = if bt x g = true then 1 else 0 := by
  apply b_ext
  intro i hi
  rw [b_and, b_sshr g hg x hi, mb_1]
  by_cases h0 : i = 0
  · subst h0
    rw [if_pos (by omega)]
    by_cases hb : bt x g = true
    · rw [if_pos hb, Nat.add_zero, hb]
      exact (mb_1 0).symm
    · rw [if_neg hb, Nat.add_zero]
      rw [Bool.not_eq_true] at hb
      rw [hb, b_0]
      rfl
  · rw [decide_eq_false h0, Bool.and_false]
    by_cases hb : bt x g = true
    · rw [if_pos hb, mb_1, decide_eq_false h0]
    · rw [if_neg hb, b_0]
theorem mb_bit0 (x : Int32) {g : Nat} (hg : g < 32) : ((x >>> (nI g &&& 31)) &&& 1) = 0 ↔ bt x g = false := by
  rw [mb_bit x hg]
  by_cases hb : bt x g = true
  · simp [hb]
  · simp [hb]
theorem mb_or (x : Int32) {b g : Nat} (hb : b < 32) (hg : g < 32) : bt (x ||| ((1 : Int32) <<< (nI b &&& 31))) g = (bt x g || decide (g = b)) := by
  rw [b_or, b_shl b hb 1 hg, mb_1]
  congr 1
  by_cases h : b ≤ g
  · by_cases e : g = b
    · simp [e]
    · simp [h, e, show ¬ g - b = 0 by omega]
  · simp [h, show ¬ g = b by omega]
theorem mb_by (x : Int32) (n : Nat) (hn : n ≤ 24) : (x >>> (nI n &&& 31)) &&& 255 = sp_by x (nI n) := by
  unfold sp_by
  apply b_ext
  intro i hi
  rw [b_and, b_and, b_sshr n (by omega) x hi, b_255]
  have e := b_ushr n (by omega) x i
  rw [e]
  by_cases h : i < 8
  · rw [if_pos (by omega)]
  · rw [decide_eq_false h, Bool.and_false, Bool.and_false]

theorem mby24 (x : Int32) : (x >>> ((24 : Int32) &&& 31)) &&& 255 = sp_by x 24 := mb_by x 24 (by omega)
theorem mby16 (x : Int32) : (x >>> ((16 : Int32) &&& 31)) &&& 255 = sp_by x 16 := mb_by x 16 (by omega)
theorem mby8 (x : Int32) : (x >>> ((8 : Int32) &&& 31)) &&& 255 = sp_by x 8 := mb_by x 8 (by omega)
theorem mby0 (x : Int32) : (x >>> ((0 : Int32) &&& 31)) &&& 255 = sp_by x 0 := mb_by x 0 (by omega)
set_option maxRecDepth 20000 in
set_option maxHeartbeats 2000000 in
theorem c_X9_feed (d : Nat) (ad : Nat → Nat) (μ : vx_mem) (len : Nat) (hl : μ 54 2 = nI len) (hl3 : len ≤ 300) (a b c e g : Int32) : vx_Mf yX9_feed cX9_feed 8 (some (.int)) d ad 82 vx_lay μ [vx_r 54, .inl a, .inl b, .inl c, .inl e, .inl g] (some (.inl (if nI len ≤ 280 then nI (len + 20) else -1))) (if nI len ≤ 280 then va_up (va_up μ 54 (upd (upd (μ 54) 0 0) 2 (nI (len + 20)))) 55 (sp_feed5 (μ 55) len a b c e g) else va_up μ 54 (upd (μ 54) 0 0)) := by
  have key : ∀ (Post : vx_P) (ini : Bool), Post (some (.inl (if nI len ≤ 280 then nI (len + 20) else -1))) ad 82 vx_lay (if nI len ≤ 280 then va_up (va_up μ 54 (upd (upd (μ 54) 0 0) 2 (nI (len + 20)))) 55 (sp_feed5 (μ 55) len a b c e g) else va_up μ 54 (upd (μ 54) 0 0)) → vx_J RX9 cX9_feed 8 (some (.int)) ini d 0 0 Post ad 0 0 82 vx_lay μ 0 [(0, vx_r 54), (1, .inl a), (2, .inl b), (3, .inl c), (4, .inl e), (5, .inl g)] [] := by
    intro Post ini hP
    refine vx_aload_n dX9_feed_0 rfl ?_
    refine vx_iconst (v := 0) dX9_feed_1 (by decide) ?_
    refine vx_putI (ci := 9) (T := TX9) (n := 56) (j := 0) (a := 54) (ty := .int) (μ2 := (va_up μ 54 (upd (μ 54) 0 0))) dX9_feed_2 rfl lay_X9 tyX9_ok nmX9 (by decide) wd_736 rfl rfl rfl rfl (by decide) ly_54 rfl rfl ?_
    refine vx_aload_n dX9_feed_5 rfl ?_
    refine vx_getI (ci := 9) (T := TX9) (n := 56) (j := 2) (a := 54) (v := (nI len)) dX9_feed_6 rfl lay_X9 (by decide) wd_738 (by decide) ly_54 rfl hl ?_
    refine vx_sipush (v := 280) dX9_feed_9 (by decide) ?_
    refine vx_icmp_le (tgt := 17) dX9_feed_12 (by decide) (fun c_12 => ?_) (fun c_12 => ?_)
    · have hr : len ≤ 280 := by
        rw [show (280 : Int32) = nI 280 from rfl, nI_leI (by omega) (by omega)] at c_12; omega
      refine vx_iconst (v := 0) dX9_feed_17 (by decide) ?_
      refine vx_istore (ls2 := [(6, .inl 0), (0, vx_r 54), (1, .inl a), (2, .inl b), (3, .inl c), (4, .inl e), (5, .inl g)]) dX9_feed_18 (by decide) rfl ?_
      refine vx_iload dX9_feed_20 rfl ?_
      refine vx_bipush (v := 20) dX9_feed_22 (by decide) ?_
      refine vx_icmp_ge (tgt := 110) dX9_feed_24 (by decide) (fun h => absurd h (by decide)) (fun _ => ?_)
      refine vx_iload dX9_feed_27 rfl ?_
      refine vx_iconst (v := 4) dX9_feed_29 (by decide) ?_
      refine vx_icmp_ge (tgt := 37) dX9_feed_30 (by decide) (fun h => absurd h (by decide)) (fun _ => ?_)
      refine vx_iload_n dX9_feed_33 rfl ?_
      refine vx_goto (tgt := 73) dX9_feed_34 (by decide) ?_
      refine vx_istore (ls2 := [(7, .inl a), (6, .inl 0), (0, vx_r 54), (1, .inl a), (2, .inl b), (3, .inl c), (4, .inl e), (5, .inl g)]) dX9_feed_73 (by decide) rfl ?_
      refine vx_aload_n dX9_feed_75 rfl ?_
      refine vx_getR (ci := 9) (T := TX9) (n := 56) (j := 1) (a := 54) (r := 55) dX9_feed_76 rfl lay_X9 (by decide) wd_737 (by decide) ly_54 rfl ?_
      refine vx_aload_n dX9_feed_79 rfl ?_
      refine vx_getI (ci := 9) (T := TX9) (n := 56) (j := 2) (a := 54) (v := (nI len)) dX9_feed_80 rfl lay_X9 (by decide) wd_738 (by decide) ly_54 rfl hl ?_
      refine vx_iload dX9_feed_83 rfl ?_
      refine vx_iadd dX9_feed_85 ?_
      refine vx_eq (st2 := [.inl (nI len), vx_r 55]) rfl rfl (by rw [show (0 : Int32) = nI 0 from rfl, nI_add]; rfl) ?_
      refine vx_iload dX9_feed_86 rfl ?_
      refine vx_bipush (v := 24) dX9_feed_88 (by decide) ?_
      refine vx_bipush (v := 8) dX9_feed_90 (by decide) ?_
      refine vx_iload dX9_feed_92 rfl ?_
      refine vx_iconst (v := 4) dX9_feed_94 (by decide) ?_
      refine vx_irem dX9_feed_95 (by decide) ?_
      refine vx_eq (st2 := [.inl 0, .inl 8, .inl 24, .inl a, .inl (nI len), vx_r 55]) rfl rfl (by rfl) ?_
      refine vx_imul dX9_feed_96 ?_
      refine vx_eq (st2 := [.inl 0, .inl 24, .inl a, .inl (nI len), vx_r 55]) rfl rfl (by rfl) ?_
      refine vx_isub dX9_feed_97 ?_
      refine vx_eq (st2 := [.inl 24, .inl a, .inl (nI len), vx_r 55]) rfl rfl (by rfl) ?_
      refine vx_ishr dX9_feed_98 ?_
      refine vx_sipush (v := 255) dX9_feed_99 (by decide) ?_
      refine vx_iand dX9_feed_102 ?_
      refine vx_iast (a := 55) (n := 300) (μ2 := (va_up (va_up μ 54 (upd (μ 54) 0 0)) 55 (upd (μ 55) len ((a >>> (24 &&& 31)) &&& 255)))) dX9_feed_103 (by decide) ly_55 (vp_in_nI (by omega) (by omega)) (by rw [nI_clamp (by omega)]; try exact rfl) ?_
      refine vx_iinc (v := 1) (ls2 := [(6, .inl 1), (7, .inl a), (0, vx_r 54), (1, .inl a), (2, .inl b), (3, .inl c), (4, .inl e), (5, .inl g)]) dX9_feed_104 rfl (by decide) (by decide) rfl ?_
      refine vx_goto (tgt := 20) dX9_feed_107 (by decide) ?_
      refine vx_iload dX9_feed_20 rfl ?_
      refine vx_bipush (v := 20) dX9_feed_22 (by decide) ?_
      refine vx_icmp_ge (tgt := 110) dX9_feed_24 (by decide) (fun h => absurd h (by decide)) (fun _ => ?_)
      refine vx_iload dX9_feed_27 rfl ?_
      refine vx_iconst (v := 4) dX9_feed_29 (by decide) ?_
      refine vx_icmp_ge (tgt := 37) dX9_feed_30 (by decide) (fun h => absurd h (by decide)) (fun _ => ?_)
      refine vx_iload_n dX9_feed_33 rfl ?_
      refine vx_goto (tgt := 73) dX9_feed_34 (by decide) ?_
      refine vx_istore (ls2 := [(7, .inl a), (6, .inl 1), (0, vx_r 54), (1, .inl a), (2, .inl b), (3, .inl c), (4, .inl e), (5, .inl g)]) dX9_feed_73 (by decide) rfl ?_
      refine vx_aload_n dX9_feed_75 rfl ?_
      refine vx_getR (ci := 9) (T := TX9) (n := 56) (j := 1) (a := 54) (r := 55) dX9_feed_76 rfl lay_X9 (by decide) wd_737 (by decide) ly_54 rfl ?_
      refine vx_aload_n dX9_feed_79 rfl ?_
      refine vx_getI (ci := 9) (T := TX9) (n := 56) (j := 2) (a := 54) (v := (nI len)) dX9_feed_80 rfl lay_X9 (by decide) wd_738 (by decide) ly_54 rfl hl ?_
      refine vx_iload dX9_feed_83 rfl ?_
      refine vx_iadd dX9_feed_85 ?_
      refine vx_eq (st2 := [.inl (nI (len + 1)), vx_r 55]) rfl rfl (by rw [show (1 : Int32) = nI 1 from rfl, nI_add]) ?_
      refine vx_iload dX9_feed_86 rfl ?_
      refine vx_bipush (v := 24) dX9_feed_88 (by decide) ?_
      refine vx_bipush (v := 8) dX9_feed_90 (by decide) ?_
      refine vx_iload dX9_feed_92 rfl ?_
      refine vx_iconst (v := 4) dX9_feed_94 (by decide) ?_
      refine vx_irem dX9_feed_95 (by decide) ?_
      refine vx_eq (st2 := [.inl 1, .inl 8, .inl 24, .inl a, .inl (nI (len + 1)), vx_r 55]) rfl rfl (by rfl) ?_
      refine vx_imul dX9_feed_96 ?_
      refine vx_eq (st2 := [.inl 8, .inl 24, .inl a, .inl (nI (len + 1)), vx_r 55]) rfl rfl (by rfl) ?_
      refine vx_isub dX9_feed_97 ?_
      refine vx_eq (st2 := [.inl 16, .inl a, .inl (nI (len + 1)), vx_r 55]) rfl rfl (by rfl) ?_
      refine vx_ishr dX9_feed_98 ?_
      refine vx_sipush (v := 255) dX9_feed_99 (by decide) ?_
      refine vx_iand dX9_feed_102 ?_
      refine vx_iast (a := 55) (n := 300) (μ2 := (va_up (va_up μ 54 (upd (μ 54) 0 0)) 55 (upd (upd (μ 55) len ((a >>> (24 &&& 31)) &&& 255)) (len + 1) ((a >>> (16 &&& 31)) &&& 255)))) dX9_feed_103 (by decide) ly_55 (vp_in_nI (by omega) (by omega)) (by rw [nI_clamp (by omega)]; try exact vx_m1) ?_
      refine vx_iinc (v := 2) (ls2 := [(6, .inl 2), (7, .inl a), (0, vx_r 54), (1, .inl a), (2, .inl b), (3, .inl c), (4, .inl e), (5, .inl g)]) dX9_feed_104 rfl (by decide) (by decide) rfl ?_
      refine vx_goto (tgt := 20) dX9_feed_107 (by decide) ?_
      refine vx_iload dX9_feed_20 rfl ?_
      refine vx_bipush (v := 20) dX9_feed_22 (by decide) ?_
      refine vx_icmp_ge (tgt := 110) dX9_feed_24 (by decide) (fun h => absurd h (by decide)) (fun _ => ?_)
      refine vx_iload dX9_feed_27 rfl ?_
      refine vx_iconst (v := 4) dX9_feed_29 (by decide) ?_
      refine vx_icmp_ge (tgt := 37) dX9_feed_30 (by decide) (fun h => absurd h (by decide)) (fun _ => ?_)
      refine vx_iload_n dX9_feed_33 rfl ?_
      refine vx_goto (tgt := 73) dX9_feed_34 (by decide) ?_
      refine vx_istore (ls2 := [(7, .inl a), (6, .inl 2), (0, vx_r 54), (1, .inl a), (2, .inl b), (3, .inl c), (4, .inl e), (5, .inl g)]) dX9_feed_73 (by decide) rfl ?_
      refine vx_aload_n dX9_feed_75 rfl ?_
      refine vx_getR (ci := 9) (T := TX9) (n := 56) (j := 1) (a := 54) (r := 55) dX9_feed_76 rfl lay_X9 (by decide) wd_737 (by decide) ly_54 rfl ?_
      refine vx_aload_n dX9_feed_79 rfl ?_
      refine vx_getI (ci := 9) (T := TX9) (n := 56) (j := 2) (a := 54) (v := (nI len)) dX9_feed_80 rfl lay_X9 (by decide) wd_738 (by decide) ly_54 rfl hl ?_
      refine vx_iload dX9_feed_83 rfl ?_
      refine vx_iadd dX9_feed_85 ?_
      refine vx_eq (st2 := [.inl (nI (len + 2)), vx_r 55]) rfl rfl (by rw [show (2 : Int32) = nI 2 from rfl, nI_add]) ?_
      refine vx_iload dX9_feed_86 rfl ?_
      refine vx_bipush (v := 24) dX9_feed_88 (by decide) ?_
      refine vx_bipush (v := 8) dX9_feed_90 (by decide) ?_
      refine vx_iload dX9_feed_92 rfl ?_
      refine vx_iconst (v := 4) dX9_feed_94 (by decide) ?_
      refine vx_irem dX9_feed_95 (by decide) ?_
      refine vx_eq (st2 := [.inl 2, .inl 8, .inl 24, .inl a, .inl (nI (len + 2)), vx_r 55]) rfl rfl (by rfl) ?_
      refine vx_imul dX9_feed_96 ?_
      refine vx_eq (st2 := [.inl 16, .inl 24, .inl a, .inl (nI (len + 2)), vx_r 55]) rfl rfl (by rfl) ?_
      refine vx_isub dX9_feed_97 ?_
      refine vx_eq (st2 := [.inl 8, .inl a, .inl (nI (len + 2)), vx_r 55]) rfl rfl (by rfl) ?_
      refine vx_ishr dX9_feed_98 ?_
      refine vx_sipush (v := 255) dX9_feed_99 (by decide) ?_
      refine vx_iand dX9_feed_102 ?_
      refine vx_iast (a := 55) (n := 300) (μ2 := (va_up (va_up μ 54 (upd (μ 54) 0 0)) 55 (upd (upd (upd (μ 55) len ((a >>> (24 &&& 31)) &&& 255)) (len + 1) ((a >>> (16 &&& 31)) &&& 255)) (len + 2) ((a >>> (8 &&& 31)) &&& 255)))) dX9_feed_103 (by decide) ly_55 (vp_in_nI (by omega) (by omega)) (by rw [nI_clamp (by omega)]; try exact vx_m1) ?_
      refine vx_iinc (v := 3) (ls2 := [(6, .inl 3), (7, .inl a), (0, vx_r 54), (1, .inl a), (2, .inl b), (3, .inl c), (4, .inl e), (5, .inl g)]) dX9_feed_104 rfl (by decide) (by decide) rfl ?_
      refine vx_goto (tgt := 20) dX9_feed_107 (by decide) ?_
      refine vx_iload dX9_feed_20 rfl ?_
      refine vx_bipush (v := 20) dX9_feed_22 (by decide) ?_
      refine vx_icmp_ge (tgt := 110) dX9_feed_24 (by decide) (fun h => absurd h (by decide)) (fun _ => ?_)
      refine vx_iload dX9_feed_27 rfl ?_
      refine vx_iconst (v := 4) dX9_feed_29 (by decide) ?_
      refine vx_icmp_ge (tgt := 37) dX9_feed_30 (by decide) (fun h => absurd h (by decide)) (fun _ => ?_)
      refine vx_iload_n dX9_feed_33 rfl ?_
      refine vx_goto (tgt := 73) dX9_feed_34 (by decide) ?_
      refine vx_istore (ls2 := [(7, .inl a), (6, .inl 3), (0, vx_r 54), (1, .inl a), (2, .inl b), (3, .inl c), (4, .inl e), (5, .inl g)]) dX9_feed_73 (by decide) rfl ?_
      refine vx_aload_n dX9_feed_75 rfl ?_
      refine vx_getR (ci := 9) (T := TX9) (n := 56) (j := 1) (a := 54) (r := 55) dX9_feed_76 rfl lay_X9 (by decide) wd_737 (by decide) ly_54 rfl ?_
      refine vx_aload_n dX9_feed_79 rfl ?_
      refine vx_getI (ci := 9) (T := TX9) (n := 56) (j := 2) (a := 54) (v := (nI len)) dX9_feed_80 rfl lay_X9 (by decide) wd_738 (by decide) ly_54 rfl hl ?_
      refine vx_iload dX9_feed_83 rfl ?_
      refine vx_iadd dX9_feed_85 ?_
      refine vx_eq (st2 := [.inl (nI (len + 3)), vx_r 55]) rfl rfl (by rw [show (3 : Int32) = nI 3 from rfl, nI_add]) ?_
      refine vx_iload dX9_feed_86 rfl ?_
      refine vx_bipush (v := 24) dX9_feed_88 (by decide) ?_
      refine vx_bipush (v := 8) dX9_feed_90 (by decide) ?_
      refine vx_iload dX9_feed_92 rfl ?_
      refine vx_iconst (v := 4) dX9_feed_94 (by decide) ?_
      refine vx_irem dX9_feed_95 (by decide) ?_
      refine vx_eq (st2 := [.inl 3, .inl 8, .inl 24, .inl a, .inl (nI (len + 3)), vx_r 55]) rfl rfl (by rfl) ?_
      refine vx_imul dX9_feed_96 ?_
      refine vx_eq (st2 := [.inl 24, .inl 24, .inl a, .inl (nI (len + 3)), vx_r 55]) rfl rfl (by rfl) ?_
      refine vx_isub dX9_feed_97 ?_
      refine vx_eq (st2 := [.inl 0, .inl a, .inl (nI (len + 3)), vx_r 55]) rfl rfl (by rfl) ?_
      refine vx_ishr dX9_feed_98 ?_
      refine vx_sipush (v := 255) dX9_feed_99 (by decide) ?_
      refine vx_iand dX9_feed_102 ?_
      refine vx_iast (a := 55) (n := 300) (μ2 := (va_up (va_up μ 54 (upd (μ 54) 0 0)) 55 (upd (upd (upd (upd (μ 55) len ((a >>> (24 &&& 31)) &&& 255)) (len + 1) ((a >>> (16 &&& 31)) &&& 255)) (len + 2) ((a >>> (8 &&& 31)) &&& 255)) (len + 3) ((a >>> (0 &&& 31)) &&& 255)))) dX9_feed_103 (by decide) ly_55 (vp_in_nI (by omega) (by omega)) (by rw [nI_clamp (by omega)]; try exact vx_m1) ?_
      refine vx_iinc (v := 4) (ls2 := [(6, .inl 4), (7, .inl a), (0, vx_r 54), (1, .inl a), (2, .inl b), (3, .inl c), (4, .inl e), (5, .inl g)]) dX9_feed_104 rfl (by decide) (by decide) rfl ?_
      refine vx_goto (tgt := 20) dX9_feed_107 (by decide) ?_
      refine vx_iload dX9_feed_20 rfl ?_
      refine vx_bipush (v := 20) dX9_feed_22 (by decide) ?_
      refine vx_icmp_ge (tgt := 110) dX9_feed_24 (by decide) (fun h => absurd h (by decide)) (fun _ => ?_)
      refine vx_iload dX9_feed_27 rfl ?_
      refine vx_iconst (v := 4) dX9_feed_29 (by decide) ?_
      refine vx_icmp_ge (tgt := 37) dX9_feed_30 (by decide) (fun _ => ?_) (fun h => absurd h (by decide))
      refine vx_iload dX9_feed_37 rfl ?_
      refine vx_bipush (v := 8) dX9_feed_39 (by decide) ?_
      refine vx_icmp_ge (tgt := 48) dX9_feed_41 (by decide) (fun h => absurd h (by decide)) (fun _ => ?_)
      refine vx_iload_n dX9_feed_44 rfl ?_
      refine vx_goto (tgt := 73) dX9_feed_45 (by decide) ?_
      refine vx_istore (ls2 := [(7, .inl b), (6, .inl 4), (0, vx_r 54), (1, .inl a), (2, .inl b), (3, .inl c), (4, .inl e), (5, .inl g)]) dX9_feed_73 (by decide) rfl ?_
      refine vx_aload_n dX9_feed_75 rfl ?_
      refine vx_getR (ci := 9) (T := TX9) (n := 56) (j := 1) (a := 54) (r := 55) dX9_feed_76 rfl lay_X9 (by decide) wd_737 (by decide) ly_54 rfl ?_
      refine vx_aload_n dX9_feed_79 rfl ?_
      refine vx_getI (ci := 9) (T := TX9) (n := 56) (j := 2) (a := 54) (v := (nI len)) dX9_feed_80 rfl lay_X9 (by decide) wd_738 (by decide) ly_54 rfl hl ?_
      refine vx_iload dX9_feed_83 rfl ?_
      refine vx_iadd dX9_feed_85 ?_
      refine vx_eq (st2 := [.inl (nI (len + 4)), vx_r 55]) rfl rfl (by rw [show (4 : Int32) = nI 4 from rfl, nI_add]) ?_
      refine vx_iload dX9_feed_86 rfl ?_
      refine vx_bipush (v := 24) dX9_feed_88 (by decide) ?_
      refine vx_bipush (v := 8) dX9_feed_90 (by decide) ?_
      refine vx_iload dX9_feed_92 rfl ?_
      refine vx_iconst (v := 4) dX9_feed_94 (by decide) ?_
      refine vx_irem dX9_feed_95 (by decide) ?_
      refine vx_eq (st2 := [.inl 0, .inl 8, .inl 24, .inl b, .inl (nI (len + 4)), vx_r 55]) rfl rfl (by rfl) ?_
      refine vx_imul dX9_feed_96 ?_
      refine vx_eq (st2 := [.inl 0, .inl 24, .inl b, .inl (nI (len + 4)), vx_r 55]) rfl rfl (by rfl) ?_
      refine vx_isub dX9_feed_97 ?_
      refine vx_eq (st2 := [.inl 24, .inl b, .inl (nI (len + 4)), vx_r 55]) rfl rfl (by rfl) ?_
      refine vx_ishr dX9_feed_98 ?_
      refine vx_sipush (v := 255) dX9_feed_99 (by decide) ?_
      refine vx_iand dX9_feed_102 ?_
      refine vx_iast (a := 55) (n := 300) (μ2 := (va_up (va_up μ 54 (upd (μ 54) 0 0)) 55 (upd (upd (upd (upd (upd (μ 55) len ((a >>> (24 &&& 31)) &&& 255)) (len + 1) ((a >>> (16 &&& 31)) &&& 255)) (len + 2) ((a >>> (8 &&& 31)) &&& 255)) (len + 3) ((a >>> (0 &&& 31)) &&& 255)) (len + 4) ((b >>> (24 &&& 31)) &&& 255)))) dX9_feed_103 (by decide) ly_55 (vp_in_nI (by omega) (by omega)) (by rw [nI_clamp (by omega)]; try exact vx_m1) ?_
      refine vx_iinc (v := 5) (ls2 := [(6, .inl 5), (7, .inl b), (0, vx_r 54), (1, .inl a), (2, .inl b), (3, .inl c), (4, .inl e), (5, .inl g)]) dX9_feed_104 rfl (by decide) (by decide) rfl ?_
      refine vx_goto (tgt := 20) dX9_feed_107 (by decide) ?_
      refine vx_iload dX9_feed_20 rfl ?_
      refine vx_bipush (v := 20) dX9_feed_22 (by decide) ?_
      refine vx_icmp_ge (tgt := 110) dX9_feed_24 (by decide) (fun h => absurd h (by decide)) (fun _ => ?_)
      refine vx_iload dX9_feed_27 rfl ?_
      refine vx_iconst (v := 4) dX9_feed_29 (by decide) ?_
      refine vx_icmp_ge (tgt := 37) dX9_feed_30 (by decide) (fun _ => ?_) (fun h => absurd h (by decide))
      refine vx_iload dX9_feed_37 rfl ?_
      refine vx_bipush (v := 8) dX9_feed_39 (by decide) ?_
      refine vx_icmp_ge (tgt := 48) dX9_feed_41 (by decide) (fun h => absurd h (by decide)) (fun _ => ?_)
      refine vx_iload_n dX9_feed_44 rfl ?_
      refine vx_goto (tgt := 73) dX9_feed_45 (by decide) ?_
      refine vx_istore (ls2 := [(7, .inl b), (6, .inl 5), (0, vx_r 54), (1, .inl a), (2, .inl b), (3, .inl c), (4, .inl e), (5, .inl g)]) dX9_feed_73 (by decide) rfl ?_
      refine vx_aload_n dX9_feed_75 rfl ?_
      refine vx_getR (ci := 9) (T := TX9) (n := 56) (j := 1) (a := 54) (r := 55) dX9_feed_76 rfl lay_X9 (by decide) wd_737 (by decide) ly_54 rfl ?_
      refine vx_aload_n dX9_feed_79 rfl ?_
      refine vx_getI (ci := 9) (T := TX9) (n := 56) (j := 2) (a := 54) (v := (nI len)) dX9_feed_80 rfl lay_X9 (by decide) wd_738 (by decide) ly_54 rfl hl ?_
      refine vx_iload dX9_feed_83 rfl ?_
      refine vx_iadd dX9_feed_85 ?_
      refine vx_eq (st2 := [.inl (nI (len + 5)), vx_r 55]) rfl rfl (by rw [show (5 : Int32) = nI 5 from rfl, nI_add]) ?_
      refine vx_iload dX9_feed_86 rfl ?_
      refine vx_bipush (v := 24) dX9_feed_88 (by decide) ?_
      refine vx_bipush (v := 8) dX9_feed_90 (by decide) ?_
      refine vx_iload dX9_feed_92 rfl ?_
      refine vx_iconst (v := 4) dX9_feed_94 (by decide) ?_
      refine vx_irem dX9_feed_95 (by decide) ?_
      refine vx_eq (st2 := [.inl 1, .inl 8, .inl 24, .inl b, .inl (nI (len + 5)), vx_r 55]) rfl rfl (by rfl) ?_
      refine vx_imul dX9_feed_96 ?_
      refine vx_eq (st2 := [.inl 8, .inl 24, .inl b, .inl (nI (len + 5)), vx_r 55]) rfl rfl (by rfl) ?_
      refine vx_isub dX9_feed_97 ?_
      refine vx_eq (st2 := [.inl 16, .inl b, .inl (nI (len + 5)), vx_r 55]) rfl rfl (by rfl) ?_
      refine vx_ishr dX9_feed_98 ?_
      refine vx_sipush (v := 255) dX9_feed_99 (by decide) ?_
      refine vx_iand dX9_feed_102 ?_
      refine vx_iast (a := 55) (n := 300) (μ2 := (va_up (va_up μ 54 (upd (μ 54) 0 0)) 55 (upd (upd (upd (upd (upd (upd (μ 55) len ((a >>> (24 &&& 31)) &&& 255)) (len + 1) ((a >>> (16 &&& 31)) &&& 255)) (len + 2) ((a >>> (8 &&& 31)) &&& 255)) (len + 3) ((a >>> (0 &&& 31)) &&& 255)) (len + 4) ((b >>> (24 &&& 31)) &&& 255)) (len + 5) ((b >>> (16 &&& 31)) &&& 255)))) dX9_feed_103 (by decide) ly_55 (vp_in_nI (by omega) (by omega)) (by rw [nI_clamp (by omega)]; try exact vx_m1) ?_
      refine vx_iinc (v := 6) (ls2 := [(6, .inl 6), (7, .inl b), (0, vx_r 54), (1, .inl a), (2, .inl b), (3, .inl c), (4, .inl e), (5, .inl g)]) dX9_feed_104 rfl (by decide) (by decide) rfl ?_
      refine vx_goto (tgt := 20) dX9_feed_107 (by decide) ?_
      refine vx_iload dX9_feed_20 rfl ?_
      refine vx_bipush (v := 20) dX9_feed_22 (by decide) ?_
      refine vx_icmp_ge (tgt := 110) dX9_feed_24 (by decide) (fun h => absurd h (by decide)) (fun _ => ?_)
      refine vx_iload dX9_feed_27 rfl ?_
      refine vx_iconst (v := 4) dX9_feed_29 (by decide) ?_
      refine vx_icmp_ge (tgt := 37) dX9_feed_30 (by decide) (fun _ => ?_) (fun h => absurd h (by decide))
      refine vx_iload dX9_feed_37 rfl ?_
      refine vx_bipush (v := 8) dX9_feed_39 (by decide) ?_
      refine vx_icmp_ge (tgt := 48) dX9_feed_41 (by decide) (fun h => absurd h (by decide)) (fun _ => ?_)
      refine vx_iload_n dX9_feed_44 rfl ?_
      refine vx_goto (tgt := 73) dX9_feed_45 (by decide) ?_
      refine vx_istore (ls2 := [(7, .inl b), (6, .inl 6), (0, vx_r 54), (1, .inl a), (2, .inl b), (3, .inl c), (4, .inl e), (5, .inl g)]) dX9_feed_73 (by decide) rfl ?_
      refine vx_aload_n dX9_feed_75 rfl ?_
      refine vx_getR (ci := 9) (T := TX9) (n := 56) (j := 1) (a := 54) (r := 55) dX9_feed_76 rfl lay_X9 (by decide) wd_737 (by decide) ly_54 rfl ?_
      refine vx_aload_n dX9_feed_79 rfl ?_
      refine vx_getI (ci := 9) (T := TX9) (n := 56) (j := 2) (a := 54) (v := (nI len)) dX9_feed_80 rfl lay_X9 (by decide) wd_738 (by decide) ly_54 rfl hl ?_
      refine vx_iload dX9_feed_83 rfl ?_
      refine vx_iadd dX9_feed_85 ?_
      refine vx_eq (st2 := [.inl (nI (len + 6)), vx_r 55]) rfl rfl (by rw [show (6 : Int32) = nI 6 from rfl, nI_add]) ?_
      refine vx_iload dX9_feed_86 rfl ?_
      refine vx_bipush (v := 24) dX9_feed_88 (by decide) ?_
      refine vx_bipush (v := 8) dX9_feed_90 (by decide) ?_
      refine vx_iload dX9_feed_92 rfl ?_
      refine vx_iconst (v := 4) dX9_feed_94 (by decide) ?_
      refine vx_irem dX9_feed_95 (by decide) ?_
      refine vx_eq (st2 := [.inl 2, .inl 8, .inl 24, .inl b, .inl (nI (len + 6)), vx_r 55]) rfl rfl (by rfl) ?_
      refine vx_imul dX9_feed_96 ?_
      refine vx_eq (st2 := [.inl 16, .inl 24, .inl b, .inl (nI (len + 6)), vx_r 55]) rfl rfl (by rfl) ?_
      refine vx_isub dX9_feed_97 ?_
      refine vx_eq (st2 := [.inl 8, .inl b, .inl (nI (len + 6)), vx_r 55]) rfl rfl (by rfl) ?_
      refine vx_ishr dX9_feed_98 ?_
      refine vx_sipush (v := 255) dX9_feed_99 (by decide) ?_
      refine vx_iand dX9_feed_102 ?_
      refine vx_iast (a := 55) (n := 300) (μ2 := (va_up (va_up μ 54 (upd (μ 54) 0 0)) 55 (upd (upd (upd (upd (upd (upd (upd (μ 55) len ((a >>> (24 &&& 31)) &&& 255)) (len + 1) ((a >>> (16 &&& 31)) &&& 255)) (len + 2) ((a >>> (8 &&& 31)) &&& 255)) (len + 3) ((a >>> (0 &&& 31)) &&& 255)) (len + 4) ((b >>> (24 &&& 31)) &&& 255)) (len + 5) ((b >>> (16 &&& 31)) &&& 255)) (len + 6) ((b >>> (8 &&& 31)) &&& 255)))) dX9_feed_103 (by decide) ly_55 (vp_in_nI (by omega) (by omega)) (by rw [nI_clamp (by omega)]; try exact vx_m1) ?_
      refine vx_iinc (v := 7) (ls2 := [(6, .inl 7), (7, .inl b), (0, vx_r 54), (1, .inl a), (2, .inl b), (3, .inl c), (4, .inl e), (5, .inl g)]) dX9_feed_104 rfl (by decide) (by decide) rfl ?_
      refine vx_goto (tgt := 20) dX9_feed_107 (by decide) ?_
      refine vx_iload dX9_feed_20 rfl ?_
      refine vx_bipush (v := 20) dX9_feed_22 (by decide) ?_
      refine vx_icmp_ge (tgt := 110) dX9_feed_24 (by decide) (fun h => absurd h (by decide)) (fun _ => ?_)
      refine vx_iload dX9_feed_27 rfl ?_
      refine vx_iconst (v := 4) dX9_feed_29 (by decide) ?_
      refine vx_icmp_ge (tgt := 37) dX9_feed_30 (by decide) (fun _ => ?_) (fun h => absurd h (by decide))
      refine vx_iload dX9_feed_37 rfl ?_
      refine vx_bipush (v := 8) dX9_feed_39 (by decide) ?_
      refine vx_icmp_ge (tgt := 48) dX9_feed_41 (by decide) (fun h => absurd h (by decide)) (fun _ => ?_)
      refine vx_iload_n dX9_feed_44 rfl ?_
      refine vx_goto (tgt := 73) dX9_feed_45 (by decide) ?_
      refine vx_istore (ls2 := [(7, .inl b), (6, .inl 7), (0, vx_r 54), (1, .inl a), (2, .inl b), (3, .inl c), (4, .inl e), (5, .inl g)]) dX9_feed_73 (by decide) rfl ?_
      refine vx_aload_n dX9_feed_75 rfl ?_
      refine vx_getR (ci := 9) (T := TX9) (n := 56) (j := 1) (a := 54) (r := 55) dX9_feed_76 rfl lay_X9 (by decide) wd_737 (by decide) ly_54 rfl ?_
      refine vx_aload_n dX9_feed_79 rfl ?_
      refine vx_getI (ci := 9) (T := TX9) (n := 56) (j := 2) (a := 54) (v := (nI len)) dX9_feed_80 rfl lay_X9 (by decide) wd_738 (by decide) ly_54 rfl hl ?_
      refine vx_iload dX9_feed_83 rfl ?_
      refine vx_iadd dX9_feed_85 ?_
      refine vx_eq (st2 := [.inl (nI (len + 7)), vx_r 55]) rfl rfl (by rw [show (7 : Int32) = nI 7 from rfl, nI_add]) ?_
      refine vx_iload dX9_feed_86 rfl ?_
      refine vx_bipush (v := 24) dX9_feed_88 (by decide) ?_
      refine vx_bipush (v := 8) dX9_feed_90 (by decide) ?_
      refine vx_iload dX9_feed_92 rfl ?_
      refine vx_iconst (v := 4) dX9_feed_94 (by decide) ?_
      refine vx_irem dX9_feed_95 (by decide) ?_
      refine vx_eq (st2 := [.inl 3, .inl 8, .inl 24, .inl b, .inl (nI (len + 7)), vx_r 55]) rfl rfl (by rfl) ?_
      refine vx_imul dX9_feed_96 ?_
      refine vx_eq (st2 := [.inl 24, .inl 24, .inl b, .inl (nI (len + 7)), vx_r 55]) rfl rfl (by rfl) ?_
      refine vx_isub dX9_feed_97 ?_
      refine vx_eq (st2 := [.inl 0, .inl b, .inl (nI (len + 7)), vx_r 55]) rfl rfl (by rfl) ?_
      refine vx_ishr dX9_feed_98 ?_
      refine vx_sipush (v := 255) dX9_feed_99 (by decide) ?_
      refine vx_iand dX9_feed_102 ?_
      refine vx_iast (a := 55) (n := 300) (μ2 := (va_up (va_up μ 54 (upd (μ 54) 0 0)) 55 (upd (upd (upd (upd (upd (upd (upd (upd (μ 55) len ((a >>> (24 &&& 31)) &&& 255)) (len + 1) ((a >>> (16 &&& 31)) &&& 255)) (len + 2) ((a >>> (8 &&& 31)) &&& 255)) (len + 3) ((a >>> (0 &&& 31)) &&& 255)) (len + 4) ((b >>> (24 &&& 31)) &&& 255)) (len + 5) ((b >>> (16 &&& 31)) &&& 255)) (len + 6) ((b >>> (8 &&& 31)) &&& 255)) (len + 7) ((b >>> (0 &&& 31)) &&& 255)))) dX9_feed_103 (by decide) ly_55 (vp_in_nI (by omega) (by omega)) (by rw [nI_clamp (by omega)]; try exact vx_m1) ?_
      refine vx_iinc (v := 8) (ls2 := [(6, .inl 8), (7, .inl b), (0, vx_r 54), (1, .inl a), (2, .inl b), (3, .inl c), (4, .inl e), (5, .inl g)]) dX9_feed_104 rfl (by decide) (by decide) rfl ?_
      refine vx_goto (tgt := 20) dX9_feed_107 (by decide) ?_
      refine vx_iload dX9_feed_20 rfl ?_
      refine vx_bipush (v := 20) dX9_feed_22 (by decide) ?_
      refine vx_icmp_ge (tgt := 110) dX9_feed_24 (by decide) (fun h => absurd h (by decide)) (fun _ => ?_)
      refine vx_iload dX9_feed_27 rfl ?_
      refine vx_iconst (v := 4) dX9_feed_29 (by decide) ?_
      refine vx_icmp_ge (tgt := 37) dX9_feed_30 (by decide) (fun _ => ?_) (fun h => absurd h (by decide))
      refine vx_iload dX9_feed_37 rfl ?_
      refine vx_bipush (v := 8) dX9_feed_39 (by decide) ?_
      refine vx_icmp_ge (tgt := 48) dX9_feed_41 (by decide) (fun _ => ?_) (fun h => absurd h (by decide))
      refine vx_iload dX9_feed_48 rfl ?_
      refine vx_bipush (v := 12) dX9_feed_50 (by decide) ?_
      refine vx_icmp_ge (tgt := 59) dX9_feed_52 (by decide) (fun h => absurd h (by decide)) (fun _ => ?_)
      refine vx_iload_n dX9_feed_55 rfl ?_
      refine vx_goto (tgt := 73) dX9_feed_56 (by decide) ?_
      refine vx_istore (ls2 := [(7, .inl c), (6, .inl 8), (0, vx_r 54), (1, .inl a), (2, .inl b), (3, .inl c), (4, .inl e), (5, .inl g)]) dX9_feed_73 (by decide) rfl ?_
      refine vx_aload_n dX9_feed_75 rfl ?_
      refine vx_getR (ci := 9) (T := TX9) (n := 56) (j := 1) (a := 54) (r := 55) dX9_feed_76 rfl lay_X9 (by decide) wd_737 (by decide) ly_54 rfl ?_
      refine vx_aload_n dX9_feed_79 rfl ?_
      refine vx_getI (ci := 9) (T := TX9) (n := 56) (j := 2) (a := 54) (v := (nI len)) dX9_feed_80 rfl lay_X9 (by decide) wd_738 (by decide) ly_54 rfl hl ?_
      refine vx_iload dX9_feed_83 rfl ?_
      refine vx_iadd dX9_feed_85 ?_
      refine vx_eq (st2 := [.inl (nI (len + 8)), vx_r 55]) rfl rfl (by rw [show (8 : Int32) = nI 8 from rfl, nI_add]) ?_
      refine vx_iload dX9_feed_86 rfl ?_
      refine vx_bipush (v := 24) dX9_feed_88 (by decide) ?_
      refine vx_bipush (v := 8) dX9_feed_90 (by decide) ?_
      refine vx_iload dX9_feed_92 rfl ?_
      refine vx_iconst (v := 4) dX9_feed_94 (by decide) ?_
      refine vx_irem dX9_feed_95 (by decide) ?_
      refine vx_eq (st2 := [.inl 0, .inl 8, .inl 24, .inl c, .inl (nI (len + 8)), vx_r 55]) rfl rfl (by rfl) ?_
      refine vx_imul dX9_feed_96 ?_
      refine vx_eq (st2 := [.inl 0, .inl 24, .inl c, .inl (nI (len + 8)), vx_r 55]) rfl rfl (by rfl) ?_
      refine vx_isub dX9_feed_97 ?_
      refine vx_eq (st2 := [.inl 24, .inl c, .inl (nI (len + 8)), vx_r 55]) rfl rfl (by rfl) ?_
      refine vx_ishr dX9_feed_98 ?_
      refine vx_sipush (v := 255) dX9_feed_99 (by decide) ?_
      refine vx_iand dX9_feed_102 ?_
      refine vx_iast (a := 55) (n := 300) (μ2 := (va_up (va_up μ 54 (upd (μ 54) 0 0)) 55 (upd (upd (upd (upd (upd (upd (upd (upd (upd (μ 55) len ((a >>> (24 &&& 31)) &&& 255)) (len + 1) ((a >>> (16 &&& 31)) &&& 255)) (len + 2) ((a >>> (8 &&& 31)) &&& 255)) (len + 3) ((a >>> (0 &&& 31)) &&& 255)) (len + 4) ((b >>> (24 &&& 31)) &&& 255)) (len + 5) ((b >>> (16 &&& 31)) &&& 255)) (len + 6) ((b >>> (8 &&& 31)) &&& 255)) (len + 7) ((b >>> (0 &&& 31)) &&& 255)) (len + 8) ((c >>> (24 &&& 31)) &&& 255)))) dX9_feed_103 (by decide) ly_55 (vp_in_nI (by omega) (by omega)) (by rw [nI_clamp (by omega)]; try exact vx_m1) ?_
      refine vx_iinc (v := 9) (ls2 := [(6, .inl 9), (7, .inl c), (0, vx_r 54), (1, .inl a), (2, .inl b), (3, .inl c), (4, .inl e), (5, .inl g)]) dX9_feed_104 rfl (by decide) (by decide) rfl ?_
      refine vx_goto (tgt := 20) dX9_feed_107 (by decide) ?_
      refine vx_iload dX9_feed_20 rfl ?_
      refine vx_bipush (v := 20) dX9_feed_22 (by decide) ?_
      refine vx_icmp_ge (tgt := 110) dX9_feed_24 (by decide) (fun h => absurd h (by decide)) (fun _ => ?_)
      refine vx_iload dX9_feed_27 rfl ?_
      refine vx_iconst (v := 4) dX9_feed_29 (by decide) ?_
      refine vx_icmp_ge (tgt := 37) dX9_feed_30 (by decide) (fun _ => ?_) (fun h => absurd h (by decide))
      refine vx_iload dX9_feed_37 rfl ?_
      refine vx_bipush (v := 8) dX9_feed_39 (by decide) ?_
      refine vx_icmp_ge (tgt := 48) dX9_feed_41 (by decide) (fun _ => ?_) (fun h => absurd h (by decide))
      refine vx_iload dX9_feed_48 rfl ?_
      refine vx_bipush (v := 12) dX9_feed_50 (by decide) ?_
      refine vx_icmp_ge (tgt := 59) dX9_feed_52 (by decide) (fun h => absurd h (by decide)) (fun _ => ?_)
      refine vx_iload_n dX9_feed_55 rfl ?_
      refine vx_goto (tgt := 73) dX9_feed_56 (by decide) ?_
      refine vx_istore (ls2 := [(7, .inl c), (6, .inl 9), (0, vx_r 54), (1, .inl a), (2, .inl b), (3, .inl c), (4, .inl e), (5, .inl g)]) dX9_feed_73 (by decide) rfl ?_
      refine vx_aload_n dX9_feed_75 rfl ?_
      refine vx_getR (ci := 9) (T := TX9) (n := 56) (j := 1) (a := 54) (r := 55) dX9_feed_76 rfl lay_X9 (by decide) wd_737 (by decide) ly_54 rfl ?_
      refine vx_aload_n dX9_feed_79 rfl ?_
      refine vx_getI (ci := 9) (T := TX9) (n := 56) (j := 2) (a := 54) (v := (nI len)) dX9_feed_80 rfl lay_X9 (by decide) wd_738 (by decide) ly_54 rfl hl ?_
      refine vx_iload dX9_feed_83 rfl ?_
      refine vx_iadd dX9_feed_85 ?_
      refine vx_eq (st2 := [.inl (nI (len + 9)), vx_r 55]) rfl rfl (by rw [show (9 : Int32) = nI 9 from rfl, nI_add]) ?_
      refine vx_iload dX9_feed_86 rfl ?_
      refine vx_bipush (v := 24) dX9_feed_88 (by decide) ?_
      refine vx_bipush (v := 8) dX9_feed_90 (by decide) ?_
      refine vx_iload dX9_feed_92 rfl ?_
      refine vx_iconst (v := 4) dX9_feed_94 (by decide) ?_
      refine vx_irem dX9_feed_95 (by decide) ?_
      refine vx_eq (st2 := [.inl 1, .inl 8, .inl 24, .inl c, .inl (nI (len + 9)), vx_r 55]) rfl rfl (by rfl) ?_
      refine vx_imul dX9_feed_96 ?_
      refine vx_eq (st2 := [.inl 8, .inl 24, .inl c, .inl (nI (len + 9)), vx_r 55]) rfl rfl (by rfl) ?_
      refine vx_isub dX9_feed_97 ?_
      refine vx_eq (st2 := [.inl 16, .inl c, .inl (nI (len + 9)), vx_r 55]) rfl rfl (by rfl) ?_
      refine vx_ishr dX9_feed_98 ?_
      refine vx_sipush (v := 255) dX9_feed_99 (by decide) ?_
      refine vx_iand dX9_feed_102 ?_
      refine vx_iast (a := 55) (n := 300) (μ2 := (va_up (va_up μ 54 (upd (μ 54) 0 0)) 55 (upd (upd (upd (upd (upd (upd (upd (upd (upd (upd (μ 55) len ((a >>> (24 &&& 31)) &&& 255)) (len + 1) ((a >>> (16 &&& 31)) &&& 255)) (len + 2) ((a >>> (8 &&& 31)) &&& 255)) (len + 3) ((a >>> (0 &&& 31)) &&& 255)) (len + 4) ((b >>> (24 &&& 31)) &&& 255)) (len + 5) ((b >>> (16 &&& 31)) &&& 255)) (len + 6) ((b >>> (8 &&& 31)) &&& 255)) (len + 7) ((b >>> (0 &&& 31)) &&& 255)) (len + 8) ((c >>> (24 &&& 31)) &&& 255)) (len + 9) ((c >>> (16 &&& 31)) &&& 255)))) dX9_feed_103 (by decide) ly_55 (vp_in_nI (by omega) (by omega)) (by rw [nI_clamp (by omega)]; try exact vx_m1) ?_
      refine vx_iinc (v := 10) (ls2 := [(6, .inl 10), (7, .inl c), (0, vx_r 54), (1, .inl a), (2, .inl b), (3, .inl c), (4, .inl e), (5, .inl g)]) dX9_feed_104 rfl (by decide) (by decide) rfl ?_
      refine vx_goto (tgt := 20) dX9_feed_107 (by decide) ?_
      refine vx_iload dX9_feed_20 rfl ?_
      refine vx_bipush (v := 20) dX9_feed_22 (by decide) ?_
      refine vx_icmp_ge (tgt := 110) dX9_feed_24 (by decide) (fun h => absurd h (by decide)) (fun _ => ?_)
      refine vx_iload dX9_feed_27 rfl ?_
      refine vx_iconst (v := 4) dX9_feed_29 (by decide) ?_
      refine vx_icmp_ge (tgt := 37) dX9_feed_30 (by decide) (fun _ => ?_) (fun h => absurd h (by decide))
      refine vx_iload dX9_feed_37 rfl ?_
      refine vx_bipush (v := 8) dX9_feed_39 (by decide) ?_
      refine vx_icmp_ge (tgt := 48) dX9_feed_41 (by decide) (fun _ => ?_) (fun h => absurd h (by decide))
      refine vx_iload dX9_feed_48 rfl ?_
      refine vx_bipush (v := 12) dX9_feed_50 (by decide) ?_
      refine vx_icmp_ge (tgt := 59) dX9_feed_52 (by decide) (fun h => absurd h (by decide)) (fun _ => ?_)
      refine vx_iload_n dX9_feed_55 rfl ?_
      refine vx_goto (tgt := 73) dX9_feed_56 (by decide) ?_
      refine vx_istore (ls2 := [(7, .inl c), (6, .inl 10), (0, vx_r 54), (1, .inl a), (2, .inl b), (3, .inl c), (4, .inl e), (5, .inl g)]) dX9_feed_73 (by decide) rfl ?_
      refine vx_aload_n dX9_feed_75 rfl ?_
      refine vx_getR (ci := 9) (T := TX9) (n := 56) (j := 1) (a := 54) (r := 55) dX9_feed_76 rfl lay_X9 (by decide) wd_737 (by decide) ly_54 rfl ?_
      refine vx_aload_n dX9_feed_79 rfl ?_
      refine vx_getI (ci := 9) (T := TX9) (n := 56) (j := 2) (a := 54) (v := (nI len)) dX9_feed_80 rfl lay_X9 (by decide) wd_738 (by decide) ly_54 rfl hl ?_
      refine vx_iload dX9_feed_83 rfl ?_
      refine vx_iadd dX9_feed_85 ?_
      refine vx_eq (st2 := [.inl (nI (len + 10)), vx_r 55]) rfl rfl (by rw [show (10 : Int32) = nI 10 from rfl, nI_add]) ?_
      refine vx_iload dX9_feed_86 rfl ?_
      refine vx_bipush (v := 24) dX9_feed_88 (by decide) ?_
      refine vx_bipush (v := 8) dX9_feed_90 (by decide) ?_
      refine vx_iload dX9_feed_92 rfl ?_
      refine vx_iconst (v := 4) dX9_feed_94 (by decide) ?_
      refine vx_irem dX9_feed_95 (by decide) ?_
      refine vx_eq (st2 := [.inl 2, .inl 8, .inl 24, .inl c, .inl (nI (len + 10)), vx_r 55]) rfl rfl (by rfl) ?_
      refine vx_imul dX9_feed_96 ?_
      refine vx_eq (st2 := [.inl 16, .inl 24, .inl c, .inl (nI (len + 10)), vx_r 55]) rfl rfl (by rfl) ?_
      refine vx_isub dX9_feed_97 ?_
      refine vx_eq (st2 := [.inl 8, .inl c, .inl (nI (len + 10)), vx_r 55]) rfl rfl (by rfl) ?_
      refine vx_ishr dX9_feed_98 ?_
      refine vx_sipush (v := 255) dX9_feed_99 (by decide) ?_
      refine vx_iand dX9_feed_102 ?_
      refine vx_iast (a := 55) (n := 300) (μ2 := (va_up (va_up μ 54 (upd (μ 54) 0 0)) 55 (upd (upd (upd (upd (upd (upd (upd (upd (upd (upd (upd (μ 55) len ((a >>> (24 &&& 31)) &&& 255)) (len + 1) ((a >>> (16 &&& 31)) &&& 255)) (len + 2) ((a >>> (8 &&& 31)) &&& 255)) (len + 3) ((a >>> (0 &&& 31)) &&& 255)) (len + 4) ((b >>> (24 &&& 31)) &&& 255)) (len + 5) ((b >>> (16 &&& 31)) &&& 255)) (len + 6) ((b >>> (8 &&& 31)) &&& 255)) (len + 7) ((b >>> (0 &&& 31)) &&& 255)) (len + 8) ((c >>> (24 &&& 31)) &&& 255)) (len + 9) ((c >>> (16 &&& 31)) &&& 255)) (len + 10) ((c >>> (8 &&& 31)) &&& 255)))) dX9_feed_103 (by decide) ly_55 (vp_in_nI (by omega) (by omega)) (by rw [nI_clamp (by omega)]; try exact vx_m1) ?_
      refine vx_iinc (v := 11) (ls2 := [(6, .inl 11), (7, .inl c), (0, vx_r 54), (1, .inl a), (2, .inl b), (3, .inl c), (4, .inl e), (5, .inl g)]) dX9_feed_104 rfl (by decide) (by decide) rfl ?_
      refine vx_goto (tgt := 20) dX9_feed_107 (by decide) ?_
      refine vx_iload dX9_feed_20 rfl ?_
      refine vx_bipush (v := 20) dX9_feed_22 (by decide) ?_
      refine vx_icmp_ge (tgt := 110) dX9_feed_24 (by decide) (fun h => absurd h (by decide)) (fun _ => ?_)
      refine vx_iload dX9_feed_27 rfl ?_
      refine vx_iconst (v := 4) dX9_feed_29 (by decide) ?_
      refine vx_icmp_ge (tgt := 37) dX9_feed_30 (by decide) (fun _ => ?_) (fun h => absurd h (by decide))
      refine vx_iload dX9_feed_37 rfl ?_
      refine vx_bipush (v := 8) dX9_feed_39 (by decide) ?_
      refine vx_icmp_ge (tgt := 48) dX9_feed_41 (by decide) (fun _ => ?_) (fun h => absurd h (by decide))
      refine vx_iload dX9_feed_48 rfl ?_
      refine vx_bipush (v := 12) dX9_feed_50 (by decide) ?_
      refine vx_icmp_ge (tgt := 59) dX9_feed_52 (by decide) (fun h => absurd h (by decide)) (fun _ => ?_)
      refine vx_iload_n dX9_feed_55 rfl ?_
      refine vx_goto (tgt := 73) dX9_feed_56 (by decide) ?_
      refine vx_istore (ls2 := [(7, .inl c), (6, .inl 11), (0, vx_r 54), (1, .inl a), (2, .inl b), (3, .inl c), (4, .inl e), (5, .inl g)]) dX9_feed_73 (by decide) rfl ?_
      refine vx_aload_n dX9_feed_75 rfl ?_
      refine vx_getR (ci := 9) (T := TX9) (n := 56) (j := 1) (a := 54) (r := 55) dX9_feed_76 rfl lay_X9 (by decide) wd_737 (by decide) ly_54 rfl ?_
      refine vx_aload_n dX9_feed_79 rfl ?_
      refine vx_getI (ci := 9) (T := TX9) (n := 56) (j := 2) (a := 54) (v := (nI len)) dX9_feed_80 rfl lay_X9 (by decide) wd_738 (by decide) ly_54 rfl hl ?_
      refine vx_iload dX9_feed_83 rfl ?_
      refine vx_iadd dX9_feed_85 ?_
      refine vx_eq (st2 := [.inl (nI (len + 11)), vx_r 55]) rfl rfl (by rw [show (11 : Int32) = nI 11 from rfl, nI_add]) ?_
      refine vx_iload dX9_feed_86 rfl ?_
      refine vx_bipush (v := 24) dX9_feed_88 (by decide) ?_
      refine vx_bipush (v := 8) dX9_feed_90 (by decide) ?_
      refine vx_iload dX9_feed_92 rfl ?_
      refine vx_iconst (v := 4) dX9_feed_94 (by decide) ?_
      refine vx_irem dX9_feed_95 (by decide) ?_
      refine vx_eq (st2 := [.inl 3, .inl 8, .inl 24, .inl c, .inl (nI (len + 11)), vx_r 55]) rfl rfl (by rfl) ?_
      refine vx_imul dX9_feed_96 ?_
      refine vx_eq (st2 := [.inl 24, .inl 24, .inl c, .inl (nI (len + 11)), vx_r 55]) rfl rfl (by rfl) ?_
      refine vx_isub dX9_feed_97 ?_
      refine vx_eq (st2 := [.inl 0, .inl c, .inl (nI (len + 11)), vx_r 55]) rfl rfl (by rfl) ?_
      refine vx_ishr dX9_feed_98 ?_
      refine vx_sipush (v := 255) dX9_feed_99 (by decide) ?_
      refine vx_iand dX9_feed_102 ?_
      refine vx_iast (a := 55) (n := 300) (μ2 := (va_up (va_up μ 54 (upd (μ 54) 0 0)) 55 (upd (upd (upd (upd (upd (upd (upd (upd (upd (upd (upd (upd (μ 55) len ((a >>> (24 &&& 31)) &&& 255)) (len + 1) ((a >>> (16 &&& 31)) &&& 255)) (len + 2) ((a >>> (8 &&& 31)) &&& 255)) (len + 3) ((a >>> (0 &&& 31)) &&& 255)) (len + 4) ((b >>> (24 &&& 31)) &&& 255)) (len + 5) ((b >>> (16 &&& 31)) &&& 255)) (len + 6) ((b >>> (8 &&& 31)) &&& 255)) (len + 7) ((b >>> (0 &&& 31)) &&& 255)) (len + 8) ((c >>> (24 &&& 31)) &&& 255)) (len + 9) ((c >>> (16 &&& 31)) &&& 255)) (len + 10) ((c >>> (8 &&& 31)) &&& 255)) (len + 11) ((c >>> (0 &&& 31)) &&& 255)))) dX9_feed_103 (by decide) ly_55 (vp_in_nI (by omega) (by omega)) (by rw [nI_clamp (by omega)]; try exact vx_m1) ?_
      refine vx_iinc (v := 12) (ls2 := [(6, .inl 12), (7, .inl c), (0, vx_r 54), (1, .inl a), (2, .inl b), (3, .inl c), (4, .inl e), (5, .inl g)]) dX9_feed_104 rfl (by decide) (by decide) rfl ?_
      refine vx_goto (tgt := 20) dX9_feed_107 (by decide) ?_
      refine vx_iload dX9_feed_20 rfl ?_
      refine vx_bipush (v := 20) dX9_feed_22 (by decide) ?_
      refine vx_icmp_ge (tgt := 110) dX9_feed_24 (by decide) (fun h => absurd h (by decide)) (fun _ => ?_)
      refine vx_iload dX9_feed_27 rfl ?_
      refine vx_iconst (v := 4) dX9_feed_29 (by decide) ?_
      refine vx_icmp_ge (tgt := 37) dX9_feed_30 (by decide) (fun _ => ?_) (fun h => absurd h (by decide))
      refine vx_iload dX9_feed_37 rfl ?_
      refine vx_bipush (v := 8) dX9_feed_39 (by decide) ?_
      refine vx_icmp_ge (tgt := 48) dX9_feed_41 (by decide) (fun _ => ?_) (fun h => absurd h (by decide))
      refine vx_iload dX9_feed_48 rfl ?_
      refine vx_bipush (v := 12) dX9_feed_50 (by decide) ?_
      refine vx_icmp_ge (tgt := 59) dX9_feed_52 (by decide) (fun _ => ?_) (fun h => absurd h (by decide))
      refine vx_iload dX9_feed_59 rfl ?_
      refine vx_bipush (v := 16) dX9_feed_61 (by decide) ?_
      refine vx_icmp_ge (tgt := 71) dX9_feed_63 (by decide) (fun h => absurd h (by decide)) (fun _ => ?_)
      refine vx_iload dX9_feed_66 rfl ?_
      refine vx_goto (tgt := 73) dX9_feed_68 (by decide) ?_
      refine vx_istore (ls2 := [(7, .inl e), (6, .inl 12), (0, vx_r 54), (1, .inl a), (2, .inl b), (3, .inl c), (4, .inl e), (5, .inl g)]) dX9_feed_73 (by decide) rfl ?_
      refine vx_aload_n dX9_feed_75 rfl ?_
      refine vx_getR (ci := 9) (T := TX9) (n := 56) (j := 1) (a := 54) (r := 55) dX9_feed_76 rfl lay_X9 (by decide) wd_737 (by decide) ly_54 rfl ?_
      refine vx_aload_n dX9_feed_79 rfl ?_
      refine vx_getI (ci := 9) (T := TX9) (n := 56) (j := 2) (a := 54) (v := (nI len)) dX9_feed_80 rfl lay_X9 (by decide) wd_738 (by decide) ly_54 rfl hl ?_
      refine vx_iload dX9_feed_83 rfl ?_
      refine vx_iadd dX9_feed_85 ?_
      refine vx_eq (st2 := [.inl (nI (len + 12)), vx_r 55]) rfl rfl (by rw [show (12 : Int32) = nI 12 from rfl, nI_add]) ?_
      refine vx_iload dX9_feed_86 rfl ?_
      refine vx_bipush (v := 24) dX9_feed_88 (by decide) ?_
      refine vx_bipush (v := 8) dX9_feed_90 (by decide) ?_
      refine vx_iload dX9_feed_92 rfl ?_
      refine vx_iconst (v := 4) dX9_feed_94 (by decide) ?_
      refine vx_irem dX9_feed_95 (by decide) ?_
      refine vx_eq (st2 := [.inl 0, .inl 8, .inl 24, .inl e, .inl (nI (len + 12)), vx_r 55]) rfl rfl (by rfl) ?_
      refine vx_imul dX9_feed_96 ?_
      refine vx_eq (st2 := [.inl 0, .inl 24, .inl e, .inl (nI (len + 12)), vx_r 55]) rfl rfl (by rfl) ?_
      refine vx_isub dX9_feed_97 ?_
      refine vx_eq (st2 := [.inl 24, .inl e, .inl (nI (len + 12)), vx_r 55]) rfl rfl (by rfl) ?_
      refine vx_ishr dX9_feed_98 ?_
      refine vx_sipush (v := 255) dX9_feed_99 (by decide) ?_
      refine vx_iand dX9_feed_102 ?_
      refine vx_iast (a := 55) (n := 300) (μ2 := (va_up (va_up μ 54 (upd (μ 54) 0 0)) 55 (upd (upd (upd (upd (upd (upd (upd (upd (upd (upd (upd (upd (upd (μ 55) len ((a >>> (24 &&& 31)) &&& 255)) (len + 1) ((a >>> (16 &&& 31)) &&& 255)) (len + 2) ((a >>> (8 &&& 31)) &&& 255)) (len + 3) ((a >>> (0 &&& 31)) &&& 255)) (len + 4) ((b >>> (24 &&& 31)) &&& 255)) (len + 5) ((b >>> (16 &&& 31)) &&& 255)) (len + 6) ((b >>> (8 &&& 31)) &&& 255)) (len + 7) ((b >>> (0 &&& 31)) &&& 255)) (len + 8) ((c >>> (24 &&& 31)) &&& 255)) (len + 9) ((c >>> (16 &&& 31)) &&& 255)) (len + 10) ((c >>> (8 &&& 31)) &&& 255)) (len + 11) ((c >>> (0 &&& 31)) &&& 255)) (len + 12) ((e >>> (24 &&& 31)) &&& 255)))) dX9_feed_103 (by decide) ly_55 (vp_in_nI (by omega) (by omega)) (by rw [nI_clamp (by omega)]; try exact vx_m1) ?_
      refine vx_iinc (v := 13) (ls2 := [(6, .inl 13), (7, .inl e), (0, vx_r 54), (1, .inl a), (2, .inl b), (3, .inl c), (4, .inl e), (5, .inl g)]) dX9_feed_104 rfl (by decide) (by decide) rfl ?_
      refine vx_goto (tgt := 20) dX9_feed_107 (by decide) ?_
      refine vx_iload dX9_feed_20 rfl ?_
      refine vx_bipush (v := 20) dX9_feed_22 (by decide) ?_
      refine vx_icmp_ge (tgt := 110) dX9_feed_24 (by decide) (fun h => absurd h (by decide)) (fun _ => ?_)
      refine vx_iload dX9_feed_27 rfl ?_
      refine vx_iconst (v := 4) dX9_feed_29 (by decide) ?_
      refine vx_icmp_ge (tgt := 37) dX9_feed_30 (by decide) (fun _ => ?_) (fun h => absurd h (by decide))
      refine vx_iload dX9_feed_37 rfl ?_
      refine vx_bipush (v := 8) dX9_feed_39 (by decide) ?_
      refine vx_icmp_ge (tgt := 48) dX9_feed_41 (by decide) (fun _ => ?_) (fun h => absurd h (by decide))
      refine vx_iload dX9_feed_48 rfl ?_
      refine vx_bipush (v := 12) dX9_feed_50 (by decide) ?_
      refine vx_icmp_ge (tgt := 59) dX9_feed_52 (by decide) (fun _ => ?_) (fun h => absurd h (by decide))
      refine vx_iload dX9_feed_59 rfl ?_
      refine vx_bipush (v := 16) dX9_feed_61 (by decide) ?_
      refine vx_icmp_ge (tgt := 71) dX9_feed_63 (by decide) (fun h => absurd h (by decide)) (fun _ => ?_)
      refine vx_iload dX9_feed_66 rfl ?_
      refine vx_goto (tgt := 73) dX9_feed_68 (by decide) ?_
      refine vx_istore (ls2 := [(7, .inl e), (6, .inl 13), (0, vx_r 54), (1, .inl a), (2, .inl b), (3, .inl c), (4, .inl e), (5, .inl g)]) dX9_feed_73 (by decide) rfl ?_
      refine vx_aload_n dX9_feed_75 rfl ?_
      refine vx_getR (ci := 9) (T := TX9) (n := 56) (j := 1) (a := 54) (r := 55) dX9_feed_76 rfl lay_X9 (by decide) wd_737 (by decide) ly_54 rfl ?_
      refine vx_aload_n dX9_feed_79 rfl ?_
      refine vx_getI (ci := 9) (T := TX9) (n := 56) (j := 2) (a := 54) (v := (nI len)) dX9_feed_80 rfl lay_X9 (by decide) wd_738 (by decide) ly_54 rfl hl ?_
      refine vx_iload dX9_feed_83 rfl ?_
      refine vx_iadd dX9_feed_85 ?_
      refine vx_eq (st2 := [.inl (nI (len + 13)), vx_r 55]) rfl rfl (by rw [show (13 : Int32) = nI 13 from rfl, nI_add]) ?_
      refine vx_iload dX9_feed_86 rfl ?_
      refine vx_bipush (v := 24) dX9_feed_88 (by decide) ?_
      refine vx_bipush (v := 8) dX9_feed_90 (by decide) ?_
      refine vx_iload dX9_feed_92 rfl ?_
      refine vx_iconst (v := 4) dX9_feed_94 (by decide) ?_
      refine vx_irem dX9_feed_95 (by decide) ?_
      refine vx_eq (st2 := [.inl 1, .inl 8, .inl 24, .inl e, .inl (nI (len + 13)), vx_r 55]) rfl rfl (by rfl) ?_
      refine vx_imul dX9_feed_96 ?_
      refine vx_eq (st2 := [.inl 8, .inl 24, .inl e, .inl (nI (len + 13)), vx_r 55]) rfl rfl (by rfl) ?_
      refine vx_isub dX9_feed_97 ?_
      refine vx_eq (st2 := [.inl 16, .inl e, .inl (nI (len + 13)), vx_r 55]) rfl rfl (by rfl) ?_
      refine vx_ishr dX9_feed_98 ?_
      refine vx_sipush (v := 255) dX9_feed_99 (by decide) ?_
      refine vx_iand dX9_feed_102 ?_
      refine vx_iast (a := 55) (n := 300) (μ2 := (va_up (va_up μ 54 (upd (μ 54) 0 0)) 55 (upd (upd (upd (upd (upd (upd (upd (upd (upd (upd (upd (upd (upd (upd (μ 55) len ((a >>> (24 &&& 31)) &&& 255)) (len + 1) ((a >>> (16 &&& 31)) &&& 255)) (len + 2) ((a >>> (8 &&& 31)) &&& 255)) (len + 3) ((a >>> (0 &&& 31)) &&& 255)) (len + 4) ((b >>> (24 &&& 31)) &&& 255)) (len + 5) ((b >>> (16 &&& 31)) &&& 255)) (len + 6) ((b >>> (8 &&& 31)) &&& 255)) (len + 7) ((b >>> (0 &&& 31)) &&& 255)) (len + 8) ((c >>> (24 &&& 31)) &&& 255)) (len + 9) ((c >>> (16 &&& 31)) &&& 255)) (len + 10) ((c >>> (8 &&& 31)) &&& 255)) (len + 11) ((c >>> (0 &&& 31)) &&& 255)) (len + 12) ((e >>> (24 &&& 31)) &&& 255)) (len + 13) ((e >>> (16 &&& 31)) &&& 255)))) dX9_feed_103 (by decide) ly_55 (vp_in_nI (by omega) (by omega)) (by rw [nI_clamp (by omega)]; try exact vx_m1) ?_
      refine vx_iinc (v := 14) (ls2 := [(6, .inl 14), (7, .inl e), (0, vx_r 54), (1, .inl a), (2, .inl b), (3, .inl c), (4, .inl e), (5, .inl g)]) dX9_feed_104 rfl (by decide) (by decide) rfl ?_
      refine vx_goto (tgt := 20) dX9_feed_107 (by decide) ?_
      refine vx_iload dX9_feed_20 rfl ?_
      refine vx_bipush (v := 20) dX9_feed_22 (by decide) ?_
      refine vx_icmp_ge (tgt := 110) dX9_feed_24 (by decide) (fun h => absurd h (by decide)) (fun _ => ?_)
      refine vx_iload dX9_feed_27 rfl ?_
      refine vx_iconst (v := 4) dX9_feed_29 (by decide) ?_
      refine vx_icmp_ge (tgt := 37) dX9_feed_30 (by decide) (fun _ => ?_) (fun h => absurd h (by decide))
      refine vx_iload dX9_feed_37 rfl ?_
      refine vx_bipush (v := 8) dX9_feed_39 (by decide) ?_
      refine vx_icmp_ge (tgt := 48) dX9_feed_41 (by decide) (fun _ => ?_) (fun h => absurd h (by decide))
      refine vx_iload dX9_feed_48 rfl ?_
      refine vx_bipush (v := 12) dX9_feed_50 (by decide) ?_
      refine vx_icmp_ge (tgt := 59) dX9_feed_52 (by decide) (fun _ => ?_) (fun h => absurd h (by decide))
      refine vx_iload dX9_feed_59 rfl ?_
      refine vx_bipush (v := 16) dX9_feed_61 (by decide) ?_
      refine vx_icmp_ge (tgt := 71) dX9_feed_63 (by decide) (fun h => absurd h (by decide)) (fun _ => ?_)
      refine vx_iload dX9_feed_66 rfl ?_
      refine vx_goto (tgt := 73) dX9_feed_68 (by decide) ?_
      refine vx_istore (ls2 := [(7, .inl e), (6, .inl 14), (0, vx_r 54), (1, .inl a), (2, .inl b), (3, .inl c), (4, .inl e), (5, .inl g)]) dX9_feed_73 (by decide) rfl ?_
      refine vx_aload_n dX9_feed_75 rfl ?_
      refine vx_getR (ci := 9) (T := TX9) (n := 56) (j := 1) (a := 54) (r := 55) dX9_feed_76 rfl lay_X9 (by decide) wd_737 (by decide) ly_54 rfl ?_
      refine vx_aload_n dX9_feed_79 rfl ?_
      refine vx_getI (ci := 9) (T := TX9) (n := 56) (j := 2) (a := 54) (v := (nI len)) dX9_feed_80 rfl lay_X9 (by decide) wd_738 (by decide) ly_54 rfl hl ?_
      refine vx_iload dX9_feed_83 rfl ?_
      refine vx_iadd dX9_feed_85 ?_
      refine vx_eq (st2 := [.inl (nI (len + 14)), vx_r 55]) rfl rfl (by rw [show (14 : Int32) = nI 14 from rfl, nI_add]) ?_
      refine vx_iload dX9_feed_86 rfl ?_
      refine vx_bipush (v := 24) dX9_feed_88 (by decide) ?_
      refine vx_bipush (v := 8) dX9_feed_90 (by decide) ?_
      refine vx_iload dX9_feed_92 rfl ?_
      refine vx_iconst (v := 4) dX9_feed_94 (by decide) ?_
      refine vx_irem dX9_feed_95 (by decide) ?_
      refine vx_eq (st2 := [.inl 2, .inl 8, .inl 24, .inl e, .inl (nI (len + 14)), vx_r 55]) rfl rfl (by rfl) ?_
      refine vx_imul dX9_feed_96 ?_
      refine vx_eq (st2 := [.inl 16, .inl 24, .inl e, .inl (nI (len + 14)), vx_r 55]) rfl rfl (by rfl) ?_
      refine vx_isub dX9_feed_97 ?_
      refine vx_eq (st2 := [.inl 8, .inl e, .inl (nI (len + 14)), vx_r 55]) rfl rfl (by rfl) ?_
      refine vx_ishr dX9_feed_98 ?_
      refine vx_sipush (v := 255) dX9_feed_99 (by decide) ?_
      refine vx_iand dX9_feed_102 ?_
      refine vx_iast (a := 55) (n := 300) (μ2 := (va_up (va_up μ 54 (upd (μ 54) 0 0)) 55 (upd (upd (upd (upd (upd (upd (upd (upd (upd (upd (upd (upd (upd (upd (upd (μ 55) len ((a >>> (24 &&& 31)) &&& 255)) (len + 1) ((a >>> (16 &&& 31)) &&& 255)) (len + 2) ((a >>> (8 &&& 31)) &&& 255)) (len + 3) ((a >>> (0 &&& 31)) &&& 255)) (len + 4) ((b >>> (24 &&& 31)) &&& 255)) (len + 5) ((b >>> (16 &&& 31)) &&& 255)) (len + 6) ((b >>> (8 &&& 31)) &&& 255)) (len + 7) ((b >>> (0 &&& 31)) &&& 255)) (len + 8) ((c >>> (24 &&& 31)) &&& 255)) (len + 9) ((c >>> (16 &&& 31)) &&& 255)) (len + 10) ((c >>> (8 &&& 31)) &&& 255)) (len + 11) ((c >>> (0 &&& 31)) &&& 255)) (len + 12) ((e >>> (24 &&& 31)) &&& 255)) (len + 13) ((e >>> (16 &&& 31)) &&& 255)) (len + 14) ((e >>> (8 &&& 31)) &&& 255)))) dX9_feed_103 (by decide) ly_55 (vp_in_nI (by omega) (by omega)) (by rw [nI_clamp (by omega)]; try exact vx_m1) ?_
      refine vx_iinc (v := 15) (ls2 := [(6, .inl 15), (7, .inl e), (0, vx_r 54), (1, .inl a), (2, .inl b), (3, .inl c), (4, .inl e), (5, .inl g)]) dX9_feed_104 rfl (by decide) (by decide) rfl ?_
      refine vx_goto (tgt := 20) dX9_feed_107 (by decide) ?_
      refine vx_iload dX9_feed_20 rfl ?_
      refine vx_bipush (v := 20) dX9_feed_22 (by decide) ?_
      refine vx_icmp_ge (tgt := 110) dX9_feed_24 (by decide) (fun h => absurd h (by decide)) (fun _ => ?_)
      refine vx_iload dX9_feed_27 rfl ?_
      refine vx_iconst (v := 4) dX9_feed_29 (by decide) ?_
      refine vx_icmp_ge (tgt := 37) dX9_feed_30 (by decide) (fun _ => ?_) (fun h => absurd h (by decide))
      refine vx_iload dX9_feed_37 rfl ?_
      refine vx_bipush (v := 8) dX9_feed_39 (by decide) ?_
      refine vx_icmp_ge (tgt := 48) dX9_feed_41 (by decide) (fun _ => ?_) (fun h => absurd h (by decide))
      refine vx_iload dX9_feed_48 rfl ?_
      refine vx_bipush (v := 12) dX9_feed_50 (by decide) ?_
      refine vx_icmp_ge (tgt := 59) dX9_feed_52 (by decide) (fun _ => ?_) (fun h => absurd h (by decide))
      refine vx_iload dX9_feed_59 rfl ?_
      refine vx_bipush (v := 16) dX9_feed_61 (by decide) ?_
      refine vx_icmp_ge (tgt := 71) dX9_feed_63 (by decide) (fun h => absurd h (by decide)) (fun _ => ?_)
      refine vx_iload dX9_feed_66 rfl ?_
      refine vx_goto (tgt := 73) dX9_feed_68 (by decide) ?_
      refine vx_istore (ls2 := [(7, .inl e), (6, .inl 15), (0, vx_r 54), (1, .inl a), (2, .inl b), (3, .inl c), (4, .inl e), (5, .inl g)]) dX9_feed_73 (by decide) rfl ?_
      refine vx_aload_n dX9_feed_75 rfl ?_
      refine vx_getR (ci := 9) (T := TX9) (n := 56) (j := 1) (a := 54) (r := 55) dX9_feed_76 rfl lay_X9 (by decide) wd_737 (by decide) ly_54 rfl ?_
      refine vx_aload_n dX9_feed_79 rfl ?_
      refine vx_getI (ci := 9) (T := TX9) (n := 56) (j := 2) (a := 54) (v := (nI len)) dX9_feed_80 rfl lay_X9 (by decide) wd_738 (by decide) ly_54 rfl hl ?_
      refine vx_iload dX9_feed_83 rfl ?_
      refine vx_iadd dX9_feed_85 ?_
      refine vx_eq (st2 := [.inl (nI (len + 15)), vx_r 55]) rfl rfl (by rw [show (15 : Int32) = nI 15 from rfl, nI_add]) ?_
      refine vx_iload dX9_feed_86 rfl ?_
      refine vx_bipush (v := 24) dX9_feed_88 (by decide) ?_
      refine vx_bipush (v := 8) dX9_feed_90 (by decide) ?_
      refine vx_iload dX9_feed_92 rfl ?_
      refine vx_iconst (v := 4) dX9_feed_94 (by decide) ?_
      refine vx_irem dX9_feed_95 (by decide) ?_
      refine vx_eq (st2 := [.inl 3, .inl 8, .inl 24, .inl e, .inl (nI (len + 15)), vx_r 55]) rfl rfl (by rfl) ?_
      refine vx_imul dX9_feed_96 ?_
      refine vx_eq (st2 := [.inl 24, .inl 24, .inl e, .inl (nI (len + 15)), vx_r 55]) rfl rfl (by rfl) ?_
      refine vx_isub dX9_feed_97 ?_
      refine vx_eq (st2 := [.inl 0, .inl e, .inl (nI (len + 15)), vx_r 55]) rfl rfl (by rfl) ?_
      refine vx_ishr dX9_feed_98 ?_
      refine vx_sipush (v := 255) dX9_feed_99 (by decide) ?_
      refine vx_iand dX9_feed_102 ?_
      refine vx_iast (a := 55) (n := 300) (μ2 := (va_up (va_up μ 54 (upd (μ 54) 0 0)) 55 (upd (upd (upd (upd (upd (upd (upd (upd (upd (upd (upd (upd (upd (upd (upd (upd (μ 55) len ((a >>> (24 &&& 31)) &&& 255)) (len + 1) ((a >>> (16 &&& 31)) &&& 255)) (len + 2) ((a >>> (8 &&& 31)) &&& 255)) (len + 3) ((a >>> (0 &&& 31)) &&& 255)) (len + 4) ((b >>> (24 &&& 31)) &&& 255)) (len + 5) ((b >>> (16 &&& 31)) &&& 255)) (len + 6) ((b >>> (8 &&& 31)) &&& 255)) (len + 7) ((b >>> (0 &&& 31)) &&& 255)) (len + 8) ((c >>> (24 &&& 31)) &&& 255)) (len + 9) ((c >>> (16 &&& 31)) &&& 255)) (len + 10) ((c >>> (8 &&& 31)) &&& 255)) (len + 11) ((c >>> (0 &&& 31)) &&& 255)) (len + 12) ((e >>> (24 &&& 31)) &&& 255)) (len + 13) ((e >>> (16 &&& 31)) &&& 255)) (len + 14) ((e >>> (8 &&& 31)) &&& 255)) (len + 15) ((e >>> (0 &&& 31)) &&& 255)))) dX9_feed_103 (by decide) ly_55 (vp_in_nI (by omega) (by omega)) (by rw [nI_clamp (by omega)]; try exact vx_m1) ?_
      refine vx_iinc (v := 16) (ls2 := [(6, .inl 16), (7, .inl e), (0, vx_r 54), (1, .inl a), (2, .inl b), (3, .inl c), (4, .inl e), (5, .inl g)]) dX9_feed_104 rfl (by decide) (by decide) rfl ?_
      refine vx_goto (tgt := 20) dX9_feed_107 (by decide) ?_
      refine vx_iload dX9_feed_20 rfl ?_
      refine vx_bipush (v := 20) dX9_feed_22 (by decide) ?_
      refine vx_icmp_ge (tgt := 110) dX9_feed_24 (by decide) (fun h => absurd h (by decide)) (fun _ => ?_)
      refine vx_iload dX9_feed_27 rfl ?_
      refine vx_iconst (v := 4) dX9_feed_29 (by decide) ?_
      refine vx_icmp_ge (tgt := 37) dX9_feed_30 (by decide) (fun _ => ?_) (fun h => absurd h (by decide))
      refine vx_iload dX9_feed_37 rfl ?_
      refine vx_bipush (v := 8) dX9_feed_39 (by decide) ?_
      refine vx_icmp_ge (tgt := 48) dX9_feed_41 (by decide) (fun _ => ?_) (fun h => absurd h (by decide))
      refine vx_iload dX9_feed_48 rfl ?_
      refine vx_bipush (v := 12) dX9_feed_50 (by decide) ?_
      refine vx_icmp_ge (tgt := 59) dX9_feed_52 (by decide) (fun _ => ?_) (fun h => absurd h (by decide))
      refine vx_iload dX9_feed_59 rfl ?_
      refine vx_bipush (v := 16) dX9_feed_61 (by decide) ?_
      refine vx_icmp_ge (tgt := 71) dX9_feed_63 (by decide) (fun _ => ?_) (fun h => absurd h (by decide))
      refine vx_iload dX9_feed_71 rfl ?_
      refine vx_istore (ls2 := [(7, .inl g), (6, .inl 16), (0, vx_r 54), (1, .inl a), (2, .inl b), (3, .inl c), (4, .inl e), (5, .inl g)]) dX9_feed_73 (by decide) rfl ?_
      refine vx_aload_n dX9_feed_75 rfl ?_
      refine vx_getR (ci := 9) (T := TX9) (n := 56) (j := 1) (a := 54) (r := 55) dX9_feed_76 rfl lay_X9 (by decide) wd_737 (by decide) ly_54 rfl ?_
      refine vx_aload_n dX9_feed_79 rfl ?_
      refine vx_getI (ci := 9) (T := TX9) (n := 56) (j := 2) (a := 54) (v := (nI len)) dX9_feed_80 rfl lay_X9 (by decide) wd_738 (by decide) ly_54 rfl hl ?_
      refine vx_iload dX9_feed_83 rfl ?_
      refine vx_iadd dX9_feed_85 ?_
      refine vx_eq (st2 := [.inl (nI (len + 16)), vx_r 55]) rfl rfl (by rw [show (16 : Int32) = nI 16 from rfl, nI_add]) ?_
      refine vx_iload dX9_feed_86 rfl ?_
      refine vx_bipush (v := 24) dX9_feed_88 (by decide) ?_
      refine vx_bipush (v := 8) dX9_feed_90 (by decide) ?_
      refine vx_iload dX9_feed_92 rfl ?_
      refine vx_iconst (v := 4) dX9_feed_94 (by decide) ?_
      refine vx_irem dX9_feed_95 (by decide) ?_
      refine vx_eq (st2 := [.inl 0, .inl 8, .inl 24, .inl g, .inl (nI (len + 16)), vx_r 55]) rfl rfl (by rfl) ?_
      refine vx_imul dX9_feed_96 ?_
      refine vx_eq (st2 := [.inl 0, .inl 24, .inl g, .inl (nI (len + 16)), vx_r 55]) rfl rfl (by rfl) ?_
      refine vx_isub dX9_feed_97 ?_
      refine vx_eq (st2 := [.inl 24, .inl g, .inl (nI (len + 16)), vx_r 55]) rfl rfl (by rfl) ?_
      refine vx_ishr dX9_feed_98 ?_
      refine vx_sipush (v := 255) dX9_feed_99 (by decide) ?_
      refine vx_iand dX9_feed_102 ?_
      refine vx_iast (a := 55) (n := 300) (μ2 := (va_up (va_up μ 54 (upd (μ 54) 0 0)) 55 (upd (upd (upd (upd (upd (upd (upd (upd (upd (upd (upd (upd (upd (upd (upd (upd (upd (μ 55) len ((a >>> (24 &&& 31)) &&& 255)) (len + 1) ((a >>> (16 &&& 31)) &&& 255)) (len + 2) ((a >>> (8 &&& 31)) &&& 255)) (len + 3) ((a >>> (0 &&& 31)) &&& 255)) (len + 4) ((b >>> (24 &&& 31)) &&& 255)) (len + 5) ((b >>> (16 &&& 31)) &&& 255)) (len + 6) ((b >>> (8 &&& 31)) &&& 255)) (len + 7) ((b >>> (0 &&& 31)) &&& 255)) (len + 8) ((c >>> (24 &&& 31)) &&& 255)) (len + 9) ((c >>> (16 &&& 31)) &&& 255)) (len + 10) ((c >>> (8 &&& 31)) &&& 255)) (len + 11) ((c >>> (0 &&& 31)) &&& 255)) (len + 12) ((e >>> (24 &&& 31)) &&& 255)) (len + 13) ((e >>> (16 &&& 31)) &&& 255)) (len + 14) ((e >>> (8 &&& 31)) &&& 255)) (len + 15) ((e >>> (0 &&& 31)) &&& 255)) (len + 16) ((g >>> (24 &&& 31)) &&& 255)))) dX9_feed_103 (by decide) ly_55 (vp_in_nI (by omega) (by omega)) (by rw [nI_clamp (by omega)]; try exact vx_m1) ?_
      refine vx_iinc (v := 17) (ls2 := [(6, .inl 17), (7, .inl g), (0, vx_r 54), (1, .inl a), (2, .inl b), (3, .inl c), (4, .inl e), (5, .inl g)]) dX9_feed_104 rfl (by decide) (by decide) rfl ?_
      refine vx_goto (tgt := 20) dX9_feed_107 (by decide) ?_
      refine vx_iload dX9_feed_20 rfl ?_
      refine vx_bipush (v := 20) dX9_feed_22 (by decide) ?_
      refine vx_icmp_ge (tgt := 110) dX9_feed_24 (by decide) (fun h => absurd h (by decide)) (fun _ => ?_)
      refine vx_iload dX9_feed_27 rfl ?_
      refine vx_iconst (v := 4) dX9_feed_29 (by decide) ?_
      refine vx_icmp_ge (tgt := 37) dX9_feed_30 (by decide) (fun _ => ?_) (fun h => absurd h (by decide))
      refine vx_iload dX9_feed_37 rfl ?_
      refine vx_bipush (v := 8) dX9_feed_39 (by decide) ?_
      refine vx_icmp_ge (tgt := 48) dX9_feed_41 (by decide) (fun _ => ?_) (fun h => absurd h (by decide))
      refine vx_iload dX9_feed_48 rfl ?_
      refine vx_bipush (v := 12) dX9_feed_50 (by decide) ?_
      refine vx_icmp_ge (tgt := 59) dX9_feed_52 (by decide) (fun _ => ?_) (fun h => absurd h (by decide))
      refine vx_iload dX9_feed_59 rfl ?_
      refine vx_bipush (v := 16) dX9_feed_61 (by decide) ?_
      refine vx_icmp_ge (tgt := 71) dX9_feed_63 (by decide) (fun _ => ?_) (fun h => absurd h (by decide))
      refine vx_iload dX9_feed_71 rfl ?_
      refine vx_istore (ls2 := [(7, .inl g), (6, .inl 17), (0, vx_r 54), (1, .inl a), (2, .inl b), (3, .inl c), (4, .inl e), (5, .inl g)]) dX9_feed_73 (by decide) rfl ?_
      refine vx_aload_n dX9_feed_75 rfl ?_
      refine vx_getR (ci := 9) (T := TX9) (n := 56) (j := 1) (a := 54) (r := 55) dX9_feed_76 rfl lay_X9 (by decide) wd_737 (by decide) ly_54 rfl ?_
      refine vx_aload_n dX9_feed_79 rfl ?_
      refine vx_getI (ci := 9) (T := TX9) (n := 56) (j := 2) (a := 54) (v := (nI len)) dX9_feed_80 rfl lay_X9 (by decide) wd_738 (by decide) ly_54 rfl hl ?_
      refine vx_iload dX9_feed_83 rfl ?_
      refine vx_iadd dX9_feed_85 ?_
      refine vx_eq (st2 := [.inl (nI (len + 17)), vx_r 55]) rfl rfl (by rw [show (17 : Int32) = nI 17 from rfl, nI_add]) ?_
      refine vx_iload dX9_feed_86 rfl ?_
      refine vx_bipush (v := 24) dX9_feed_88 (by decide) ?_
      refine vx_bipush (v := 8) dX9_feed_90 (by decide) ?_
      refine vx_iload dX9_feed_92 rfl ?_
      refine vx_iconst (v := 4) dX9_feed_94 (by decide) ?_
      refine vx_irem dX9_feed_95 (by decide) ?_
      refine vx_eq (st2 := [.inl 1, .inl 8, .inl 24, .inl g, .inl (nI (len + 17)), vx_r 55]) rfl rfl (by rfl) ?_
      refine vx_imul dX9_feed_96 ?_
      refine vx_eq (st2 := [.inl 8, .inl 24, .inl g, .inl (nI (len + 17)), vx_r 55]) rfl rfl (by rfl) ?_
      refine vx_isub dX9_feed_97 ?_
      refine vx_eq (st2 := [.inl 16, .inl g, .inl (nI (len + 17)), vx_r 55]) rfl rfl (by rfl) ?_
      refine vx_ishr dX9_feed_98 ?_
      refine vx_sipush (v := 255) dX9_feed_99 (by decide) ?_
      refine vx_iand dX9_feed_102 ?_
      refine vx_iast (a := 55) (n := 300) (μ2 := (va_up (va_up μ 54 (upd (μ 54) 0 0)) 55 (upd (upd (upd (upd (upd (upd (upd (upd (upd (upd (upd (upd (upd (upd (upd (upd (upd (upd (μ 55) len ((a >>> (24 &&& 31)) &&& 255)) (len + 1) ((a >>> (16 &&& 31)) &&& 255)) (len + 2) ((a >>> (8 &&& 31)) &&& 255)) (len + 3) ((a >>> (0 &&& 31)) &&& 255)) (len + 4) ((b >>> (24 &&& 31)) &&& 255)) (len + 5) ((b >>> (16 &&& 31)) &&& 255)) (len + 6) ((b >>> (8 &&& 31)) &&& 255)) (len + 7) ((b >>> (0 &&& 31)) &&& 255)) (len + 8) ((c >>> (24 &&& 31)) &&& 255)) (len + 9) ((c >>> (16 &&& 31)) &&& 255)) (len + 10) ((c >>> (8 &&& 31)) &&& 255)) (len + 11) ((c >>> (0 &&& 31)) &&& 255)) (len + 12) ((e >>> (24 &&& 31)) &&& 255)) (len + 13) ((e >>> (16 &&& 31)) &&& 255)) (len + 14) ((e >>> (8 &&& 31)) &&& 255)) (len + 15) ((e >>> (0 &&& 31)) &&& 255)) (len + 16) ((g >>> (24 &&& 31)) &&& 255)) (len + 17) ((g >>> (16 &&& 31)) &&& 255)))) dX9_feed_103 (by decide) ly_55 (vp_in_nI (by omega) (by omega)) (by rw [nI_clamp (by omega)]; try exact vx_m1) ?_
      refine vx_iinc (v := 18) (ls2 := [(6, .inl 18), (7, .inl g), (0, vx_r 54), (1, .inl a), (2, .inl b), (3, .inl c), (4, .inl e), (5, .inl g)]) dX9_feed_104 rfl (by decide) (by decide) rfl ?_
      refine vx_goto (tgt := 20) dX9_feed_107 (by decide) ?_
      refine vx_iload dX9_feed_20 rfl ?_
      refine vx_bipush (v := 20) dX9_feed_22 (by decide) ?_
      refine vx_icmp_ge (tgt := 110) dX9_feed_24 (by decide) (fun h => absurd h (by decide)) (fun _ => ?_)
      refine vx_iload dX9_feed_27 rfl ?_
      refine vx_iconst (v := 4) dX9_feed_29 (by decide) ?_
      refine vx_icmp_ge (tgt := 37) dX9_feed_30 (by decide) (fun _ => ?_) (fun h => absurd h (by decide))
      refine vx_iload dX9_feed_37 rfl ?_
      refine vx_bipush (v := 8) dX9_feed_39 (by decide) ?_
      refine vx_icmp_ge (tgt := 48) dX9_feed_41 (by decide) (fun _ => ?_) (fun h => absurd h (by decide))
      refine vx_iload dX9_feed_48 rfl ?_
      refine vx_bipush (v := 12) dX9_feed_50 (by decide) ?_
      refine vx_icmp_ge (tgt := 59) dX9_feed_52 (by decide) (fun _ => ?_) (fun h => absurd h (by decide))
      refine vx_iload dX9_feed_59 rfl ?_
      refine vx_bipush (v := 16) dX9_feed_61 (by decide) ?_
      refine vx_icmp_ge (tgt := 71) dX9_feed_63 (by decide) (fun _ => ?_) (fun h => absurd h (by decide))
      refine vx_iload dX9_feed_71 rfl ?_
      refine vx_istore (ls2 := [(7, .inl g), (6, .inl 18), (0, vx_r 54), (1, .inl a), (2, .inl b), (3, .inl c), (4, .inl e), (5, .inl g)]) dX9_feed_73 (by decide) rfl ?_
      refine vx_aload_n dX9_feed_75 rfl ?_
      refine vx_getR (ci := 9) (T := TX9) (n := 56) (j := 1) (a := 54) (r := 55) dX9_feed_76 rfl lay_X9 (by decide) wd_737 (by decide) ly_54 rfl ?_
      refine vx_aload_n dX9_feed_79 rfl ?_
      refine vx_getI (ci := 9) (T := TX9) (n := 56) (j := 2) (a := 54) (v := (nI len)) dX9_feed_80 rfl lay_X9 (by decide) wd_738 (by decide) ly_54 rfl hl ?_
      refine vx_iload dX9_feed_83 rfl ?_
      refine vx_iadd dX9_feed_85 ?_
      refine vx_eq (st2 := [.inl (nI (len + 18)), vx_r 55]) rfl rfl (by rw [show (18 : Int32) = nI 18 from rfl, nI_add]) ?_
      refine vx_iload dX9_feed_86 rfl ?_
      refine vx_bipush (v := 24) dX9_feed_88 (by decide) ?_
      refine vx_bipush (v := 8) dX9_feed_90 (by decide) ?_
      refine vx_iload dX9_feed_92 rfl ?_
      refine vx_iconst (v := 4) dX9_feed_94 (by decide) ?_
      refine vx_irem dX9_feed_95 (by decide) ?_
      refine vx_eq (st2 := [.inl 2, .inl 8, .inl 24, .inl g, .inl (nI (len + 18)), vx_r 55]) rfl rfl (by rfl) ?_
      refine vx_imul dX9_feed_96 ?_
      refine vx_eq (st2 := [.inl 16, .inl 24, .inl g, .inl (nI (len + 18)), vx_r 55]) rfl rfl (by rfl) ?_
      refine vx_isub dX9_feed_97 ?_
      refine vx_eq (st2 := [.inl 8, .inl g, .inl (nI (len + 18)), vx_r 55]) rfl rfl (by rfl) ?_
      refine vx_ishr dX9_feed_98 ?_
      refine vx_sipush (v := 255) dX9_feed_99 (by decide) ?_
      refine vx_iand dX9_feed_102 ?_
      refine vx_iast (a := 55) (n := 300) (μ2 := (va_up (va_up μ 54 (upd (μ 54) 0 0)) 55 (upd (upd (upd (upd (upd (upd (upd (upd (upd (upd (upd (upd (upd (upd (upd (upd (upd (upd (upd (μ 55) len ((a >>> (24 &&& 31)) &&& 255)) (len + 1) ((a >>> (16 &&& 31)) &&& 255)) (len + 2) ((a >>> (8 &&& 31)) &&& 255)) (len + 3) ((a >>> (0 &&& 31)) &&& 255)) (len + 4) ((b >>> (24 &&& 31)) &&& 255)) (len + 5) ((b >>> (16 &&& 31)) &&& 255)) (len + 6) ((b >>> (8 &&& 31)) &&& 255)) (len + 7) ((b >>> (0 &&& 31)) &&& 255)) (len + 8) ((c >>> (24 &&& 31)) &&& 255)) (len + 9) ((c >>> (16 &&& 31)) &&& 255)) (len + 10) ((c >>> (8 &&& 31)) &&& 255)) (len + 11) ((c >>> (0 &&& 31)) &&& 255)) (len + 12) ((e >>> (24 &&& 31)) &&& 255)) (len + 13) ((e >>> (16 &&& 31)) &&& 255)) (len + 14) ((e >>> (8 &&& 31)) &&& 255)) (len + 15) ((e >>> (0 &&& 31)) &&& 255)) (len + 16) ((g >>> (24 &&& 31)) &&& 255)) (len + 17) ((g >>> (16 &&& 31)) &&& 255)) (len + 18) ((g >>> (8 &&& 31)) &&& 255)))) dX9_feed_103 (by decide) ly_55 (vp_in_nI (by omega) (by omega)) (by rw [nI_clamp (by omega)]; try exact vx_m1) ?_
      refine vx_iinc (v := 19) (ls2 := [(6, .inl 19), (7, .inl g), (0, vx_r 54), (1, .inl a), (2, .inl b), (3, .inl c), (4, .inl e), (5, .inl g)]) dX9_feed_104 rfl (by decide) (by decide) rfl ?_
      refine vx_goto (tgt := 20) dX9_feed_107 (by decide) ?_
      refine vx_iload dX9_feed_20 rfl ?_
      refine vx_bipush (v := 20) dX9_feed_22 (by decide) ?_
      refine vx_icmp_ge (tgt := 110) dX9_feed_24 (by decide) (fun h => absurd h (by decide)) (fun _ => ?_)
      refine vx_iload dX9_feed_27 rfl ?_
      refine vx_iconst (v := 4) dX9_feed_29 (by decide) ?_
      refine vx_icmp_ge (tgt := 37) dX9_feed_30 (by decide) (fun _ => ?_) (fun h => absurd h (by decide))
      refine vx_iload dX9_feed_37 rfl ?_
      refine vx_bipush (v := 8) dX9_feed_39 (by decide) ?_
      refine vx_icmp_ge (tgt := 48) dX9_feed_41 (by decide) (fun _ => ?_) (fun h => absurd h (by decide))
      refine vx_iload dX9_feed_48 rfl ?_
      refine vx_bipush (v := 12) dX9_feed_50 (by decide) ?_
      refine vx_icmp_ge (tgt := 59) dX9_feed_52 (by decide) (fun _ => ?_) (fun h => absurd h (by decide))
      refine vx_iload dX9_feed_59 rfl ?_
      refine vx_bipush (v := 16) dX9_feed_61 (by decide) ?_
      refine vx_icmp_ge (tgt := 71) dX9_feed_63 (by decide) (fun _ => ?_) (fun h => absurd h (by decide))
      refine vx_iload dX9_feed_71 rfl ?_
      refine vx_istore (ls2 := [(7, .inl g), (6, .inl 19), (0, vx_r 54), (1, .inl a), (2, .inl b), (3, .inl c), (4, .inl e), (5, .inl g)]) dX9_feed_73 (by decide) rfl ?_
      refine vx_aload_n dX9_feed_75 rfl ?_
      refine vx_getR (ci := 9) (T := TX9) (n := 56) (j := 1) (a := 54) (r := 55) dX9_feed_76 rfl lay_X9 (by decide) wd_737 (by decide) ly_54 rfl ?_
      refine vx_aload_n dX9_feed_79 rfl ?_
      refine vx_getI (ci := 9) (T := TX9) (n := 56) (j := 2) (a := 54) (v := (nI len)) dX9_feed_80 rfl lay_X9 (by decide) wd_738 (by decide) ly_54 rfl hl ?_
      refine vx_iload dX9_feed_83 rfl ?_
      refine vx_iadd dX9_feed_85 ?_
      refine vx_eq (st2 := [.inl (nI (len + 19)), vx_r 55]) rfl rfl (by rw [show (19 : Int32) = nI 19 from rfl, nI_add]) ?_
      refine vx_iload dX9_feed_86 rfl ?_
      refine vx_bipush (v := 24) dX9_feed_88 (by decide) ?_
      refine vx_bipush (v := 8) dX9_feed_90 (by decide) ?_
      refine vx_iload dX9_feed_92 rfl ?_
      refine vx_iconst (v := 4) dX9_feed_94 (by decide) ?_
      refine vx_irem dX9_feed_95 (by decide) ?_
      refine vx_eq (st2 := [.inl 3, .inl 8, .inl 24, .inl g, .inl (nI (len + 19)), vx_r 55]) rfl rfl (by rfl) ?_
      refine vx_imul dX9_feed_96 ?_
      refine vx_eq (st2 := [.inl 24, .inl 24, .inl g, .inl (nI (len + 19)), vx_r 55]) rfl rfl (by rfl) ?_
      refine vx_isub dX9_feed_97 ?_
      refine vx_eq (st2 := [.inl 0, .inl g, .inl (nI (len + 19)), vx_r 55]) rfl rfl (by rfl) ?_
      refine vx_ishr dX9_feed_98 ?_
      refine vx_sipush (v := 255) dX9_feed_99 (by decide) ?_
      refine vx_iand dX9_feed_102 ?_
      refine vx_iast (a := 55) (n := 300) (μ2 := (va_up (va_up μ 54 (upd (μ 54) 0 0)) 55 (upd (upd (upd (upd (upd (upd (upd (upd (upd (upd (upd (upd (upd (upd (upd (upd (upd (upd (upd (upd (μ 55) len ((a >>> (24 &&& 31)) &&& 255)) (len + 1) ((a >>> (16 &&& 31)) &&& 255)) (len + 2) ((a >>> (8 &&& 31)) &&& 255)) (len + 3) ((a >>> (0 &&& 31)) &&& 255)) (len + 4) ((b >>> (24 &&& 31)) &&& 255)) (len + 5) ((b >>> (16 &&& 31)) &&& 255)) (len + 6) ((b >>> (8 &&& 31)) &&& 255)) (len + 7) ((b >>> (0 &&& 31)) &&& 255)) (len + 8) ((c >>> (24 &&& 31)) &&& 255)) (len + 9) ((c >>> (16 &&& 31)) &&& 255)) (len + 10) ((c >>> (8 &&& 31)) &&& 255)) (len + 11) ((c >>> (0 &&& 31)) &&& 255)) (len + 12) ((e >>> (24 &&& 31)) &&& 255)) (len + 13) ((e >>> (16 &&& 31)) &&& 255)) (len + 14) ((e >>> (8 &&& 31)) &&& 255)) (len + 15) ((e >>> (0 &&& 31)) &&& 255)) (len + 16) ((g >>> (24 &&& 31)) &&& 255)) (len + 17) ((g >>> (16 &&& 31)) &&& 255)) (len + 18) ((g >>> (8 &&& 31)) &&& 255)) (len + 19) ((g >>> (0 &&& 31)) &&& 255)))) dX9_feed_103 (by decide) ly_55 (vp_in_nI (by omega) (by omega)) (by rw [nI_clamp (by omega)]; try exact vx_m1) ?_
      refine vx_iinc (v := 20) (ls2 := [(6, .inl 20), (7, .inl g), (0, vx_r 54), (1, .inl a), (2, .inl b), (3, .inl c), (4, .inl e), (5, .inl g)]) dX9_feed_104 rfl (by decide) (by decide) rfl ?_
      refine vx_goto (tgt := 20) dX9_feed_107 (by decide) ?_
      refine vx_iload dX9_feed_20 rfl ?_
      refine vx_bipush (v := 20) dX9_feed_22 (by decide) ?_
      refine vx_icmp_ge (tgt := 110) dX9_feed_24 (by decide) (fun _ => ?_) (fun h => absurd h (by decide))
      refine vx_aload_n dX9_feed_110 rfl ?_
      refine vx_dup dX9_feed_111 ?_
      refine vx_getI (ci := 9) (T := TX9) (n := 56) (j := 2) (a := 54) (v := (nI len)) dX9_feed_112 rfl lay_X9 (by decide) wd_738 (by decide) ly_54 rfl hl ?_
      refine vx_bipush (v := 20) dX9_feed_115 (by decide) ?_
      refine vx_iadd dX9_feed_117 ?_
      refine vx_eq (st2 := [.inl (nI (len + 20)), vx_r 54]) rfl rfl (by rw [show (20 : Int32) = nI 20 from rfl, nI_add]) ?_
      refine vx_putI (ci := 9) (T := TX9) (n := 56) (j := 2) (a := 54) (ty := .int) (μ2 := (va_up (va_up μ 54 (upd (upd (μ 54) 0 0) 2 (nI (len + 20)))) 55 (upd (upd (upd (upd (upd (upd (upd (upd (upd (upd (upd (upd (upd (upd (upd (upd (upd (upd (upd (upd (μ 55) len ((a >>> (24 &&& 31)) &&& 255)) (len + 1) ((a >>> (16 &&& 31)) &&& 255)) (len + 2) ((a >>> (8 &&& 31)) &&& 255)) (len + 3) ((a >>> (0 &&& 31)) &&& 255)) (len + 4) ((b >>> (24 &&& 31)) &&& 255)) (len + 5) ((b >>> (16 &&& 31)) &&& 255)) (len + 6) ((b >>> (8 &&& 31)) &&& 255)) (len + 7) ((b >>> (0 &&& 31)) &&& 255)) (len + 8) ((c >>> (24 &&& 31)) &&& 255)) (len + 9) ((c >>> (16 &&& 31)) &&& 255)) (len + 10) ((c >>> (8 &&& 31)) &&& 255)) (len + 11) ((c >>> (0 &&& 31)) &&& 255)) (len + 12) ((e >>> (24 &&& 31)) &&& 255)) (len + 13) ((e >>> (16 &&& 31)) &&& 255)) (len + 14) ((e >>> (8 &&& 31)) &&& 255)) (len + 15) ((e >>> (0 &&& 31)) &&& 255)) (len + 16) ((g >>> (24 &&& 31)) &&& 255)) (len + 17) ((g >>> (16 &&& 31)) &&& 255)) (len + 18) ((g >>> (8 &&& 31)) &&& 255)) (len + 19) ((g >>> (0 &&& 31)) &&& 255)))) dX9_feed_118 rfl lay_X9 tyX9_ok nmX9 (by decide) wd_738 rfl rfl rfl rfl (by decide) ly_54 rfl ((vx_m2 (by decide)).trans (congrArg (fun m => va_up m 55 (upd (upd (upd (upd (upd (upd (upd (upd (upd (upd (upd (upd (upd (upd (upd (upd (upd (upd (upd (upd (μ 55) len ((a >>> (24 &&& 31)) &&& 255)) (len + 1) ((a >>> (16 &&& 31)) &&& 255)) (len + 2) ((a >>> (8 &&& 31)) &&& 255)) (len + 3) ((a >>> (0 &&& 31)) &&& 255)) (len + 4) ((b >>> (24 &&& 31)) &&& 255)) (len + 5) ((b >>> (16 &&& 31)) &&& 255)) (len + 6) ((b >>> (8 &&& 31)) &&& 255)) (len + 7) ((b >>> (0 &&& 31)) &&& 255)) (len + 8) ((c >>> (24 &&& 31)) &&& 255)) (len + 9) ((c >>> (16 &&& 31)) &&& 255)) (len + 10) ((c >>> (8 &&& 31)) &&& 255)) (len + 11) ((c >>> (0 &&& 31)) &&& 255)) (len + 12) ((e >>> (24 &&& 31)) &&& 255)) (len + 13) ((e >>> (16 &&& 31)) &&& 255)) (len + 14) ((e >>> (8 &&& 31)) &&& 255)) (len + 15) ((e >>> (0 &&& 31)) &&& 255)) (len + 16) ((g >>> (24 &&& 31)) &&& 255)) (len + 17) ((g >>> (16 &&& 31)) &&& 255)) (len + 18) ((g >>> (8 &&& 31)) &&& 255)) (len + 19) ((g >>> (0 &&& 31)) &&& 255))) vx_m1)) ?_
      refine vx_aload_n dX9_feed_121 rfl ?_
      refine vx_getI (ci := 9) (T := TX9) (n := 56) (j := 2) (a := 54) (v := (nI (len + 20))) dX9_feed_122 rfl lay_X9 (by decide) wd_738 (by decide) ly_54 rfl rfl ?_
      exact vx_ret (ty := .int) dX9_feed_125 rfl rfl (Nat.le_refl 0) (Nat.le_refl 0) (vx_pst hP (by rw [if_pos c_12]) (by rw [if_pos c_12]; unfold sp_feed5 sp_app; simp only [mby0, mby8, mby16, mby24]))
    · refine vx_iconst (v := (-1)) dX9_feed_15 (by decide) ?_
      exact vx_ret (ty := .int) dX9_feed_16 rfl rfl (Nat.le_refl 0) (Nat.le_refl 0) (vx_pst hP (by rw [if_neg c_12]) (by rw [if_neg c_12]))
  exact vx_J.M pn_X9_feed (Nat.le_of_ble_eq_true rfl) (key _ _ ⟨rfl, rfl, rfl, rfl, rfl⟩)
end
