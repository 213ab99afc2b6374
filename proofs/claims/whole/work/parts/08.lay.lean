section
theorem vx_lays {ws : List Cond} (ps : List Nat) (hp : ws = ps.filterMap (fun i => lw_tbl[i]?)) (hg : ws.all goodWord = true) : ∀ x ∈ ws, x ∈ vx_tbl := by
  intro x hx
  have h1 := List.all_eq_true.mp hg x hx
  rw [hp] at hx
  obtain ⟨i, -, hi⟩ := List.mem_filterMap.mp hx
  exact vx_w i hi h1
set_option maxRecDepth 20000 in
theorem lay_X0 : ∀ x ∈ u_ws RX0 TX0 4, x ∈ vx_tbl := vx_lays [118, 120, 122, 124] (by decide +kernel) (by decide +kernel)
set_option maxRecDepth 20000 in
theorem lay_X1 : ∀ x ∈ u_ws RX1 TX1 2, x ∈ vx_tbl := vx_lays [212, 214] (by decide +kernel) (by decide +kernel)
set_option maxRecDepth 20000 in
theorem lay_X2 : ∀ x ∈ u_ws RX2 TX2 6, x ∈ vx_tbl := vx_lays [330, 332, 334, 336, 338, 340] (by decide +kernel) (by decide +kernel)
set_option maxRecDepth 20000 in
theorem lay_X3 : ∀ x ∈ u_ws RX3 TX3 12, x ∈ vx_tbl := vx_lays [160, 162, 164, 166, 168, 170, 172, 174, 176, 178, 180, 182] (by decide +kernel) (by decide +kernel)
set_option maxRecDepth 20000 in
theorem lay_X4 : ∀ x ∈ u_ws RX4 TX4 8, x ∈ vx_tbl := vx_lays [295, 297, 299, 301, 303, 305, 307, 309] (by decide +kernel) (by decide +kernel)
set_option maxRecDepth 20000 in
theorem lay_X5 : ∀ x ∈ u_ws RX5 TX5 1, x ∈ vx_tbl := vx_lays [198] (by decide +kernel) (by decide +kernel)
set_option maxRecDepth 20000 in
theorem lay_X6 : ∀ x ∈ u_ws RX6 TX6 12, x ∈ vx_tbl := vx_lays [247, 249, 251, 253, 255, 257, 259, 261, 263, 265, 267, 269] (by decide +kernel) (by decide +kernel)
set_option maxRecDepth 20000 in
theorem lay_X7 : ∀ x ∈ u_ws RX7 TX7 4, x ∈ vx_tbl := vx_lays [80, 82, 84, 86] (by decide +kernel) (by decide +kernel)
set_option maxRecDepth 20000 in
theorem lay_X8 : ∀ x ∈ u_ws RX8 TX8 8, x ∈ vx_tbl := vx_lays [351, 353, 355, 357, 359, 361, 363, 365] (by decide +kernel) (by decide +kernel)
set_option maxRecDepth 20000 in
theorem lay_X9 : ∀ x ∈ u_ws RX9 TX9 56, x ∈ vx_tbl := vx_lays [792, 794, 796, 798, 800, 802, 804, 806, 808, 810, 812, 814, 816, 818, 820, 822, 824, 826, 828, 830, 832, 834, 836, 838, 840, 842, 844, 846, 848, 850, 852, 854, 856, 858, 860, 862, 864, 866, 868, 870, 872, 874, 876, 878, 880, 882, 884, 886, 888, 890, 892, 894, 896, 898, 900, 902] (by decide +kernel) (by decide +kernel)
def vx_lst : List vx_k := [(.inl (8, [some (some 1), some (some 3), some (some 6), some (some 18), some (some 28), some (some 39), some (some 47), some (some 53)])), (.inl (7, [some (some 2), none, none, none])), (.inr (0, 300, none)), (.inl (0, [some (some 4), some (some 5), none, none])), (.inr (0, 6, none)), (.inr (0, 6, none)), (.inl (3, [none, some (some 7), some (some 8), some (some 9), some (some 10), some (some 11), some (some 12), some (some 13), some (some 14), some (some 15), some (some 16), some (some 17)])), (.inr (0, 8, none)), (.inr (0, 8, none)), (.inr (0, 8, none)), (.inr (0, 8, none)), (.inr (0, 8, none)), (.inr (0, 8, none)), (.inr (0, 8, none)), (.inr (0, 8, none)), (.inr (0, 8, none)), (.inr (0, 8, none)), (.inr (0, 8, none)), (.inl (5, [some (some 19)])), (.inr (2, 8, some [20, 21, 22, 23, 24, 25, 26, 27])), (.inr (0, 8, none)), (.inr (0, 8, none)), (.inr (0, 8, none)), (.inr (0, 8, none)), (.inr (0, 8, none)), (.inr (0, 8, none)), (.inr (0, 8, none)), (.inr (0, 8, none)), (.inl (1, [some (some 29), some (some 38)])), (.inr (2, 8, some [30, 31, 32, 33, 34, 35, 36, 37])), (.inr (0, 8, none)), (.inr (0, 8, none)), (.inr (0, 8, none)), (.inr (0, 8, none)), (.inr (0, 8, none)), (.inr (0, 8, none)), (.inr (0, 8, none)), (.inr (0, 8, none)), (.inr (0, 8, none)), (.inl (6, [none, some (some 40), some (some 41), some (some 42), some (some 43), some (some 44), none, some (some 45), some (some 46), none, none, none])), (.inr (0, 8, none)), (.inr (0, 8, none)), (.inr (0, 8, none)), (.inr (1, 8, none)), (.inr (0, 7, none)), (.inr (0, 7, none)), (.inr (0, 7, none)), (.inl (4, [none, none, none, some (some 48), some (some 49), some (some 50), some (some 51), some (some 52)])), (.inr (0, 7, none)), (.inr (0, 7, none)), (.inr (0, 7, none)), (.inr (0, 7, none)), (.inr (0, 7, none)), (.inl (2, [none, none, none, none, none, none])), (.inl (9, [none, some (some 55), none, some (some 56), some (some 57), some (some 58), some (some 59), none, none, none, none, none, none, none, none, none, none, none, none, some (some 60), some (some 61), some (some 62), some (some 63), some (some 64), some (some 65), some (some 66), some (some 67), some (some 68), some (some 69), some (some 70), some (some 71), some (some 72), some (some 73), none, none, none, none, none, none, some (some 74), some (some 75), some (some 76), some (some 77), some (some 78), none, none, none, none, none, some (some 79), some (some 80), none, none, none, none, some (some 81)])), (.inr (0, 300, none)), (.inr (0, 12, none)), (.inr (0, 6, none)), (.inr (0, 6, none)), (.inr (0, 6, none)), (.inr (0, 8, none)), (.inr (0, 8, none)), (.inr (0, 8, none)), (.inr (0, 8, none)), (.inr (0, 8, none)), (.inr (0, 8, none)), (.inr (0, 8, none)), (.inr (0, 8, none)), (.inr (0, 8, none)), (.inr (0, 8, none)), (.inr (0, 8, none)), (.inr (0, 64, none)), (.inr (0, 64, none)), (.inr (0, 8, none)), (.inr (0, 7, none)), (.inr (0, 7, none)), (.inr (0, 7, none)), (.inr (0, 7, none)), (.inr (0, 7, none)), (.inr (0, 7, none)), (.inr (0, 8, none)), (.inr (0, 7, none))]
def vx_lay : vx_L := fun k => vx_lst.getD k (.inr (0, 0, none))
theorem ly_0 : vx_lay 0 = (.inl (8, [some (some 1), some (some 3), some (some 6), some (some 18), some (some 28), some (some 39), some (some 47), some (some 53)])) := rfl
theorem ly_1 : vx_lay 1 = (.inl (7, [some (some 2), none, none, none])) := rfl
theorem ly_2 : vx_lay 2 = (.inr (0, 300, none)) := rfl
theorem ly_3 : vx_lay 3 = (.inl (0, [some (some 4), some (some 5), none, none])) := rfl
theorem ly_4 : vx_lay 4 = (.inr (0, 6, none)) := rfl
theorem ly_5 : vx_lay 5 = (.inr (0, 6, none)) := rfl
theorem ly_6 : vx_lay 6 = (.inl (3, [none, some (some 7), some (some 8), some (some 9), some (some 10), some (some 11), some (some 12), some (some 13), some (some 14), some (some 15), some (some 16), some (some 17)])) := rfl
theorem ly_7 : vx_lay 7 = (.inr (0, 8, none)) := rfl
theorem ly_8 : vx_lay 8 = (.inr (0, 8, none)) := rfl
theorem ly_9 : vx_lay 9 = (.inr (0, 8, none)) := rfl
theorem ly_10 : vx_lay 10 = (.inr (0, 8, none)) := rfl
theorem ly_11 : vx_lay 11 = (.inr (0, 8, none)) := rfl
theorem ly_12 : vx_lay 12 = (.inr (0, 8, none)) := rfl
theorem ly_13 : vx_lay 13 = (.inr (0, 8, none)) := rfl
theorem ly_14 : vx_lay 14 = (.inr (0, 8, none)) := rfl
theorem ly_15 : vx_lay 15 = (.inr (0, 8, none)) := rfl
theorem ly_16 : vx_lay 16 = (.inr (0, 8, none)) := rfl
theorem ly_17 : vx_lay 17 = (.inr (0, 8, none)) := rfl
theorem ly_18 : vx_lay 18 = (.inl (5, [some (some 19)])) := rfl
theorem ly_19 : vx_lay 19 = (.inr (2, 8, some [20, 21, 22, 23, 24, 25, 26, 27])) := rfl
theorem ly_20 : vx_lay 20 = (.inr (0, 8, none)) := rfl
theorem ly_21 : vx_lay 21 = (.inr (0, 8, none)) := rfl
theorem ly_22 : vx_lay 22 = (.inr (0, 8, none)) := rfl
theorem ly_23 : vx_lay 23 = (.inr (0, 8, none)) := rfl
theorem ly_24 : vx_lay 24 = (.inr (0, 8, none)) := rfl
theorem ly_25 : vx_lay 25 = (.inr (0, 8, none)) := rfl
theorem ly_26 : vx_lay 26 = (.inr (0, 8, none)) := rfl
theorem ly_27 : vx_lay 27 = (.inr (0, 8, none)) := rfl
theorem ly_28 : vx_lay 28 = (.inl (1, [some (some 29), some (some 38)])) := rfl
theorem ly_29 : vx_lay 29 = (.inr (2, 8, some [30, 31, 32, 33, 34, 35, 36, 37])) := rfl
theorem ly_30 : vx_lay 30 = (.inr (0, 8, none)) := rfl
theorem ly_31 : vx_lay 31 = (.inr (0, 8, none)) := rfl
theorem ly_32 : vx_lay 32 = (.inr (0, 8, none)) := rfl
theorem ly_33 : vx_lay 33 = (.inr (0, 8, none)) := rfl
theorem ly_34 : vx_lay 34 = (.inr (0, 8, none)) := rfl
theorem ly_35 : vx_lay 35 = (.inr (0, 8, none)) := rfl
theorem ly_36 : vx_lay 36 = (.inr (0, 8, none)) := rfl
theorem ly_37 : vx_lay 37 = (.inr (0, 8, none)) := rfl
theorem ly_38 : vx_lay 38 = (.inr (0, 8, none)) := rfl
theorem ly_39 : vx_lay 39 = (.inl (6, [none, some (some 40), some (some 41), some (some 42), some (some 43), some (some 44), none, some (some 45), some (some 46), none, none, none])) := rfl
theorem ly_40 : vx_lay 40 = (.inr (0, 8, none)) := rfl
theorem ly_41 : vx_lay 41 = (.inr (0, 8, none)) := rfl
theorem ly_42 : vx_lay 42 = (.inr (0, 8, none)) := rfl
theorem ly_43 : vx_lay 43 = (.inr (1, 8, none)) := rfl
theorem ly_44 : vx_lay 44 = (.inr (0, 7, none)) := rfl
theorem ly_45 : vx_lay 45 = (.inr (0, 7, none)) := rfl
theorem ly_46 : vx_lay 46 = (.inr (0, 7, none)) := rfl
theorem ly_47 : vx_lay 47 = (.inl (4, [none, none, none, some (some 48), some (some 49), some (some 50), some (some 51), some (some 52)])) := rfl
theorem ly_48 : vx_lay 48 = (.inr (0, 7, none)) := rfl
theorem ly_49 : vx_lay 49 = (.inr (0, 7, none)) := rfl
theorem ly_50 : vx_lay 50 = (.inr (0, 7, none)) := rfl
theorem ly_51 : vx_lay 51 = (.inr (0, 7, none)) := rfl
theorem ly_52 : vx_lay 52 = (.inr (0, 7, none)) := rfl
theorem ly_53 : vx_lay 53 = (.inl (2, [none, none, none, none, none, none])) := rfl
theorem ly_54 : vx_lay 54 = (.inl (9, [none, some (some 55), none, some (some 56), some (some 57), some (some 58), some (some 59), none, none, none, none, none, none, none, none, none, none, none, none, some (some 60), some (some 61), some (some 62), some (some 63), some (some 64), some (some 65), some (some 66), some (some 67), some (some 68), some (some 69), some (some 70), some (some 71), some (some 72), some (some 73), none, none, none, none, none, none, some (some 74), some (some 75), some (some 76), some (some 77), some (some 78), none, none, none, none, none, some (some 79), some (some 80), none, none, none, none, some (some 81)])) := rfl
theorem ly_55 : vx_lay 55 = (.inr (0, 300, none)) := rfl
theorem ly_56 : vx_lay 56 = (.inr (0, 12, none)) := rfl
theorem ly_57 : vx_lay 57 = (.inr (0, 6, none)) := rfl
theorem ly_58 : vx_lay 58 = (.inr (0, 6, none)) := rfl
theorem ly_59 : vx_lay 59 = (.inr (0, 6, none)) := rfl
theorem ly_60 : vx_lay 60 = (.inr (0, 8, none)) := rfl
theorem ly_61 : vx_lay 61 = (.inr (0, 8, none)) := rfl
theorem ly_62 : vx_lay 62 = (.inr (0, 8, none)) := rfl
theorem ly_63 : vx_lay 63 = (.inr (0, 8, none)) := rfl
theorem ly_64 : vx_lay 64 = (.inr (0, 8, none)) := rfl
theorem ly_65 : vx_lay 65 = (.inr (0, 8, none)) := rfl
theorem ly_66 : vx_lay 66 = (.inr (0, 8, none)) := rfl
theorem ly_67 : vx_lay 67 = (.inr (0, 8, none)) := rfl
theorem ly_68 : vx_lay 68 = (.inr (0, 8, none)) := rfl
theorem ly_69 : vx_lay 69 = (.inr (0, 8, none)) := rfl
theorem ly_70 : vx_lay 70 = (.inr (0, 8, none)) := rfl
theorem ly_71 : vx_lay 71 = (.inr (0, 64, none)) := rfl
theorem ly_72 : vx_lay 72 = (.inr (0, 64, none)) := rfl
theorem ly_73 : vx_lay 73 = (.inr (0, 8, none)) := rfl
theorem ly_74 : vx_lay 74 = (.inr (0, 7, none)) := rfl
theorem ly_75 : vx_lay 75 = (.inr (0, 7, none)) := rfl
theorem ly_76 : vx_lay 76 = (.inr (0, 7, none)) := rfl
theorem ly_77 : vx_lay 77 = (.inr (0, 7, none)) := rfl
theorem ly_78 : vx_lay 78 = (.inr (0, 7, none)) := rfl
theorem ly_79 : vx_lay 79 = (.inr (0, 7, none)) := rfl
theorem ly_80 : vx_lay 80 = (.inr (0, 8, none)) := rfl
theorem ly_81 : vx_lay 81 = (.inr (0, 7, none)) := rfl
theorem nst_0 : Cond.methodLinkNest "ThreshRound$Customs" 52 ⟨"ThreshRound", "put", "([III)V"⟩ "ThreshRound" ∈ vx_nest := List.mem_of_getElem? (i := 0) rfl
theorem nst_1 : Cond.methodLinkNest "ThreshRound$Customs" 24 ⟨"ThreshRound", "at", "([II)I"⟩ "ThreshRound" ∈ vx_nest := List.mem_of_getElem? (i := 1) rfl
theorem nst_2 : Cond.methodLinkNest "ThreshRound$Roads" 16 ⟨"ThreshRound", "put", "([[IIII)V"⟩ "ThreshRound" ∈ vx_nest := List.mem_of_getElem? (i := 2) rfl
theorem nst_3 : Cond.methodLinkNest "ThreshRound$Tape" 25 ⟨"ThreshRound", "put", "([III)V"⟩ "ThreshRound" ∈ vx_nest := List.mem_of_getElem? (i := 3) rfl
theorem nst_4 : Cond.methodLinkNest "ThreshRound$Tape" 29 ⟨"ThreshRound", "at", "([II)I"⟩ "ThreshRound" ∈ vx_nest := List.mem_of_getElem? (i := 4) rfl
theorem nst_5 : Cond.methodLinkNest "ThreshRound$Tape" 37 ⟨"ThreshRound", "within", "(III)Z"⟩ "ThreshRound" ∈ vx_nest := List.mem_of_getElem? (i := 5) rfl
theorem nst_6 : Cond.methodLinkNest "ThreshRound$Customs" 84 ⟨"ThreshRound", "within", "(III)Z"⟩ "ThreshRound" ∈ vx_nest := List.mem_of_getElem? (i := 6) rfl
theorem nst_7 : Cond.methodLinkNest "ThreshRound$Farms" 49 ⟨"ThreshRound", "put", "([III)V"⟩ "ThreshRound" ∈ vx_nest := List.mem_of_getElem? (i := 7) rfl
theorem nst_8 : Cond.methodLinkNest "ThreshRound$Farms" 57 ⟨"ThreshRound", "at", "([II)I"⟩ "ThreshRound" ∈ vx_nest := List.mem_of_getElem? (i := 8) rfl
theorem nst_9 : Cond.methodLinkNest "ThreshRound$Debts" 20 ⟨"ThreshRound", "put", "([III)V"⟩ "ThreshRound" ∈ vx_nest := List.mem_of_getElem? (i := 9) rfl
theorem nst_10 : Cond.methodLinkNest "ThreshRound$Debts" 29 ⟨"ThreshRound", "at", "([II)I"⟩ "ThreshRound" ∈ vx_nest := List.mem_of_getElem? (i := 10) rfl
theorem nst_11 : Cond.methodLinkNest "ThreshRound$Debts" 49 ⟨"ThreshRound", "at", "([[III)I"⟩ "ThreshRound" ∈ vx_nest := List.mem_of_getElem? (i := 11) rfl
theorem nst_12 : Cond.methodLinkNest "ThreshRound$Search" 61 ⟨"ThreshRound", "put", "([III)V"⟩ "ThreshRound" ∈ vx_nest := List.mem_of_getElem? (i := 12) rfl
theorem nst_13 : Cond.methodLinkNest "ThreshRound$Search" 65 ⟨"ThreshRound", "at", "([II)I"⟩ "ThreshRound" ∈ vx_nest := List.mem_of_getElem? (i := 13) rfl
theorem nst_14 : Cond.methodLinkNest "ThreshRound$Roads" 20 ⟨"ThreshRound", "at", "([[III)I"⟩ "ThreshRound" ∈ vx_nest := List.mem_of_getElem? (i := 14) rfl
theorem nst_15 : Cond.methodLinkNest "ThreshRound$Plan" 52 ⟨"ThreshRound", "at", "([II)I"⟩ "ThreshRound" ∈ vx_nest := List.mem_of_getElem? (i := 15) rfl
theorem nst_16 : Cond.methodLinkNest "ThreshRound$Plan" 61 ⟨"ThreshRound", "put", "([III)V"⟩ "ThreshRound" ∈ vx_nest := List.mem_of_getElem? (i := 16) rfl
theorem nst_17 : Cond.methodLinkNest "ThreshRound$Debts" 52 ⟨"ThreshRound", "put", "([[IIII)V"⟩ "ThreshRound" ∈ vx_nest := List.mem_of_getElem? (i := 17) rfl
theorem hy_X0_init : yX0_init.cls ≠ "java/lang/invoke/MethodHandle" ∧ yX0_init.cls ≠ "java/lang/invoke/VarHandle" ∧ (parseMethodDescriptor yX0_init.desc).map (fun d => d.parameters.length) = some 0 := by decide +kernel
theorem pn_X0_init : plainName yX0_init.cls = true := by decide +kernel
theorem hy_X0_tells : yX0_tells.cls ≠ "java/lang/invoke/MethodHandle" ∧ yX0_tells.cls ≠ "java/lang/invoke/VarHandle" ∧ (parseMethodDescriptor yX0_tells.desc).map (fun d => d.parameters.length) = some 1 := by decide +kernel
theorem pn_X0_tells : plainName yX0_tells.cls = true := by decide +kernel
theorem hy_X0_read : yX0_read.cls ≠ "java/lang/invoke/MethodHandle" ∧ yX0_read.cls ≠ "java/lang/invoke/VarHandle" ∧ (parseMethodDescriptor yX0_read.desc).map (fun d => d.parameters.length) = some 2 := by decide +kernel
theorem pn_X0_read : plainName yX0_read.cls = true := by decide +kernel
theorem hy_X0_forgetTold : yX0_forgetTold.cls ≠ "java/lang/invoke/MethodHandle" ∧ yX0_forgetTold.cls ≠ "java/lang/invoke/VarHandle" ∧ (parseMethodDescriptor yX0_forgetTold.desc).map (fun d => d.parameters.length) = some 0 := by decide +kernel
theorem pn_X0_forgetTold : plainName yX0_forgetTold.cls = true := by decide +kernel
theorem hy_X0_putInForce : yX0_putInForce.cls ≠ "java/lang/invoke/MethodHandle" ∧ yX0_putInForce.cls ≠ "java/lang/invoke/VarHandle" ∧ (parseMethodDescriptor yX0_putInForce.desc).map (fun d => d.parameters.length) = some 0 := by decide +kernel
theorem pn_X0_putInForce : plainName yX0_putInForce.cls = true := by decide +kernel
theorem hy_X0_readLine : yX0_readLine.cls ≠ "java/lang/invoke/MethodHandle" ∧ yX0_readLine.cls ≠ "java/lang/invoke/VarHandle" ∧ (parseMethodDescriptor yX0_readLine.desc).map (fun d => d.parameters.length) = some 1 := by decide +kernel
theorem pn_X0_readLine : plainName yX0_readLine.cls = true := by decide +kernel
theorem hy_X0_fails : yX0_fails.cls ≠ "java/lang/invoke/MethodHandle" ∧ yX0_fails.cls ≠ "java/lang/invoke/VarHandle" ∧ (parseMethodDescriptor yX0_fails.desc).map (fun d => d.parameters.length) = some 2 := by decide +kernel
theorem pn_X0_fails : plainName yX0_fails.cls = true := by decide +kernel
theorem hy_X0_kindOfWord : yX0_kindOfWord.cls ≠ "java/lang/invoke/MethodHandle" ∧ yX0_kindOfWord.cls ≠ "java/lang/invoke/VarHandle" ∧ (parseMethodDescriptor yX0_kindOfWord.desc).map (fun d => d.parameters.length) = some 2 := by decide +kernel
theorem pn_X0_kindOfWord : plainName yX0_kindOfWord.cls = true := by decide +kernel
theorem hy_X0_word : yX0_word.cls ≠ "java/lang/invoke/MethodHandle" ∧ yX0_word.cls ≠ "java/lang/invoke/VarHandle" ∧ (parseMethodDescriptor yX0_word.desc).map (fun d => d.parameters.length) = some 1 := by decide +kernel
theorem pn_X0_word : plainName yX0_word.cls = true := by decide +kernel
theorem hy_X1_init : yX1_init.cls ≠ "java/lang/invoke/MethodHandle" ∧ yX1_init.cls ≠ "java/lang/invoke/VarHandle" ∧ (parseMethodDescriptor yX1_init.desc).map (fun d => d.parameters.length) = some 0 := by decide +kernel
theorem pn_X1_init : plainName yX1_init.cls = true := by decide +kernel
theorem hy_X1_muster : yX1_muster.cls ≠ "java/lang/invoke/MethodHandle" ∧ yX1_muster.cls ≠ "java/lang/invoke/VarHandle" ∧ (parseMethodDescriptor yX1_muster.desc).map (fun d => d.parameters.length) = some 3 := by decide +kernel
theorem pn_X1_muster : plainName yX1_muster.cls = true := by decide +kernel
theorem hy_X1_nextLender : yX1_nextLender.cls ≠ "java/lang/invoke/MethodHandle" ∧ yX1_nextLender.cls ≠ "java/lang/invoke/VarHandle" ∧ (parseMethodDescriptor yX1_nextLender.desc).map (fun d => d.parameters.length) = some 2 := by decide +kernel
theorem pn_X1_nextLender : plainName yX1_nextLender.cls = true := by decide +kernel
theorem hy_X1_oweTheGivers : yX1_oweTheGivers.cls ≠ "java/lang/invoke/MethodHandle" ∧ yX1_oweTheGivers.cls ≠ "java/lang/invoke/VarHandle" ∧ (parseMethodDescriptor yX1_oweTheGivers.desc).map (fun d => d.parameters.length) = some 2 := by decide +kernel
theorem pn_X1_oweTheGivers : plainName yX1_oweTheGivers.cls = true := by decide +kernel
theorem hy_X2_init : yX2_init.cls ≠ "java/lang/invoke/MethodHandle" ∧ yX2_init.cls ≠ "java/lang/invoke/VarHandle" ∧ (parseMethodDescriptor yX2_init.desc).map (fun d => d.parameters.length) = some 0 := by decide +kernel
theorem pn_X2_init : plainName yX2_init.cls = true := by decide +kernel
theorem hy_X3_init : yX3_init.cls ≠ "java/lang/invoke/MethodHandle" ∧ yX3_init.cls ≠ "java/lang/invoke/VarHandle" ∧ (parseMethodDescriptor yX3_init.desc).map (fun d => d.parameters.length) = some 0 := by decide +kernel
theorem pn_X3_init : plainName yX3_init.cls = true := by decide +kernel
theorem hy_X3_add : yX3_add.cls ≠ "java/lang/invoke/MethodHandle" ∧ yX3_add.cls ≠ "java/lang/invoke/VarHandle" ∧ (parseMethodDescriptor yX3_add.desc).map (fun d => d.parameters.length) = some 0 := by decide +kernel
theorem pn_X3_add : plainName yX3_add.cls = true := by decide +kernel
theorem hy_X3_has : yX3_has.cls ≠ "java/lang/invoke/MethodHandle" ∧ yX3_has.cls ≠ "java/lang/invoke/VarHandle" ∧ (parseMethodDescriptor yX3_has.desc).map (fun d => d.parameters.length) = some 1 := by decide +kernel
theorem pn_X3_has : plainName yX3_has.cls = true := by decide +kernel
theorem hy_X3_isOpen : yX3_isOpen.cls ≠ "java/lang/invoke/MethodHandle" ∧ yX3_isOpen.cls ≠ "java/lang/invoke/VarHandle" ∧ (parseMethodDescriptor yX3_isOpen.desc).map (fun d => d.parameters.length) = some 1 := by decide +kernel
theorem pn_X3_isOpen : plainName yX3_isOpen.cls = true := by decide +kernel
theorem hy_X3_openOnes : yX3_openOnes.cls ≠ "java/lang/invoke/MethodHandle" ∧ yX3_openOnes.cls ≠ "java/lang/invoke/VarHandle" ∧ (parseMethodDescriptor yX3_openOnes.desc).map (fun d => d.parameters.length) = some 0 := by decide +kernel
theorem pn_X3_openOnes : plainName yX3_openOnes.cls = true := by decide +kernel
theorem hy_X4_init : yX4_init.cls ≠ "java/lang/invoke/MethodHandle" ∧ yX4_init.cls ≠ "java/lang/invoke/VarHandle" ∧ (parseMethodDescriptor yX4_init.desc).map (fun d => d.parameters.length) = some 0 := by decide +kernel
theorem pn_X4_init : plainName yX4_init.cls = true := by decide +kernel
theorem hy_X4_make : yX4_make.cls ≠ "java/lang/invoke/MethodHandle" ∧ yX4_make.cls ≠ "java/lang/invoke/VarHandle" ∧ (parseMethodDescriptor yX4_make.desc).map (fun d => d.parameters.length) = some 4 := by decide +kernel
theorem pn_X4_make : plainName yX4_make.cls = true := by decide +kernel
theorem hy_X5_init : yX5_init.cls ≠ "java/lang/invoke/MethodHandle" ∧ yX5_init.cls ≠ "java/lang/invoke/VarHandle" ∧ (parseMethodDescriptor yX5_init.desc).map (fun d => d.parameters.length) = some 0 := by decide +kernel
theorem pn_X5_init : plainName yX5_init.cls = true := by decide +kernel
theorem hy_X5_between : yX5_between.cls ≠ "java/lang/invoke/MethodHandle" ∧ yX5_between.cls ≠ "java/lang/invoke/VarHandle" ∧ (parseMethodDescriptor yX5_between.desc).map (fun d => d.parameters.length) = some 2 := by decide +kernel
theorem pn_X5_between : plainName yX5_between.cls = true := by decide +kernel
theorem hy_X6_init : yX6_init.cls ≠ "java/lang/invoke/MethodHandle" ∧ yX6_init.cls ≠ "java/lang/invoke/VarHandle" ∧ (parseMethodDescriptor yX6_init.desc).map (fun d => d.parameters.length) = some 0 := by decide +kernel
theorem pn_X6_init : plainName yX6_init.cls = true := by decide +kernel
theorem hy_X6_startAnew : yX6_startAnew.cls ≠ "java/lang/invoke/MethodHandle" ∧ yX6_startAnew.cls ≠ "java/lang/invoke/VarHandle" ∧ (parseMethodDescriptor yX6_startAnew.desc).map (fun d => d.parameters.length) = some 1 := by decide +kernel
theorem pn_X6_startAnew : plainName yX6_startAnew.cls = true := by decide +kernel
theorem hy_X6_add : yX6_add.cls ≠ "java/lang/invoke/MethodHandle" ∧ yX6_add.cls ≠ "java/lang/invoke/VarHandle" ∧ (parseMethodDescriptor yX6_add.desc).map (fun d => d.parameters.length) = some 4 := by decide +kernel
theorem pn_X6_add : plainName yX6_add.cls = true := by decide +kernel
theorem hy_X6_force : yX6_force.cls ≠ "java/lang/invoke/MethodHandle" ∧ yX6_force.cls ≠ "java/lang/invoke/VarHandle" ∧ (parseMethodDescriptor yX6_force.desc).map (fun d => d.parameters.length) = some 1 := by decide +kernel
theorem pn_X6_force : plainName yX6_force.cls = true := by decide +kernel
theorem hy_X6_find : yX6_find.cls ≠ "java/lang/invoke/MethodHandle" ∧ yX6_find.cls ≠ "java/lang/invoke/VarHandle" ∧ (parseMethodDescriptor yX6_find.desc).map (fun d => d.parameters.length) = some 3 := by decide +kernel
theorem pn_X6_find : plainName yX6_find.cls = true := by decide +kernel
theorem hy_X6_extend : yX6_extend.cls ≠ "java/lang/invoke/MethodHandle" ∧ yX6_extend.cls ≠ "java/lang/invoke/VarHandle" ∧ (parseMethodDescriptor yX6_extend.desc).map (fun d => d.parameters.length) = some 6 := by decide +kernel
theorem pn_X6_extend : plainName yX6_extend.cls = true := by decide +kernel
theorem hy_X6_mayCome : yX6_mayCome.cls ≠ "java/lang/invoke/MethodHandle" ∧ yX6_mayCome.cls ≠ "java/lang/invoke/VarHandle" ∧ (parseMethodDescriptor yX6_mayCome.desc).map (fun d => d.parameters.length) = some 2 := by decide +kernel
theorem pn_X6_mayCome : plainName yX6_mayCome.cls = true := by decide +kernel
theorem hy_X6_begins : yX6_begins.cls ≠ "java/lang/invoke/MethodHandle" ∧ yX6_begins.cls ≠ "java/lang/invoke/VarHandle" ∧ (parseMethodDescriptor yX6_begins.desc).map (fun d => d.parameters.length) = some 2 := by decide +kernel
theorem pn_X6_begins : plainName yX6_begins.cls = true := by decide +kernel
theorem hy_X6_leaves : yX6_leaves.cls ≠ "java/lang/invoke/MethodHandle" ∧ yX6_leaves.cls ≠ "java/lang/invoke/VarHandle" ∧ (parseMethodDescriptor yX6_leaves.desc).map (fun d => d.parameters.length) = some 2 := by decide +kernel
theorem pn_X6_leaves : plainName yX6_leaves.cls = true := by decide +kernel
theorem hy_X6_lossOf : yX6_lossOf.cls ≠ "java/lang/invoke/MethodHandle" ∧ yX6_lossOf.cls ≠ "java/lang/invoke/VarHandle" ∧ (parseMethodDescriptor yX6_lossOf.desc).map (fun d => d.parameters.length) = some 2 := by decide +kernel
theorem pn_X6_lossOf : plainName yX6_lossOf.cls = true := by decide +kernel
theorem hy_X6_beatsBest : yX6_beatsBest.cls ≠ "java/lang/invoke/MethodHandle" ∧ yX6_beatsBest.cls ≠ "java/lang/invoke/VarHandle" ∧ (parseMethodDescriptor yX6_beatsBest.desc).map (fun d => d.parameters.length) = some 2 := by decide +kernel
theorem pn_X6_beatsBest : plainName yX6_beatsBest.cls = true := by decide +kernel
theorem hy_X6_keepAsBest : yX6_keepAsBest.cls ≠ "java/lang/invoke/MethodHandle" ∧ yX6_keepAsBest.cls ≠ "java/lang/invoke/VarHandle" ∧ (parseMethodDescriptor yX6_keepAsBest.desc).map (fun d => d.parameters.length) = some 2 := by decide +kernel
theorem pn_X6_keepAsBest : plainName yX6_keepAsBest.cls = true := by decide +kernel
theorem hy_X6_isWaiting : yX6_isWaiting.cls ≠ "java/lang/invoke/MethodHandle" ∧ yX6_isWaiting.cls ≠ "java/lang/invoke/VarHandle" ∧ (parseMethodDescriptor yX6_isWaiting.desc).map (fun d => d.parameters.length) = some 1 := by decide +kernel
theorem pn_X6_isWaiting : plainName yX6_isWaiting.cls = true := by decide +kernel
theorem hy_X6_setWaits : yX6_setWaits.cls ≠ "java/lang/invoke/MethodHandle" ∧ yX6_setWaits.cls ≠ "java/lang/invoke/VarHandle" ∧ (parseMethodDescriptor yX6_setWaits.desc).map (fun d => d.parameters.length) = some 2 := by decide +kernel
theorem pn_X6_setWaits : plainName yX6_setWaits.cls = true := by decide +kernel
theorem hy_X7_init : yX7_init.cls ≠ "java/lang/invoke/MethodHandle" ∧ yX7_init.cls ≠ "java/lang/invoke/VarHandle" ∧ (parseMethodDescriptor yX7_init.desc).map (fun d => d.parameters.length) = some 0 := by decide +kernel
theorem pn_X7_init : plainName yX7_init.cls = true := by decide +kernel
theorem hy_X7_hasRoomFor : yX7_hasRoomFor.cls ≠ "java/lang/invoke/MethodHandle" ∧ yX7_hasRoomFor.cls ≠ "java/lang/invoke/VarHandle" ∧ (parseMethodDescriptor yX7_hasRoomFor.desc).map (fun d => d.parameters.length) = some 1 := by decide +kernel
theorem pn_X7_hasRoomFor : plainName yX7_hasRoomFor.cls = true := by decide +kernel
theorem hy_X7_append : yX7_append.cls ≠ "java/lang/invoke/MethodHandle" ∧ yX7_append.cls ≠ "java/lang/invoke/VarHandle" ∧ (parseMethodDescriptor yX7_append.desc).map (fun d => d.parameters.length) = some 1 := by decide +kernel
theorem pn_X7_append : plainName yX7_append.cls = true := by decide +kernel
theorem hy_X7_readFirst : yX7_readFirst.cls ≠ "java/lang/invoke/MethodHandle" ∧ yX7_readFirst.cls ≠ "java/lang/invoke/VarHandle" ∧ (parseMethodDescriptor yX7_readFirst.desc).map (fun d => d.parameters.length) = some 1 := by decide +kernel
theorem pn_X7_readFirst : plainName yX7_readFirst.cls = true := by decide +kernel
theorem hy_X7_isAtEnd : yX7_isAtEnd.cls ≠ "java/lang/invoke/MethodHandle" ∧ yX7_isAtEnd.cls ≠ "java/lang/invoke/VarHandle" ∧ (parseMethodDescriptor yX7_isAtEnd.desc).map (fun d => d.parameters.length) = some 0 := by decide +kernel
theorem pn_X7_isAtEnd : plainName yX7_isAtEnd.cls = true := by decide +kernel
theorem hy_X7_byteAt : yX7_byteAt.cls ≠ "java/lang/invoke/MethodHandle" ∧ yX7_byteAt.cls ≠ "java/lang/invoke/VarHandle" ∧ (parseMethodDescriptor yX7_byteAt.desc).map (fun d => d.parameters.length) = some 1 := by decide +kernel
theorem pn_X7_byteAt : plainName yX7_byteAt.cls = true := by decide +kernel
theorem hy_X7_skipBlanks : yX7_skipBlanks.cls ≠ "java/lang/invoke/MethodHandle" ∧ yX7_skipBlanks.cls ≠ "java/lang/invoke/VarHandle" ∧ (parseMethodDescriptor yX7_skipBlanks.desc).map (fun d => d.parameters.length) = some 0 := by decide +kernel
theorem pn_X7_skipBlanks : plainName yX7_skipBlanks.cls = true := by decide +kernel
theorem hy_X7_endOfRow : yX7_endOfRow.cls ≠ "java/lang/invoke/MethodHandle" ∧ yX7_endOfRow.cls ≠ "java/lang/invoke/VarHandle" ∧ (parseMethodDescriptor yX7_endOfRow.desc).map (fun d => d.parameters.length) = some 2 := by decide +kernel
theorem pn_X7_endOfRow : plainName yX7_endOfRow.cls = true := by decide +kernel
theorem hy_X7_numberUpTo : yX7_numberUpTo.cls ≠ "java/lang/invoke/MethodHandle" ∧ yX7_numberUpTo.cls ≠ "java/lang/invoke/VarHandle" ∧ (parseMethodDescriptor yX7_numberUpTo.desc).map (fun d => d.parameters.length) = some 1 := by decide +kernel
theorem pn_X7_numberUpTo : plainName yX7_numberUpTo.cls = true := by decide +kernel
theorem hy_X7_isWordUpTo : yX7_isWordUpTo.cls ≠ "java/lang/invoke/MethodHandle" ∧ yX7_isWordUpTo.cls ≠ "java/lang/invoke/VarHandle" ∧ (parseMethodDescriptor yX7_isWordUpTo.desc).map (fun d => d.parameters.length) = some 2 := by decide +kernel
theorem pn_X7_isWordUpTo : plainName yX7_isWordUpTo.cls = true := by decide +kernel
theorem hy_X8_init : yX8_init.cls ≠ "java/lang/invoke/MethodHandle" ∧ yX8_init.cls ≠ "java/lang/invoke/VarHandle" ∧ (parseMethodDescriptor yX8_init.desc).map (fun d => d.parameters.length) = some 0 := by decide +kernel
theorem pn_X8_init : plainName yX8_init.cls = true := by decide +kernel
theorem hy_X8_feed : yX8_feed.cls ≠ "java/lang/invoke/MethodHandle" ∧ yX8_feed.cls ≠ "java/lang/invoke/VarHandle" ∧ (parseMethodDescriptor yX8_feed.desc).map (fun d => d.parameters.length) = some 5 := by decide +kernel
theorem pn_X8_feed : plainName yX8_feed.cls = true := by decide +kernel
theorem hy_X8_customs : yX8_customs.cls ≠ "java/lang/invoke/MethodHandle" ∧ yX8_customs.cls ≠ "java/lang/invoke/VarHandle" ∧ (parseMethodDescriptor yX8_customs.desc).map (fun d => d.parameters.length) = some 1 := by decide +kernel
theorem pn_X8_customs : plainName yX8_customs.cls = true := by decide +kernel
theorem hy_X8_fault : yX8_fault.cls ≠ "java/lang/invoke/MethodHandle" ∧ yX8_fault.cls ≠ "java/lang/invoke/VarHandle" ∧ (parseMethodDescriptor yX8_fault.desc).map (fun d => d.parameters.length) = some 1 := by decide +kernel
theorem pn_X8_fault : plainName yX8_fault.cls = true := by decide +kernel
theorem hy_X8_farm : yX8_farm.cls ≠ "java/lang/invoke/MethodHandle" ∧ yX8_farm.cls ≠ "java/lang/invoke/VarHandle" ∧ (parseMethodDescriptor yX8_farm.desc).map (fun d => d.parameters.length) = some 6 := by decide +kernel
theorem pn_X8_farm : plainName yX8_farm.cls = true := by decide +kernel
theorem hy_X8_way : yX8_way.cls ≠ "java/lang/invoke/MethodHandle" ∧ yX8_way.cls ≠ "java/lang/invoke/VarHandle" ∧ (parseMethodDescriptor yX8_way.desc).map (fun d => d.parameters.length) = some 3 := by decide +kernel
theorem pn_X8_way : plainName yX8_way.cls = true := by decide +kernel
theorem hy_X8_bargain : yX8_bargain.cls ≠ "java/lang/invoke/MethodHandle" ∧ yX8_bargain.cls ≠ "java/lang/invoke/VarHandle" ∧ (parseMethodDescriptor yX8_bargain.desc).map (fun d => d.parameters.length) = some 3 := by decide +kernel
theorem pn_X8_bargain : plainName yX8_bargain.cls = true := by decide +kernel
theorem hy_X8_plan : yX8_plan.cls ≠ "java/lang/invoke/MethodHandle" ∧ yX8_plan.cls ≠ "java/lang/invoke/VarHandle" ∧ (parseMethodDescriptor yX8_plan.desc).map (fun d => d.parameters.length) = some 0 := by decide +kernel
theorem pn_X8_plan : plainName yX8_plan.cls = true := by decide +kernel
theorem hy_X8_planned : yX8_planned.cls ≠ "java/lang/invoke/MethodHandle" ∧ yX8_planned.cls ≠ "java/lang/invoke/VarHandle" ∧ (parseMethodDescriptor yX8_planned.desc).map (fun d => d.parameters.length) = some 2 := by decide +kernel
theorem pn_X8_planned : plainName yX8_planned.cls = true := by decide +kernel
theorem hy_X8_out : yX8_out.cls ≠ "java/lang/invoke/MethodHandle" ∧ yX8_out.cls ≠ "java/lang/invoke/VarHandle" ∧ (parseMethodDescriptor yX8_out.desc).map (fun d => d.parameters.length) = some 0 := by decide +kernel
theorem pn_X8_out : plainName yX8_out.cls = true := by decide +kernel
theorem hy_X8_breaks : yX8_breaks.cls ≠ "java/lang/invoke/MethodHandle" ∧ yX8_breaks.cls ≠ "java/lang/invoke/VarHandle" ∧ (parseMethodDescriptor yX8_breaks.desc).map (fun d => d.parameters.length) = some 1 := by decide +kernel
theorem pn_X8_breaks : plainName yX8_breaks.cls = true := by decide +kernel
theorem hy_X8_day : yX8_day.cls ≠ "java/lang/invoke/MethodHandle" ∧ yX8_day.cls ≠ "java/lang/invoke/VarHandle" ∧ (parseMethodDescriptor yX8_day.desc).map (fun d => d.parameters.length) = some 1 := by decide +kernel
theorem pn_X8_day : plainName yX8_day.cls = true := by decide +kernel
theorem hy_X8_look : yX8_look.cls ≠ "java/lang/invoke/MethodHandle" ∧ yX8_look.cls ≠ "java/lang/invoke/VarHandle" ∧ (parseMethodDescriptor yX8_look.desc).map (fun d => d.parameters.length) = some 2 := by decide +kernel
theorem pn_X8_look : plainName yX8_look.cls = true := by decide +kernel
theorem hy_X8_owed : yX8_owed.cls ≠ "java/lang/invoke/MethodHandle" ∧ yX8_owed.cls ≠ "java/lang/invoke/VarHandle" ∧ (parseMethodDescriptor yX8_owed.desc).map (fun d => d.parameters.length) = some 2 := by decide +kernel
theorem pn_X8_owed : plainName yX8_owed.cls = true := by decide +kernel
theorem hy_X8_lent : yX8_lent.cls ≠ "java/lang/invoke/MethodHandle" ∧ yX8_lent.cls ≠ "java/lang/invoke/VarHandle" ∧ (parseMethodDescriptor yX8_lent.desc).map (fun d => d.parameters.length) = some 2 := by decide +kernel
theorem pn_X8_lent : plainName yX8_lent.cls = true := by decide +kernel
theorem hy_X8_count : yX8_count.cls ≠ "java/lang/invoke/MethodHandle" ∧ yX8_count.cls ≠ "java/lang/invoke/VarHandle" ∧ (parseMethodDescriptor yX8_count.desc).map (fun d => d.parameters.length) = some 1 := by decide +kernel
theorem pn_X8_count : plainName yX8_count.cls = true := by decide +kernel
theorem hy_X8_isPlace : yX8_isPlace.cls ≠ "java/lang/invoke/MethodHandle" ∧ yX8_isPlace.cls ≠ "java/lang/invoke/VarHandle" ∧ (parseMethodDescriptor yX8_isPlace.desc).map (fun d => d.parameters.length) = some 1 := by decide +kernel
theorem pn_X8_isPlace : plainName yX8_isPlace.cls = true := by decide +kernel
theorem hy_X8_areTwoFarms : yX8_areTwoFarms.cls ≠ "java/lang/invoke/MethodHandle" ∧ yX8_areTwoFarms.cls ≠ "java/lang/invoke/VarHandle" ∧ (parseMethodDescriptor yX8_areTwoFarms.desc).map (fun d => d.parameters.length) = some 2 := by decide +kernel
theorem pn_X8_areTwoFarms : plainName yX8_areTwoFarms.cls = true := by decide +kernel
theorem hy_X8_prepareSearch : yX8_prepareSearch.cls ≠ "java/lang/invoke/MethodHandle" ∧ yX8_prepareSearch.cls ≠ "java/lang/invoke/VarHandle" ∧ (parseMethodDescriptor yX8_prepareSearch.desc).map (fun d => d.parameters.length) = some 0 := by decide +kernel
theorem pn_X8_prepareSearch : plainName yX8_prepareSearch.cls = true := by decide +kernel
theorem hy_X8_gangOf : yX8_gangOf.cls ≠ "java/lang/invoke/MethodHandle" ∧ yX8_gangOf.cls ≠ "java/lang/invoke/VarHandle" ∧ (parseMethodDescriptor yX8_gangOf.desc).map (fun d => d.parameters.length) = some 1 := by decide +kernel
theorem pn_X8_gangOf : plainName yX8_gangOf.cls = true := by decide +kernel
theorem hy_X8_speedOf : yX8_speedOf.cls ≠ "java/lang/invoke/MethodHandle" ∧ yX8_speedOf.cls ≠ "java/lang/invoke/VarHandle" ∧ (parseMethodDescriptor yX8_speedOf.desc).map (fun d => d.parameters.length) = some 1 := by decide +kernel
theorem pn_X8_speedOf : plainName yX8_speedOf.cls = true := by decide +kernel
theorem hy_X8_sacksOf : yX8_sacksOf.cls ≠ "java/lang/invoke/MethodHandle" ∧ yX8_sacksOf.cls ≠ "java/lang/invoke/VarHandle" ∧ (parseMethodDescriptor yX8_sacksOf.desc).map (fun d => d.parameters.length) = some 1 := by decide +kernel
theorem pn_X8_sacksOf : plainName yX8_sacksOf.cls = true := by decide +kernel
theorem hy_X8_priceOf : yX8_priceOf.cls ≠ "java/lang/invoke/MethodHandle" ∧ yX8_priceOf.cls ≠ "java/lang/invoke/VarHandle" ∧ (parseMethodDescriptor yX8_priceOf.desc).map (fun d => d.parameters.length) = some 1 := by decide +kernel
theorem pn_X8_priceOf : plainName yX8_priceOf.cls = true := by decide +kernel
theorem hy_X8_lossOf : yX8_lossOf.cls ≠ "java/lang/invoke/MethodHandle" ∧ yX8_lossOf.cls ≠ "java/lang/invoke/VarHandle" ∧ (parseMethodDescriptor yX8_lossOf.desc).map (fun d => d.parameters.length) = some 1 := by decide +kernel
theorem pn_X8_lossOf : plainName yX8_lossOf.cls = true := by decide +kernel
theorem hy_X8_howItIs : yX8_howItIs.cls ≠ "java/lang/invoke/MethodHandle" ∧ yX8_howItIs.cls ≠ "java/lang/invoke/VarHandle" ∧ (parseMethodDescriptor yX8_howItIs.desc).map (fun d => d.parameters.length) = some 0 := by decide +kernel
theorem pn_X8_howItIs : plainName yX8_howItIs.cls = true := by decide +kernel
theorem hy_X8_isAheadOfFrom : yX8_isAheadOfFrom.cls ≠ "java/lang/invoke/MethodHandle" ∧ yX8_isAheadOfFrom.cls ≠ "java/lang/invoke/VarHandle" ∧ (parseMethodDescriptor yX8_isAheadOfFrom.desc).map (fun d => d.parameters.length) = some 0 := by decide +kernel
theorem pn_X8_isAheadOfFrom : plainName yX8_isAheadOfFrom.cls = true := by decide +kernel
theorem hy_X8_passDay : yX8_passDay.cls ≠ "java/lang/invoke/MethodHandle" ∧ yX8_passDay.cls ≠ "java/lang/invoke/VarHandle" ∧ (parseMethodDescriptor yX8_passDay.desc).map (fun d => d.parameters.length) = some 0 := by decide +kernel
theorem pn_X8_passDay : plainName yX8_passDay.cls = true := by decide +kernel
theorem hy_X8_thresh : yX8_thresh.cls ≠ "java/lang/invoke/MethodHandle" ∧ yX8_thresh.cls ≠ "java/lang/invoke/VarHandle" ∧ (parseMethodDescriptor yX8_thresh.desc).map (fun d => d.parameters.length) = some 1 := by decide +kernel
theorem pn_X8_thresh : plainName yX8_thresh.cls = true := by decide +kernel
theorem hy_X8_goOn : yX8_goOn.cls ≠ "java/lang/invoke/MethodHandle" ∧ yX8_goOn.cls ≠ "java/lang/invoke/VarHandle" ∧ (parseMethodDescriptor yX8_goOn.desc).map (fun d => d.parameters.length) = some 0 := by decide +kernel
theorem pn_X8_goOn : plainName yX8_goOn.cls = true := by decide +kernel
theorem hy_X8_setOutFor : yX8_setOutFor.cls ≠ "java/lang/invoke/MethodHandle" ∧ yX8_setOutFor.cls ≠ "java/lang/invoke/VarHandle" ∧ (parseMethodDescriptor yX8_setOutFor.desc).map (fun d => d.parameters.length) = some 1 := by decide +kernel
theorem pn_X8_setOutFor : plainName yX8_setOutFor.cls = true := by decide +kernel
theorem hy_X8_within : yX8_within.cls ≠ "java/lang/invoke/MethodHandle" ∧ yX8_within.cls ≠ "java/lang/invoke/VarHandle" ∧ (parseMethodDescriptor yX8_within.desc).map (fun d => d.parameters.length) = some 3 := by decide +kernel
theorem pn_X8_within : plainName yX8_within.cls = true := by decide +kernel
theorem hy_X8_at : yX8_at.cls ≠ "java/lang/invoke/MethodHandle" ∧ yX8_at.cls ≠ "java/lang/invoke/VarHandle" ∧ (parseMethodDescriptor yX8_at.desc).map (fun d => d.parameters.length) = some 2 := by decide +kernel
theorem pn_X8_at : plainName yX8_at.cls = true := by decide +kernel
theorem hy_X8_put : yX8_put.cls ≠ "java/lang/invoke/MethodHandle" ∧ yX8_put.cls ≠ "java/lang/invoke/VarHandle" ∧ (parseMethodDescriptor yX8_put.desc).map (fun d => d.parameters.length) = some 3 := by decide +kernel
theorem pn_X8_put : plainName yX8_put.cls = true := by decide +kernel
theorem hy_X8_at_ : yX8_at_.cls ≠ "java/lang/invoke/MethodHandle" ∧ yX8_at_.cls ≠ "java/lang/invoke/VarHandle" ∧ (parseMethodDescriptor yX8_at_.desc).map (fun d => d.parameters.length) = some 3 := by decide +kernel
theorem pn_X8_at_ : plainName yX8_at_.cls = true := by decide +kernel
theorem hy_X8_put_ : yX8_put_.cls ≠ "java/lang/invoke/MethodHandle" ∧ yX8_put_.cls ≠ "java/lang/invoke/VarHandle" ∧ (parseMethodDescriptor yX8_put_.desc).map (fun d => d.parameters.length) = some 4 := by decide +kernel
theorem pn_X8_put_ : plainName yX8_put_.cls = true := by decide +kernel
theorem hy_X8_cut : yX8_cut.cls ≠ "java/lang/invoke/MethodHandle" ∧ yX8_cut.cls ≠ "java/lang/invoke/VarHandle" ∧ (parseMethodDescriptor yX8_cut.desc).map (fun d => d.parameters.length) = some 2 := by decide +kernel
theorem pn_X8_cut : plainName yX8_cut.cls = true := by decide +kernel
theorem hy_X8_upwards : yX8_upwards.cls ≠ "java/lang/invoke/MethodHandle" ∧ yX8_upwards.cls ≠ "java/lang/invoke/VarHandle" ∧ (parseMethodDescriptor yX8_upwards.desc).map (fun d => d.parameters.length) = some 2 := by decide +kernel
theorem pn_X8_upwards : plainName yX8_upwards.cls = true := by decide +kernel
theorem hy_X9_init : yX9_init.cls ≠ "java/lang/invoke/MethodHandle" ∧ yX9_init.cls ≠ "java/lang/invoke/VarHandle" ∧ (parseMethodDescriptor yX9_init.desc).map (fun d => d.parameters.length) = some 0 := by decide +kernel
theorem pn_X9_init : plainName yX9_init.cls = true := by decide +kernel
theorem hy_X9_feed : yX9_feed.cls ≠ "java/lang/invoke/MethodHandle" ∧ yX9_feed.cls ≠ "java/lang/invoke/VarHandle" ∧ (parseMethodDescriptor yX9_feed.desc).map (fun d => d.parameters.length) = some 5 := by decide +kernel
theorem pn_X9_feed : plainName yX9_feed.cls = true := by decide +kernel
theorem hy_X9_here : yX9_here.cls ≠ "java/lang/invoke/MethodHandle" ∧ yX9_here.cls ≠ "java/lang/invoke/VarHandle" ∧ (parseMethodDescriptor yX9_here.desc).map (fun d => d.parameters.length) = some 0 := by decide +kernel
theorem pn_X9_here : plainName yX9_here.cls = true := by decide +kernel
theorem hy_X9_isSmall : yX9_isSmall.cls ≠ "java/lang/invoke/MethodHandle" ∧ yX9_isSmall.cls ≠ "java/lang/invoke/VarHandle" ∧ (parseMethodDescriptor yX9_isSmall.desc).map (fun d => d.parameters.length) = some 1 := by decide +kernel
theorem pn_X9_isSmall : plainName yX9_isSmall.cls = true := by decide +kernel
theorem hy_X9_isDigit : yX9_isDigit.cls ≠ "java/lang/invoke/MethodHandle" ∧ yX9_isDigit.cls ≠ "java/lang/invoke/VarHandle" ∧ (parseMethodDescriptor yX9_isDigit.desc).map (fun d => d.parameters.length) = some 1 := by decide +kernel
theorem pn_X9_isDigit : plainName yX9_isDigit.cls = true := by decide +kernel
theorem hy_X9_next : yX9_next.cls ≠ "java/lang/invoke/MethodHandle" ∧ yX9_next.cls ≠ "java/lang/invoke/VarHandle" ∧ (parseMethodDescriptor yX9_next.desc).map (fun d => d.parameters.length) = some 0 := by decide +kernel
theorem pn_X9_next : plainName yX9_next.cls = true := by decide +kernel
theorem hy_X9_wordOf : yX9_wordOf.cls ≠ "java/lang/invoke/MethodHandle" ∧ yX9_wordOf.cls ≠ "java/lang/invoke/VarHandle" ∧ (parseMethodDescriptor yX9_wordOf.desc).map (fun d => d.parameters.length) = some 0 := by decide +kernel
theorem pn_X9_wordOf : plainName yX9_wordOf.cls = true := by decide +kernel
theorem hy_X9_wrong : yX9_wrong.cls ≠ "java/lang/invoke/MethodHandle" ∧ yX9_wrong.cls ≠ "java/lang/invoke/VarHandle" ∧ (parseMethodDescriptor yX9_wrong.desc).map (fun d => d.parameters.length) = some 1 := by decide +kernel
theorem pn_X9_wrong : plainName yX9_wrong.cls = true := by decide +kernel
theorem hy_X9_line : yX9_line.cls ≠ "java/lang/invoke/MethodHandle" ∧ yX9_line.cls ≠ "java/lang/invoke/VarHandle" ∧ (parseMethodDescriptor yX9_line.desc).map (fun d => d.parameters.length) = some 0 := by decide +kernel
theorem pn_X9_line : plainName yX9_line.cls = true := by decide +kernel
theorem hy_X9_customs : yX9_customs.cls ≠ "java/lang/invoke/MethodHandle" ∧ yX9_customs.cls ≠ "java/lang/invoke/VarHandle" ∧ (parseMethodDescriptor yX9_customs.desc).map (fun d => d.parameters.length) = some 1 := by decide +kernel
theorem pn_X9_customs : plainName yX9_customs.cls = true := by decide +kernel
theorem hy_X9_fault : yX9_fault.cls ≠ "java/lang/invoke/MethodHandle" ∧ yX9_fault.cls ≠ "java/lang/invoke/VarHandle" ∧ (parseMethodDescriptor yX9_fault.desc).map (fun d => d.parameters.length) = some 1 := by decide +kernel
theorem pn_X9_fault : plainName yX9_fault.cls = true := by decide +kernel
theorem hy_X9_isFarm : yX9_isFarm.cls ≠ "java/lang/invoke/MethodHandle" ∧ yX9_isFarm.cls ≠ "java/lang/invoke/VarHandle" ∧ (parseMethodDescriptor yX9_isFarm.desc).map (fun d => d.parameters.length) = some 1 := by decide +kernel
theorem pn_X9_isFarm : plainName yX9_isFarm.cls = true := by decide +kernel
theorem hy_X9_isTwelve : yX9_isTwelve.cls ≠ "java/lang/invoke/MethodHandle" ∧ yX9_isTwelve.cls ≠ "java/lang/invoke/VarHandle" ∧ (parseMethodDescriptor yX9_isTwelve.desc).map (fun d => d.parameters.length) = some 1 := by decide +kernel
theorem pn_X9_isTwelve : plainName yX9_isTwelve.cls = true := by decide +kernel
theorem hy_X9_farm : yX9_farm.cls ≠ "java/lang/invoke/MethodHandle" ∧ yX9_farm.cls ≠ "java/lang/invoke/VarHandle" ∧ (parseMethodDescriptor yX9_farm.desc).map (fun d => d.parameters.length) = some 6 := by decide +kernel
theorem pn_X9_farm : plainName yX9_farm.cls = true := by decide +kernel
theorem hy_X9_way : yX9_way.cls ≠ "java/lang/invoke/MethodHandle" ∧ yX9_way.cls ≠ "java/lang/invoke/VarHandle" ∧ (parseMethodDescriptor yX9_way.desc).map (fun d => d.parameters.length) = some 3 := by decide +kernel
theorem pn_X9_way : plainName yX9_way.cls = true := by decide +kernel
theorem hy_X9_bargain : yX9_bargain.cls ≠ "java/lang/invoke/MethodHandle" ∧ yX9_bargain.cls ≠ "java/lang/invoke/VarHandle" ∧ (parseMethodDescriptor yX9_bargain.desc).map (fun d => d.parameters.length) = some 3 := by decide +kernel
theorem pn_X9_bargain : plainName yX9_bargain.cls = true := by decide +kernel
theorem hy_X9_gangs : yX9_gangs.cls ≠ "java/lang/invoke/MethodHandle" ∧ yX9_gangs.cls ≠ "java/lang/invoke/VarHandle" ∧ (parseMethodDescriptor yX9_gangs.desc).map (fun d => d.parameters.length) = some 1 := by decide +kernel
theorem pn_X9_gangs : plainName yX9_gangs.cls = true := by decide +kernel
theorem hy_X9_speedOf : yX9_speedOf.cls ≠ "java/lang/invoke/MethodHandle" ∧ yX9_speedOf.cls ≠ "java/lang/invoke/VarHandle" ∧ (parseMethodDescriptor yX9_speedOf.desc).map (fun d => d.parameters.length) = some 1 := by decide +kernel
theorem pn_X9_speedOf : plainName yX9_speedOf.cls = true := by decide +kernel
theorem hy_X9_isDone : yX9_isDone.cls ≠ "java/lang/invoke/MethodHandle" ∧ yX9_isDone.cls ≠ "java/lang/invoke/VarHandle" ∧ (parseMethodDescriptor yX9_isDone.desc).map (fun d => d.parameters.length) = some 1 := by decide +kernel
theorem pn_X9_isDone : plainName yX9_isDone.cls = true := by decide +kernel
theorem hy_X9_goes : yX9_goes.cls ≠ "java/lang/invoke/MethodHandle" ∧ yX9_goes.cls ≠ "java/lang/invoke/VarHandle" ∧ (parseMethodDescriptor yX9_goes.desc).map (fun d => d.parameters.length) = some 0 := by decide +kernel
theorem pn_X9_goes : plainName yX9_goes.cls = true := by decide +kernel
theorem hy_X9_lossOf : yX9_lossOf.cls ≠ "java/lang/invoke/MethodHandle" ∧ yX9_lossOf.cls ≠ "java/lang/invoke/VarHandle" ∧ (parseMethodDescriptor yX9_lossOf.desc).map (fun d => d.parameters.length) = some 2 := by decide +kernel
theorem pn_X9_lossOf : plainName yX9_lossOf.cls = true := by decide +kernel
theorem hy_X9_goesOn : yX9_goesOn.cls ≠ "java/lang/invoke/MethodHandle" ∧ yX9_goesOn.cls ≠ "java/lang/invoke/VarHandle" ∧ (parseMethodDescriptor yX9_goesOn.desc).map (fun d => d.parameters.length) = some 0 := by decide +kernel
theorem pn_X9_goesOn : plainName yX9_goesOn.cls = true := by decide +kernel
theorem hy_X9_swaps : yX9_swaps.cls ≠ "java/lang/invoke/MethodHandle" ∧ yX9_swaps.cls ≠ "java/lang/invoke/VarHandle" ∧ (parseMethodDescriptor yX9_swaps.desc).map (fun d => d.parameters.length) = some 2 := by decide +kernel
theorem pn_X9_swaps : plainName yX9_swaps.cls = true := by decide +kernel
theorem hy_X9_firstOrder : yX9_firstOrder.cls ≠ "java/lang/invoke/MethodHandle" ∧ yX9_firstOrder.cls ≠ "java/lang/invoke/VarHandle" ∧ (parseMethodDescriptor yX9_firstOrder.desc).map (fun d => d.parameters.length) = some 0 := by decide +kernel
theorem pn_X9_firstOrder : plainName yX9_firstOrder.cls = true := by decide +kernel
theorem hy_X9_plan : yX9_plan.cls ≠ "java/lang/invoke/MethodHandle" ∧ yX9_plan.cls ≠ "java/lang/invoke/VarHandle" ∧ (parseMethodDescriptor yX9_plan.desc).map (fun d => d.parameters.length) = some 0 := by decide +kernel
theorem pn_X9_plan : plainName yX9_plan.cls = true := by decide +kernel
theorem hy_X9_comes : yX9_comes.cls ≠ "java/lang/invoke/MethodHandle" ∧ yX9_comes.cls ≠ "java/lang/invoke/VarHandle" ∧ (parseMethodDescriptor yX9_comes.desc).map (fun d => d.parameters.length) = some 0 := by decide +kernel
theorem pn_X9_comes : plainName yX9_comes.cls = true := by decide +kernel
theorem hy_X9_planned : yX9_planned.cls ≠ "java/lang/invoke/MethodHandle" ∧ yX9_planned.cls ≠ "java/lang/invoke/VarHandle" ∧ (parseMethodDescriptor yX9_planned.desc).map (fun d => d.parameters.length) = some 2 := by decide +kernel
theorem pn_X9_planned : plainName yX9_planned.cls = true := by decide +kernel
theorem hy_X9_setsOut : yX9_setsOut.cls ≠ "java/lang/invoke/MethodHandle" ∧ yX9_setsOut.cls ≠ "java/lang/invoke/VarHandle" ∧ (parseMethodDescriptor yX9_setsOut.desc).map (fun d => d.parameters.length) = some 0 := by decide +kernel
theorem pn_X9_setsOut : plainName yX9_setsOut.cls = true := by decide +kernel
theorem hy_X9_out : yX9_out.cls ≠ "java/lang/invoke/MethodHandle" ∧ yX9_out.cls ≠ "java/lang/invoke/VarHandle" ∧ (parseMethodDescriptor yX9_out.desc).map (fun d => d.parameters.length) = some 0 := by decide +kernel
theorem pn_X9_out : plainName yX9_out.cls = true := by decide +kernel
theorem hy_X9_breaks : yX9_breaks.cls ≠ "java/lang/invoke/MethodHandle" ∧ yX9_breaks.cls ≠ "java/lang/invoke/VarHandle" ∧ (parseMethodDescriptor yX9_breaks.desc).map (fun d => d.parameters.length) = some 1 := by decide +kernel
theorem pn_X9_breaks : plainName yX9_breaks.cls = true := by decide +kernel
theorem hy_X9_isAtWork : yX9_isAtWork.cls ≠ "java/lang/invoke/MethodHandle" ∧ yX9_isAtWork.cls ≠ "java/lang/invoke/VarHandle" ∧ (parseMethodDescriptor yX9_isAtWork.desc).map (fun d => d.parameters.length) = some 0 := by decide +kernel
theorem pn_X9_isAtWork : plainName yX9_isAtWork.cls = true := by decide +kernel
theorem hy_X9_threshes : yX9_threshes.cls ≠ "java/lang/invoke/MethodHandle" ∧ yX9_threshes.cls ≠ "java/lang/invoke/VarHandle" ∧ (parseMethodDescriptor yX9_threshes.desc).map (fun d => d.parameters.length) = some 1 := by decide +kernel
theorem pn_X9_threshes : plainName yX9_threshes.cls = true := by decide +kernel
theorem hy_X9_oneDay : yX9_oneDay.cls ≠ "java/lang/invoke/MethodHandle" ∧ yX9_oneDay.cls ≠ "java/lang/invoke/VarHandle" ∧ (parseMethodDescriptor yX9_oneDay.desc).map (fun d => d.parameters.length) = some 0 := by decide +kernel
theorem pn_X9_oneDay : plainName yX9_oneDay.cls = true := by decide +kernel
theorem hy_X9_day : yX9_day.cls ≠ "java/lang/invoke/MethodHandle" ∧ yX9_day.cls ≠ "java/lang/invoke/VarHandle" ∧ (parseMethodDescriptor yX9_day.desc).map (fun d => d.parameters.length) = some 1 := by decide +kernel
theorem pn_X9_day : plainName yX9_day.cls = true := by decide +kernel
theorem hy_X9_sacksOf : yX9_sacksOf.cls ≠ "java/lang/invoke/MethodHandle" ∧ yX9_sacksOf.cls ≠ "java/lang/invoke/VarHandle" ∧ (parseMethodDescriptor yX9_sacksOf.desc).map (fun d => d.parameters.length) = some 1 := by decide +kernel
theorem pn_X9_sacksOf : plainName yX9_sacksOf.cls = true := by decide +kernel
theorem hy_X9_look : yX9_look.cls ≠ "java/lang/invoke/MethodHandle" ∧ yX9_look.cls ≠ "java/lang/invoke/VarHandle" ∧ (parseMethodDescriptor yX9_look.desc).map (fun d => d.parameters.length) = some 2 := by decide +kernel
theorem pn_X9_look : plainName yX9_look.cls = true := by decide +kernel
theorem hy_X9_owed : yX9_owed.cls ≠ "java/lang/invoke/MethodHandle" ∧ yX9_owed.cls ≠ "java/lang/invoke/VarHandle" ∧ (parseMethodDescriptor yX9_owed.desc).map (fun d => d.parameters.length) = some 2 := by decide +kernel
theorem pn_X9_owed : plainName yX9_owed.cls = true := by decide +kernel
theorem hy_X9_lent : yX9_lent.cls ≠ "java/lang/invoke/MethodHandle" ∧ yX9_lent.cls ≠ "java/lang/invoke/VarHandle" ∧ (parseMethodDescriptor yX9_lent.desc).map (fun d => d.parameters.length) = some 2 := by decide +kernel
theorem pn_X9_lent : plainName yX9_lent.cls = true := by decide +kernel
theorem hy_X9_count : yX9_count.cls ≠ "java/lang/invoke/MethodHandle" ∧ yX9_count.cls ≠ "java/lang/invoke/VarHandle" ∧ (parseMethodDescriptor yX9_count.desc).map (fun d => d.parameters.length) = some 1 := by decide +kernel
theorem pn_X9_count : plainName yX9_count.cls = true := by decide +kernel
theorem hy_J0_length_8abf5 : yJ0_length_8abf5.cls ≠ "java/lang/invoke/MethodHandle" ∧ yJ0_length_8abf5.cls ≠ "java/lang/invoke/VarHandle" ∧ (parseMethodDescriptor yJ0_length_8abf5.desc).map (fun d => d.parameters.length) = some 0 := by decide +kernel
theorem pn_J0_length_8abf5 : plainName yJ0_length_8abf5.cls = true := by decide +kernel
theorem hy_J0_charAt_5068e : yJ0_charAt_5068e.cls ≠ "java/lang/invoke/MethodHandle" ∧ yJ0_charAt_5068e.cls ≠ "java/lang/invoke/VarHandle" ∧ (parseMethodDescriptor yJ0_charAt_5068e.desc).map (fun d => d.parameters.length) = some 1 := by decide +kernel
theorem pn_J0_charAt_5068e : plainName yJ0_charAt_5068e.cls = true := by decide +kernel
theorem hy_J0_coder_7d493 : yJ0_coder_7d493.cls ≠ "java/lang/invoke/MethodHandle" ∧ yJ0_coder_7d493.cls ≠ "java/lang/invoke/VarHandle" ∧ (parseMethodDescriptor yJ0_coder_7d493.desc).map (fun d => d.parameters.length) = some 0 := by decide +kernel
theorem pn_J0_coder_7d493 : plainName yJ0_coder_7d493.cls = true := by decide +kernel
theorem hy_J0_isLatin1_aae02 : yJ0_isLatin1_aae02.cls ≠ "java/lang/invoke/MethodHandle" ∧ yJ0_isLatin1_aae02.cls ≠ "java/lang/invoke/VarHandle" ∧ (parseMethodDescriptor yJ0_isLatin1_aae02.desc).map (fun d => d.parameters.length) = some 0 := by decide +kernel
theorem pn_J0_isLatin1_aae02 : plainName yJ0_isLatin1_aae02.cls = true := by decide +kernel
theorem hy_J0_checkIndex_df160 : yJ0_checkIndex_df160.cls ≠ "java/lang/invoke/MethodHandle" ∧ yJ0_checkIndex_df160.cls ≠ "java/lang/invoke/VarHandle" ∧ (parseMethodDescriptor yJ0_checkIndex_df160.desc).map (fun d => d.parameters.length) = some 2 := by decide +kernel
theorem pn_J0_checkIndex_df160 : plainName yJ0_checkIndex_df160.cls = true := by decide +kernel
theorem hy_J1_charAt_3b067 : yJ1_charAt_3b067.cls ≠ "java/lang/invoke/MethodHandle" ∧ yJ1_charAt_3b067.cls ≠ "java/lang/invoke/VarHandle" ∧ (parseMethodDescriptor yJ1_charAt_3b067.desc).map (fun d => d.parameters.length) = some 2 := by decide +kernel
theorem pn_J1_charAt_3b067 : plainName yJ1_charAt_3b067.cls = true := by decide +kernel
theorem hy_J2_getChar_3b067 : yJ2_getChar_3b067.cls ≠ "java/lang/invoke/MethodHandle" ∧ yJ2_getChar_3b067.cls ≠ "java/lang/invoke/VarHandle" ∧ (parseMethodDescriptor yJ2_getChar_3b067.desc).map (fun d => d.parameters.length) = some 2 := by decide +kernel
theorem pn_J2_getChar_3b067 : plainName yJ2_getChar_3b067.cls = true := by decide +kernel
theorem hy_J2_length_9d52b : yJ2_length_9d52b.cls ≠ "java/lang/invoke/MethodHandle" ∧ yJ2_length_9d52b.cls ≠ "java/lang/invoke/VarHandle" ∧ (parseMethodDescriptor yJ2_length_9d52b.desc).map (fun d => d.parameters.length) = some 1 := by decide +kernel
theorem pn_J2_length_9d52b : plainName yJ2_length_9d52b.cls = true := by decide +kernel
theorem hy_J2_charAt_3b067 : yJ2_charAt_3b067.cls ≠ "java/lang/invoke/MethodHandle" ∧ yJ2_charAt_3b067.cls ≠ "java/lang/invoke/VarHandle" ∧ (parseMethodDescriptor yJ2_charAt_3b067.desc).map (fun d => d.parameters.length) = some 2 := by decide +kernel
theorem pn_J2_charAt_3b067 : plainName yJ2_charAt_3b067.cls = true := by decide +kernel
theorem hy_J2_checkIndex_2214a : yJ2_checkIndex_2214a.cls ≠ "java/lang/invoke/MethodHandle" ∧ yJ2_checkIndex_2214a.cls ≠ "java/lang/invoke/VarHandle" ∧ (parseMethodDescriptor yJ2_checkIndex_2214a.desc).map (fun d => d.parameters.length) = some 2 := by decide +kernel
theorem pn_J2_checkIndex_2214a : plainName yJ2_checkIndex_2214a.cls = true := by decide +kernel
theorem hy_J3_checkIndex_8e157 : yJ3_checkIndex_8e157.cls ≠ "java/lang/invoke/MethodHandle" ∧ yJ3_checkIndex_8e157.cls ≠ "java/lang/invoke/VarHandle" ∧ (parseMethodDescriptor yJ3_checkIndex_8e157.desc).map (fun d => d.parameters.length) = some 3 := by decide +kernel
theorem pn_J3_checkIndex_8e157 : plainName yJ3_checkIndex_8e157.cls = true := by decide +kernel
theorem vx_pst {Post : vx_P} {ad : Nat → Nat} {N : Nat} {Λ : vx_L} {r r0 : Option vx_v} {m m0 : vx_mem} (h : Post r0 ad N Λ m0) (e1 : r = r0) (e2 : m = m0) : Post r ad N Λ m := by
  subst e1; subst e2; exact h
end
