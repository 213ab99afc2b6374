-- ===== PART A: goes FIRST, ahead of the names: the tables' words, and 'selects' of the private methods out of them =====
/-- a private method of a class that the tables say can be made, by its rows of tables_1 -/
def lw_okq (q : MethodName × Nat) : Prop := (q.1.cls ≠ "java/lang/invoke/MethodHandle" ∧ q.1.cls ≠ "java/lang/invoke/VarHandle") ∧ Cond.instantiable q.1.cls q.2 ∈ tables_1 ∧ Cond.privateMethod q.1 ∈ tables_1 ∧ Cond.instanceMethod q.1 ∈ tables_1
theorem lw_p0 : lw_okq (⟨"ThreshRound$Customs", "forgetTold", "()V"⟩, 4) := ⟨⟨by decide +kernel, by decide +kernel⟩, List.mem_of_getElem? (i := 47) (by decide +kernel), List.mem_of_getElem? (i := 53) (by decide +kernel), List.mem_of_getElem? (i := 54) (by decide +kernel)⟩
theorem lw_p1 : lw_okq (⟨"ThreshRound$Customs", "putInForce", "()V"⟩, 4) := ⟨⟨by decide +kernel, by decide +kernel⟩, List.mem_of_getElem? (i := 47) (by decide +kernel), List.mem_of_getElem? (i := 60) (by decide +kernel), List.mem_of_getElem? (i := 61) (by decide +kernel)⟩
theorem lw_p2 : lw_okq (⟨"ThreshRound$Search", "setWaits", "(IZ)V"⟩, 12) := ⟨⟨by decide +kernel, by decide +kernel⟩, List.mem_of_getElem? (i := 174) (by decide +kernel), List.mem_of_getElem? (i := 185) (by decide +kernel), List.mem_of_getElem? (i := 186) (by decide +kernel)⟩
theorem lw_p3 : lw_okq (⟨"ThreshRound$Customs", "readLine", "(LThreshRound$Tape;)Z"⟩, 4) := ⟨⟨by decide +kernel, by decide +kernel⟩, List.mem_of_getElem? (i := 47) (by decide +kernel), List.mem_of_getElem? (i := 363) (by decide +kernel), List.mem_of_getElem? (i := 364) (by decide +kernel)⟩
theorem lw_p4 : lw_okq (⟨"ThreshRound$Customs", "fails", "(II)Z"⟩, 4) := ⟨⟨by decide +kernel, by decide +kernel⟩, List.mem_of_getElem? (i := 47) (by decide +kernel), List.mem_of_getElem? (i := 438) (by decide +kernel), List.mem_of_getElem? (i := 439) (by decide +kernel)⟩
theorem lw_p5 : lw_okq (⟨"ThreshRound", "isPlace", "(I)Z"⟩, 8) := ⟨⟨by decide +kernel, by decide +kernel⟩, List.mem_of_getElem? (i := 17) (by decide +kernel), List.mem_of_getElem? (i := 475) (by decide +kernel), List.mem_of_getElem? (i := 476) (by decide +kernel)⟩
theorem lw_p6 : lw_okq (⟨"ThreshRound", "prepareSearch", "()V"⟩, 8) := ⟨⟨by decide +kernel, by decide +kernel⟩, List.mem_of_getElem? (i := 17) (by decide +kernel), List.mem_of_getElem? (i := 492) (by decide +kernel), List.mem_of_getElem? (i := 493) (by decide +kernel)⟩
theorem lw_p7 : lw_okq (⟨"ThreshRound", "speedOf", "(I)I"⟩, 8) := ⟨⟨by decide +kernel, by decide +kernel⟩, List.mem_of_getElem? (i := 17) (by decide +kernel), List.mem_of_getElem? (i := 508) (by decide +kernel), List.mem_of_getElem? (i := 509) (by decide +kernel)⟩
theorem lw_p8 : lw_okq (⟨"ThreshRound$Debts", "nextLender", "(II)I"⟩, 2) := ⟨⟨by decide +kernel, by decide +kernel⟩, List.mem_of_getElem? (i := 158) (by decide +kernel), List.mem_of_getElem? (i := 519) (by decide +kernel), List.mem_of_getElem? (i := 520) (by decide +kernel)⟩
theorem lw_p9 : lw_okq (⟨"ThreshRound$Search", "isWaiting", "(I)Z"⟩, 12) := ⟨⟨by decide +kernel, by decide +kernel⟩, List.mem_of_getElem? (i := 174) (by decide +kernel), List.mem_of_getElem? (i := 545) (by decide +kernel), List.mem_of_getElem? (i := 546) (by decide +kernel)⟩
theorem lw_p10 : lw_okq (⟨"ThreshRound$Search", "keepAsBest", "(II)V"⟩, 12) := ⟨⟨by decide +kernel, by decide +kernel⟩, List.mem_of_getElem? (i := 174) (by decide +kernel), List.mem_of_getElem? (i := 556) (by decide +kernel), List.mem_of_getElem? (i := 557) (by decide +kernel)⟩
theorem lw_p11 : lw_okq (⟨"ThreshRound$Search", "mayCome", "(II)Z"⟩, 12) := ⟨⟨by decide +kernel, by decide +kernel⟩, List.mem_of_getElem? (i := 174) (by decide +kernel), List.mem_of_getElem? (i := 565) (by decide +kernel), List.mem_of_getElem? (i := 566) (by decide +kernel)⟩
theorem lw_p12 : lw_okq (⟨"ThreshRound$Search", "beatsBest", "(II)Z"⟩, 12) := ⟨⟨by decide +kernel, by decide +kernel⟩, List.mem_of_getElem? (i := 174) (by decide +kernel), List.mem_of_getElem? (i := 582) (by decide +kernel), List.mem_of_getElem? (i := 583) (by decide +kernel)⟩
theorem lw_p13 : lw_okq (⟨"ThreshRound", "setOutFor", "(I)V"⟩, 8) := ⟨⟨by decide +kernel, by decide +kernel⟩, List.mem_of_getElem? (i := 17) (by decide +kernel), List.mem_of_getElem? (i := 606) (by decide +kernel), List.mem_of_getElem? (i := 607) (by decide +kernel)⟩
theorem lw_p14 : lw_okq (⟨"ThreshRound", "passDay", "()V"⟩, 8) := ⟨⟨by decide +kernel, by decide +kernel⟩, List.mem_of_getElem? (i := 17) (by decide +kernel), List.mem_of_getElem? (i := 618) (by decide +kernel), List.mem_of_getElem? (i := 619) (by decide +kernel)⟩
theorem lw_p15 : lw_okq (⟨"ThreshRound", "isAheadOfFrom", "()Z"⟩, 8) := ⟨⟨by decide +kernel, by decide +kernel⟩, List.mem_of_getElem? (i := 17) (by decide +kernel), List.mem_of_getElem? (i := 622) (by decide +kernel), List.mem_of_getElem? (i := 623) (by decide +kernel)⟩
def lw_privs_1 : List (MethodName × Nat) := [(⟨"ThreshRound$Customs", "forgetTold", "()V"⟩, 4), (⟨"ThreshRound$Customs", "putInForce", "()V"⟩, 4), (⟨"ThreshRound$Search", "setWaits", "(IZ)V"⟩, 12), (⟨"ThreshRound$Customs", "readLine", "(LThreshRound$Tape;)Z"⟩, 4), (⟨"ThreshRound$Customs", "fails", "(II)Z"⟩, 4), (⟨"ThreshRound", "isPlace", "(I)Z"⟩, 8), (⟨"ThreshRound", "prepareSearch", "()V"⟩, 8), (⟨"ThreshRound", "speedOf", "(I)I"⟩, 8), (⟨"ThreshRound$Debts", "nextLender", "(II)I"⟩, 2), (⟨"ThreshRound$Search", "isWaiting", "(I)Z"⟩, 12), (⟨"ThreshRound$Search", "keepAsBest", "(II)V"⟩, 12), (⟨"ThreshRound$Search", "mayCome", "(II)Z"⟩, 12), (⟨"ThreshRound$Search", "beatsBest", "(II)Z"⟩, 12), (⟨"ThreshRound", "setOutFor", "(I)V"⟩, 8), (⟨"ThreshRound", "passDay", "()V"⟩, 8), (⟨"ThreshRound", "isAheadOfFrom", "()Z"⟩, 8)]
theorem lw_r1 : ∀ q ∈ lw_privs_1, lw_okq q := List.forall_mem_cons.mpr ⟨lw_p0, List.forall_mem_cons.mpr ⟨lw_p1, List.forall_mem_cons.mpr ⟨lw_p2, List.forall_mem_cons.mpr ⟨lw_p3, List.forall_mem_cons.mpr ⟨lw_p4, List.forall_mem_cons.mpr ⟨lw_p5, List.forall_mem_cons.mpr ⟨lw_p6, List.forall_mem_cons.mpr ⟨lw_p7, List.forall_mem_cons.mpr ⟨lw_p8, List.forall_mem_cons.mpr ⟨lw_p9, List.forall_mem_cons.mpr ⟨lw_p10, List.forall_mem_cons.mpr ⟨lw_p11, List.forall_mem_cons.mpr ⟨lw_p12, List.forall_mem_cons.mpr ⟨lw_p13, List.forall_mem_cons.mpr ⟨lw_p14, List.forall_mem_cons.mpr ⟨lw_p15, fun _ h => absurd h List.not_mem_nil⟩⟩⟩⟩⟩⟩⟩⟩⟩⟩⟩⟩⟩⟩⟩⟩
theorem lw_p16 : lw_okq (⟨"ThreshRound", "thresh", "(I)V"⟩, 8) := ⟨⟨by decide +kernel, by decide +kernel⟩, List.mem_of_getElem? (i := 17) (by decide +kernel), List.mem_of_getElem? (i := 626) (by decide +kernel), List.mem_of_getElem? (i := 627) (by decide +kernel)⟩
theorem lw_p17 : lw_okq (⟨"ThreshRound", "goOn", "()V"⟩, 8) := ⟨⟨by decide +kernel, by decide +kernel⟩, List.mem_of_getElem? (i := 17) (by decide +kernel), List.mem_of_getElem? (i := 636) (by decide +kernel), List.mem_of_getElem? (i := 637) (by decide +kernel)⟩
theorem lw_p18 : lw_okq (⟨"ThreshRound", "sacksOf", "(I)I"⟩, 8) := ⟨⟨by decide +kernel, by decide +kernel⟩, List.mem_of_getElem? (i := 17) (by decide +kernel), List.mem_of_getElem? (i := 644) (by decide +kernel), List.mem_of_getElem? (i := 645) (by decide +kernel)⟩
theorem lw_p19 : lw_okq (⟨"ThreshRound", "priceOf", "(I)I"⟩, 8) := ⟨⟨by decide +kernel, by decide +kernel⟩, List.mem_of_getElem? (i := 17) (by decide +kernel), List.mem_of_getElem? (i := 648) (by decide +kernel), List.mem_of_getElem? (i := 649) (by decide +kernel)⟩
theorem lw_p20 : lw_okq (⟨"ThreshRound", "gangOf", "(I)I"⟩, 8) := ⟨⟨by decide +kernel, by decide +kernel⟩, List.mem_of_getElem? (i := 17) (by decide +kernel), List.mem_of_getElem? (i := 652) (by decide +kernel), List.mem_of_getElem? (i := 653) (by decide +kernel)⟩
theorem lw_p21 : lw_okq (⟨"ThreshRound", "lossOf", "(I)I"⟩, 8) := ⟨⟨by decide +kernel, by decide +kernel⟩, List.mem_of_getElem? (i := 17) (by decide +kernel), List.mem_of_getElem? (i := 656) (by decide +kernel), List.mem_of_getElem? (i := 657) (by decide +kernel)⟩
theorem lw_p22 : lw_okq (⟨"ThreshRound", "areTwoFarms", "(II)Z"⟩, 8) := ⟨⟨by decide +kernel, by decide +kernel⟩, List.mem_of_getElem? (i := 17) (by decide +kernel), List.mem_of_getElem? (i := 664) (by decide +kernel), List.mem_of_getElem? (i := 665) (by decide +kernel)⟩
theorem lw_p23 : lw_okq (⟨"ThreshRound", "howItIs", "()I"⟩, 8) := ⟨⟨by decide +kernel, by decide +kernel⟩, List.mem_of_getElem? (i := 17) (by decide +kernel), List.mem_of_getElem? (i := 683) (by decide +kernel), List.mem_of_getElem? (i := 684) (by decide +kernel)⟩
theorem lw_p24 : lw_okq (⟨"ThreshRoundModel", "next", "()V"⟩, 56) := ⟨⟨by decide +kernel, by decide +kernel⟩, List.mem_of_getElem? (i := 687) (by decide +kernel), List.mem_of_getElem? (i := 870) (by decide +kernel), List.mem_of_getElem? (i := 871) (by decide +kernel)⟩
theorem lw_p25 : lw_okq (⟨"ThreshRoundModel", "here", "()I"⟩, 56) := ⟨⟨by decide +kernel, by decide +kernel⟩, List.mem_of_getElem? (i := 687) (by decide +kernel), List.mem_of_getElem? (i := 874) (by decide +kernel), List.mem_of_getElem? (i := 875) (by decide +kernel)⟩
theorem lw_p26 : lw_okq (⟨"ThreshRoundModel", "wordOf", "()I"⟩, 56) := ⟨⟨by decide +kernel, by decide +kernel⟩, List.mem_of_getElem? (i := 687) (by decide +kernel), List.mem_of_getElem? (i := 881) (by decide +kernel), List.mem_of_getElem? (i := 882) (by decide +kernel)⟩
theorem lw_p27 : lw_okq (⟨"ThreshRoundModel", "line", "()V"⟩, 56) := ⟨⟨by decide +kernel, by decide +kernel⟩, List.mem_of_getElem? (i := 687) (by decide +kernel), List.mem_of_getElem? (i := 891) (by decide +kernel), List.mem_of_getElem? (i := 892) (by decide +kernel)⟩
theorem lw_p28 : lw_okq (⟨"ThreshRoundModel", "wrong", "(I)V"⟩, 56) := ⟨⟨by decide +kernel, by decide +kernel⟩, List.mem_of_getElem? (i := 687) (by decide +kernel), List.mem_of_getElem? (i := 895) (by decide +kernel), List.mem_of_getElem? (i := 896) (by decide +kernel)⟩
theorem lw_p29 : lw_okq (⟨"ThreshRoundModel", "isFarm", "(I)Z"⟩, 56) := ⟨⟨by decide +kernel, by decide +kernel⟩, List.mem_of_getElem? (i := 687) (by decide +kernel), List.mem_of_getElem? (i := 918) (by decide +kernel), List.mem_of_getElem? (i := 919) (by decide +kernel)⟩
theorem lw_p30 : lw_okq (⟨"ThreshRoundModel", "firstOrder", "()V"⟩, 56) := ⟨⟨by decide +kernel, by decide +kernel⟩, List.mem_of_getElem? (i := 687) (by decide +kernel), List.mem_of_getElem? (i := 926) (by decide +kernel), List.mem_of_getElem? (i := 927) (by decide +kernel)⟩
theorem lw_p31 : lw_okq (⟨"ThreshRoundModel", "isDone", "(I)Z"⟩, 56) := ⟨⟨by decide +kernel, by decide +kernel⟩, List.mem_of_getElem? (i := 687) (by decide +kernel), List.mem_of_getElem? (i := 930) (by decide +kernel), List.mem_of_getElem? (i := 931) (by decide +kernel)⟩
def lw_privs_2 : List (MethodName × Nat) := [(⟨"ThreshRound", "thresh", "(I)V"⟩, 8), (⟨"ThreshRound", "goOn", "()V"⟩, 8), (⟨"ThreshRound", "sacksOf", "(I)I"⟩, 8), (⟨"ThreshRound", "priceOf", "(I)I"⟩, 8), (⟨"ThreshRound", "gangOf", "(I)I"⟩, 8), (⟨"ThreshRound", "lossOf", "(I)I"⟩, 8), (⟨"ThreshRound", "areTwoFarms", "(II)Z"⟩, 8), (⟨"ThreshRound", "howItIs", "()I"⟩, 8), (⟨"ThreshRoundModel", "next", "()V"⟩, 56), (⟨"ThreshRoundModel", "here", "()I"⟩, 56), (⟨"ThreshRoundModel", "wordOf", "()I"⟩, 56), (⟨"ThreshRoundModel", "line", "()V"⟩, 56), (⟨"ThreshRoundModel", "wrong", "(I)V"⟩, 56), (⟨"ThreshRoundModel", "isFarm", "(I)Z"⟩, 56), (⟨"ThreshRoundModel", "firstOrder", "()V"⟩, 56), (⟨"ThreshRoundModel", "isDone", "(I)Z"⟩, 56)]
theorem lw_r2 : ∀ q ∈ lw_privs_2, lw_okq q := List.forall_mem_cons.mpr ⟨lw_p16, List.forall_mem_cons.mpr ⟨lw_p17, List.forall_mem_cons.mpr ⟨lw_p18, List.forall_mem_cons.mpr ⟨lw_p19, List.forall_mem_cons.mpr ⟨lw_p20, List.forall_mem_cons.mpr ⟨lw_p21, List.forall_mem_cons.mpr ⟨lw_p22, List.forall_mem_cons.mpr ⟨lw_p23, List.forall_mem_cons.mpr ⟨lw_p24, List.forall_mem_cons.mpr ⟨lw_p25, List.forall_mem_cons.mpr ⟨lw_p26, List.forall_mem_cons.mpr ⟨lw_p27, List.forall_mem_cons.mpr ⟨lw_p28, List.forall_mem_cons.mpr ⟨lw_p29, List.forall_mem_cons.mpr ⟨lw_p30, List.forall_mem_cons.mpr ⟨lw_p31, fun _ h => absurd h List.not_mem_nil⟩⟩⟩⟩⟩⟩⟩⟩⟩⟩⟩⟩⟩⟩⟩⟩
theorem lw_p32 : lw_okq (⟨"ThreshRoundModel", "speedOf", "(I)I"⟩, 56) := ⟨⟨by decide +kernel, by decide +kernel⟩, List.mem_of_getElem? (i := 687) (by decide +kernel), List.mem_of_getElem? (i := 934) (by decide +kernel), List.mem_of_getElem? (i := 935) (by decide +kernel)⟩
theorem lw_p33 : lw_okq (⟨"ThreshRoundModel", "gangs", "(I)V"⟩, 56) := ⟨⟨by decide +kernel, by decide +kernel⟩, List.mem_of_getElem? (i := 687) (by decide +kernel), List.mem_of_getElem? (i := 938) (by decide +kernel), List.mem_of_getElem? (i := 939) (by decide +kernel)⟩
theorem lw_p34 : lw_okq (⟨"ThreshRoundModel", "goes", "()Z"⟩, 56) := ⟨⟨by decide +kernel, by decide +kernel⟩, List.mem_of_getElem? (i := 687) (by decide +kernel), List.mem_of_getElem? (i := 944) (by decide +kernel), List.mem_of_getElem? (i := 945) (by decide +kernel)⟩
theorem lw_p35 : lw_okq (⟨"ThreshRoundModel", "lossOf", "(II)I"⟩, 56) := ⟨⟨by decide +kernel, by decide +kernel⟩, List.mem_of_getElem? (i := 687) (by decide +kernel), List.mem_of_getElem? (i := 948) (by decide +kernel), List.mem_of_getElem? (i := 949) (by decide +kernel)⟩
theorem lw_p36 : lw_okq (⟨"ThreshRoundModel", "goesOn", "()Z"⟩, 56) := ⟨⟨by decide +kernel, by decide +kernel⟩, List.mem_of_getElem? (i := 687) (by decide +kernel), List.mem_of_getElem? (i := 952) (by decide +kernel), List.mem_of_getElem? (i := 953) (by decide +kernel)⟩
theorem lw_p37 : lw_okq (⟨"ThreshRoundModel", "swaps", "(II)V"⟩, 56) := ⟨⟨by decide +kernel, by decide +kernel⟩, List.mem_of_getElem? (i := 687) (by decide +kernel), List.mem_of_getElem? (i := 956) (by decide +kernel), List.mem_of_getElem? (i := 957) (by decide +kernel)⟩
theorem lw_p38 : lw_okq (⟨"ThreshRoundModel", "comes", "()V"⟩, 56) := ⟨⟨by decide +kernel, by decide +kernel⟩, List.mem_of_getElem? (i := 687) (by decide +kernel), List.mem_of_getElem? (i := 960) (by decide +kernel), List.mem_of_getElem? (i := 961) (by decide +kernel)⟩
theorem lw_p39 : lw_okq (⟨"ThreshRoundModel", "setsOut", "()Z"⟩, 56) := ⟨⟨by decide +kernel, by decide +kernel⟩, List.mem_of_getElem? (i := 687) (by decide +kernel), List.mem_of_getElem? (i := 972) (by decide +kernel), List.mem_of_getElem? (i := 973) (by decide +kernel)⟩
theorem lw_p40 : lw_okq (⟨"ThreshRoundModel", "oneDay", "()V"⟩, 56) := ⟨⟨by decide +kernel, by decide +kernel⟩, List.mem_of_getElem? (i := 687) (by decide +kernel), List.mem_of_getElem? (i := 984) (by decide +kernel), List.mem_of_getElem? (i := 985) (by decide +kernel)⟩
theorem lw_p41 : lw_okq (⟨"ThreshRoundModel", "isAtWork", "()Z"⟩, 56) := ⟨⟨by decide +kernel, by decide +kernel⟩, List.mem_of_getElem? (i := 687) (by decide +kernel), List.mem_of_getElem? (i := 988) (by decide +kernel), List.mem_of_getElem? (i := 989) (by decide +kernel)⟩
theorem lw_p42 : lw_okq (⟨"ThreshRoundModel", "threshes", "(I)V"⟩, 56) := ⟨⟨by decide +kernel, by decide +kernel⟩, List.mem_of_getElem? (i := 687) (by decide +kernel), List.mem_of_getElem? (i := 992) (by decide +kernel), List.mem_of_getElem? (i := 993) (by decide +kernel)⟩
theorem lw_p43 : lw_okq (⟨"ThreshRoundModel", "sacksOf", "(I)I"⟩, 56) := ⟨⟨by decide +kernel, by decide +kernel⟩, List.mem_of_getElem? (i := 687) (by decide +kernel), List.mem_of_getElem? (i := 1000) (by decide +kernel), List.mem_of_getElem? (i := 1001) (by decide +kernel)⟩
def lw_privs_3 : List (MethodName × Nat) := [(⟨"ThreshRoundModel", "speedOf", "(I)I"⟩, 56), (⟨"ThreshRoundModel", "gangs", "(I)V"⟩, 56), (⟨"ThreshRoundModel", "goes", "()Z"⟩, 56), (⟨"ThreshRoundModel", "lossOf", "(II)I"⟩, 56), (⟨"ThreshRoundModel", "goesOn", "()Z"⟩, 56), (⟨"ThreshRoundModel", "swaps", "(II)V"⟩, 56), (⟨"ThreshRoundModel", "comes", "()V"⟩, 56), (⟨"ThreshRoundModel", "setsOut", "()Z"⟩, 56), (⟨"ThreshRoundModel", "oneDay", "()V"⟩, 56), (⟨"ThreshRoundModel", "isAtWork", "()Z"⟩, 56), (⟨"ThreshRoundModel", "threshes", "(I)V"⟩, 56), (⟨"ThreshRoundModel", "sacksOf", "(I)I"⟩, 56)]
theorem lw_r3 : ∀ q ∈ lw_privs_3, lw_okq q := List.forall_mem_cons.mpr ⟨lw_p32, List.forall_mem_cons.mpr ⟨lw_p33, List.forall_mem_cons.mpr ⟨lw_p34, List.forall_mem_cons.mpr ⟨lw_p35, List.forall_mem_cons.mpr ⟨lw_p36, List.forall_mem_cons.mpr ⟨lw_p37, List.forall_mem_cons.mpr ⟨lw_p38, List.forall_mem_cons.mpr ⟨lw_p39, List.forall_mem_cons.mpr ⟨lw_p40, List.forall_mem_cons.mpr ⟨lw_p41, List.forall_mem_cons.mpr ⟨lw_p42, List.forall_mem_cons.mpr ⟨lw_p43, fun _ h => absurd h List.not_mem_nil⟩⟩⟩⟩⟩⟩⟩⟩⟩⟩⟩⟩
def lw_privs : List (MethodName × Nat) := lw_privs_1 ++ (lw_privs_2 ++ (lw_privs_3))
def lw_tbl : List Cond := k2_sels lw_privs ++ tables_1
theorem lw_privs_ok : ∀ q ∈ lw_privs, lw_okq q := by
  show ∀ q ∈ lw_privs_1 ++ (lw_privs_2 ++ (lw_privs_3)), lw_okq q
  exact List.forall_mem_append.mpr ⟨lw_r1, List.forall_mem_append.mpr ⟨lw_r2, lw_r3⟩⟩
-- ===== end of PART A; then your names; then what follows =====
def RX0 : String := "ThreshRound$Customs"
def TX0 : u_T := fun k => match k with
  | 0 => ("ThreshRound$Customs", "inForce", "[I", true)
  | 1 => ("ThreshRound$Customs", "told", "[I", true)
  | 2 => ("ThreshRound$Customs", "fault", "I", false)
  | _ => ("ThreshRound$Customs", "faultPlace", "I", false)
def tyX0 : Nat → FieldType := fun k => match k with
  | 0 => .array .int
  | 1 => .array .int
  | 2 => .int
  | _ => .int
theorem nmX0 : ∀ a, a < 4 → ∀ b, b < 4 → a ≠ b → (TX0 a).2.1 ≠ (TX0 b).2.1 := by decide +kernel
theorem tyX0_ok : ∀ k, k < 4 → parseFieldDescriptor (TX0 k).2.2.1 = some (tyX0 k) := by decide +kernel
abbrev cX0_init : ByteArray := prog_2_method_1_code
def yX0_init : MethodName := ⟨RX0, "<init>", "()V"⟩
abbrev cX0_tells : ByteArray := prog_2_method_2_code
def yX0_tells : MethodName := ⟨RX0, "tells", "(I)I"⟩
abbrev cX0_read : ByteArray := prog_2_method_3_code
def yX0_read : MethodName := ⟨RX0, "read", "(LThreshRound$Tape;I)I"⟩
abbrev cX0_forgetTold : ByteArray := prog_2_method_4_code
def yX0_forgetTold : MethodName := ⟨RX0, "forgetTold", "()V"⟩
abbrev cX0_putInForce : ByteArray := prog_2_method_5_code
def yX0_putInForce : MethodName := ⟨RX0, "putInForce", "()V"⟩
abbrev cX0_readLine : ByteArray := prog_2_method_6_code
def yX0_readLine : MethodName := ⟨RX0, "readLine", "(LThreshRound$Tape;)Z"⟩
abbrev cX0_fails : ByteArray := prog_2_method_7_code
def yX0_fails : MethodName := ⟨RX0, "fails", "(II)Z"⟩
abbrev cX0_kindOfWord : ByteArray := prog_2_method_8_code
def yX0_kindOfWord : MethodName := ⟨RX0, "kindOfWord", "(LThreshRound$Tape;I)I"⟩
abbrev cX0_word : ByteArray := prog_2_method_9_code
def yX0_word : MethodName := ⟨RX0, "word", "(I)Ljava/lang/String;"⟩
def RX1 : String := "ThreshRound$Debts"
def TX1 : u_T := fun k => match k with
  | 0 => ("ThreshRound$Debts", "owed", "[[I", true)
  | _ => ("ThreshRound$Debts", "given", "[I", true)
def tyX1 : Nat → FieldType := fun k => match k with
  | 0 => .array (.array .int)
  | _ => .array .int
theorem nmX1 : ∀ a, a < 2 → ∀ b, b < 2 → a ≠ b → (TX1 a).2.1 ≠ (TX1 b).2.1 := by decide +kernel
theorem tyX1_ok : ∀ k, k < 2 → parseFieldDescriptor (TX1 k).2.2.1 = some (tyX1 k) := by decide +kernel
abbrev cX1_init : ByteArray := prog_3_method_1_code
def yX1_init : MethodName := ⟨RX1, "<init>", "()V"⟩
abbrev cX1_muster : ByteArray := prog_3_method_2_code
def yX1_muster : MethodName := ⟨RX1, "muster", "(LThreshRound$Farms;II)I"⟩
abbrev cX1_nextLender : ByteArray := prog_3_method_3_code
def yX1_nextLender : MethodName := ⟨RX1, "nextLender", "(II)I"⟩
abbrev cX1_oweTheGivers : ByteArray := prog_3_method_4_code
def yX1_oweTheGivers : MethodName := ⟨RX1, "oweTheGivers", "(II)V"⟩
def RX2 : String := "ThreshRound$Engine"
def TX2 : u_T := fun k => match k with
  | 0 => ("ThreshRound$Engine", "today", "I", false)
  | 1 => ("ThreshRound$Engine", "place", "I", false)
  | 2 => ("ThreshRound$Engine", "onTheWay", "I", false)
  | 3 => ("ThreshRound$Engine", "broken", "I", false)
  | 4 => ("ThreshRound$Engine", "going", "Z", false)
  | _ => ("ThreshRound$Engine", "step", "I", false)
def tyX2 : Nat → FieldType := fun k => match k with
  | 0 => .int
  | 1 => .int
  | 2 => .int
  | 3 => .int
  | 4 => .boolean
  | _ => .int
theorem nmX2 : ∀ a, a < 6 → ∀ b, b < 6 → a ≠ b → (TX2 a).2.1 ≠ (TX2 b).2.1 := by decide +kernel
theorem tyX2_ok : ∀ k, k < 6 → parseFieldDescriptor (TX2 k).2.2.1 = some (tyX2 k) := by decide +kernel
abbrev cX2_init : ByteArray := prog_4_method_1_code
def yX2_init : MethodName := ⟨RX2, "<init>", "()V"⟩
def RX3 : String := "ThreshRound$Farms"
def TX3 : u_T := fun k => match k with
  | 0 => ("ThreshRound$Farms", "count", "I", false)
  | 1 => ("ThreshRound$Farms", "stack", "[I", true)
  | 2 => ("ThreshRound$Farms", "left", "[I", true)
  | 3 => ("ThreshRound$Farms", "damp", "[I", true)
  | 4 => ("ThreshRound$Farms", "own", "[I", true)
  | 5 => ("ThreshRound$Farms", "lends", "[I", true)
  | 6 => ("ThreshRound$Farms", "from", "[I", true)
  | 7 => ("ThreshRound$Farms", "to", "[I", true)
  | 8 => ("ThreshRound$Farms", "days", "[I", true)
  | 9 => ("ThreshRound$Farms", "doneOn", "[I", true)
  | 10 => ("ThreshRound$Farms", "how", "[I", true)
  | _ => ("ThreshRound$Farms", "coins", "[I", true)
def tyX3 : Nat → FieldType := fun k => match k with
  | 0 => .int
  | 1 => .array .int
  | 2 => .array .int
  | 3 => .array .int
  | 4 => .array .int
  | 5 => .array .int
  | 6 => .array .int
  | 7 => .array .int
  | 8 => .array .int
  | 9 => .array .int
  | 10 => .array .int
  | _ => .array .int
theorem nmX3 : ∀ a, a < 12 → ∀ b, b < 12 → a ≠ b → (TX3 a).2.1 ≠ (TX3 b).2.1 := by decide +kernel
theorem tyX3_ok : ∀ k, k < 12 → parseFieldDescriptor (TX3 k).2.2.1 = some (tyX3 k) := by decide +kernel
abbrev cX3_init : ByteArray := prog_5_method_1_code
def yX3_init : MethodName := ⟨RX3, "<init>", "()V"⟩
abbrev cX3_add : ByteArray := prog_5_method_2_code
def yX3_add : MethodName := ⟨RX3, "add", "()I"⟩
abbrev cX3_has : ByteArray := prog_5_method_3_code
def yX3_has : MethodName := ⟨RX3, "has", "(I)Z"⟩
abbrev cX3_isOpen : ByteArray := prog_5_method_4_code
def yX3_isOpen : MethodName := ⟨RX3, "isOpen", "(I)Z"⟩
abbrev cX3_openOnes : ByteArray := prog_5_method_5_code
def yX3_openOnes : MethodName := ⟨RX3, "openOnes", "()I"⟩
def RX4 : String := "ThreshRound$Plan"
def TX4 : u_T := fun k => match k with
  | 0 => ("ThreshRound$Plan", "length", "I", false)
  | 1 => ("ThreshRound$Plan", "madeOn", "I", false)
  | 2 => ("ThreshRound$Plan", "wasSetOut", "Z", false)
  | 3 => ("ThreshRound$Plan", "order", "[I", true)
  | 4 => ("ThreshRound$Plan", "there", "[I", true)
  | 5 => ("ThreshRound$Plan", "begin", "[I", true)
  | 6 => ("ThreshRound$Plan", "leave", "[I", true)
  | _ => ("ThreshRound$Plan", "loss", "[I", true)
def tyX4 : Nat → FieldType := fun k => match k with
  | 0 => .int
  | 1 => .int
  | 2 => .boolean
  | 3 => .array .int
  | 4 => .array .int
  | 5 => .array .int
  | 6 => .array .int
  | _ => .array .int
theorem nmX4 : ∀ a, a < 8 → ∀ b, b < 8 → a ≠ b → (TX4 a).2.1 ≠ (TX4 b).2.1 := by decide +kernel
theorem tyX4_ok : ∀ k, k < 8 → parseFieldDescriptor (TX4 k).2.2.1 = some (tyX4 k) := by decide +kernel
abbrev cX4_init : ByteArray := prog_6_method_1_code
def yX4_init : MethodName := ⟨RX4, "<init>", "()V"⟩
abbrev cX4_make : ByteArray := prog_6_method_2_code
def yX4_make : MethodName := ⟨RX4, "make", "(LThreshRound$Search;LThreshRound$Roads;II)V"⟩
def RX5 : String := "ThreshRound$Roads"
def TX5 : u_T := fun k => match k with
  | _ => ("ThreshRound$Roads", "days", "[[I", true)
def tyX5 : Nat → FieldType := fun k => match k with
  | _ => .array (.array .int)
theorem nmX5 : ∀ a, a < 1 → ∀ b, b < 1 → a ≠ b → (TX5 a).2.1 ≠ (TX5 b).2.1 := by decide +kernel
theorem tyX5_ok : ∀ k, k < 1 → parseFieldDescriptor (TX5 k).2.2.1 = some (tyX5 k) := by decide +kernel
abbrev cX5_init : ByteArray := prog_7_method_1_code
def yX5_init : MethodName := ⟨RX5, "<init>", "()V"⟩
abbrev cX5_between : ByteArray := prog_7_method_2_code
def yX5_between : MethodName := ⟨RX5, "between", "(II)I"⟩
def RX6 : String := "ThreshRound$Search"
def TX6 : u_T := fun k => match k with
  | 0 => ("ThreshRound$Search", "late", "I", false)
  | 1 => ("ThreshRound$Search", "need", "[I", true)
  | 2 => ("ThreshRound$Search", "from", "[I", true)
  | 3 => ("ThreshRound$Search", "to", "[I", true)
  | 4 => ("ThreshRound$Search", "waits", "[Z", true)
  | 5 => ("ThreshRound$Search", "forced", "[I", true)
  | 6 => ("ThreshRound$Search", "forcedCount", "I", false)
  | 7 => ("ThreshRound$Search", "order", "[I", true)
  | 8 => ("ThreshRound$Search", "best", "[I", true)
  | 9 => ("ThreshRound$Search", "toGo", "I", false)
  | 10 => ("ThreshRound$Search", "bestLoss", "I", false)
  | _ => ("ThreshRound$Search", "bestEnd", "I", false)
def tyX6 : Nat → FieldType := fun k => match k with
  | 0 => .int
  | 1 => .array .int
  | 2 => .array .int
  | 3 => .array .int
  | 4 => .array .boolean
  | 5 => .array .int
  | 6 => .int
  | 7 => .array .int
  | 8 => .array .int
  | 9 => .int
  | 10 => .int
  | _ => .int
theorem nmX6 : ∀ a, a < 12 → ∀ b, b < 12 → a ≠ b → (TX6 a).2.1 ≠ (TX6 b).2.1 := by decide +kernel
theorem tyX6_ok : ∀ k, k < 12 → parseFieldDescriptor (TX6 k).2.2.1 = some (tyX6 k) := by decide +kernel
abbrev cX6_init : ByteArray := prog_8_method_1_code
def yX6_init : MethodName := ⟨RX6, "<init>", "()V"⟩
abbrev cX6_startAnew : ByteArray := prog_8_method_2_code
def yX6_startAnew : MethodName := ⟨RX6, "startAnew", "(I)V"⟩
abbrev cX6_add : ByteArray := prog_8_method_3_code
def yX6_add : MethodName := ⟨RX6, "add", "(IIII)V"⟩
abbrev cX6_force : ByteArray := prog_8_method_4_code
def yX6_force : MethodName := ⟨RX6, "force", "(I)V"⟩
abbrev cX6_find : ByteArray := prog_8_method_5_code
def yX6_find : MethodName := ⟨RX6, "find", "(LThreshRound$Roads;II)Z"⟩
abbrev cX6_extend : ByteArray := prog_8_method_6_code
def yX6_extend : MethodName := ⟨RX6, "extend", "(LThreshRound$Search;LThreshRound$Roads;IIII)V"⟩
abbrev cX6_mayCome : ByteArray := prog_8_method_7_code
def yX6_mayCome : MethodName := ⟨RX6, "mayCome", "(II)Z"⟩
abbrev cX6_begins : ByteArray := prog_8_method_8_code
def yX6_begins : MethodName := ⟨RX6, "begins", "(II)I"⟩
abbrev cX6_leaves : ByteArray := prog_8_method_9_code
def yX6_leaves : MethodName := ⟨RX6, "leaves", "(II)I"⟩
abbrev cX6_lossOf : ByteArray := prog_8_method_10_code
def yX6_lossOf : MethodName := ⟨RX6, "lossOf", "(II)I"⟩
abbrev cX6_beatsBest : ByteArray := prog_8_method_11_code
def yX6_beatsBest : MethodName := ⟨RX6, "beatsBest", "(II)Z"⟩
abbrev cX6_keepAsBest : ByteArray := prog_8_method_12_code
def yX6_keepAsBest : MethodName := ⟨RX6, "keepAsBest", "(II)V"⟩
abbrev cX6_isWaiting : ByteArray := prog_8_method_13_code
def yX6_isWaiting : MethodName := ⟨RX6, "isWaiting", "(I)Z"⟩
abbrev cX6_setWaits : ByteArray := prog_8_method_14_code
def yX6_setWaits : MethodName := ⟨RX6, "setWaits", "(IZ)V"⟩
def RX7 : String := "ThreshRound$Tape"
def TX7 : u_T := fun k => match k with
  | 0 => ("ThreshRound$Tape", "bytes", "[I", true)
  | 1 => ("ThreshRound$Tape", "length", "I", false)
  | 2 => ("ThreshRound$Tape", "place", "I", false)
  | _ => ("ThreshRound$Tape", "end", "I", false)
def tyX7 : Nat → FieldType := fun k => match k with
  | 0 => .array .int
  | 1 => .int
  | 2 => .int
  | _ => .int
theorem nmX7 : ∀ a, a < 4 → ∀ b, b < 4 → a ≠ b → (TX7 a).2.1 ≠ (TX7 b).2.1 := by decide +kernel
theorem tyX7_ok : ∀ k, k < 4 → parseFieldDescriptor (TX7 k).2.2.1 = some (tyX7 k) := by decide +kernel
abbrev cX7_init : ByteArray := prog_9_method_1_code
def yX7_init : MethodName := ⟨RX7, "<init>", "()V"⟩
abbrev cX7_hasRoomFor : ByteArray := prog_9_method_2_code
def yX7_hasRoomFor : MethodName := ⟨RX7, "hasRoomFor", "(I)Z"⟩
abbrev cX7_append : ByteArray := prog_9_method_3_code
def yX7_append : MethodName := ⟨RX7, "append", "(I)V"⟩
abbrev cX7_readFirst : ByteArray := prog_9_method_4_code
def yX7_readFirst : MethodName := ⟨RX7, "readFirst", "(I)V"⟩
abbrev cX7_isAtEnd : ByteArray := prog_9_method_5_code
def yX7_isAtEnd : MethodName := ⟨RX7, "isAtEnd", "()Z"⟩
abbrev cX7_byteAt : ByteArray := prog_9_method_6_code
def yX7_byteAt : MethodName := ⟨RX7, "byteAt", "(I)I"⟩
abbrev cX7_skipBlanks : ByteArray := prog_9_method_7_code
def yX7_skipBlanks : MethodName := ⟨RX7, "skipBlanks", "()V"⟩
abbrev cX7_endOfRow : ByteArray := prog_9_method_8_code
def yX7_endOfRow : MethodName := ⟨RX7, "endOfRow", "(CC)I"⟩
abbrev cX7_numberUpTo : ByteArray := prog_9_method_9_code
def yX7_numberUpTo : MethodName := ⟨RX7, "numberUpTo", "(I)I"⟩
abbrev cX7_isWordUpTo : ByteArray := prog_9_method_10_code
def yX7_isWordUpTo : MethodName := ⟨RX7, "isWordUpTo", "(ILjava/lang/String;)Z"⟩
def RX8 : String := "ThreshRound"
def TX8 : u_T := fun k => match k with
  | 0 => ("ThreshRound", "tape", "LThreshRound$Tape;", true)
  | 1 => ("ThreshRound", "rules", "LThreshRound$Customs;", true)
  | 2 => ("ThreshRound", "farms", "LThreshRound$Farms;", true)
  | 3 => ("ThreshRound", "roads", "LThreshRound$Roads;", true)
  | 4 => ("ThreshRound", "debts", "LThreshRound$Debts;", true)
  | 5 => ("ThreshRound", "search", "LThreshRound$Search;", true)
  | 6 => ("ThreshRound", "atHand", "LThreshRound$Plan;", true)
  | _ => ("ThreshRound", "engine", "LThreshRound$Engine;", true)
def tyX8 : Nat → FieldType := fun k => match k with
  | 0 => .object "ThreshRound$Tape"
  | 1 => .object "ThreshRound$Customs"
  | 2 => .object "ThreshRound$Farms"
  | 3 => .object "ThreshRound$Roads"
  | 4 => .object "ThreshRound$Debts"
  | 5 => .object "ThreshRound$Search"
  | 6 => .object "ThreshRound$Plan"
  | _ => .object "ThreshRound$Engine"
theorem nmX8 : ∀ a, a < 8 → ∀ b, b < 8 → a ≠ b → (TX8 a).2.1 ≠ (TX8 b).2.1 := by decide +kernel
theorem tyX8_ok : ∀ k, k < 8 → parseFieldDescriptor (TX8 k).2.2.1 = some (tyX8 k) := by decide +kernel
abbrev cX8_init : ByteArray := prog_1_method_1_code
def yX8_init : MethodName := ⟨RX8, "<init>", "()V"⟩
abbrev cX8_feed : ByteArray := prog_1_method_2_code
def yX8_feed : MethodName := ⟨RX8, "feed", "(IIIII)I"⟩
abbrev cX8_customs : ByteArray := prog_1_method_3_code
def yX8_customs : MethodName := ⟨RX8, "customs", "(I)I"⟩
abbrev cX8_fault : ByteArray := prog_1_method_4_code
def yX8_fault : MethodName := ⟨RX8, "fault", "(I)I"⟩
abbrev cX8_farm : ByteArray := prog_1_method_5_code
def yX8_farm : MethodName := ⟨RX8, "farm", "(IIIIII)I"⟩
abbrev cX8_way : ByteArray := prog_1_method_6_code
def yX8_way : MethodName := ⟨RX8, "way", "(III)Z"⟩
abbrev cX8_bargain : ByteArray := prog_1_method_7_code
def yX8_bargain : MethodName := ⟨RX8, "bargain", "(III)Z"⟩
abbrev cX8_plan : ByteArray := prog_1_method_8_code
def yX8_plan : MethodName := ⟨RX8, "plan", "()I"⟩
abbrev cX8_planned : ByteArray := prog_1_method_9_code
def yX8_planned : MethodName := ⟨RX8, "planned", "(II)I"⟩
abbrev cX8_out : ByteArray := prog_1_method_10_code
def yX8_out : MethodName := ⟨RX8, "out", "()Z"⟩
abbrev cX8_breaks : ByteArray := prog_1_method_11_code
def yX8_breaks : MethodName := ⟨RX8, "breaks", "(I)Z"⟩
abbrev cX8_day : ByteArray := prog_1_method_12_code
def yX8_day : MethodName := ⟨RX8, "day", "(I)I"⟩
abbrev cX8_look : ByteArray := prog_1_method_13_code
def yX8_look : MethodName := ⟨RX8, "look", "(II)I"⟩
abbrev cX8_owed : ByteArray := prog_1_method_14_code
def yX8_owed : MethodName := ⟨RX8, "owed", "(II)I"⟩
abbrev cX8_lent : ByteArray := prog_1_method_15_code
def yX8_lent : MethodName := ⟨RX8, "lent", "(II)I"⟩
abbrev cX8_count : ByteArray := prog_1_method_16_code
def yX8_count : MethodName := ⟨RX8, "count", "(I)I"⟩
abbrev cX8_isPlace : ByteArray := prog_1_method_17_code
def yX8_isPlace : MethodName := ⟨RX8, "isPlace", "(I)Z"⟩
abbrev cX8_areTwoFarms : ByteArray := prog_1_method_18_code
def yX8_areTwoFarms : MethodName := ⟨RX8, "areTwoFarms", "(II)Z"⟩
abbrev cX8_prepareSearch : ByteArray := prog_1_method_19_code
def yX8_prepareSearch : MethodName := ⟨RX8, "prepareSearch", "()V"⟩
abbrev cX8_gangOf : ByteArray := prog_1_method_20_code
def yX8_gangOf : MethodName := ⟨RX8, "gangOf", "(I)I"⟩
abbrev cX8_speedOf : ByteArray := prog_1_method_21_code
def yX8_speedOf : MethodName := ⟨RX8, "speedOf", "(I)I"⟩
abbrev cX8_sacksOf : ByteArray := prog_1_method_22_code
def yX8_sacksOf : MethodName := ⟨RX8, "sacksOf", "(I)I"⟩
abbrev cX8_priceOf : ByteArray := prog_1_method_23_code
def yX8_priceOf : MethodName := ⟨RX8, "priceOf", "(I)I"⟩
abbrev cX8_lossOf : ByteArray := prog_1_method_24_code
def yX8_lossOf : MethodName := ⟨RX8, "lossOf", "(I)I"⟩
abbrev cX8_howItIs : ByteArray := prog_1_method_25_code
def yX8_howItIs : MethodName := ⟨RX8, "howItIs", "()I"⟩
abbrev cX8_isAheadOfFrom : ByteArray := prog_1_method_26_code
def yX8_isAheadOfFrom : MethodName := ⟨RX8, "isAheadOfFrom", "()Z"⟩
abbrev cX8_passDay : ByteArray := prog_1_method_27_code
def yX8_passDay : MethodName := ⟨RX8, "passDay", "()V"⟩
abbrev cX8_thresh : ByteArray := prog_1_method_28_code
def yX8_thresh : MethodName := ⟨RX8, "thresh", "(I)V"⟩
abbrev cX8_goOn : ByteArray := prog_1_method_29_code
def yX8_goOn : MethodName := ⟨RX8, "goOn", "()V"⟩
abbrev cX8_setOutFor : ByteArray := prog_1_method_30_code
def yX8_setOutFor : MethodName := ⟨RX8, "setOutFor", "(I)V"⟩
abbrev cX8_within : ByteArray := prog_1_method_31_code
def yX8_within : MethodName := ⟨RX8, "within", "(III)Z"⟩
abbrev cX8_at : ByteArray := prog_1_method_32_code
def yX8_at : MethodName := ⟨RX8, "at", "([II)I"⟩
abbrev cX8_put : ByteArray := prog_1_method_33_code
def yX8_put : MethodName := ⟨RX8, "put", "([III)V"⟩
abbrev cX8_at_ : ByteArray := prog_1_method_34_code
def yX8_at_ : MethodName := ⟨RX8, "at", "([[III)I"⟩
abbrev cX8_put_ : ByteArray := prog_1_method_35_code
def yX8_put_ : MethodName := ⟨RX8, "put", "([[IIII)V"⟩
abbrev cX8_cut : ByteArray := prog_1_method_36_code
def yX8_cut : MethodName := ⟨RX8, "cut", "(II)I"⟩
abbrev cX8_upwards : ByteArray := prog_1_method_37_code
def yX8_upwards : MethodName := ⟨RX8, "upwards", "(II)I"⟩
def RX9 : String := "ThreshRoundModel"
def TX9 : u_T := fun k => match k with
  | 0 => ("ThreshRoundModel", "thrown", "I", false)
  | 1 => ("ThreshRoundModel", "tape", "[I", true)
  | 2 => ("ThreshRoundModel", "taped", "I", false)
  | 3 => ("ThreshRoundModel", "customs", "[I", true)
  | 4 => ("ThreshRoundModel", "usual", "[I", true)
  | 5 => ("ThreshRoundModel", "least", "[I", true)
  | 6 => ("ThreshRoundModel", "most", "[I", true)
  | 7 => ("ThreshRoundModel", "told", "I", false)
  | 8 => ("ThreshRoundModel", "lines", "I", false)
  | 9 => ("ThreshRoundModel", "size", "I", false)
  | 10 => ("ThreshRoundModel", "at", "I", false)
  | 11 => ("ThreshRoundModel", "place", "I", false)
  | 12 => ("ThreshRoundModel", "sort", "I", false)
  | 13 => ("ThreshRoundModel", "value", "I", false)
  | 14 => ("ThreshRoundModel", "fault", "I", false)
  | 15 => ("ThreshRoundModel", "faultPlace", "I", false)
  | 16 => ("ThreshRoundModel", "lastFault", "I", false)
  | 17 => ("ThreshRoundModel", "lastPlace", "I", false)
  | 18 => ("ThreshRoundModel", "farms", "I", false)
  | 19 => ("ThreshRoundModel", "stack", "[I", true)
  | 20 => ("ThreshRoundModel", "left", "[I", true)
  | 21 => ("ThreshRoundModel", "damp", "[I", true)
  | 22 => ("ThreshRoundModel", "own", "[I", true)
  | 23 => ("ThreshRoundModel", "lends", "[I", true)
  | 24 => ("ThreshRoundModel", "from", "[I", true)
  | 25 => ("ThreshRoundModel", "to", "[I", true)
  | 26 => ("ThreshRoundModel", "threshed", "[I", true)
  | 27 => ("ThreshRoundModel", "doneOn", "[I", true)
  | 28 => ("ThreshRoundModel", "how", "[I", true)
  | 29 => ("ThreshRoundModel", "coins", "[I", true)
  | 30 => ("ThreshRoundModel", "ways", "[I", true)
  | 31 => ("ThreshRoundModel", "owed", "[I", true)
  | 32 => ("ThreshRoundModel", "gives", "[I", true)
  | 33 => ("ThreshRoundModel", "gang", "I", false)
  | 34 => ("ThreshRoundModel", "day", "I", false)
  | 35 => ("ThreshRoundModel", "setAt", "I", false)
  | 36 => ("ThreshRoundModel", "onWay", "I", false)
  | 37 => ("ThreshRoundModel", "goesTo", "I", false)
  | 38 => ("ThreshRoundModel", "broken", "I", false)
  | 39 => ("ThreshRoundModel", "order", "[I", true)
  | 40 => ("ThreshRoundModel", "arrives", "[I", true)
  | 41 => ("ThreshRoundModel", "begins", "[I", true)
  | 42 => ("ThreshRoundModel", "ends", "[I", true)
  | 43 => ("ThreshRoundModel", "losses", "[I", true)
  | 44 => ("ThreshRoundModel", "planned", "I", false)
  | 45 => ("ThreshRoundModel", "planDay", "I", false)
  | 46 => ("ThreshRoundModel", "hasPlan", "Z", false)
  | 47 => ("ThreshRoundModel", "isOut", "Z", false)
  | 48 => ("ThreshRoundModel", "turn", "I", false)
  | 49 => ("ThreshRoundModel", "tried", "[I", true)
  | 50 => ("ThreshRoundModel", "speeds", "[I", true)
  | 51 => ("ThreshRoundModel", "many", "I", false)
  | 52 => ("ThreshRoundModel", "fixed", "I", false)
  | 53 => ("ThreshRoundModel", "loss", "I", false)
  | 54 => ("ThreshRoundModel", "last", "I", false)
  | _ => ("ThreshRoundModel", "bestOrder", "[I", true)
def tyX9 : Nat → FieldType := fun k => match k with
  | 0 => .int
  | 1 => .array .int
  | 2 => .int
  | 3 => .array .int
  | 4 => .array .int
  | 5 => .array .int
  | 6 => .array .int
  | 7 => .int
  | 8 => .int
  | 9 => .int
  | 10 => .int
  | 11 => .int
  | 12 => .int
  | 13 => .int
  | 14 => .int
  | 15 => .int
  | 16 => .int
  | 17 => .int
  | 18 => .int
  | 19 => .array .int
  | 20 => .array .int
  | 21 => .array .int
  | 22 => .array .int
  | 23 => .array .int
  | 24 => .array .int
  | 25 => .array .int
  | 26 => .array .int
  | 27 => .array .int
  | 28 => .array .int
  | 29 => .array .int
  | 30 => .array .int
  | 31 => .array .int
  | 32 => .array .int
  | 33 => .int
  | 34 => .int
  | 35 => .int
  | 36 => .int
  | 37 => .int
  | 38 => .int
  | 39 => .array .int
  | 40 => .array .int
  | 41 => .array .int
  | 42 => .array .int
  | 43 => .array .int
  | 44 => .int
  | 45 => .int
  | 46 => .boolean
  | 47 => .boolean
  | 48 => .int
  | 49 => .array .int
  | 50 => .array .int
  | 51 => .int
  | 52 => .int
  | 53 => .int
  | 54 => .int
  | _ => .array .int
theorem nmX9 : ∀ a, a < 56 → ∀ b, b < 56 → a ≠ b → (TX9 a).2.1 ≠ (TX9 b).2.1 := by decide +kernel
theorem tyX9_ok : ∀ k, k < 56 → parseFieldDescriptor (TX9 k).2.2.1 = some (tyX9 k) := by decide +kernel
abbrev cX9_init : ByteArray := prog_11_method_1_code
def yX9_init : MethodName := ⟨RX9, "<init>", "()V"⟩
abbrev cX9_feed : ByteArray := prog_11_method_3_code
def yX9_feed : MethodName := ⟨RX9, "feed", "(IIIII)I"⟩
abbrev cX9_here : ByteArray := prog_11_method_4_code
def yX9_here : MethodName := ⟨RX9, "here", "()I"⟩
abbrev cX9_isSmall : ByteArray := prog_11_method_5_code
def yX9_isSmall : MethodName := ⟨RX9, "isSmall", "(I)Z"⟩
abbrev cX9_isDigit : ByteArray := prog_11_method_6_code
def yX9_isDigit : MethodName := ⟨RX9, "isDigit", "(I)Z"⟩
abbrev cX9_next : ByteArray := prog_11_method_7_code
def yX9_next : MethodName := ⟨RX9, "next", "()V"⟩
abbrev cX9_wordOf : ByteArray := prog_11_method_8_code
def yX9_wordOf : MethodName := ⟨RX9, "wordOf", "()I"⟩
abbrev cX9_wrong : ByteArray := prog_11_method_9_code
def yX9_wrong : MethodName := ⟨RX9, "wrong", "(I)V"⟩
abbrev cX9_line : ByteArray := prog_11_method_10_code
def yX9_line : MethodName := ⟨RX9, "line", "()V"⟩
abbrev cX9_customs : ByteArray := prog_11_method_11_code
def yX9_customs : MethodName := ⟨RX9, "customs", "(I)I"⟩
abbrev cX9_fault : ByteArray := prog_11_method_12_code
def yX9_fault : MethodName := ⟨RX9, "fault", "(I)I"⟩
abbrev cX9_isFarm : ByteArray := prog_11_method_13_code
def yX9_isFarm : MethodName := ⟨RX9, "isFarm", "(I)Z"⟩
abbrev cX9_isTwelve : ByteArray := prog_11_method_14_code
def yX9_isTwelve : MethodName := ⟨RX9, "isTwelve", "(I)Z"⟩
abbrev cX9_farm : ByteArray := prog_11_method_15_code
def yX9_farm : MethodName := ⟨RX9, "farm", "(IIIIII)I"⟩
abbrev cX9_way : ByteArray := prog_11_method_16_code
def yX9_way : MethodName := ⟨RX9, "way", "(III)Z"⟩
abbrev cX9_bargain : ByteArray := prog_11_method_17_code
def yX9_bargain : MethodName := ⟨RX9, "bargain", "(III)Z"⟩
abbrev cX9_gangs : ByteArray := prog_11_method_18_code
def yX9_gangs : MethodName := ⟨RX9, "gangs", "(I)V"⟩
abbrev cX9_speedOf : ByteArray := prog_11_method_19_code
def yX9_speedOf : MethodName := ⟨RX9, "speedOf", "(I)I"⟩
abbrev cX9_isDone : ByteArray := prog_11_method_20_code
def yX9_isDone : MethodName := ⟨RX9, "isDone", "(I)Z"⟩
abbrev cX9_goes : ByteArray := prog_11_method_21_code
def yX9_goes : MethodName := ⟨RX9, "goes", "()Z"⟩
abbrev cX9_lossOf : ByteArray := prog_11_method_22_code
def yX9_lossOf : MethodName := ⟨RX9, "lossOf", "(II)I"⟩
abbrev cX9_goesOn : ByteArray := prog_11_method_23_code
def yX9_goesOn : MethodName := ⟨RX9, "goesOn", "()Z"⟩
abbrev cX9_swaps : ByteArray := prog_11_method_24_code
def yX9_swaps : MethodName := ⟨RX9, "swaps", "(II)V"⟩
abbrev cX9_firstOrder : ByteArray := prog_11_method_25_code
def yX9_firstOrder : MethodName := ⟨RX9, "firstOrder", "()V"⟩
abbrev cX9_plan : ByteArray := prog_11_method_26_code
def yX9_plan : MethodName := ⟨RX9, "plan", "()I"⟩
abbrev cX9_comes : ByteArray := prog_11_method_27_code
def yX9_comes : MethodName := ⟨RX9, "comes", "()V"⟩
abbrev cX9_planned : ByteArray := prog_11_method_28_code
def yX9_planned : MethodName := ⟨RX9, "planned", "(II)I"⟩
abbrev cX9_setsOut : ByteArray := prog_11_method_29_code
def yX9_setsOut : MethodName := ⟨RX9, "setsOut", "()Z"⟩
abbrev cX9_out : ByteArray := prog_11_method_30_code
def yX9_out : MethodName := ⟨RX9, "out", "()Z"⟩
abbrev cX9_breaks : ByteArray := prog_11_method_31_code
def yX9_breaks : MethodName := ⟨RX9, "breaks", "(I)Z"⟩
abbrev cX9_isAtWork : ByteArray := prog_11_method_32_code
def yX9_isAtWork : MethodName := ⟨RX9, "isAtWork", "()Z"⟩
abbrev cX9_threshes : ByteArray := prog_11_method_33_code
def yX9_threshes : MethodName := ⟨RX9, "threshes", "(I)V"⟩
abbrev cX9_oneDay : ByteArray := prog_11_method_34_code
def yX9_oneDay : MethodName := ⟨RX9, "oneDay", "()V"⟩
abbrev cX9_day : ByteArray := prog_11_method_35_code
def yX9_day : MethodName := ⟨RX9, "day", "(I)I"⟩
abbrev cX9_sacksOf : ByteArray := prog_11_method_36_code
def yX9_sacksOf : MethodName := ⟨RX9, "sacksOf", "(I)I"⟩
abbrev cX9_look : ByteArray := prog_11_method_37_code
def yX9_look : MethodName := ⟨RX9, "look", "(II)I"⟩
abbrev cX9_owed : ByteArray := prog_11_method_38_code
def yX9_owed : MethodName := ⟨RX9, "owed", "(II)I"⟩
abbrev cX9_lent : ByteArray := prog_11_method_39_code
def yX9_lent : MethodName := ⟨RX9, "lent", "(II)I"⟩
abbrev cX9_count : ByteArray := prog_11_method_40_code
def yX9_count : MethodName := ⟨RX9, "count", "(I)I"⟩
def RJ9 : String := "java/lang/Math"
def TJ9 : u_T := fun k => match k with
  | _ => ("", "", "", false)
def tyJ9 : Nat → FieldType := fun k => match k with
  | _ => .int
theorem nmJ9 : ∀ a, a < 0 → ∀ b, b < 0 → a ≠ b → (TJ9 a).2.1 ≠ (TJ9 b).2.1 := by decide +kernel
theorem tyJ9_ok : ∀ k, k < 0 → parseFieldDescriptor (TJ9 k).2.2.1 = some (tyJ9 k) := by decide +kernel
abbrev cJ9_max_7cf53 : ByteArray := prog_12_method_65_code
def yJ9_max_7cf53 : MethodName := ⟨RJ9, "max", "(II)I"⟩
abbrev cJ9_min_7cf53 : ByteArray := prog_12_method_69_code
def yJ9_min_7cf53 : MethodName := ⟨RJ9, "min", "(II)I"⟩
def RJ0 : String := "java/lang/String"
def TJ0 : u_T := fun k => match k with
  | _ => ("", "", "", false)
def tyJ0 : Nat → FieldType := fun k => match k with
  | _ => .int
theorem nmJ0 : ∀ a, a < 0 → ∀ b, b < 0 → a ≠ b → (TJ0 a).2.1 ≠ (TJ0 b).2.1 := by decide +kernel
theorem tyJ0_ok : ∀ k, k < 0 → parseFieldDescriptor (TJ0 k).2.2.1 = some (tyJ0 k) := by decide +kernel
abbrev cJ0_length_8abf5 : ByteArray := prog_13_method_54_code
def yJ0_length_8abf5 : MethodName := ⟨RJ0, "length", "()I"⟩
abbrev cJ0_charAt_5068e : ByteArray := prog_13_method_56_code
def yJ0_charAt_5068e : MethodName := ⟨RJ0, "charAt", "(I)C"⟩
abbrev cJ0_coder_7d493 : ByteArray := prog_13_method_152_code
def yJ0_coder_7d493 : MethodName := ⟨RJ0, "coder", "()B"⟩
abbrev cJ0_isLatin1_aae02 : ByteArray := prog_13_method_154_code
def yJ0_isLatin1_aae02 : MethodName := ⟨RJ0, "isLatin1", "()Z"⟩
abbrev cJ0_checkIndex_df160 : ByteArray := prog_13_method_155_code
def yJ0_checkIndex_df160 : MethodName := ⟨RJ0, "checkIndex", "(II)V"⟩
def RJ1 : String := "java/lang/StringLatin1"
def TJ1 : u_T := fun k => match k with
  | _ => ("", "", "", false)
def tyJ1 : Nat → FieldType := fun k => match k with
  | _ => .int
theorem nmJ1 : ∀ a, a < 0 → ∀ b, b < 0 → a ≠ b → (TJ1 a).2.1 ≠ (TJ1 b).2.1 := by decide +kernel
theorem tyJ1_ok : ∀ k, k < 0 → parseFieldDescriptor (TJ1 k).2.2.1 = some (tyJ1 k) := by decide +kernel
abbrev cJ1_charAt_3b067 : ByteArray := prog_14_method_2_code
def yJ1_charAt_3b067 : MethodName := ⟨RJ1, "charAt", "([BI)C"⟩
def RJ2 : String := "java/lang/StringUTF16"
def TJ2 : u_T := fun k => match k with
  | _ => ("", "", "", false)
def tyJ2 : Nat → FieldType := fun k => match k with
  | _ => .int
theorem nmJ2 : ∀ a, a < 0 → ∀ b, b < 0 → a ≠ b → (TJ2 a).2.1 ≠ (TJ2 b).2.1 := by decide +kernel
theorem tyJ2_ok : ∀ k, k < 0 → parseFieldDescriptor (TJ2 k).2.2.1 = some (tyJ2 k) := by decide +kernel
abbrev cJ2_getChar_3b067 : ByteArray := prog_15_method_5_code
def yJ2_getChar_3b067 : MethodName := ⟨RJ2, "getChar", "([BI)C"⟩
abbrev cJ2_length_9d52b : ByteArray := prog_15_method_6_code
def yJ2_length_9d52b : MethodName := ⟨RJ2, "length", "([B)I"⟩
abbrev cJ2_charAt_3b067 : ByteArray := prog_15_method_83_code
def yJ2_charAt_3b067 : MethodName := ⟨RJ2, "charAt", "([BI)C"⟩
abbrev cJ2_checkIndex_2214a : ByteArray := prog_15_method_91_code
def yJ2_checkIndex_2214a : MethodName := ⟨RJ2, "checkIndex", "(I[B)V"⟩
def RJ3 : String := "jdk/internal/util/Preconditions"
def TJ3 : u_T := fun k => match k with
  | _ => ("", "", "", false)
def tyJ3 : Nat → FieldType := fun k => match k with
  | _ => .int
theorem nmJ3 : ∀ a, a < 0 → ∀ b, b < 0 → a ≠ b → (TJ3 a).2.1 ≠ (TJ3 b).2.1 := by decide +kernel
theorem tyJ3_ok : ∀ k, k < 0 → parseFieldDescriptor (TJ3 k).2.2.1 = some (tyJ3 k) := by decide +kernel
abbrev cJ3_checkIndex_8e157 : ByteArray := prog_16_method_11_code
def yJ3_checkIndex_8e157 : MethodName := ⟨RJ3, "checkIndex", "(IILjava/util/function/BiFunction;)I"⟩
def RL : String := "ThreshRoundLaw"
abbrev cL_law : ByteArray := code
def yL_law : MethodName := ⟨RL, "law", "([I)Z"⟩
abbrev vwCl : List vw_C := [(RX0, TX0, 4), (RX1, TX1, 2), (RX2, TX2, 6), (RX3, TX3, 12), (RX4, TX4, 8), (RX5, TX5, 1), (RX6, TX6, 12), (RX7, TX7, 4), (RX8, TX8, 8), (RX9, TX9, 56)]
