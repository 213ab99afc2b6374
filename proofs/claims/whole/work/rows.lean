section
-- ===== PART A: goes FIRST, ahead of the names: the tables' words, and 'selects' of the private methods out of them =====
/-- a private method of a class that the tables say can be made, by its rows of tables_1 -/
def lw_okq (q : MethodName × Nat) : Prop := (q.1.cls ≠ "java/lang/invoke/MethodHandle" ∧ q.1.cls ≠ "java/lang/invoke/VarHandle") ∧ Cond.instantiable q.1.cls q.2 ∈ tables_1 ∧ Cond.privateMethod q.1 ∈ tables_1 ∧ Cond.instanceMethod q.1 ∈ tables_1
theorem lw_p0 : lw_okq (⟨"ThreshRound$Customs", "forgetTold", "()V"⟩, 4) := ⟨⟨by decide +kernel, by decide +kernel⟩, List.mem_of_getElem? (i := 47) (by decide +kernel), List.mem_of_getElem? (i := 53) (by decide +kernel), List.mem_of_getElem? (i := 54) (by decide +kernel)⟩
theorem lw_p1 : lw_okq (⟨"ThreshRound$Customs", "putInForce", "()V"⟩, 4) := ⟨⟨by decide +kernel, by decide +kernel⟩, List.mem_of_getElem? (i := 47) (by decide +kernel), List.mem_of_getElem? (i := 60) (by decide +kernel), List.mem_of_getElem? (i := 61) (by decide +kernel)⟩
theorem lw_p2 : lw_okq (⟨"ThreshRound$Search", "setWaits", "(IZ)V"⟩, 12) := ⟨⟨by decide +kernel, by decide +kernel⟩, List.mem_of_getElem? (i := 174) (by decide +kernel), List.mem_of_getElem? (i := 185) (by decide +kernel), List.mem_of_getElem? (i := 186) (by decide +kernel)⟩
theorem lw_p3 : lw_okq (⟨"ThreshRound$Customs", "readLine", "(LThreshRound$Tape;)Z"⟩, 4) := ⟨⟨by decide +kernel, by decide +kernel⟩, List.mem_of_getElem? (i := 47) (by decide +kernel), List.mem_of_getElem? (i := 363) (by decide +kernel), List.mem_of_getElem? (i := 364) (by decide +kernel)⟩
theorem lw_p4 : lw_okq (⟨"ThreshRound$Customs", "fails", "(II)Z"⟩, 4) := ⟨⟨by decide +kernel, by decide +kernel⟩, List.mem_of_getElem? (i := 47) (by decide +kernel), List.mem_of_getElem? (i := 438) (by decide +kernel), List.mem_of_getElem? (i := 439) (by decide +kernel)⟩
theorem lw_p5 : lw_okq (⟨"ThreshRound", "isPlace", "(I)Z"⟩, 8) := ⟨⟨by decide +kernel, by decide +kernel⟩, List.mem_of_getElem? (i := 17) (by decide +kernel), List.mem_of_getElem? (i := 475) (by decide +kernel), List.mem_of_getElem? (i := 476) (by decide +kernel)⟩
theorem lw_p6 : lw_okq (⟨"ThreshRound", "prepareSearch", "()V"⟩, 8) := ⟨⟨by decide +kernel, by decide +kernel⟩, List.mem_of_getElem? (i := 17) (by decide +kernel), List.mem_of_getElem? (i := 492) (by decide +kernel), List.mem_of_getElem? (i := 493) (by decide +kernel)⟩
theorem lw_p7 : lw_okq (⟨"ThreshRound", "speedOf", "(I)I"⟩, 8) := ⟨⟨by decide +kernel, by decide +kernel⟩, List.mem_of_getElem? (i := 17) (by decide +kernel), List.mem_of_getElem? (i := 508) (by decide +kernel), List.mem_of_getElem? (i := 509) (by decide +kernel)⟩
theorem lw_p8 : lw_okq (⟨"ThreshRound$Debts", "nextLender", "(II)I"⟩, 2) := ⟨⟨by decide +kernel, by decide +kernel⟩, List.mem_of_getElem? (i := 158) (by decide +kernel), List.mem_of_getElem? (i := 519) (by decide +kernel), List.mem_of_getElem? (i := 520) (by decide +kernel)⟩
theorem lw_p9 : lw_okq (⟨"ThreshRound$Search", "isWaiting", "(I)Z"⟩, 12) := ⟨⟨by decide +kernel, by decide +kernel⟩, List.mem_of_getElem? (i := 174) (by decide +kernel), List.mem_of_getElem? (i := 545) (by decide +kernel), List.mem_of_getElem? (i := 546) (by decide +kernel)⟩
theorem lw_p10 : lw_okq (⟨"ThreshRound$Search", "keepAsBest", "(II)V"⟩, 12) := ⟨⟨by decide +kernel, by decide +kernel⟩, List.mem_of_getElem? (i := 174) (by decide +kernel), List.mem_of_getElem? (i := 556) (by decide +kernel), List.mem_of_getElem? (i := 557) (by decide +kernel)⟩
theorem lw_p11 : lw_okq (⟨"ThreshRound$Search", "mayCome", "(II)Z"⟩, 12) := ⟨⟨by decide +kernel, by decide +kernel⟩, List.mem_of_getElem? (i := 174) (by decide +kernel), List.mem_of_getElem? (i := 565) (by decide +kernel), List.mem_of_getElem? (i := 566) (by decide +kernel)⟩
theorem lw_p12 : lw_okq (⟨"ThreshRound$Search", "beatsBest", "(II)Z"⟩, 12) := ⟨⟨by decide +kernel, by decide +kernel⟩, List.mem_of_getElem? (i := 174) (by decide +kernel), List.mem_of_getElem? (i := 582) (by decide +kernel), List.mem_of_getElem? (i := 583) (by decide +kernel)⟩
theorem lw_p13 : lw_okq (⟨"ThreshRound", "setOutFor", "(I)V"⟩, 8) := ⟨⟨by decide +kernel, by decide +kernel⟩, List.mem_of_getElem? (i := 17) (by decide +kernel), List.mem_of_getElem? (i := 606) (by decide +kernel), List.mem_of_getElem? (i := 607) (by decide +kernel)⟩
theorem lw_p14 : lw_okq (⟨"ThreshRound", "passDay", "()V"⟩, 8) := ⟨⟨by decide +kernel, by decide +kernel⟩, List.mem_of_getElem? (i := 17) (by decide +kernel), List.mem_of_getElem? (i := 618) (by decide +kernel), List.mem_of_getElem? (i := 619) (by decide +kernel)⟩
theorem lw_p15 : lw_okq (⟨"ThreshRound", "isAheadOfFrom", "()Z"⟩, 8) := ⟨⟨by decide +kernel, by decide +kernel⟩, List.mem_of_getElem? (i := 17) (by decide +kernel), List.mem_of_getElem? (i := 622) (by decide +kernel), List.mem_of_getElem? (i := 623) (by decide +kernel)⟩
def lw_privs_1 : List (MethodName × Nat) := [(⟨"ThreshRound$Customs", "forgetTold", "()V"⟩, 4), (⟨"ThreshRound$Customs", "putInForce", "()V"⟩, 4), (⟨"ThreshRound$Search", "setWaits", "(IZ)V"⟩, 12), (⟨"ThreshRound$Customs", "readLine", "(LThreshRound$Tape;)Z"⟩, 4), (⟨"ThreshRound$Customs", "fails", "(II)Z"⟩, 4), (⟨"ThreshRound", "isPlace", "(I)Z"⟩, 8), (⟨"ThreshRound", "prepareSearch", "()V"⟩, 8), (⟨"ThreshRound", "speedOf", "(I)I"⟩, 8), (⟨"ThreshRound$Debts", "nextLender", "(II)I"⟩, 2), (⟨"ThreshRound$Search", "isWaiting", "(I)Z"⟩, 12), (⟨"ThreshRound$Search", "keepAsBest", "(II)V"⟩, 12), (⟨"ThreshRound$Search", "mayCome", "(II)Z"⟩, 12), (⟨"ThreshRound$Search", "beatsBest", "(II)Z"⟩, 12), (⟨"ThreshRound", "setOutFor", "(I)V"⟩, 8), (⟨"ThreshRound", "passDay", "()V"⟩, 8), (⟨"ThreshRound", "isAheadOfFrom", "()Z"⟩, 8)]
theorem lw_r1 : ∀ q ∈ lw_privs_1, lw_okq q := List.forall_mem_cons.mpr ⟨lw_p0, List.forall_mem_cons.mpr ⟨lw_p1, List.forall_mem_cons.mpr ⟨lw_p2, List.forall_mem_cons.mpr ⟨lw_p3, List.forall_mem_cons.mpr ⟨lw_p4, List.forall_mem_cons.mpr ⟨lw_p5, List.forall_mem_cons.mpr ⟨lw_p6, List.forall_mem_cons.mpr ⟨lw_p7, List.forall_mem_cons.mpr ⟨lw_p8, List.forall_mem_cons.mpr ⟨lw_p9, List.forall_mem_cons.mpr ⟨lw_p10, List.forall_mem_cons.mpr ⟨lw_p11, List.forall_mem_cons.mpr ⟨lw_p12, List.forall_mem_cons.mpr ⟨lw_p13, List.forall_mem_cons.mpr ⟨lw_p14, List.forall_mem_cons.mpr ⟨lw_p15, fun _ h => absurd h List.not_mem_nil⟩⟩⟩⟩⟩⟩⟩⟩⟩⟩⟩⟩⟩⟩⟩⟩
theorem lw_p16 : lw_okq (⟨"ThreshRound", "thresh", "(I)V"⟩, 8) := ⟨⟨by decide +kernel, by decide +kernel⟩, List.mem_of_getElem? (i := 17) (by decide +kernel), List.mem_of_getElem? (i := 626) (by decide +kernel), List.mem_of_getElem? (i := 627) (by decide +kernel)⟩
theorem lw_p17 : lw_okq (⟨"ThreshRound", "goOn", "()V"⟩, 8) := ⟨⟨by decide +kernel, by decide +kernel⟩, List.mem_of_getElem? (i := 17) (by decide +kernel), List.mem_of_getElem? (i := 636) (by decide +kernel), List.mem_of_getElem? (i := 637) (by decide +kernel)⟩
theorem lw_p18 : lw_okq (⟨"ThreshRound", "sacksOf", "(I)I"⟩, 8) := ⟨⟨by decide +kernel, by decide +kernel⟩, List.mem_of_getElem? (i := 17) (by decide +kernel), List.mem_of_getElem? (i := 644) (by decide +kernel), List.mem_of_getElem? (i := 645) (by decide +kernel)⟩
theorem lw_p19 : lw_okq (⟨"ThreshRound", "priceOf", "(I)I"⟩, 8) := ⟨⟨by decide +kernel, by decide +kernel⟩, List.mem_of_getElem? (i := 17) (by decide +kernel), List.mem_of_getElem? (i := 648) (by decide +kernel), List.mem_of_getElem? (i := 649) (by decide +kernel)⟩
theorem lw_p20 : lw_okq (⟨"ThreshRound", "gangOf", "(I)I"⟩, 8) := ⟨⟨by decide +kernel, by decide +kernel⟩, List.mem_of_getElem? (i := 17) (by decide +kernel), List.mem_of_getElem? (i := 652) (by decide +kernel), List.mem_of_getElem? (i := 653) (by decide +kernel)⟩
theorem lw_p21 : lw_okq (⟨"ThreshRound", "lossOf", "(I)I"⟩, 8) := ⟨⟨by decide +kernel, by decide +kernel⟩, List.mem_of_getElem? (i := 17) (by decide +kernel), List.mem_of_getElem? (i := 656) (by decide +kernel), List.mem_of_getElem? (i := 657) (by decide +kernel)⟩
theorem lw_p22 : lw_okq (⟨"ThreshRound", "areTwoFarms", "(II)Z"⟩, 8) := ⟨⟨by decide +kernel, by decide +kernel⟩, List.mem_of_getElem? (i := 17) (by decide +kernel), List.mem_of_getElem? (i := 664) (by decide +kernel), List.mem_of_getElem? (i := 665) (by decide +kernel)⟩
theorem lw_p23 : lw_okq (⟨"ThreshRound", "howItIs", "()I"⟩, 8) := ⟨⟨by decide +kernel, by decide +kernel⟩, List.mem_of_getElem? (i := 17) (by decide +kernel), List.mem_of_getElem? (i := 683) (by decide +kernel), List.mem_of_getElem? (i := 684) (by decide +kernel)⟩
theorem lw_p24 : lw_okq (⟨"ThreshRoundModel", "next", "()V"⟩, 56) := ⟨⟨by decide +kernel, by decide +kernel⟩, List.mem_of_getElem? (i := 687) (by decide +kernel), List.mem_of_getElem? (i := 870) (by decide +kernel), List.mem_of_getElem? (i := 871) (by decide +kernel)⟩
theorem lw_p25 : lw_okq (⟨"ThreshRoundModel", "here", "()I"⟩, 56) := ⟨⟨by decide +kernel, by decide +kernel⟩, List.mem_of_getElem? (i := 687) (by decide +kernel), List.mem_of_getElem? (i := 874) (by decide +kernel), List.mem_of_getElem? (i := 875) (by decide +kernel)⟩
theorem lw_p26 : lw_okq (⟨"ThreshRoundModel", "wordOf", "()I"⟩, 56) := ⟨⟨by decide +kernel, by decide +kernel⟩, List.mem_of_getElem? (i := 687) (by decide +kernel), List.mem_of_getElem? (i := 881) (by decide +kernel), List.mem_of_getElem? (i := 882) (by decide +kernel)⟩
theorem lw_p27 : lw_okq (⟨"ThreshRoundModel", "line", "()V"⟩, 56) := ⟨⟨by decide +kernel, by decide +kernel⟩, List.mem_of_getElem? (i := 687) (by decide +kernel), List.mem_of_getElem? (i := 891) (by decide +kernel), List.mem_of_getElem? (i := 892) (by decide +kernel)⟩
theorem lw_p28 : lw_okq (⟨"ThreshRoundModel", "wrong", "(I)V"⟩, 56) := ⟨⟨by decide +kernel, by decide +kernel⟩, List.mem_of_getElem? (i := 687) (by decide +kernel), List.mem_of_getElem? (i := 895) (by decide +kernel), List.mem_of_getElem? (i := 896) (by decide +kernel)⟩
theorem lw_p29 : lw_okq (⟨"ThreshRoundModel", "isFarm", "(I)Z"⟩, 56) := ⟨⟨by decide +kernel, by decide +kernel⟩, List.mem_of_getElem? (i := 687) (by decide +kernel), List.mem_of_getElem? (i := 918) (by decide +kernel), List.mem_of_getElem? (i := 919) (by decide +kernel)⟩
theorem lw_p30 : lw_okq (⟨"ThreshRoundModel", "firstOrder", "()V"⟩, 56) := ⟨⟨by decide +kernel, by decide +kernel⟩, List.mem_of_getElem? (i := 687) (by decide +kernel), List.mem_of_getElem? (i := 926) (by decide +kernel), List.mem_of_getElem? (i := 927) (by decide +kernel)⟩
theorem lw_p31 : lw_okq (⟨"ThreshRoundModel", "isDone", "(I)Z"⟩, 56) := ⟨⟨by decide +kernel, by decide +kernel⟩, List.mem_of_getElem? (i := 687) (by decide +kernel), List.mem_of_getElem? (i := 930) (by decide +kernel), List.mem_of_getElem? (i := 931) (by decide +kernel)⟩
def lw_privs_2 : List (MethodName × Nat) := [(⟨"ThreshRound", "thresh", "(I)V"⟩, 8), (⟨"ThreshRound", "goOn", "()V"⟩, 8), (⟨"ThreshRound", "sacksOf", "(I)I"⟩, 8), (⟨"ThreshRound", "priceOf", "(I)I"⟩, 8), (⟨"ThreshRound", "gangOf", "(I)I"⟩, 8), (⟨"ThreshRound", "lossOf", "(I)I"⟩, 8), (⟨"ThreshRound", "areTwoFarms", "(II)Z"⟩, 8), (⟨"ThreshRound", "howItIs", "()I"⟩, 8), (⟨"ThreshRoundModel", "next", "()V"⟩, 56), (⟨"ThreshRoundModel", "here", "()I"⟩, 56), (⟨"ThreshRoundModel", "wordOf", "()I"⟩, 56), (⟨"ThreshRoundModel", "line", "()V"⟩, 56), (⟨"ThreshRoundModel", "wrong", "(I)V"⟩, 56), (⟨"ThreshRoundModel", "isFarm", "(I)Z"⟩, 56), (⟨"ThreshRoundModel", "firstOrder", "()V"⟩, 56), (⟨"ThreshRoundModel", "isDone", "(I)Z"⟩, 56)]
theorem lw_r2 : ∀ q ∈ lw_privs_2, lw_okq q := List.forall_mem_cons.mpr ⟨lw_p16, List.forall_mem_cons.mpr ⟨lw_p17, List.forall_mem_cons.mpr ⟨lw_p18, List.forall_mem_cons.mpr ⟨lw_p19, List.forall_mem_cons.mpr ⟨lw_p20, List.forall_mem_cons.mpr ⟨lw_p21, List.forall_mem_cons.mpr ⟨lw_p22, List.forall_mem_cons.mpr ⟨lw_p23, List.forall_mem_cons.mpr ⟨lw_p24, List.forall_mem_cons.mpr ⟨lw_p25, List.forall_mem_cons.mpr ⟨lw_p26, List.forall_mem_cons.mpr ⟨lw_p27, List.forall_mem_cons.mpr ⟨lw_p28, List.forall_mem_cons.mpr ⟨lw_p29, List.forall_mem_cons.mpr ⟨lw_p30, List.forall_mem_cons.mpr ⟨lw_p31, fun _ h => absurd h List.not_mem_nil⟩⟩⟩⟩⟩⟩⟩⟩⟩⟩⟩⟩⟩⟩⟩⟩
theorem lw_p32 : lw_okq (⟨"ThreshRoundModel", "speedOf", "(I)I"⟩, 56) := ⟨⟨by decide +kernel, by decide +kernel⟩, List.mem_of_getElem? (i := 687) (by decide +kernel), List.mem_of_getElem? (i := 934) (by decide +kernel), List.mem_of_getElem? (i := 935) (by decide +kernel)⟩
theorem lw_p33 : lw_okq (⟨"ThreshRoundModel", "gangs", "(I)V"⟩, 56) := ⟨⟨by decide +kernel, by decide +kernel⟩, List.mem_of_getElem? (i := 687) (by decide +kernel), List.mem_of_getElem? (i := 938) (by decide +kernel), List.mem_of_getElem? (i := 939) (by decide +kernel)⟩
theorem lw_p34 : lw_okq (⟨"ThreshRoundModel", "goes", "()Z"⟩, 56) := ⟨⟨by decide +kernel, by decide +kernel⟩, List.mem_of_getElem? (i := 687) (by decide +kernel), List.mem_of_getElem? (i := 944) (by decide +kernel), List.mem_of_getElem? (i := 945) (by decide +kernel)⟩
theorem lw_p35 : lw_okq (⟨"ThreshRoundModel", "lossOf", "(II)I"⟩, 56) := ⟨⟨by decide +kernel, by decide +kernel⟩, List.mem_of_getElem? (i := 687) (by decide +kernel), List.mem_of_getElem? (i := 948) (by decide +kernel), List.mem_of_getElem? (i := 949) (by decide +kernel)⟩
theorem lw_p36 : lw_okq (⟨"ThreshRoundModel", "goesOn", "()Z"⟩, 56) := ⟨⟨by decide +kernel, by decide +kernel⟩, List.mem_of_getElem? (i := 687) (by decide +kernel), List.mem_of_getElem? (i := 952) (by decide +kernel), List.mem_of_getElem? (i := 953) (by decide +kernel)⟩
theorem lw_p37 : lw_okq (⟨"ThreshRoundModel", "swaps", "(II)V"⟩, 56) := ⟨⟨by decide +kernel, by decide +kernel⟩, List.mem_of_getElem? (i := 687) (by decide +kernel), List.mem_of_getElem? (i := 956) (by decide +kernel), List.mem_of_getElem? (i := 957) (by decide +kernel)⟩
theorem lw_p38 : lw_okq (⟨"ThreshRoundModel", "comes", "()V"⟩, 56) := ⟨⟨by decide +kernel, by decide +kernel⟩, List.mem_of_getElem? (i := 687) (by decide +kernel), List.mem_of_getElem? (i := 960) (by decide +kernel), List.mem_of_getElem? (i := 961) (by decide +kernel)⟩
theorem lw_p39 : lw_okq (⟨"ThreshRoundModel", "setsOut", "()Z"⟩, 56) := ⟨⟨by decide +kernel, by decide +kernel⟩, List.mem_of_getElem? (i := 687) (by decide +kernel), List.mem_of_getElem? (i := 972) (by decide +kernel), List.mem_of_getElem? (i := 973) (by decide +kernel)⟩
theorem lw_p40 : lw_okq (⟨"ThreshRoundModel", "oneDay", "()V"⟩, 56) := ⟨⟨by decide +kernel, by decide +kernel⟩, List.mem_of_getElem? (i := 687) (by decide +kernel), List.mem_of_getElem? (i := 984) (by decide +kernel), List.mem_of_getElem? (i := 985) (by decide +kernel)⟩
theorem lw_p41 : lw_okq (⟨"ThreshRoundModel", "isAtWork", "()Z"⟩, 56) := ⟨⟨by decide +kernel, by decide +kernel⟩, List.mem_of_getElem? (i := 687) (by decide +kernel), List.mem_of_getElem? (i := 988) (by decide +kernel), List.mem_of_getElem? (i := 989) (by decide +kernel)⟩
theorem lw_p42 : lw_okq (⟨"ThreshRoundModel", "threshes", "(I)V"⟩, 56) := ⟨⟨by decide +kernel, by decide +kernel⟩, List.mem_of_getElem? (i := 687) (by decide +kernel), List.mem_of_getElem? (i := 992) (by decide +kernel), List.mem_of_getElem? (i := 993) (by decide +kernel)⟩
theorem lw_p43 : lw_okq (⟨"ThreshRoundModel", "sacksOf", "(I)I"⟩, 56) := ⟨⟨by decide +kernel, by decide +kernel⟩, List.mem_of_getElem? (i := 687) (by decide +kernel), List.mem_of_getElem? (i := 1000) (by decide +kernel), List.mem_of_getElem? (i := 1001) (by decide +kernel)⟩
def lw_privs_3 : List (MethodName × Nat) := [(⟨"ThreshRoundModel", "speedOf", "(I)I"⟩, 56), (⟨"ThreshRoundModel", "gangs", "(I)V"⟩, 56), (⟨"ThreshRoundModel", "goes", "()Z"⟩, 56), (⟨"ThreshRoundModel", "lossOf", "(II)I"⟩, 56), (⟨"ThreshRoundModel", "goesOn", "()Z"⟩, 56), (⟨"ThreshRoundModel", "swaps", "(II)V"⟩, 56), (⟨"ThreshRoundModel", "comes", "()V"⟩, 56), (⟨"ThreshRoundModel", "setsOut", "()Z"⟩, 56), (⟨"ThreshRoundModel", "oneDay", "()V"⟩, 56), (⟨"ThreshRoundModel", "isAtWork", "()Z"⟩, 56), (⟨"ThreshRoundModel", "threshes", "(I)V"⟩, 56), (⟨"ThreshRoundModel", "sacksOf", "(I)I"⟩, 56)]
theorem lw_r3 : ∀ q ∈ lw_privs_3, lw_okq q := List.forall_mem_cons.mpr ⟨lw_p32, List.forall_mem_cons.mpr ⟨lw_p33, List.forall_mem_cons.mpr ⟨lw_p34, List.forall_mem_cons.mpr ⟨lw_p35, List.forall_mem_cons.mpr ⟨lw_p36, List.forall_mem_cons.mpr ⟨lw_p37, List.forall_mem_cons.mpr ⟨lw_p38, List.forall_mem_cons.mpr ⟨lw_p39, List.forall_mem_cons.mpr ⟨lw_p40, List.forall_mem_cons.mpr ⟨lw_p41, List.forall_mem_cons.mpr ⟨lw_p42, List.forall_mem_cons.mpr ⟨lw_p43, fun _ h => absurd h List.not_mem_nil⟩⟩⟩⟩⟩⟩⟩⟩⟩⟩⟩⟩
def lw_privs : List (MethodName × Nat) := lw_privs_1 ++ (lw_privs_2 ++ (lw_privs_3))
def lw_tbl : List Cond := k2_sels lw_privs ++ tables_1
theorem lw_privs_ok : ∀ q ∈ lw_privs, lw_okq q := by
  show ∀ q ∈ lw_privs_1 ++ (lw_privs_2 ++ (lw_privs_3)), lw_okq q
  exact List.forall_mem_append.mpr ⟨lw_r1, List.forall_mem_append.mpr ⟨lw_r2, lw_r3⟩⟩
-- ===== end of PART A; then your names; then what follows =====
def RX0 : String := "ThreshRound$Customs"
def TX0 : u_T := fun k => match k with
  | 0 => ("ThreshRound$Customs", "inForce", "[I", true)
  | 1 => ("ThreshRound$Customs", "told", "[I", true)
  | 2 => ("ThreshRound$Customs", "fault", "I", false)
  | _ => ("ThreshRound$Customs", "faultPlace", "I", false)
def tyX0 : Nat → FieldType := fun k => match k with
  | 0 => .array .int
  | 1 => .array .int
  | 2 => .int
  | _ => .int
theorem nmX0 : ∀ a, a < 4 → ∀ b, b < 4 → a ≠ b → (TX0 a).2.1 ≠ (TX0 b).2.1 := by decide +kernel
theorem tyX0_ok : ∀ k, k < 4 → parseFieldDescriptor (TX0 k).2.2.1 = some (tyX0 k) := by decide +kernel
abbrev cX0_init : ByteArray := prog_2_method_1_code
def yX0_init : MethodName := ⟨RX0, "<init>", "()V"⟩
abbrev cX0_tells : ByteArray := prog_2_method_2_code
def yX0_tells : MethodName := ⟨RX0, "tells", "(I)I"⟩
abbrev cX0_read : ByteArray := prog_2_method_3_code
def yX0_read : MethodName := ⟨RX0, "read", "(LThreshRound$Tape;I)I"⟩
abbrev cX0_forgetTold : ByteArray := prog_2_method_4_code
def yX0_forgetTold : MethodName := ⟨RX0, "forgetTold", "()V"⟩
abbrev cX0_putInForce : ByteArray := prog_2_method_5_code
def yX0_putInForce : MethodName := ⟨RX0, "putInForce", "()V"⟩
abbrev cX0_readLine : ByteArray := prog_2_method_6_code
def yX0_readLine : MethodName := ⟨RX0, "readLine", "(LThreshRound$Tape;)Z"⟩
abbrev cX0_fails : ByteArray := prog_2_method_7_code
def yX0_fails : MethodName := ⟨RX0, "fails", "(II)Z"⟩
abbrev cX0_kindOfWord : ByteArray := prog_2_method_8_code
def yX0_kindOfWord : MethodName := ⟨RX0, "kindOfWord", "(LThreshRound$Tape;I)I"⟩
abbrev cX0_word : ByteArray := prog_2_method_9_code
def yX0_word : MethodName := ⟨RX0, "word", "(I)Ljava/lang/String;"⟩
def RX1 : String := "ThreshRound$Debts"
def TX1 : u_T := fun k => match k with
  | 0 => ("ThreshRound$Debts", "owed", "[[I", true)
  | _ => ("ThreshRound$Debts", "given", "[I", true)
def tyX1 : Nat → FieldType := fun k => match k with
  | 0 => .array (.array .int)
  | _ => .array .int
theorem nmX1 : ∀ a, a < 2 → ∀ b, b < 2 → a ≠ b → (TX1 a).2.1 ≠ (TX1 b).2.1 := by decide +kernel
theorem tyX1_ok : ∀ k, k < 2 → parseFieldDescriptor (TX1 k).2.2.1 = some (tyX1 k) := by decide +kernel
abbrev cX1_init : ByteArray := prog_3_method_1_code
def yX1_init : MethodName := ⟨RX1, "<init>", "()V"⟩
abbrev cX1_muster : ByteArray := prog_3_method_2_code
def yX1_muster : MethodName := ⟨RX1, "muster", "(LThreshRound$Farms;II)I"⟩
abbrev cX1_nextLender : ByteArray := prog_3_method_3_code
def yX1_nextLender : MethodName := ⟨RX1, "nextLender", "(II)I"⟩
abbrev cX1_oweTheGivers : ByteArray := prog_3_method_4_code
def yX1_oweTheGivers : MethodName := ⟨RX1, "oweTheGivers", "(II)V"⟩
def RX2 : String := "ThreshRound$Engine"
def TX2 : u_T := fun k => match k with
  | 0 => ("ThreshRound$Engine", "today", "I", false)
  | 1 => ("ThreshRound$Engine", "place", "I", false)
  | 2 => ("ThreshRound$Engine", "onTheWay", "I", false)
  | 3 => ("ThreshRound$Engine", "broken", "I", false)
  | 4 => ("ThreshRound$Engine", "going", "Z", false)
  | _ => ("ThreshRound$Engine", "step", "I", false)
def tyX2 : Nat → FieldType := fun k => match k with
  | 0 => .int
  | 1 => .int
  | 2 => .int
  | 3 => .int
  | 4 => .boolean
  | _ => .int
theorem nmX2 : ∀ a, a < 6 → ∀ b, b < 6 → a ≠ b → (TX2 a).2.1 ≠ (TX2 b).2.1 := by decide +kernel
theorem tyX2_ok : ∀ k, k < 6 → parseFieldDescriptor (TX2 k).2.2.1 = some (tyX2 k) := by decide +kernel
abbrev cX2_init : ByteArray := prog_4_method_1_code
def yX2_init : MethodName := ⟨RX2, "<init>", "()V"⟩
def RX3 : String := "ThreshRound$Farms"
def TX3 : u_T := fun k => match k with
  | 0 => ("ThreshRound$Farms", "count", "I", false)
  | 1 => ("ThreshRound$Farms", "stack", "[I", true)
  | 2 => ("ThreshRound$Farms", "left", "[I", true)
  | 3 => ("ThreshRound$Farms", "damp", "[I", true)
  | 4 => ("ThreshRound$Farms", "own", "[I", true)
  | 5 => ("ThreshRound$Farms", "lends", "[I", true)
  | 6 => ("ThreshRound$Farms", "from", "[I", true)
  | 7 => ("ThreshRound$Farms", "to", "[I", true)
  | 8 => ("ThreshRound$Farms", "days", "[I", true)
  | 9 => ("ThreshRound$Farms", "doneOn", "[I", true)
  | 10 => ("ThreshRound$Farms", "how", "[I", true)
  | _ => ("ThreshRound$Farms", "coins", "[I", true)
def tyX3 : Nat → FieldType := fun k => match k with
  | 0 => .int
  | 1 => .array .int
  | 2 => .array .int
  | 3 => .array .int
  | 4 => .array .int
  | 5 => .array .int
  | 6 => .array .int
  | 7 => .array .int
  | 8 => .array .int
  | 9 => .array .int
  | 10 => .array .int
  | _ => .array .int
theorem nmX3 : ∀ a, a < 12 → ∀ b, b < 12 → a ≠ b → (TX3 a).2.1 ≠ (TX3 b).2.1 := by decide +kernel
theorem tyX3_ok : ∀ k, k < 12 → parseFieldDescriptor (TX3 k).2.2.1 = some (tyX3 k) := by decide +kernel
abbrev cX3_init : ByteArray := prog_5_method_1_code
def yX3_init : MethodName := ⟨RX3, "<init>", "()V"⟩
abbrev cX3_add : ByteArray := prog_5_method_2_code
def yX3_add : MethodName := ⟨RX3, "add", "()I"⟩
abbrev cX3_has : ByteArray := prog_5_method_3_code
def yX3_has : MethodName := ⟨RX3, "has", "(I)Z"⟩
abbrev cX3_isOpen : ByteArray := prog_5_method_4_code
def yX3_isOpen : MethodName := ⟨RX3, "isOpen", "(I)Z"⟩
abbrev cX3_openOnes : ByteArray := prog_5_method_5_code
def yX3_openOnes : MethodName := ⟨RX3, "openOnes", "()I"⟩
def RX4 : String := "ThreshRound$Plan"
def TX4 : u_T := fun k => match k with
  | 0 => ("ThreshRound$Plan", "length", "I", false)
  | 1 => ("ThreshRound$Plan", "madeOn", "I", false)
  | 2 => ("ThreshRound$Plan", "wasSetOut", "Z", false)
  | 3 => ("ThreshRound$Plan", "order", "[I", true)
  | 4 => ("ThreshRound$Plan", "there", "[I", true)
  | 5 => ("ThreshRound$Plan", "begin", "[I", true)
  | 6 => ("ThreshRound$Plan", "leave", "[I", true)
  | _ => ("ThreshRound$Plan", "loss", "[I", true)
def tyX4 : Nat → FieldType := fun k => match k with
  | 0 => .int
  | 1 => .int
  | 2 => .boolean
  | 3 => .array .int
  | 4 => .array .int
  | 5 => .array .int
  | 6 => .array .int
  | _ => .array .int
theorem nmX4 : ∀ a, a < 8 → ∀ b, b < 8 → a ≠ b → (TX4 a).2.1 ≠ (TX4 b).2.1 := by decide +kernel
theorem tyX4_ok : ∀ k, k < 8 → parseFieldDescriptor (TX4 k).2.2.1 = some (tyX4 k) := by decide +kernel
abbrev cX4_init : ByteArray := prog_6_method_1_code
def yX4_init : MethodName := ⟨RX4, "<init>", "()V"⟩
abbrev cX4_make : ByteArray := prog_6_method_2_code
def yX4_make : MethodName := ⟨RX4, "make", "(LThreshRound$Search;LThreshRound$Roads;II)V"⟩
def RX5 : String := "ThreshRound$Roads"
def TX5 : u_T := fun k => match k with
  | _ => ("ThreshRound$Roads", "days", "[[I", true)
def tyX5 : Nat → FieldType := fun k => match k with
  | _ => .array (.array .int)
theorem nmX5 : ∀ a, a < 1 → ∀ b, b < 1 → a ≠ b → (TX5 a).2.1 ≠ (TX5 b).2.1 := by decide +kernel
theorem tyX5_ok : ∀ k, k < 1 → parseFieldDescriptor (TX5 k).2.2.1 = some (tyX5 k) := by decide +kernel
abbrev cX5_init : ByteArray := prog_7_method_1_code
def yX5_init : MethodName := ⟨RX5, "<init>", "()V"⟩
abbrev cX5_between : ByteArray := prog_7_method_2_code
def yX5_between : MethodName := ⟨RX5, "between", "(II)I"⟩
def RX6 : String := "ThreshRound$Search"
def TX6 : u_T := fun k => match k with
  | 0 => ("ThreshRound$Search", "late", "I", false)
  | 1 => ("ThreshRound$Search", "need", "[I", true)
  | 2 => ("ThreshRound$Search", "from", "[I", true)
  | 3 => ("ThreshRound$Search", "to", "[I", true)
  | 4 => ("ThreshRound$Search", "waits", "[Z", true)
  | 5 => ("ThreshRound$Search", "forced", "[I", true)
  | 6 => ("ThreshRound$Search", "forcedCount", "I", false)
  | 7 => ("ThreshRound$Search", "order", "[I", true)
  | 8 => ("ThreshRound$Search", "best", "[I", true)
  | 9 => ("ThreshRound$Search", "toGo", "I", false)
  | 10 => ("ThreshRound$Search", "bestLoss", "I", false)
  | _ => ("ThreshRound$Search", "bestEnd", "I", false)
def tyX6 : Nat → FieldType := fun k => match k with
  | 0 => .int
  | 1 => .array .int
  | 2 => .array .int
  | 3 => .array .int
  | 4 => .array .boolean
  | 5 => .array .int
  | 6 => .int
  | 7 => .array .int
  | 8 => .array .int
  | 9 => .int
  | 10 => .int
  | _ => .int
theorem nmX6 : ∀ a, a < 12 → ∀ b, b < 12 → a ≠ b → (TX6 a).2.1 ≠ (TX6 b).2.1 := by decide +kernel
theorem tyX6_ok : ∀ k, k < 12 → parseFieldDescriptor (TX6 k).2.2.1 = some (tyX6 k) := by decide +kernel
abbrev cX6_init : ByteArray := prog_8_method_1_code
def yX6_init : MethodName := ⟨RX6, "<init>", "()V"⟩
abbrev cX6_startAnew : ByteArray := prog_8_method_2_code
def yX6_startAnew : MethodName := ⟨RX6, "startAnew", "(I)V"⟩
abbrev cX6_add : ByteArray := prog_8_method_3_code
def yX6_add : MethodName := ⟨RX6, "add", "(IIII)V"⟩
abbrev cX6_force : ByteArray := prog_8_method_4_code
def yX6_force : MethodName := ⟨RX6, "force", "(I)V"⟩
abbrev cX6_find : ByteArray := prog_8_method_5_code
def yX6_find : MethodName := ⟨RX6, "find", "(LThreshRound$Roads;II)Z"⟩
abbrev cX6_extend : ByteArray := prog_8_method_6_code
def yX6_extend : MethodName := ⟨RX6, "extend", "(LThreshRound$Search;LThreshRound$Roads;IIII)V"⟩
abbrev cX6_mayCome : ByteArray := prog_8_method_7_code
def yX6_mayCome : MethodName := ⟨RX6, "mayCome", "(II)Z"⟩
abbrev cX6_begins : ByteArray := prog_8_method_8_code
def yX6_begins : MethodName := ⟨RX6, "begins", "(II)I"⟩
abbrev cX6_leaves : ByteArray := prog_8_method_9_code
def yX6_leaves : MethodName := ⟨RX6, "leaves", "(II)I"⟩
abbrev cX6_lossOf : ByteArray := prog_8_method_10_code
def yX6_lossOf : MethodName := ⟨RX6, "lossOf", "(II)I"⟩
abbrev cX6_beatsBest : ByteArray := prog_8_method_11_code
def yX6_beatsBest : MethodName := ⟨RX6, "beatsBest", "(II)Z"⟩
abbrev cX6_keepAsBest : ByteArray := prog_8_method_12_code
def yX6_keepAsBest : MethodName := ⟨RX6, "keepAsBest", "(II)V"⟩
abbrev cX6_isWaiting : ByteArray := prog_8_method_13_code
def yX6_isWaiting : MethodName := ⟨RX6, "isWaiting", "(I)Z"⟩
abbrev cX6_setWaits : ByteArray := prog_8_method_14_code
def yX6_setWaits : MethodName := ⟨RX6, "setWaits", "(IZ)V"⟩
def RX7 : String := "ThreshRound$Tape"
def TX7 : u_T := fun k => match k with
  | 0 => ("ThreshRound$Tape", "bytes", "[I", true)
  | 1 => ("ThreshRound$Tape", "length", "I", false)
  | 2 => ("ThreshRound$Tape", "place", "I", false)
  | _ => ("ThreshRound$Tape", "end", "I", false)
def tyX7 : Nat → FieldType := fun k => match k with
  | 0 => .array .int
  | 1 => .int
  | 2 => .int
  | _ => .int
theorem nmX7 : ∀ a, a < 4 → ∀ b, b < 4 → a ≠ b → (TX7 a).2.1 ≠ (TX7 b).2.1 := by decide +kernel
theorem tyX7_ok : ∀ k, k < 4 → parseFieldDescriptor (TX7 k).2.2.1 = some (tyX7 k) := by decide +kernel
abbrev cX7_init : ByteArray := prog_9_method_1_code
def yX7_init : MethodName := ⟨RX7, "<init>", "()V"⟩
abbrev cX7_hasRoomFor : ByteArray := prog_9_method_2_code
def yX7_hasRoomFor : MethodName := ⟨RX7, "hasRoomFor", "(I)Z"⟩
abbrev cX7_append : ByteArray := prog_9_method_3_code
def yX7_append : MethodName := ⟨RX7, "append", "(I)V"⟩
abbrev cX7_readFirst : ByteArray := prog_9_method_4_code
def yX7_readFirst : MethodName := ⟨RX7, "readFirst", "(I)V"⟩
abbrev cX7_isAtEnd : ByteArray := prog_9_method_5_code
def yX7_isAtEnd : MethodName := ⟨RX7, "isAtEnd", "()Z"⟩
abbrev cX7_byteAt : ByteArray := prog_9_method_6_code
def yX7_byteAt : MethodName := ⟨RX7, "byteAt", "(I)I"⟩
abbrev cX7_skipBlanks : ByteArray := prog_9_method_7_code
def yX7_skipBlanks : MethodName := ⟨RX7, "skipBlanks", "()V"⟩
abbrev cX7_endOfRow : ByteArray := prog_9_method_8_code
def yX7_endOfRow : MethodName := ⟨RX7, "endOfRow", "(CC)I"⟩
abbrev cX7_numberUpTo : ByteArray := prog_9_method_9_code
def yX7_numberUpTo : MethodName := ⟨RX7, "numberUpTo", "(I)I"⟩
abbrev cX7_isWordUpTo : ByteArray := prog_9_method_10_code
def yX7_isWordUpTo : MethodName := ⟨RX7, "isWordUpTo", "(ILjava/lang/String;)Z"⟩
def RX8 : String := "ThreshRound"
def TX8 : u_T := fun k => match k with
  | 0 => ("ThreshRound", "tape", "LThreshRound$Tape;", true)
  | 1 => ("ThreshRound", "rules", "LThreshRound$Customs;", true)
  | 2 => ("ThreshRound", "farms", "LThreshRound$Farms;", true)
  | 3 => ("ThreshRound", "roads", "LThreshRound$Roads;", true)
  | 4 => ("ThreshRound", "debts", "LThreshRound$Debts;", true)
  | 5 => ("ThreshRound", "search", "LThreshRound$Search;", true)
  | 6 => ("ThreshRound", "atHand", "LThreshRound$Plan;", true)
  | _ => ("ThreshRound", "engine", "LThreshRound$Engine;", true)
def tyX8 : Nat → FieldType := fun k => match k with
  | 0 => .object "ThreshRound$Tape"
  | 1 => .object "ThreshRound$Customs"
  | 2 => .object "ThreshRound$Farms"
  | 3 => .object "ThreshRound$Roads"
  | 4 => .object "ThreshRound$Debts"
  | 5 => .object "ThreshRound$Search"
  | 6 => .object "ThreshRound$Plan"
  | _ => .object "ThreshRound$Engine"
theorem nmX8 : ∀ a, a < 8 → ∀ b, b < 8 → a ≠ b → (TX8 a).2.1 ≠ (TX8 b).2.1 := by decide +kernel
theorem tyX8_ok : ∀ k, k < 8 → parseFieldDescriptor (TX8 k).2.2.1 = some (tyX8 k) := by decide +kernel
abbrev cX8_init : ByteArray := prog_1_method_1_code
def yX8_init : MethodName := ⟨RX8, "<init>", "()V"⟩
abbrev cX8_feed : ByteArray := prog_1_method_2_code
def yX8_feed : MethodName := ⟨RX8, "feed", "(IIIII)I"⟩
abbrev cX8_customs : ByteArray := prog_1_method_3_code
def yX8_customs : MethodName := ⟨RX8, "customs", "(I)I"⟩
abbrev cX8_fault : ByteArray := prog_1_method_4_code
def yX8_fault : MethodName := ⟨RX8, "fault", "(I)I"⟩
abbrev cX8_farm : ByteArray := prog_1_method_5_code
def yX8_farm : MethodName := ⟨RX8, "farm", "(IIIIII)I"⟩
abbrev cX8_way : ByteArray := prog_1_method_6_code
def yX8_way : MethodName := ⟨RX8, "way", "(III)Z"⟩
abbrev cX8_bargain : ByteArray := prog_1_method_7_code
def yX8_bargain : MethodName := ⟨RX8, "bargain", "(III)Z"⟩
abbrev cX8_plan : ByteArray := prog_1_method_8_code
def yX8_plan : MethodName := ⟨RX8, "plan", "()I"⟩
abbrev cX8_planned : ByteArray := prog_1_method_9_code
def yX8_planned : MethodName := ⟨RX8, "planned", "(II)I"⟩
abbrev cX8_out : ByteArray := prog_1_method_10_code
def yX8_out : MethodName := ⟨RX8, "out", "()Z"⟩
abbrev cX8_breaks : ByteArray := prog_1_method_11_code
def yX8_breaks : MethodName := ⟨RX8, "breaks", "(I)Z"⟩
abbrev cX8_day : ByteArray := prog_1_method_12_code
def yX8_day : MethodName := ⟨RX8, "day", "(I)I"⟩
abbrev cX8_look : ByteArray := prog_1_method_13_code
def yX8_look : MethodName := ⟨RX8, "look", "(II)I"⟩
abbrev cX8_owed : ByteArray := prog_1_method_14_code
def yX8_owed : MethodName := ⟨RX8, "owed", "(II)I"⟩
abbrev cX8_lent : ByteArray := prog_1_method_15_code
def yX8_lent : MethodName := ⟨RX8, "lent", "(II)I"⟩
abbrev cX8_count : ByteArray := prog_1_method_16_code
def yX8_count : MethodName := ⟨RX8, "count", "(I)I"⟩
abbrev cX8_isPlace : ByteArray := prog_1_method_17_code
def yX8_isPlace : MethodName := ⟨RX8, "isPlace", "(I)Z"⟩
abbrev cX8_areTwoFarms : ByteArray := prog_1_method_18_code
def yX8_areTwoFarms : MethodName := ⟨RX8, "areTwoFarms", "(II)Z"⟩
abbrev cX8_prepareSearch : ByteArray := prog_1_method_19_code
def yX8_prepareSearch : MethodName := ⟨RX8, "prepareSearch", "()V"⟩
abbrev cX8_gangOf : ByteArray := prog_1_method_20_code
def yX8_gangOf : MethodName := ⟨RX8, "gangOf", "(I)I"⟩
abbrev cX8_speedOf : ByteArray := prog_1_method_21_code
def yX8_speedOf : MethodName := ⟨RX8, "speedOf", "(I)I"⟩
abbrev cX8_sacksOf : ByteArray := prog_1_method_22_code
def yX8_sacksOf : MethodName := ⟨RX8, "sacksOf", "(I)I"⟩
abbrev cX8_priceOf : ByteArray := prog_1_method_23_code
def yX8_priceOf : MethodName := ⟨RX8, "priceOf", "(I)I"⟩
abbrev cX8_lossOf : ByteArray := prog_1_method_24_code
def yX8_lossOf : MethodName := ⟨RX8, "lossOf", "(I)I"⟩
abbrev cX8_howItIs : ByteArray := prog_1_method_25_code
def yX8_howItIs : MethodName := ⟨RX8, "howItIs", "()I"⟩
abbrev cX8_isAheadOfFrom : ByteArray := prog_1_method_26_code
def yX8_isAheadOfFrom : MethodName := ⟨RX8, "isAheadOfFrom", "()Z"⟩
abbrev cX8_passDay : ByteArray := prog_1_method_27_code
def yX8_passDay : MethodName := ⟨RX8, "passDay", "()V"⟩
abbrev cX8_thresh : ByteArray := prog_1_method_28_code
def yX8_thresh : MethodName := ⟨RX8, "thresh", "(I)V"⟩
abbrev cX8_goOn : ByteArray := prog_1_method_29_code
def yX8_goOn : MethodName := ⟨RX8, "goOn", "()V"⟩
abbrev cX8_setOutFor : ByteArray := prog_1_method_30_code
def yX8_setOutFor : MethodName := ⟨RX8, "setOutFor", "(I)V"⟩
abbrev cX8_within : ByteArray := prog_1_method_31_code
def yX8_within : MethodName := ⟨RX8, "within", "(III)Z"⟩
abbrev cX8_at : ByteArray := prog_1_method_32_code
def yX8_at : MethodName := ⟨RX8, "at", "([II)I"⟩
abbrev cX8_put : ByteArray := prog_1_method_33_code
def yX8_put : MethodName := ⟨RX8, "put", "([III)V"⟩
abbrev cX8_at_ : ByteArray := prog_1_method_34_code
def yX8_at_ : MethodName := ⟨RX8, "at", "([[III)I"⟩
abbrev cX8_put_ : ByteArray := prog_1_method_35_code
def yX8_put_ : MethodName := ⟨RX8, "put", "([[IIII)V"⟩
abbrev cX8_cut : ByteArray := prog_1_method_36_code
def yX8_cut : MethodName := ⟨RX8, "cut", "(II)I"⟩
abbrev cX8_upwards : ByteArray := prog_1_method_37_code
def yX8_upwards : MethodName := ⟨RX8, "upwards", "(II)I"⟩
def RX9 : String := "ThreshRoundModel"
def TX9 : u_T := fun k => match k with
  | 0 => ("ThreshRoundModel", "thrown", "I", false)
  | 1 => ("ThreshRoundModel", "tape", "[I", true)
  | 2 => ("ThreshRoundModel", "taped", "I", false)
  | 3 => ("ThreshRoundModel", "customs", "[I", true)
  | 4 => ("ThreshRoundModel", "usual", "[I", true)
  | 5 => ("ThreshRoundModel", "least", "[I", true)
  | 6 => ("ThreshRoundModel", "most", "[I", true)
  | 7 => ("ThreshRoundModel", "told", "I", false)
  | 8 => ("ThreshRoundModel", "lines", "I", false)
  | 9 => ("ThreshRoundModel", "size", "I", false)
  | 10 => ("ThreshRoundModel", "at", "I", false)
  | 11 => ("ThreshRoundModel", "place", "I", false)
  | 12 => ("ThreshRoundModel", "sort", "I", false)
  | 13 => ("ThreshRoundModel", "value", "I", false)
  | 14 => ("ThreshRoundModel", "fault", "I", false)
  | 15 => ("ThreshRoundModel", "faultPlace", "I", false)
  | 16 => ("ThreshRoundModel", "lastFault", "I", false)
  | 17 => ("ThreshRoundModel", "lastPlace", "I", false)
  | 18 => ("ThreshRoundModel", "farms", "I", false)
  | 19 => ("ThreshRoundModel", "stack", "[I", true)
  | 20 => ("ThreshRoundModel", "left", "[I", true)
  | 21 => ("ThreshRoundModel", "damp", "[I", true)
  | 22 => ("ThreshRoundModel", "own", "[I", true)
  | 23 => ("ThreshRoundModel", "lends", "[I", true)
  | 24 => ("ThreshRoundModel", "from", "[I", true)
  | 25 => ("ThreshRoundModel", "to", "[I", true)
  | 26 => ("ThreshRoundModel", "threshed", "[I", true)
  | 27 => ("ThreshRoundModel", "doneOn", "[I", true)
  | 28 => ("ThreshRoundModel", "how", "[I", true)
  | 29 => ("ThreshRoundModel", "coins", "[I", true)
  | 30 => ("ThreshRoundModel", "ways", "[I", true)
  | 31 => ("ThreshRoundModel", "owed", "[I", true)
  | 32 => ("ThreshRoundModel", "gives", "[I", true)
  | 33 => ("ThreshRoundModel", "gang", "I", false)
  | 34 => ("ThreshRoundModel", "day", "I", false)
  | 35 => ("ThreshRoundModel", "setAt", "I", false)
  | 36 => ("ThreshRoundModel", "onWay", "I", false)
  | 37 => ("ThreshRoundModel", "goesTo", "I", false)
  | 38 => ("ThreshRoundModel", "broken", "I", false)
  | 39 => ("ThreshRoundModel", "order", "[I", true)
  | 40 => ("ThreshRoundModel", "arrives", "[I", true)
  | 41 => ("ThreshRoundModel", "begins", "[I", true)
  | 42 => ("ThreshRoundModel", "ends", "[I", true)
  | 43 => ("ThreshRoundModel", "losses", "[I", true)
  | 44 => ("ThreshRoundModel", "planned", "I", false)
  | 45 => ("ThreshRoundModel", "planDay", "I", false)
  | 46 => ("ThreshRoundModel", "hasPlan", "Z", false)
  | 47 => ("ThreshRoundModel", "isOut", "Z", false)
  | 48 => ("ThreshRoundModel", "turn", "I", false)
  | 49 => ("ThreshRoundModel", "tried", "[I", true)
  | 50 => ("ThreshRoundModel", "speeds", "[I", true)
  | 51 => ("ThreshRoundModel", "many", "I", false)
  | 52 => ("ThreshRoundModel", "fixed", "I", false)
  | 53 => ("ThreshRoundModel", "loss", "I", false)
  | 54 => ("ThreshRoundModel", "last", "I", false)
  | _ => ("ThreshRoundModel", "bestOrder", "[I", true)
def tyX9 : Nat → FieldType := fun k => match k with
  | 0 => .int
  | 1 => .array .int
  | 2 => .int
  | 3 => .array .int
  | 4 => .array .int
  | 5 => .array .int
  | 6 => .array .int
  | 7 => .int
  | 8 => .int
  | 9 => .int
  | 10 => .int
  | 11 => .int
  | 12 => .int
  | 13 => .int
  | 14 => .int
  | 15 => .int
  | 16 => .int
  | 17 => .int
  | 18 => .int
  | 19 => .array .int
  | 20 => .array .int
  | 21 => .array .int
  | 22 => .array .int
  | 23 => .array .int
  | 24 => .array .int
  | 25 => .array .int
  | 26 => .array .int
  | 27 => .array .int
  | 28 => .array .int
  | 29 => .array .int
  | 30 => .array .int
  | 31 => .array .int
  | 32 => .array .int
  | 33 => .int
  | 34 => .int
  | 35 => .int
  | 36 => .int
  | 37 => .int
  | 38 => .int
  | 39 => .array .int
  | 40 => .array .int
  | 41 => .array .int
  | 42 => .array .int
  | 43 => .array .int
  | 44 => .int
  | 45 => .int
  | 46 => .boolean
  | 47 => .boolean
  | 48 => .int
  | 49 => .array .int
  | 50 => .array .int
  | 51 => .int
  | 52 => .int
  | 53 => .int
  | 54 => .int
  | _ => .array .int
theorem nmX9 : ∀ a, a < 56 → ∀ b, b < 56 → a ≠ b → (TX9 a).2.1 ≠ (TX9 b).2.1 := by decide +kernel
theorem tyX9_ok : ∀ k, k < 56 → parseFieldDescriptor (TX9 k).2.2.1 = some (tyX9 k) := by decide +kernel
abbrev cX9_init : ByteArray := prog_11_method_1_code
def yX9_init : MethodName := ⟨RX9, "<init>", "()V"⟩
abbrev cX9_feed : ByteArray := prog_11_method_3_code
def yX9_feed : MethodName := ⟨RX9, "feed", "(IIIII)I"⟩
abbrev cX9_here : ByteArray := prog_11_method_4_code
def yX9_here : MethodName := ⟨RX9, "here", "()I"⟩
abbrev cX9_isSmall : ByteArray := prog_11_method_5_code
def yX9_isSmall : MethodName := ⟨RX9, "isSmall", "(I)Z"⟩
abbrev cX9_isDigit : ByteArray := prog_11_method_6_code
def yX9_isDigit : MethodName := ⟨RX9, "isDigit", "(I)Z"⟩
abbrev cX9_next : ByteArray := prog_11_method_7_code
def yX9_next : MethodName := ⟨RX9, "next", "()V"⟩
abbrev cX9_wordOf : ByteArray := prog_11_method_8_code
def yX9_wordOf : MethodName := ⟨RX9, "wordOf", "()I"⟩
abbrev cX9_wrong : ByteArray := prog_11_method_9_code
def yX9_wrong : MethodName := ⟨RX9, "wrong", "(I)V"⟩
abbrev cX9_line : ByteArray := prog_11_method_10_code
def yX9_line : MethodName := ⟨RX9, "line", "()V"⟩
abbrev cX9_customs : ByteArray := prog_11_method_11_code
def yX9_customs : MethodName := ⟨RX9, "customs", "(I)I"⟩
abbrev cX9_fault : ByteArray := prog_11_method_12_code
def yX9_fault : MethodName := ⟨RX9, "fault", "(I)I"⟩
abbrev cX9_isFarm : ByteArray := prog_11_method_13_code
def yX9_isFarm : MethodName := ⟨RX9, "isFarm", "(I)Z"⟩
abbrev cX9_isTwelve : ByteArray := prog_11_method_14_code
def yX9_isTwelve : MethodName := ⟨RX9, "isTwelve", "(I)Z"⟩
abbrev cX9_farm : ByteArray := prog_11_method_15_code
def yX9_farm : MethodName := ⟨RX9, "farm", "(IIIIII)I"⟩
abbrev cX9_way : ByteArray := prog_11_method_16_code
def yX9_way : MethodName := ⟨RX9, "way", "(III)Z"⟩
abbrev cX9_bargain : ByteArray := prog_11_method_17_code
def yX9_bargain : MethodName := ⟨RX9, "bargain", "(III)Z"⟩
abbrev cX9_gangs : ByteArray := prog_11_method_18_code
def yX9_gangs : MethodName := ⟨RX9, "gangs", "(I)V"⟩
abbrev cX9_speedOf : ByteArray := prog_11_method_19_code
def yX9_speedOf : MethodName := ⟨RX9, "speedOf", "(I)I"⟩
abbrev cX9_isDone : ByteArray := prog_11_method_20_code
def yX9_isDone : MethodName := ⟨RX9, "isDone", "(I)Z"⟩
abbrev cX9_goes : ByteArray := prog_11_method_21_code
def yX9_goes : MethodName := ⟨RX9, "goes", "()Z"⟩
abbrev cX9_lossOf : ByteArray := prog_11_method_22_code
def yX9_lossOf : MethodName := ⟨RX9, "lossOf", "(II)I"⟩
abbrev cX9_goesOn : ByteArray := prog_11_method_23_code
def yX9_goesOn : MethodName := ⟨RX9, "goesOn", "()Z"⟩
abbrev cX9_swaps : ByteArray := prog_11_method_24_code
def yX9_swaps : MethodName := ⟨RX9, "swaps", "(II)V"⟩
abbrev cX9_firstOrder : ByteArray := prog_11_method_25_code
def yX9_firstOrder : MethodName := ⟨RX9, "firstOrder", "()V"⟩
abbrev cX9_plan : ByteArray := prog_11_method_26_code
def yX9_plan : MethodName := ⟨RX9, "plan", "()I"⟩
abbrev cX9_comes : ByteArray := prog_11_method_27_code
def yX9_comes : MethodName := ⟨RX9, "comes", "()V"⟩
abbrev cX9_planned : ByteArray := prog_11_method_28_code
def yX9_planned : MethodName := ⟨RX9, "planned", "(II)I"⟩
abbrev cX9_setsOut : ByteArray := prog_11_method_29_code
def yX9_setsOut : MethodName := ⟨RX9, "setsOut", "()Z"⟩
abbrev cX9_out : ByteArray := prog_11_method_30_code
def yX9_out : MethodName := ⟨RX9, "out", "()Z"⟩
abbrev cX9_breaks : ByteArray := prog_11_method_31_code
def yX9_breaks : MethodName := ⟨RX9, "breaks", "(I)Z"⟩
abbrev cX9_isAtWork : ByteArray := prog_11_method_32_code
def yX9_isAtWork : MethodName := ⟨RX9, "isAtWork", "()Z"⟩
abbrev cX9_threshes : ByteArray := prog_11_method_33_code
def yX9_threshes : MethodName := ⟨RX9, "threshes", "(I)V"⟩
abbrev cX9_oneDay : ByteArray := prog_11_method_34_code
def yX9_oneDay : MethodName := ⟨RX9, "oneDay", "()V"⟩
abbrev cX9_day : ByteArray := prog_11_method_35_code
def yX9_day : MethodName := ⟨RX9, "day", "(I)I"⟩
abbrev cX9_sacksOf : ByteArray := prog_11_method_36_code
def yX9_sacksOf : MethodName := ⟨RX9, "sacksOf", "(I)I"⟩
abbrev cX9_look : ByteArray := prog_11_method_37_code
def yX9_look : MethodName := ⟨RX9, "look", "(II)I"⟩
abbrev cX9_owed : ByteArray := prog_11_method_38_code
def yX9_owed : MethodName := ⟨RX9, "owed", "(II)I"⟩
abbrev cX9_lent : ByteArray := prog_11_method_39_code
def yX9_lent : MethodName := ⟨RX9, "lent", "(II)I"⟩
abbrev cX9_count : ByteArray := prog_11_method_40_code
def yX9_count : MethodName := ⟨RX9, "count", "(I)I"⟩
def RJ9 : String := "java/lang/Math"
def TJ9 : u_T := fun k => match k with
  | _ => ("", "", "", false)
def tyJ9 : Nat → FieldType := fun k => match k with
  | _ => .int
theorem nmJ9 : ∀ a, a < 0 → ∀ b, b < 0 → a ≠ b → (TJ9 a).2.1 ≠ (TJ9 b).2.1 := by decide +kernel
theorem tyJ9_ok : ∀ k, k < 0 → parseFieldDescriptor (TJ9 k).2.2.1 = some (tyJ9 k) := by decide +kernel
abbrev cJ9_max_7cf53 : ByteArray := prog_12_method_65_code
def yJ9_max_7cf53 : MethodName := ⟨RJ9, "max", "(II)I"⟩
abbrev cJ9_min_7cf53 : ByteArray := prog_12_method_69_code
def yJ9_min_7cf53 : MethodName := ⟨RJ9, "min", "(II)I"⟩
def RJ0 : String := "java/lang/String"
def TJ0 : u_T := fun k => match k with
  | _ => ("", "", "", false)
def tyJ0 : Nat → FieldType := fun k => match k with
  | _ => .int
theorem nmJ0 : ∀ a, a < 0 → ∀ b, b < 0 → a ≠ b → (TJ0 a).2.1 ≠ (TJ0 b).2.1 := by decide +kernel
theorem tyJ0_ok : ∀ k, k < 0 → parseFieldDescriptor (TJ0 k).2.2.1 = some (tyJ0 k) := by decide +kernel
abbrev cJ0_length_8abf5 : ByteArray := prog_13_method_54_code
def yJ0_length_8abf5 : MethodName := ⟨RJ0, "length", "()I"⟩
abbrev cJ0_charAt_5068e : ByteArray := prog_13_method_56_code
def yJ0_charAt_5068e : MethodName := ⟨RJ0, "charAt", "(I)C"⟩
abbrev cJ0_coder_7d493 : ByteArray := prog_13_method_152_code
def yJ0_coder_7d493 : MethodName := ⟨RJ0, "coder", "()B"⟩
abbrev cJ0_isLatin1_aae02 : ByteArray := prog_13_method_154_code
def yJ0_isLatin1_aae02 : MethodName := ⟨RJ0, "isLatin1", "()Z"⟩
abbrev cJ0_checkIndex_df160 : ByteArray := prog_13_method_155_code
def yJ0_checkIndex_df160 : MethodName := ⟨RJ0, "checkIndex", "(II)V"⟩
def RJ1 : String := "java/lang/StringLatin1"
def TJ1 : u_T := fun k => match k with
  | _ => ("", "", "", false)
def tyJ1 : Nat → FieldType := fun k => match k with
  | _ => .int
theorem nmJ1 : ∀ a, a < 0 → ∀ b, b < 0 → a ≠ b → (TJ1 a).2.1 ≠ (TJ1 b).2.1 := by decide +kernel
theorem tyJ1_ok : ∀ k, k < 0 → parseFieldDescriptor (TJ1 k).2.2.1 = some (tyJ1 k) := by decide +kernel
abbrev cJ1_charAt_3b067 : ByteArray := prog_14_method_2_code
def yJ1_charAt_3b067 : MethodName := ⟨RJ1, "charAt", "([BI)C"⟩
def RJ2 : String := "java/lang/StringUTF16"
def TJ2 : u_T := fun k => match k with
  | _ => ("", "", "", false)
def tyJ2 : Nat → FieldType := fun k => match k with
  | _ => .int
theorem nmJ2 : ∀ a, a < 0 → ∀ b, b < 0 → a ≠ b → (TJ2 a).2.1 ≠ (TJ2 b).2.1 := by decide +kernel
theorem tyJ2_ok : ∀ k, k < 0 → parseFieldDescriptor (TJ2 k).2.2.1 = some (tyJ2 k) := by decide +kernel
abbrev cJ2_getChar_3b067 : ByteArray := prog_15_method_5_code
def yJ2_getChar_3b067 : MethodName := ⟨RJ2, "getChar", "([BI)C"⟩
abbrev cJ2_length_9d52b : ByteArray := prog_15_method_6_code
def yJ2_length_9d52b : MethodName := ⟨RJ2, "length", "([B)I"⟩
abbrev cJ2_charAt_3b067 : ByteArray := prog_15_method_83_code
def yJ2_charAt_3b067 : MethodName := ⟨RJ2, "charAt", "([BI)C"⟩
abbrev cJ2_checkIndex_2214a : ByteArray := prog_15_method_91_code
def yJ2_checkIndex_2214a : MethodName := ⟨RJ2, "checkIndex", "(I[B)V"⟩
def RJ3 : String := "jdk/internal/util/Preconditions"
def TJ3 : u_T := fun k => match k with
  | _ => ("", "", "", false)
def tyJ3 : Nat → FieldType := fun k => match k with
  | _ => .int
theorem nmJ3 : ∀ a, a < 0 → ∀ b, b < 0 → a ≠ b → (TJ3 a).2.1 ≠ (TJ3 b).2.1 := by decide +kernel
theorem tyJ3_ok : ∀ k, k < 0 → parseFieldDescriptor (TJ3 k).2.2.1 = some (tyJ3 k) := by decide +kernel
abbrev cJ3_checkIndex_8e157 : ByteArray := prog_16_method_11_code
def yJ3_checkIndex_8e157 : MethodName := ⟨RJ3, "checkIndex", "(IILjava/util/function/BiFunction;)I"⟩
def RL : String := "ThreshRoundLaw"
abbrev cL_law : ByteArray := code
def yL_law : MethodName := ⟨RL, "law", "([I)Z"⟩
abbrev vwCl : List vw_C := [(RX0, TX0, 4), (RX1, TX1, 2), (RX2, TX2, 6), (RX3, TX3, 12), (RX4, TX4, 8), (RX5, TX5, 1), (RX6, TX6, 12), (RX7, TX7, 4), (RX8, TX8, 8), (RX9, TX9, 56)]
end
section
section
/-- values of the small machine: an int, or a place in the layout (none: null) -/
abbrev vx_v : Type := Int32 ⊕ Option Nat
abbrev vx_mem : Type := Nat → Nat → Int32
/-- a cell's kind: an object of class number ci, its fields (none: an int, some r: a reference); an array of type t, n places, of references where a list lies -/
abbrev vx_k : Type := (Nat × List (Option (Option Nat))) ⊕ (Nat × Nat × Option (List Nat))
abbrev vx_L : Type := Nat → vx_k
abbrev vx_i (x : Int32) : vx_v := Sum.inl x
abbrev vx_r (k : Nat) : vx_v := Sum.inr (some k)
def vx_V (ad : Nat → Nat) : vx_v → Value
  | .inl x => .int x
  | .inr r => va_rf (r.map ad)
theorem vx_V_cat (ad : Nat → Nat) (v : vx_v) : (vx_V ad v).category = 1 := by
  cases v with
  | inl x => rfl
  | inr r => cases r <;> rfl
def vx_fl (ad : Nat → Nat) (f : Nat → Int32) (j : Nat) : Option (Option Nat) → Value
  | none => .int (f j)
  | some r => va_rf (r.map ad)
def vx_fs (ad : Nat → Nat) (fr : List (Option (Option Nat))) (f : Nat → Int32) : List Value := (List.range fr.length).map (fun j => vx_fl ad f j (fr.getD j none))
theorem vx_fs_len (ad : Nat → Nat) (fr : List (Option (Option Nat))) (f : Nat → Int32) : (vx_fs ad fr f).length = fr.length := by simp [vx_fs]
theorem vx_fs_at {ad : Nat → Nat} {fr : List (Option (Option Nat))} {f : Nat → Int32} {j : Nat} {o : Option (Option Nat)} (h : fr[j]? = some o) : (vx_fs ad fr f)[j]? = some (vx_fl ad f j o) := by
  have hj : j < fr.length := (List.getElem?_eq_some_iff.mp h).1
  unfold vx_fs
  rw [List.getElem?_map, List.getElem?_range hj]
  simp [List.getD_eq_getElem?_getD, h]
theorem vx_fs_set {ad : Nat → Nat} {fr : List (Option (Option Nat))} {f : Nat → Int32} {j : Nat} {x : Int32} (h : fr[j]? = some none) : (vx_fs ad fr f).set j (.int x) = vx_fs ad fr (upd f j x) := by
  have hj : j < fr.length := (List.getElem?_eq_some_iff.mp h).1
  apply List.ext_getElem?
  intro i
  by_cases hi : i < fr.length
  · obtain ⟨o, ho⟩ : ∃ o, fr[i]? = some o := ⟨fr[i], by simp [hi]⟩
    rw [vx_fs_at (f := upd f j x) ho]
    by_cases e : i = j
    · subst e
      rw [List.getElem?_set_self (by rw [vx_fs_len]; exact hi)]
      rw [h] at ho
      cases ho
      simp [vx_fl, upd]
    · rw [List.getElem?_set_ne (Ne.symm e), vx_fs_at ho]
      cases o <;> simp [vx_fl, upd, e]
  · rw [List.getElem?_eq_none (by simp [vx_fs_len]; omega), List.getElem?_eq_none (by simp [vx_fs_len]; omega)]
theorem vx_fs_setr {ad : Nat → Nat} {fr : List (Option (Option Nat))} {f : Nat → Int32} {j : Nat} {r : Option Nat} (hj : j < fr.length) : (vx_fs ad fr f).set j (va_rf (r.map ad)) = vx_fs ad (fr.set j (some r)) f := by
  apply List.ext_getElem?
  intro i
  by_cases hi : i < fr.length
  · obtain ⟨o, ho⟩ : ∃ o, fr[i]? = some o := ⟨fr[i], by simp [hi]⟩
    by_cases e : i = j
    · subst e
      rw [List.getElem?_set_self (by rw [vx_fs_len]; exact hi), vx_fs_at (o := some r) (by simp [hi])]
      rfl
    · rw [List.getElem?_set_ne (Ne.symm e), vx_fs_at ho, vx_fs_at (o := o) (by rw [List.getElem?_set_ne (Ne.symm e)]; exact ho)]
  · rw [List.getElem?_eq_none (by simp [vx_fs_len]; omega), List.getElem?_eq_none (by simp [vx_fs_len]; omega)]
def vx_E (dA : Nat → ClassId) (ad : Nat → Nat) (κ : vx_k) (f : Nat → Int32) : va_E := match κ with
  | .inl q => .inr (q.1, vx_fs ad q.2 f)
  | .inr (t, n, none) => .inl (dA t, n, .inl f)
  | .inr (t, n, some g) => .inl (dA t, n, .inr (.inr (.inr (.inr (fun i => (g[i]?).map ad)))))
def vx_W (dA : Nat → ClassId) (ad : Nat → Nat) (N : Nat) (Λ : vx_L) (μ : vx_mem) : va_W := (List.range N).map (fun k => (ad k, vx_E dA ad (Λ k) (μ k)))
def vx_T (dA : Nat → ClassId) : List (ClassId × FieldType) := [(dA 0, .int), (dA 1, .boolean), (dA 2, .array .int)]
theorem vx_W_len (dA : Nat → ClassId) (ad : Nat → Nat) (N : Nat) (Λ : vx_L) (μ : vx_mem) : (vx_W dA ad N Λ μ).length = N := by simp [vx_W]
theorem vx_W_at {dA : Nat → ClassId} {ad : Nat → Nat} {N : Nat} {Λ : vx_L} {μ : vx_mem} {k : Nat} (h : k < N) : (vx_W dA ad N Λ μ)[k]? = some (ad k, vx_E dA ad (Λ k) (μ k)) := by
  unfold vx_W
  rw [List.getElem?_map, List.getElem?_range h]
  rfl
theorem vx_W_set {dA : Nat → ClassId} {ad : Nat → Nat} {N : Nat} {Λ : vx_L} {μ : vx_mem} {k : Nat} {κ : vx_k} {f : Nat → Int32} (h : k < N) : (vx_W dA ad N Λ μ).set k (ad k, vx_E dA ad κ f) = vx_W dA ad N (va_up Λ k κ) (va_up μ k f) := by
  apply List.ext_getElem?
  intro i
  by_cases hi : i < N
  · rw [vx_W_at hi]
    by_cases e : i = k
    · subst e
      rw [List.getElem?_set_self (by rw [vx_W_len]; exact hi)]
      simp [va_up]
    · rw [List.getElem?_set_ne (Ne.symm e), vx_W_at hi]
      simp [va_up, e]
  · rw [List.getElem?_eq_none (by simp [vx_W_len]; omega), List.getElem?_eq_none (by simp [vx_W_len]; omega)]
theorem vx_up_id {α : Type} (f : Nat → α) (k : Nat) : va_up f k (f k) = f := by
  funext j
  unfold va_up
  split
  · rename_i h; rw [h]
  · rfl
/-- a kind that doesn't name the place M -/
def vx_ok (M : Nat) : vx_k → Bool
  | .inl q => q.2.all (fun o => match o with | some (some r) => r != M | _ => true)
  | .inr (_, _, none) => true
  | .inr (_, _, some l) => l.all (fun r => r != M)
theorem vx_E_up {dA : Nat → ClassId} {ad ad' : Nat → Nat} {M : Nat} {κ : vx_k} {f : Nat → Int32} (h : vx_ok M κ = true) (ha : ∀ k, k ≠ M → ad' k = ad k) : vx_E dA ad' κ f = vx_E dA ad κ f := by
  rcases κ with ⟨c, fr⟩ | ⟨t, n, _ | g⟩
  · have hfs : vx_fs ad' fr f = vx_fs ad fr f := by
      apply List.ext_getElem?
      intro i
      by_cases hi : i < fr.length
      · obtain ⟨o, ho⟩ : ∃ o, fr[i]? = some o := ⟨fr[i], by simp [hi]⟩
        rw [vx_fs_at ho, vx_fs_at ho]
        rcases o with _ | _ | r
        · rfl
        · rfl
        · have hm : some (some r) ∈ fr := List.mem_of_getElem? ho
          have h2 := List.all_eq_true.mp h _ hm
          have hr : r ≠ M := by simpa using h2
          simp [vx_fl, ha r hr]
      · rw [List.getElem?_eq_none (by simp [vx_fs_len]; omega), List.getElem?_eq_none (by simp [vx_fs_len]; omega)]
    simp only [vx_E, hfs]
  · rfl
  · have hg : (fun i : Nat => (g[i]?).map ad') = (fun i : Nat => (g[i]?).map ad) := by
      funext i
      cases hi : g[i]? with
      | none => rfl
      | some r =>
        have h2 := List.all_eq_true.mp h _ (List.mem_of_getElem? hi)
        have hr : r ≠ M := by simpa using h2
        simp [ha r hr]
    simp only [vx_E, hg]
theorem vx_W_push {dA : Nat → ClassId} {ad : Nat → Nat} {N : Nat} {Λ : vx_L} {μ : vx_mem} {κ : vx_k} {f : Nat → Int32} {q : Nat} (h : (List.range N).all (fun k => vx_ok N (Λ k)) = true) (hκ : vx_ok N κ = true) : vx_W dA ad N Λ μ ++ [(q, vx_E dA ad κ f)] = vx_W dA (va_up ad N q) (N + 1) (va_up Λ N κ) (va_up μ N f) := by
  have ha : ∀ k, k ≠ N → va_up ad N q k = ad k := fun k hk => by simp [va_up, hk]
  apply List.ext_getElem?
  intro i
  rcases Nat.lt_trichotomy i N with hi | hi | hi
  · rw [List.getElem?_append_left (by rw [vx_W_len]; exact hi), vx_W_at hi, vx_W_at (by omega)]
    have hne : i ≠ N := by omega
    have h1 := List.all_eq_true.mp h i (List.mem_range.mpr hi)
    have e1 : va_up ad N q i = ad i := by simp [va_up, hne]
    have e2 : va_up Λ N κ i = Λ i := by simp [va_up, hne]
    have e3 : va_up μ N f i = μ i := by simp [va_up, hne]
    rw [e1, e2, e3, vx_E_up h1 ha]
  · subst hi
    rw [List.getElem?_append_right (by rw [vx_W_len]; exact Nat.le_refl _), vx_W_len, vx_W_at (by omega)]
    rw [Nat.sub_self, List.getElem?_cons_zero]
    have e1 : va_up ad i q i = q := by simp [va_up]
    have e2 : va_up Λ i κ i = κ := by simp [va_up]
    have e3 : va_up μ i f i = f := by simp [va_up]
    rw [e1, e2, e3, vx_E_up hκ ha]
  · rw [List.getElem?_eq_none (by simp [vx_W_len]; omega), List.getElem?_eq_none (by simp [vx_W_len]; omega)]
end
end
section
section
/-- the words of the tables that any state keeps -/
def vx_tbl : List Cond := lw_tbl.filter goodWord
theorem vx_w {w : Cond} (i : Nat) (h : lw_tbl[i]? = some w) (hg : goodWord w = true) : w ∈ vx_tbl := List.mem_filter.mpr ⟨List.mem_of_getElem? h, hg⟩
theorem vx_good {y : MethodName} {cc : ByteArray} {nL : Nat} {ret : Option FieldType} (h : Cond.code y cc nL ret ∈ vx_tbl) : GoodIn vx_tbl (Cond.code y cc nL ret :: vx_tbl) := by
  intro w hw
  have hm : w ∈ vx_tbl := by
    rcases List.mem_cons.mp hw with rfl | h2
    · exact h
    · exact h2
  exact ⟨hm, good_of_word (List.mem_filter.mp hm).2⟩
/-- the text of the constants: place, owner, entry, text -/
def vx_lit : List (String × Nat × String) := [("ThreshRound$Customs", 99, "hands"), ("ThreshRound$Customs", 101, "rate"), ("ThreshRound$Customs", 103, "sheaves"), ("ThreshRound$Customs", 105, "late"), ("ThreshRound$Customs", 107, "first"), ("ThreshRound$Customs", 109, "damp"), ("ThreshRoundModel", 130, "hands rate sheaves late first damp ")]
def vx_lb : List (List Int32) := [[104, 97, 110, 100, 115], [114, 97, 116, 101], [115, 104, 101, 97, 118, 101, 115], [108, 97, 116, 101], [102, 105, 114, 115, 116], [100, 97, 109, 112], [104, 97, 110, 100, 115, 32, 114, 97, 116, 101, 32, 115, 104, 101, 97, 118, 101, 115, 32, 108, 97, 116, 101, 32, 102, 105, 114, 115, 116, 32, 100, 97, 109, 112, 32]]
def vx_ll : List Nat := vx_lb.map List.length
def vx_sn : Nat → String := fun i => if i = 0 then "USUAL" else if i = 1 then "LEAST" else "MOST"
def vx_sv : Nat → List Int32 := fun i => if i = 0 then [8, 10, 4, 1, 0, 5] else if i = 1 then [1, 1, 1, 0, 1, 0] else [20, 99, 50, 99, 7, 10]
def vx_nest : List Cond := [.methodLinkNest "ThreshRound$Customs" 52 ⟨"ThreshRound", "put", "([III)V"⟩ "ThreshRound", .methodLinkNest "ThreshRound$Customs" 24 ⟨"ThreshRound", "at", "([II)I"⟩ "ThreshRound", .methodLinkNest "ThreshRound$Roads" 16 ⟨"ThreshRound", "put", "([[IIII)V"⟩ "ThreshRound", .methodLinkNest "ThreshRound$Tape" 25 ⟨"ThreshRound", "put", "([III)V"⟩ "ThreshRound", .methodLinkNest "ThreshRound$Tape" 29 ⟨"ThreshRound", "at", "([II)I"⟩ "ThreshRound", .methodLinkNest "ThreshRound$Tape" 37 ⟨"ThreshRound", "within", "(III)Z"⟩ "ThreshRound", .methodLinkNest "ThreshRound$Customs" 84 ⟨"ThreshRound", "within", "(III)Z"⟩ "ThreshRound", .methodLinkNest "ThreshRound$Farms" 49 ⟨"ThreshRound", "put", "([III)V"⟩ "ThreshRound", .methodLinkNest "ThreshRound$Farms" 57 ⟨"ThreshRound", "at", "([II)I"⟩ "ThreshRound", .methodLinkNest "ThreshRound$Debts" 20 ⟨"ThreshRound", "put", "([III)V"⟩ "ThreshRound", .methodLinkNest "ThreshRound$Debts" 29 ⟨"ThreshRound", "at", "([II)I"⟩ "ThreshRound", .methodLinkNest "ThreshRound$Debts" 49 ⟨"ThreshRound", "at", "([[III)I"⟩ "ThreshRound", .methodLinkNest "ThreshRound$Search" 61 ⟨"ThreshRound", "put", "([III)V"⟩ "ThreshRound", .methodLinkNest "ThreshRound$Search" 65 ⟨"ThreshRound", "at", "([II)I"⟩ "ThreshRound", .methodLinkNest "ThreshRound$Roads" 20 ⟨"ThreshRound", "at", "([[III)I"⟩ "ThreshRound", .methodLinkNest "ThreshRound$Plan" 52 ⟨"ThreshRound", "at", "([II)I"⟩ "ThreshRound", .methodLinkNest "ThreshRound$Plan" 61 ⟨"ThreshRound", "put", "([III)V"⟩ "ThreshRound", .methodLinkNest "ThreshRound$Debts" 52 ⟨"ThreshRound", "put", "([[IIII)V"⟩ "ThreshRound"]
/-- what lies outside: the texts at 1000 .., their bytes at 1100 .., the static rows at 1200 .. -/
def vx_X (ad : Nat → Nat) (A : Nat → Prop) (U : State) (H : Heap) : Prop :=
  (∀ q ∈ vx_nest, va_Nw q U) ∧
  (∀ i : Nat, i < 3 → va_Z "ThreshRound$Customs" (vx_sn i) "[I" (.ref (ad (1200 + i))) A U H ∧ va_T .int (ad (1200 + i)) 6 (fun j => .int ((vx_sv i).getD j 0)) A U H) ∧
  vk_S 7 vx_ll vx_lb (fun i => ad (1000 + i)) (fun i => ad (1100 + i)) A U H ∧
  (∀ (i : Nat) (q : String × Nat × String), vx_lit[i]? = some q → vk_R q.1 q.2.1 q.2.2 (ad (1000 + i)) U) ∧
  va_Z "java/lang/String" "COMPACT_STRINGS" "Z" (.int 1) A U H ∧
  va_Zq "jdk/internal/util/Preconditions" "SIOOBE_FORMATTER" "Ljava/util/function/BiFunction;" A U H
theorem vx_X.kept {ad : Nat → Nat} {A : Nat → Prop} {U : State} {H H1 : Heap} (h : vx_X ad A U H) (hq : ∀ a : Nat, a < H.size → ¬ A a → H1[a]? = H[a]?) : vx_X ad A U H1 :=
  ⟨h.1, fun i hi => ⟨(h.2.1 i hi).1.kept hq, (h.2.1 i hi).2.kept hq⟩, h.2.2.1.kept hq, h.2.2.2.1, h.2.2.2.2.1.kept hq, h.2.2.2.2.2.kept hq⟩
theorem vx_X.narrow {ad : Nat → Nat} {A B : Nat → Prop} {U : State} {H : Heap} (h : vx_X ad A U H) (hAB : ∀ q, B q → A q) : vx_X ad B U H :=
  ⟨h.1, fun i hi => ⟨(h.2.1 i hi).1.narrow hAB, (h.2.1 i hi).2.narrow hAB⟩, h.2.2.1.narrow hAB, h.2.2.2.1, h.2.2.2.2.1.narrow hAB, h.2.2.2.2.2.narrow hAB⟩
theorem vx_nest_all {P : Cond → Prop} (h : ∀ a i x b, Cond.methodLinkNest a i x b ∈ vx_nest → P (.methodLinkNest a i x b)) : ∀ q ∈ vx_nest, P q := by
  intro q hq
  have hk : vx_nest.all (fun q => match q with | .methodLinkNest _ _ _ _ => true | _ => false) = true := by decide +kernel
  have h2 := List.all_eq_true.mp hk q hq
  cases q <;> first | exact h _ _ _ _ hq | simp at h2
theorem vx_X.warm {ad : Nat → Nat} {A : Nat → Prop} {s U : State} {H : Heap} (hW : s.WarmedH U.vm) (h : vx_X ad A s H) : vx_X ad A U H :=
  ⟨vx_nest_all (P := fun q => va_Nw q U) (fun a i x b hm => va_Nw.warmM hW (h.1 _ hm)), fun i hi => ⟨(h.2.1 i hi).1.moved hW.alike, (h.2.1 i hi).2.moved hW.alike⟩, h.2.2.1.moved hW.alike, fun i q hq => (h.2.2.2.1 i q hq).warm hW, h.2.2.2.2.1.moved hW.alike, h.2.2.2.2.2.moved hW.alike⟩
theorem vx_X.same {ad : Nat → Nat} {A : Nat → Prop} {s U : State} {H : Heap} (hv : s.vm = U.vm) (h : vx_X ad A s H) : vx_X ad A U H := by
  have hal : s.vm.Alike U.vm := by rw [hv]; exact Vm.Alike.refl _
  exact ⟨vx_nest_all (P := fun q => va_Nw q U) (fun a i x b hm => va_Nw.same rfl hv (h.1 _ hm)), fun i hi => ⟨(h.2.1 i hi).1.moved hal, (h.2.1 i hi).2.moved hal⟩, h.2.2.1.moved hal, fun i q hq => (h.2.2.2.1 i q hq).same hv.symm, h.2.2.2.2.1.moved hal, h.2.2.2.2.2.moved hal⟩
theorem vx_X.ad {ad ad' : Nat → Nat} {A : Nat → Prop} {U : State} {H : Heap} (ha : ∀ k, 1000 ≤ k → ad' k = ad k) (h : vx_X ad A U H) : vx_X ad' A U H := by
  have e1 : (fun i => ad' (1000 + i)) = (fun i => ad (1000 + i)) := funext fun i => ha _ (by omega)
  have e2 : (fun i => ad' (1100 + i)) = (fun i => ad (1100 + i)) := funext fun i => ha _ (by omega)
  have e3 : ∀ i, ad' (1200 + i) = ad (1200 + i) := fun i => ha _ (by omega)
  have e4 : ∀ i, ad' (1000 + i) = ad (1000 + i) := fun i => ha _ (by omega)
  unfold vx_X
  simp only [e1, e2, e3, e4]
  exact h
def vx_R (d mc ms : Nat) : Room := { frames := d, cells := mc, slots := ms, locals := 64 * d }
abbrev vx_P : Type := Option vx_v → (Nat → Nat) → Nat → vx_L → vx_mem → Prop
/-- what a method's end says -/
def vx_Q (D : va_G) (dA : Nat → ClassId) (A : Nat → Prop) (Post : vx_P) : Array Value → State → Outcome → State → Prop := fun _ st oc t =>
  (∃ (r : Option vx_v) (ad' : Nat → Nat) (N' : Nat) (Λ' : vx_L) (μ' : vx_mem), oc = .returned (r.map (vx_V ad')) ∧ Post r ad' N' Λ' μ' ∧ va_P D vwCl (vx_W dA ad' N' Λ' μ') t.heap ∧ va_K D vwCl (vx_T dA) t ∧ va_D A (vx_W dA ad' N' Λ' μ')) ∧ va_F A st t
/-- what a method's walk rests on -/
def vx_C (own : String) (cc : ByteArray) (nL : Nat) (ret : Option FieldType) (ini : Bool) (p : Program) (s : State) (m : MethodId) (args : Array Value) (meth : Method) (c : Code) : Prop :=
  p.tables.exec = Jvm.exec ∧ c.code = cc ∧ c.maxLocals = nL ∧ meth.sig.returnType = ret ∧ s.vm.findClass own = some m.cls ∧ (∀ w ∈ vx_tbl, w.before args s = true) ∧ meth.locks = false ∧ (ini = true → meth.name = "<init>")
/-- the judgement: from here the method comes to its end, and Post holds there -/
def vx_J (own : String) (cc : ByteArray) (nL : Nat) (ret : Option FieldType) (ini : Bool) (d mc ms : Nat) (Post : vx_P) (ad : Nat → Nat) (kc ks N : Nat) (Λ : vx_L) (μ : vx_mem) (pc : Nat) (ls : List (Nat × vx_v)) (st : List vx_v) : Prop :=
  ∀ (p : Program) (l : Launch) (e : Env) (s : State) (m : MethodId) (args : Array Value) (below : List Frame) (meth : Method) (c : Code) (D : va_G) (dA : Nat → ClassId) (A : Nat → Prop) (H : Heap) (locs : List Loc) (LS : Array Slot),
    vx_C own cc nL ret ini p s m args meth c → va_S A s.heap H locs → (∀ q : Nat, s.heap.size ≤ q → A q) → va_K D vwCl (vx_T dA) s → va_P D vwCl (vx_W dA ad N Λ μ) H → va_D A (vx_W dA ad N Λ μ) → vx_X ad A s s.heap → lv_has LS nL (ls.map (fun q => (q.1, vx_V ad q.2))) →
    W p l e (vx_R d mc ms) s m args below meth c H locs kc ks (MQ below (vx_Q D dA A Post) args s mc ms A) (F0 m pc LS (st.map (vx_V ad)))
/-- a contract -/
def vx_M (y : MethodName) (cc : ByteArray) (nL : Nat) (ret : Option FieldType) (d mc ms : Nat) (ad : Nat → Nat) (N : Nat) (Λ : vx_L) (μ : vx_mem) (vs : List vx_v) (Post : vx_P) : Prop :=
  ∀ (l : Launch) (D : va_G) (dA : Nat → ClassId) (sz : Nat), Met l y (.code y cc nL ret :: vx_tbl) (vx_R d mc ms)
    (va_Pc (vs.map (vx_V ad)) (fun U => U.heap.size = sz ∧ va_P D vwCl (vx_W dA ad N Λ μ) U.heap ∧ va_K D vwCl (vx_T dA) U ∧ va_D (fun _ => True) (vx_W dA ad N Λ μ) ∧ vx_X ad (va_A (vx_W dA ad N Λ μ) sz) U U.heap))
    (vx_Q D dA (va_A (vx_W dA ad N Λ μ) sz) Post) mc ms (va_A (vx_W dA ad N Λ μ) sz)
/-- the locals at the entry -/
def vx_in : Nat → List vx_v → List (Nat × vx_v)
  | _, [] => []
  | k, v :: vs => (k, v) :: vx_in (k + 1) vs
theorem vx_in_args (ad : Nat → Nat) : ∀ (vs : List vx_v) (k : Nat), lv_args k (vs.map (vx_V ad)) = (vx_in k vs).map (fun q => (q.1, vx_V ad q.2))
  | [], k => by first | rfl | simp [lv_args, vx_in]
  | v :: vs, k => by
    have ih := vx_in_args ad vs (k + 1)
    have hc : (vx_V ad v).category = 1 := vx_V_cat ad v
    have e : lv_args k ((v :: vs).map (vx_V ad)) = (k, vx_V ad v) :: lv_args (if (vx_V ad v).category = 2 then k + 2 else k + 1) (vs.map (vx_V ad)) := rfl
    rw [e, hc, if_neg (by decide), ih]
    rfl
theorem vx_sl_len (ad : Nat → Nat) (vs : List vx_v) : (lg_sl (vs.map (vx_V ad))).length = vs.length := by
  induction vs with
  | nil => rfl
  | cons v vs ih =>
    have hc : (vx_V ad v).category = 1 := vx_V_cat ad v
    unfold lg_sl at ih ⊢
    rw [List.map_cons, List.flatMap_cons, List.length_append, ih, hc, if_neg (by decide)]
    simp only [List.length_cons, List.length_nil]
    omega
theorem vx_J.M {y : MethodName} {cc : ByteArray} {nL : Nat} {ret : Option FieldType} {d mc ms : Nat} {ad : Nat → Nat} {N : Nat} {Λ : vx_L} {μ : vx_mem} {vs : List vx_v} {Post : vx_P} (hy : plainName y.cls = true) (hn : vs.length ≤ nL)
    (k : vx_J y.cls cc nL ret (y.name == "<init>") d mc ms Post ad 0 0 N Λ μ 0 (vx_in 0 vs) []) : vx_M y cc nL ret d mc ms ad N Λ μ vs Post := by
  intro l D dA sz
  refine Met.ofW (cc := cc) (maxL := nL) (ret := ret) hy rfl ?_
  intro p e s m args below meth c s₁ B hml hv
  obtain ⟨rfl, hsz, hP, hK, hD0, hX⟩ := hv
  have hts := atoms_spec (ws := .code y cc nL ret :: vx_tbl) B.pre
  subst hsz
  have hD := hD0.self (sz := s.heap.size)
  have hA : ∀ q : Nat, s.heap.size ≤ q → va_A (vx_W dA ad N Λ μ) s.heap.size q := fun q h => Or.inr h
  have hl := lv_entry (vs.map (vx_V ad)) (n := nL) (by rw [vx_sl_len]; exact hn)
  rw [vx_in_args] at hl
  rw [lg_entry_eq]
  exact k p l e s m _ below meth c D dA _ s.heap [] _ ⟨B.exec, B.bytes, hml, B.returns, findClass_of_methodNamed B.named, fun w hw => hts w (List.mem_cons_of_mem _ hw), B.notSynchronized, fun h => by
    have hn := (name_of_methodNamed B.named B.method).1
    rw [hn]
    simpa using h⟩ va_S.rf hA hK hP hD hX hl
end
end
section
section
variable {own : String} {cc : ByteArray} {nL : Nat} {ret : Option FieldType} {ini : Bool} {d mc ms : Nat} {Post : vx_P} {ad : Nat → Nat} {kc ks N : Nat} {Λ : vx_L} {μ : vx_mem} {pc : Nat} {ls : List (Nat × vx_v)} {st : List vx_v}
/-- a local's value -/
def vx_lk : List (Nat × vx_v) → Nat → Option vx_v
  | [], _ => none
  | q :: r, i => if q.1 = i then some q.2 else vx_lk r i
theorem vx_lk_mem : ∀ {ls : List (Nat × vx_v)} {i : Nat} {v : vx_v}, vx_lk ls i = some v → (i, v) ∈ ls
  | [], _, _, h => by cases h
  | q :: r, i, v, h => by
    unfold vx_lk at h
    split at h
    · rename_i e
      cases h
      rw [← e]
      exact List.mem_cons_self
    · exact List.mem_cons_of_mem _ (vx_lk_mem h)
theorem vx_at {ad : Nat → Nat} {LS : Array Slot} {nL : Nat} {ls : List (Nat × vx_v)} (hl : lv_has LS nL (ls.map (fun q => (q.1, vx_V ad q.2)))) {i : Nat} {v : vx_v} (h : vx_lk ls i = some v) : LS[i]? = some (.val (vx_V ad v)) :=
  hl.2.2 (i, vx_V ad v) (List.mem_map.mpr ⟨(i, v), vx_lk_mem h, rfl⟩)
theorem vx_filt (ad : Nat → Nat) (i : Nat) : ∀ (ls : List (Nat × vx_v)), (ls.map (fun q => (q.1, vx_V ad q.2))).filter (fun q => !(q.1 == i) && !(q.1 + 1 == i && q.2.category == 2)) = (ls.filter (fun q => !(q.1 == i))).map (fun q => (q.1, vx_V ad q.2))
  | [] => rfl
  | q :: r => by
    have ih := vx_filt ad i r
    have hc : (vx_V ad q.2).category = 1 := vx_V_cat ad q.2
    by_cases h : q.1 = i
    · simp [List.filter_cons, h, hc, ih] <;> simpa using ih
    · simp [List.filter_cons, h, hc, ih] <;> simpa using ih
/-- the locals with one set -/
def vx_se (ls : List (Nat × vx_v)) (i : Nat) (v : vx_v) : List (Nat × vx_v) := (i, v) :: ls.filter (fun q => !(q.1 == i))
theorem vx_se_eq (ad : Nat → Nat) (ls : List (Nat × vx_v)) (i : Nat) (v : vx_v) : (i, vx_V ad v) :: (ls.map (fun q => (q.1, vx_V ad q.2))).filter (fun q => !(q.1 == i) && !(q.1 + 1 == i && q.2.category == 2)) = (vx_se ls i v).map (fun q => (q.1, vx_V ad q.2)) := by
  rw [vx_filt]
  rfl

theorem vx_sub {ls2 : List (Nat × vx_v)} (h : ls2.all (fun q => decide (vx_lk ls q.1 = some q.2)) = true) (k : vx_J own cc nL ret ini d mc ms Post ad kc ks N Λ μ (pc) (ls2) (st)) : vx_J own cc nL ret ini d mc ms Post ad kc ks N Λ μ (pc) (ls) (st) := by
  intro p l e s m args below meth c D dA A H locs LS hC hS hA hK hP hD hX hl
  refine k p l e s m args below meth c D dA A H locs LS hC hS hA hK hP hD hX ⟨hl.1, hl.2.1, fun q hq => ?_⟩
  obtain ⟨x, hx, rfl⟩ := List.mem_map.mp hq
  exact vx_at hl (by simpa using List.all_eq_true.mp h x hx)
theorem vx_eq {μ2 : vx_mem} {ls2 : List (Nat × vx_v)} {st2 : List vx_v} (h1 : μ = μ2) (h2 : ls = ls2) (h3 : st = st2) (k : vx_J own cc nL ret ini d mc ms Post ad kc ks N Λ μ2 (pc) (ls2) (st2)) : vx_J own cc nL ret ini d mc ms Post ad kc ks N Λ μ (pc) (ls) (st) := by
  subst h1; subst h2; subst h3; exact k
theorem vx_locs {ls2 : List (Nat × vx_v)} (h : ∀ (i : Nat) (v : vx_v), (i, v) ∈ ls2 → vx_lk ls i = some v) (k : vx_J own cc nL ret ini d mc ms Post ad kc ks N Λ μ (pc) (ls2) (st)) : vx_J own cc nL ret ini d mc ms Post ad kc ks N Λ μ (pc) (ls) (st) := by
  intro p l e s m args below meth c D dA A H locs LS hC hS hA hK hP hD hX hl
  refine k p l e s m args below meth c D dA A H locs LS hC hS hA hK hP hD hX ⟨hl.1, hl.2.1, fun q hq => ?_⟩
  obtain ⟨⟨i, v⟩, hx, rfl⟩ := List.mem_map.mp hq
  exact vx_at hl (h i v hx)
theorem vx_top {x : Int32} (k : ∀ y : Int32, y = x → vx_J own cc nL ret ini d mc ms Post ad kc ks N Λ μ (pc) (ls) (.inl y :: st)) : vx_J own cc nL ret ini d mc ms Post ad kc ks N Λ μ (pc) (ls) (.inl x :: st) := k x rfl

theorem vx_iconst {n : Int} {v : Int32} (hd : decode cc pc = .ok (.iconst n, 1)) (hv : Int32.ofInt n = v) (k : vx_J own cc nL ret ini d mc ms Post ad kc ks N Λ μ (pc + 1) (ls) (.inl v :: st)) : vx_J own cc nL ret ini d mc ms Post ad kc ks N Λ μ (pc) (ls) (st) := by
  intro p l e s m args below meth c D dA A H locs LS hC hS hA hK hP hD hX hl
  exact lv_iconst hC.1 hC.2.1 hd hv (k p l e s m args below meth c D dA A H locs LS hC hS hA hK hP hD hX hl)
theorem vx_bipush {n : Int} {v : Int32} (hd : decode cc pc = .ok (.bipush n, 2)) (hv : (Int8.ofInt n).toInt32 = v) (k : vx_J own cc nL ret ini d mc ms Post ad kc ks N Λ μ (pc + 2) (ls) (.inl v :: st)) : vx_J own cc nL ret ini d mc ms Post ad kc ks N Λ μ (pc) (ls) (st) := by
  intro p l e s m args below meth c D dA A H locs LS hC hS hA hK hP hD hX hl
  exact lv_bipush hC.1 hC.2.1 hd hv (k p l e s m args below meth c D dA A H locs LS hC hS hA hK hP hD hX hl)
theorem vx_sipush {n : Int} {v : Int32} (hd : decode cc pc = .ok (.sipush n, 3)) (hv : (Int16.ofInt n).toInt32 = v) (k : vx_J own cc nL ret ini d mc ms Post ad kc ks N Λ μ (pc + 3) (ls) (.inl v :: st)) : vx_J own cc nL ret ini d mc ms Post ad kc ks N Λ μ (pc) (ls) (st) := by
  intro p l e s m args below meth c D dA A H locs LS hC hS hA hK hP hD hX hl
  exact lv_sipush hC.1 hC.2.1 hd hv (k p l e s m args below meth c D dA A H locs LS hC hS hA hK hP hD hX hl)
theorem vx_ldc {index : Nat} {v : Int32} (hd : decode cc pc = .ok (.ldc index, 2)) (hw : Cond.constant own index v ∈ vx_tbl) (k : vx_J own cc nL ret ini d mc ms Post ad kc ks N Λ μ (pc + 2) (ls) (.inl v :: st)) : vx_J own cc nL ret ini d mc ms Post ad kc ks N Λ μ (pc) (ls) (st) := by
  intro p l e s m args below meth c D dA A H locs LS hC hS hA hK hP hD hX hl
  exact lv_ldc hC.1 hC.2.1 hC.2.2.2.2.1 (hC.2.2.2.2.2.1 _ hw) hd (k p l e s m args below meth c D dA A H locs LS hC hS hA hK hP hD hX hl)
theorem vx_ldcS {index i : Nat} {tx : String} (hd : decode cc pc = .ok (.ldc index, 2)) (hi : vx_lit[i]? = some (own, index, tx)) (k : vx_J own cc nL ret ini d mc ms Post ad kc ks N Λ μ (pc + 2) (ls) (vx_r (1000 + i) :: st)) : vx_J own cc nL ret ini d mc ms Post ad kc ks N Λ μ (pc) (ls) (st) := by
  intro p l e s m args below meth c D dA A H locs LS hC hS hA hK hP hD hX hl
  exact va_ldcS hC.1 hC.2.1 hC.2.2.2.2.1 (hX.2.2.2.1 i _ hi) hd (k p l e s m args below meth c D dA A H locs LS hC hS hA hK hP hD hX hl)

theorem vx_iload_n {q : Fin 4} {x : Int32} (hd : decode cc pc = .ok (.iload_n q, 1)) (h : vx_lk ls q = some (.inl x)) (k : vx_J own cc nL ret ini d mc ms Post ad kc ks N Λ μ (pc + 1) (ls) (.inl x :: st)) : vx_J own cc nL ret ini d mc ms Post ad kc ks N Λ μ (pc) (ls) (st) := by
  intro p l e s m args below meth c D dA A H locs LS hC hS hA hK hP hD hX hl
  exact lv_iload_n hC.1 hC.2.1 hd rfl (vx_at hl h) (k p l e s m args below meth c D dA A H locs LS hC hS hA hK hP hD hX hl)
theorem vx_iload {i : Nat} {x : Int32} (hd : decode cc pc = .ok (.iload i, 2)) (h : vx_lk ls i = some (.inl x)) (k : vx_J own cc nL ret ini d mc ms Post ad kc ks N Λ μ (pc + 2) (ls) (.inl x :: st)) : vx_J own cc nL ret ini d mc ms Post ad kc ks N Λ μ (pc) (ls) (st) := by
  intro p l e s m args below meth c D dA A H locs LS hC hS hA hK hP hD hX hl
  exact lv_iload hC.1 hC.2.1 hd (vx_at hl h) (k p l e s m args below meth c D dA A H locs LS hC hS hA hK hP hD hX hl)
theorem vx_aload_n {q : Fin 4} {x : Nat} (hd : decode cc pc = .ok (.aload_n q, 1)) (h : vx_lk ls q = some (vx_r x)) (k : vx_J own cc nL ret ini d mc ms Post ad kc ks N Λ μ (pc + 1) (ls) (vx_r x :: st)) : vx_J own cc nL ret ini d mc ms Post ad kc ks N Λ μ (pc) (ls) (st) := by
  intro p l e s m args below meth c D dA A H locs LS hC hS hA hK hP hD hX hl
  exact lv_aload_n hC.1 hC.2.1 hd rfl (vx_at hl h) (k p l e s m args below meth c D dA A H locs LS hC hS hA hK hP hD hX hl)
theorem vx_aload {i : Nat} {x : Nat} (hd : decode cc pc = .ok (.aload i, 2)) (h : vx_lk ls i = some (vx_r x)) (k : vx_J own cc nL ret ini d mc ms Post ad kc ks N Λ μ (pc + 2) (ls) (vx_r x :: st)) : vx_J own cc nL ret ini d mc ms Post ad kc ks N Λ μ (pc) (ls) (st) := by
  intro p l e s m args below meth c D dA A H locs LS hC hS hA hK hP hD hX hl
  exact lv_aload hC.1 hC.2.1 hd (vx_at hl h) (k p l e s m args below meth c D dA A H locs LS hC hS hA hK hP hD hX hl)

theorem vx_istore_n {q : Fin 4} {x : Int32} {ls2 : List (Nat × vx_v)} (hd : decode cc pc = .ok (.istore_n q, 1)) (hn : (q : Nat) < nL) (h : vx_se ls q (.inl x) = ls2) (k : vx_J own cc nL ret ini d mc ms Post ad kc ks N Λ μ (pc + 1) (ls2) (st)) : vx_J own cc nL ret ini d mc ms Post ad kc ks N Λ μ (pc) (ls) (.inl x :: st) := by
  subst h
  intro p l e s m args below meth c D dA A H locs LS hC hS hA hK hP hD hX hl
  exact lv_istore_n hC.1 hC.2.1 hd rfl hl hn (vx_se_eq ad ls q (.inl x)) (fun LS hl => k p l e s m args below meth c D dA A H locs LS hC hS hA hK hP hD hX hl)
theorem vx_istore {i : Nat} {x : Int32} {ls2 : List (Nat × vx_v)} (hd : decode cc pc = .ok (.istore i, 2)) (hn : i < nL) (h : vx_se ls i (.inl x) = ls2) (k : vx_J own cc nL ret ini d mc ms Post ad kc ks N Λ μ (pc + 2) (ls2) (st)) : vx_J own cc nL ret ini d mc ms Post ad kc ks N Λ μ (pc) (ls) (.inl x :: st) := by
  subst h
  intro p l e s m args below meth c D dA A H locs LS hC hS hA hK hP hD hX hl
  exact lv_istore hC.1 hC.2.1 hd hl hn (vx_se_eq ad ls i (.inl x)) (fun LS hl => k p l e s m args below meth c D dA A H locs LS hC hS hA hK hP hD hX hl)
theorem vx_astore_n {q : Fin 4} {x : Nat} {ls2 : List (Nat × vx_v)} (hd : decode cc pc = .ok (.astore_n q, 1)) (hn : (q : Nat) < nL) (h : vx_se ls q (vx_r x) = ls2) (k : vx_J own cc nL ret ini d mc ms Post ad kc ks N Λ μ (pc + 1) (ls2) (st)) : vx_J own cc nL ret ini d mc ms Post ad kc ks N Λ μ (pc) (ls) (vx_r x :: st) := by
  subst h
  intro p l e s m args below meth c D dA A H locs LS hC hS hA hK hP hD hX hl
  exact lv_astore_n hC.1 hC.2.1 hd rfl hl hn (vx_se_eq ad ls q (vx_r x)) (fun LS hl => k p l e s m args below meth c D dA A H locs LS hC hS hA hK hP hD hX hl)
theorem vx_iinc {i : Nat} {n : Int} {x v : Int32} {ls2 : List (Nat × vx_v)} (hd : decode cc pc = .ok (.iinc i n, 3)) (hk : vx_lk ls i = some (.inl x)) (hv : x + Int32.ofInt n = v) (hn : i < nL) (h : vx_se ls i (.inl v) = ls2) (k : vx_J own cc nL ret ini d mc ms Post ad kc ks N Λ μ (pc + 3) (ls2) (st)) : vx_J own cc nL ret ini d mc ms Post ad kc ks N Λ μ (pc) (ls) (st) := by
  subst h
  intro p l e s m args below meth c D dA A H locs LS hC hS hA hK hP hD hX hl
  obtain ⟨j, hj⟩ := List.getElem?_of_mem (List.mem_map.mpr ⟨(i, .inl x), vx_lk_mem hk, rfl⟩ : (i, vx_V ad (.inl x)) ∈ ls.map (fun q => (q.1, vx_V ad q.2)))
  exact lv_iinc (k := j) (x := x) (v := v) hC.1 hC.2.1 hd hl hj hv hn (vx_se_eq ad ls i (.inl v)) (fun LS hl => k p l e s m args below meth c D dA A H locs LS hC hS hA hK hP hD hX hl)

theorem vx_iadd {x y : Int32} (hd : decode cc pc = .ok (.iadd, 1)) (k : vx_J own cc nL ret ini d mc ms Post ad kc ks N Λ μ (pc + 1) (ls) (.inl (x + y) :: st)) : vx_J own cc nL ret ini d mc ms Post ad kc ks N Λ μ (pc) (ls) (.inl y :: .inl x :: st) := by
  intro p l e s m args below meth c D dA A H locs LS hC hS hA hK hP hD hX hl
  exact lv_iadd hC.1 hC.2.1 hd (k p l e s m args below meth c D dA A H locs LS hC hS hA hK hP hD hX hl)
theorem vx_isub {x y : Int32} (hd : decode cc pc = .ok (.isub, 1)) (k : vx_J own cc nL ret ini d mc ms Post ad kc ks N Λ μ (pc + 1) (ls) (.inl (x - y) :: st)) : vx_J own cc nL ret ini d mc ms Post ad kc ks N Λ μ (pc) (ls) (.inl y :: .inl x :: st) := by
  intro p l e s m args below meth c D dA A H locs LS hC hS hA hK hP hD hX hl
  exact lv_isub hC.1 hC.2.1 hd (k p l e s m args below meth c D dA A H locs LS hC hS hA hK hP hD hX hl)
theorem vx_imul {x y : Int32} (hd : decode cc pc = .ok (.imul, 1)) (k : vx_J own cc nL ret ini d mc ms Post ad kc ks N Λ μ (pc + 1) (ls) (.inl (x * y) :: st)) : vx_J own cc nL ret ini d mc ms Post ad kc ks N Λ μ (pc) (ls) (.inl y :: .inl x :: st) := by
  intro p l e s m args below meth c D dA A H locs LS hC hS hA hK hP hD hX hl
  exact lv_imul hC.1 hC.2.1 hd (k p l e s m args below meth c D dA A H locs LS hC hS hA hK hP hD hX hl)
theorem vx_iand {x y : Int32} (hd : decode cc pc = .ok (.iand, 1)) (k : vx_J own cc nL ret ini d mc ms Post ad kc ks N Λ μ (pc + 1) (ls) (.inl (x &&& y) :: st)) : vx_J own cc nL ret ini d mc ms Post ad kc ks N Λ μ (pc) (ls) (.inl y :: .inl x :: st) := by
  intro p l e s m args below meth c D dA A H locs LS hC hS hA hK hP hD hX hl
  exact lv_iand hC.1 hC.2.1 hd (k p l e s m args below meth c D dA A H locs LS hC hS hA hK hP hD hX hl)
theorem vx_ior {x y : Int32} (hd : decode cc pc = .ok (.ior, 1)) (k : vx_J own cc nL ret ini d mc ms Post ad kc ks N Λ μ (pc + 1) (ls) (.inl (x ||| y) :: st)) : vx_J own cc nL ret ini d mc ms Post ad kc ks N Λ μ (pc) (ls) (.inl y :: .inl x :: st) := by
  intro p l e s m args below meth c D dA A H locs LS hC hS hA hK hP hD hX hl
  exact lv_ior hC.1 hC.2.1 hd (k p l e s m args below meth c D dA A H locs LS hC hS hA hK hP hD hX hl)
theorem vx_ixor {x y : Int32} (hd : decode cc pc = .ok (.ixor, 1)) (k : vx_J own cc nL ret ini d mc ms Post ad kc ks N Λ μ (pc + 1) (ls) (.inl (x ^^^ y) :: st)) : vx_J own cc nL ret ini d mc ms Post ad kc ks N Λ μ (pc) (ls) (.inl y :: .inl x :: st) := by
  intro p l e s m args below meth c D dA A H locs LS hC hS hA hK hP hD hX hl
  exact lv_ixor hC.1 hC.2.1 hd (k p l e s m args below meth c D dA A H locs LS hC hS hA hK hP hD hX hl)
theorem vx_ishl {x y : Int32} (hd : decode cc pc = .ok (.ishl, 1)) (k : vx_J own cc nL ret ini d mc ms Post ad kc ks N Λ μ (pc + 1) (ls) (.inl (x <<< (y &&& 31)) :: st)) : vx_J own cc nL ret ini d mc ms Post ad kc ks N Λ μ (pc) (ls) (.inl y :: .inl x :: st) := by
  intro p l e s m args below meth c D dA A H locs LS hC hS hA hK hP hD hX hl
  exact lv_ishl hC.1 hC.2.1 hd (k p l e s m args below meth c D dA A H locs LS hC hS hA hK hP hD hX hl)
theorem vx_ishr {x y : Int32} (hd : decode cc pc = .ok (.ishr, 1)) (k : vx_J own cc nL ret ini d mc ms Post ad kc ks N Λ μ (pc + 1) (ls) (.inl (x >>> (y &&& 31)) :: st)) : vx_J own cc nL ret ini d mc ms Post ad kc ks N Λ μ (pc) (ls) (.inl y :: .inl x :: st) := by
  intro p l e s m args below meth c D dA A H locs LS hC hS hA hK hP hD hX hl
  exact lv_ishr hC.1 hC.2.1 hd (k p l e s m args below meth c D dA A H locs LS hC hS hA hK hP hD hX hl)
theorem vx_idiv {x y : Int32} (hd : decode cc pc = .ok (.idiv, 1)) (hne : ¬ y = 0) (k : vx_J own cc nL ret ini d mc ms Post ad kc ks N Λ μ (pc + 1) (ls) (.inl (x / y) :: st)) : vx_J own cc nL ret ini d mc ms Post ad kc ks N Λ μ (pc) (ls) (.inl y :: .inl x :: st) := by
  intro p l e s m args below meth c D dA A H locs LS hC hS hA hK hP hD hX hl
  exact lv_idiv hC.1 hC.2.1 hd hne (k p l e s m args below meth c D dA A H locs LS hC hS hA hK hP hD hX hl)
theorem vx_irem {x y : Int32} (hd : decode cc pc = .ok (.irem, 1)) (hne : ¬ y = 0) (k : vx_J own cc nL ret ini d mc ms Post ad kc ks N Λ μ (pc + 1) (ls) (.inl (x - x / y * y) :: st)) : vx_J own cc nL ret ini d mc ms Post ad kc ks N Λ μ (pc) (ls) (.inl y :: .inl x :: st) := by
  intro p l e s m args below meth c D dA A H locs LS hC hS hA hK hP hD hX hl
  exact lv_irem hC.1 hC.2.1 hd hne (k p l e s m args below meth c D dA A H locs LS hC hS hA hK hP hD hX hl)
theorem vx_iushr {x y v : Int32} (hd : decode cc pc = .ok (.iushr, 1)) (hv : (x.toUInt32 >>> (y.toUInt32 &&& Int32.toUInt32 31)).toInt32 = v) (k : vx_J own cc nL ret ini d mc ms Post ad kc ks N Λ μ (pc + 1) (ls) (.inl v :: st)) : vx_J own cc nL ret ini d mc ms Post ad kc ks N Λ μ (pc) (ls) (.inl y :: .inl x :: st) := by
  intro p l e s m args below meth c D dA A H locs LS hC hS hA hK hP hD hX hl
  exact lv_iushr hC.1 hC.2.1 hd hv (k p l e s m args below meth c D dA A H locs LS hC hS hA hK hP hD hX hl)
theorem vx_dup {v : vx_v} (hd : decode cc pc = .ok (.dup, 1)) (k : vx_J own cc nL ret ini d mc ms Post ad kc ks N Λ μ (pc + 1) (ls) (v :: v :: st)) : vx_J own cc nL ret ini d mc ms Post ad kc ks N Λ μ (pc) (ls) (v :: st) := by
  intro p l e s m args below meth c D dA A H locs LS hC hS hA hK hP hD hX hl
  exact lv_dup hC.1 hC.2.1 hd (vx_V_cat ad v) (k p l e s m args below meth c D dA A H locs LS hC hS hA hK hP hD hX hl)
theorem vx_dup2 {v u : vx_v} (hd : decode cc pc = .ok (.dup2, 1)) (k : vx_J own cc nL ret ini d mc ms Post ad kc ks N Λ μ (pc + 1) (ls) (v :: u :: v :: u :: st)) : vx_J own cc nL ret ini d mc ms Post ad kc ks N Λ μ (pc) (ls) (v :: u :: st) := by
  intro p l e s m args below meth c D dA A H locs LS hC hS hA hK hP hD hX hl
  exact lv_dup2_11 hC.1 hC.2.1 hd (vx_V_cat ad v) (vx_V_cat ad u) (k p l e s m args below meth c D dA A H locs LS hC hS hA hK hP hD hX hl)
theorem vx_pop {v : vx_v} (hd : decode cc pc = .ok (.pop, 1)) (k : vx_J own cc nL ret ini d mc ms Post ad kc ks N Λ μ (pc + 1) (ls) (st)) : vx_J own cc nL ret ini d mc ms Post ad kc ks N Λ μ (pc) (ls) (v :: st) := by
  intro p l e s m args below meth c D dA A H locs LS hC hS hA hK hP hD hX hl
  exact lv_pop hC.1 hC.2.1 hd (vx_V_cat ad v) (k p l e s m args below meth c D dA A H locs LS hC hS hA hK hP hD hX hl)
theorem vx_goto {off : Int} {tgt : Nat} (hd : decode cc pc = .ok (.goto off, 3)) (ht : (pc : Int) + off = (tgt : Int)) (k : vx_J own cc nL ret ini d mc ms Post ad kc ks N Λ μ (tgt) (ls) (st)) : vx_J own cc nL ret ini d mc ms Post ad kc ks N Λ μ (pc) (ls) (st) := by
  intro p l e s m args below meth c D dA A H locs LS hC hS hA hK hP hD hX hl
  exact lv_goto hC.1 hC.2.1 hd ht (k p l e s m args below meth c D dA A H locs LS hC hS hA hK hP hD hX hl)

theorem vx_if_eq {x : Int32} {off : Int} {tgt : Nat} (hd : decode cc pc = .ok (.ifCond .eq off, 3)) (ht : (pc : Int) + off = (tgt : Int)) (kt : x = 0 → vx_J own cc nL ret ini d mc ms Post ad kc ks N Λ μ (tgt) (ls) (st)) (kf : ¬ x = 0 → vx_J own cc nL ret ini d mc ms Post ad kc ks N Λ μ (pc + 3) (ls) (st)) : vx_J own cc nL ret ini d mc ms Post ad kc ks N Λ μ (pc) (ls) (.inl x :: st) := by
  intro p l e s m args below meth c D dA A H locs LS hC hS hA hK hP hD hX hl
  exact lv_if_eq hC.1 hC.2.1 hd ht (fun h => kt h p l e s m args below meth c D dA A H locs LS hC hS hA hK hP hD hX hl) (fun h => kf h p l e s m args below meth c D dA A H locs LS hC hS hA hK hP hD hX hl)
theorem vx_icmp_eq {x y : Int32} {off : Int} {tgt : Nat} (hd : decode cc pc = .ok (.if_icmp .eq off, 3)) (ht : (pc : Int) + off = (tgt : Int)) (kt : x = y → vx_J own cc nL ret ini d mc ms Post ad kc ks N Λ μ (tgt) (ls) (st)) (kf : ¬ x = y → vx_J own cc nL ret ini d mc ms Post ad kc ks N Λ μ (pc + 3) (ls) (st)) : vx_J own cc nL ret ini d mc ms Post ad kc ks N Λ μ (pc) (ls) (.inl y :: .inl x :: st) := by
  intro p l e s m args below meth c D dA A H locs LS hC hS hA hK hP hD hX hl
  exact lv_icmp_eq hC.1 hC.2.1 hd ht (fun h => kt h p l e s m args below meth c D dA A H locs LS hC hS hA hK hP hD hX hl) (fun h => kf h p l e s m args below meth c D dA A H locs LS hC hS hA hK hP hD hX hl)
theorem vx_if_ne {x : Int32} {off : Int} {tgt : Nat} (hd : decode cc pc = .ok (.ifCond .ne off, 3)) (ht : (pc : Int) + off = (tgt : Int)) (kt : ¬ x = 0 → vx_J own cc nL ret ini d mc ms Post ad kc ks N Λ μ (tgt) (ls) (st)) (kf : x = 0 → vx_J own cc nL ret ini d mc ms Post ad kc ks N Λ μ (pc + 3) (ls) (st)) : vx_J own cc nL ret ini d mc ms Post ad kc ks N Λ μ (pc) (ls) (.inl x :: st) := by
  intro p l e s m args below meth c D dA A H locs LS hC hS hA hK hP hD hX hl
  exact lv_if_ne hC.1 hC.2.1 hd ht (fun h => kt h p l e s m args below meth c D dA A H locs LS hC hS hA hK hP hD hX hl) (fun h => kf h p l e s m args below meth c D dA A H locs LS hC hS hA hK hP hD hX hl)
theorem vx_icmp_ne {x y : Int32} {off : Int} {tgt : Nat} (hd : decode cc pc = .ok (.if_icmp .ne off, 3)) (ht : (pc : Int) + off = (tgt : Int)) (kt : ¬ x = y → vx_J own cc nL ret ini d mc ms Post ad kc ks N Λ μ (tgt) (ls) (st)) (kf : x = y → vx_J own cc nL ret ini d mc ms Post ad kc ks N Λ μ (pc + 3) (ls) (st)) : vx_J own cc nL ret ini d mc ms Post ad kc ks N Λ μ (pc) (ls) (.inl y :: .inl x :: st) := by
  intro p l e s m args below meth c D dA A H locs LS hC hS hA hK hP hD hX hl
  exact lv_icmp_ne hC.1 hC.2.1 hd ht (fun h => kt h p l e s m args below meth c D dA A H locs LS hC hS hA hK hP hD hX hl) (fun h => kf h p l e s m args below meth c D dA A H locs LS hC hS hA hK hP hD hX hl)
theorem vx_if_lt {x : Int32} {off : Int} {tgt : Nat} (hd : decode cc pc = .ok (.ifCond .lt off, 3)) (ht : (pc : Int) + off = (tgt : Int)) (kt : x < 0 → vx_J own cc nL ret ini d mc ms Post ad kc ks N Λ μ (tgt) (ls) (st)) (kf : ¬ x < 0 → vx_J own cc nL ret ini d mc ms Post ad kc ks N Λ μ (pc + 3) (ls) (st)) : vx_J own cc nL ret ini d mc ms Post ad kc ks N Λ μ (pc) (ls) (.inl x :: st) := by
  intro p l e s m args below meth c D dA A H locs LS hC hS hA hK hP hD hX hl
  exact lv_if_lt hC.1 hC.2.1 hd ht (fun h => kt h p l e s m args below meth c D dA A H locs LS hC hS hA hK hP hD hX hl) (fun h => kf h p l e s m args below meth c D dA A H locs LS hC hS hA hK hP hD hX hl)
theorem vx_icmp_lt {x y : Int32} {off : Int} {tgt : Nat} (hd : decode cc pc = .ok (.if_icmp .lt off, 3)) (ht : (pc : Int) + off = (tgt : Int)) (kt : x < y → vx_J own cc nL ret ini d mc ms Post ad kc ks N Λ μ (tgt) (ls) (st)) (kf : ¬ x < y → vx_J own cc nL ret ini d mc ms Post ad kc ks N Λ μ (pc + 3) (ls) (st)) : vx_J own cc nL ret ini d mc ms Post ad kc ks N Λ μ (pc) (ls) (.inl y :: .inl x :: st) := by
  intro p l e s m args below meth c D dA A H locs LS hC hS hA hK hP hD hX hl
  exact lv_icmp_lt hC.1 hC.2.1 hd ht (fun h => kt h p l e s m args below meth c D dA A H locs LS hC hS hA hK hP hD hX hl) (fun h => kf h p l e s m args below meth c D dA A H locs LS hC hS hA hK hP hD hX hl)
theorem vx_if_ge {x : Int32} {off : Int} {tgt : Nat} (hd : decode cc pc = .ok (.ifCond .ge off, 3)) (ht : (pc : Int) + off = (tgt : Int)) (kt : 0 ≤ x → vx_J own cc nL ret ini d mc ms Post ad kc ks N Λ μ (tgt) (ls) (st)) (kf : ¬ 0 ≤ x → vx_J own cc nL ret ini d mc ms Post ad kc ks N Λ μ (pc + 3) (ls) (st)) : vx_J own cc nL ret ini d mc ms Post ad kc ks N Λ μ (pc) (ls) (.inl x :: st) := by
  intro p l e s m args below meth c D dA A H locs LS hC hS hA hK hP hD hX hl
  exact lv_if_ge hC.1 hC.2.1 hd ht (fun h => kt h p l e s m args below meth c D dA A H locs LS hC hS hA hK hP hD hX hl) (fun h => kf h p l e s m args below meth c D dA A H locs LS hC hS hA hK hP hD hX hl)
theorem vx_icmp_ge {x y : Int32} {off : Int} {tgt : Nat} (hd : decode cc pc = .ok (.if_icmp .ge off, 3)) (ht : (pc : Int) + off = (tgt : Int)) (kt : y ≤ x → vx_J own cc nL ret ini d mc ms Post ad kc ks N Λ μ (tgt) (ls) (st)) (kf : ¬ y ≤ x → vx_J own cc nL ret ini d mc ms Post ad kc ks N Λ μ (pc + 3) (ls) (st)) : vx_J own cc nL ret ini d mc ms Post ad kc ks N Λ μ (pc) (ls) (.inl y :: .inl x :: st) := by
  intro p l e s m args below meth c D dA A H locs LS hC hS hA hK hP hD hX hl
  exact lv_icmp_ge hC.1 hC.2.1 hd ht (fun h => kt h p l e s m args below meth c D dA A H locs LS hC hS hA hK hP hD hX hl) (fun h => kf h p l e s m args below meth c D dA A H locs LS hC hS hA hK hP hD hX hl)
theorem vx_if_gt {x : Int32} {off : Int} {tgt : Nat} (hd : decode cc pc = .ok (.ifCond .gt off, 3)) (ht : (pc : Int) + off = (tgt : Int)) (kt : 0 < x → vx_J own cc nL ret ini d mc ms Post ad kc ks N Λ μ (tgt) (ls) (st)) (kf : ¬ 0 < x → vx_J own cc nL ret ini d mc ms Post ad kc ks N Λ μ (pc + 3) (ls) (st)) : vx_J own cc nL ret ini d mc ms Post ad kc ks N Λ μ (pc) (ls) (.inl x :: st) := by
  intro p l e s m args below meth c D dA A H locs LS hC hS hA hK hP hD hX hl
  exact lv_if_gt hC.1 hC.2.1 hd ht (fun h => kt h p l e s m args below meth c D dA A H locs LS hC hS hA hK hP hD hX hl) (fun h => kf h p l e s m args below meth c D dA A H locs LS hC hS hA hK hP hD hX hl)
theorem vx_icmp_gt {x y : Int32} {off : Int} {tgt : Nat} (hd : decode cc pc = .ok (.if_icmp .gt off, 3)) (ht : (pc : Int) + off = (tgt : Int)) (kt : y < x → vx_J own cc nL ret ini d mc ms Post ad kc ks N Λ μ (tgt) (ls) (st)) (kf : ¬ y < x → vx_J own cc nL ret ini d mc ms Post ad kc ks N Λ μ (pc + 3) (ls) (st)) : vx_J own cc nL ret ini d mc ms Post ad kc ks N Λ μ (pc) (ls) (.inl y :: .inl x :: st) := by
  intro p l e s m args below meth c D dA A H locs LS hC hS hA hK hP hD hX hl
  exact lv_icmp_gt hC.1 hC.2.1 hd ht (fun h => kt h p l e s m args below meth c D dA A H locs LS hC hS hA hK hP hD hX hl) (fun h => kf h p l e s m args below meth c D dA A H locs LS hC hS hA hK hP hD hX hl)
theorem vx_if_le {x : Int32} {off : Int} {tgt : Nat} (hd : decode cc pc = .ok (.ifCond .le off, 3)) (ht : (pc : Int) + off = (tgt : Int)) (kt : x ≤ 0 → vx_J own cc nL ret ini d mc ms Post ad kc ks N Λ μ (tgt) (ls) (st)) (kf : ¬ x ≤ 0 → vx_J own cc nL ret ini d mc ms Post ad kc ks N Λ μ (pc + 3) (ls) (st)) : vx_J own cc nL ret ini d mc ms Post ad kc ks N Λ μ (pc) (ls) (.inl x :: st) := by
  intro p l e s m args below meth c D dA A H locs LS hC hS hA hK hP hD hX hl
  exact lv_if_le hC.1 hC.2.1 hd ht (fun h => kt h p l e s m args below meth c D dA A H locs LS hC hS hA hK hP hD hX hl) (fun h => kf h p l e s m args below meth c D dA A H locs LS hC hS hA hK hP hD hX hl)
theorem vx_icmp_le {x y : Int32} {off : Int} {tgt : Nat} (hd : decode cc pc = .ok (.if_icmp .le off, 3)) (ht : (pc : Int) + off = (tgt : Int)) (kt : x ≤ y → vx_J own cc nL ret ini d mc ms Post ad kc ks N Λ μ (tgt) (ls) (st)) (kf : ¬ x ≤ y → vx_J own cc nL ret ini d mc ms Post ad kc ks N Λ μ (pc + 3) (ls) (st)) : vx_J own cc nL ret ini d mc ms Post ad kc ks N Λ μ (pc) (ls) (.inl y :: .inl x :: st) := by
  intro p l e s m args below meth c D dA A H locs LS hC hS hA hK hP hD hX hl
  exact lv_icmp_le hC.1 hC.2.1 hd ht (fun h => kt h p l e s m args below meth c D dA A H locs LS hC hS hA hK hP hD hX hl) (fun h => kf h p l e s m args below meth c D dA A H locs LS hC hS hA hK hP hD hX hl)
theorem vx_tabIn {dflt lo hi : Int} {offs : Array Int} {len : Nat} {x : Int32} {off : Int} {tgt : Nat} (hd : decode cc pc = .ok (.tableswitch dflt lo hi offs, len)) (h1 : ¬ x.toInt < lo) (h2 : ¬ hi < x.toInt) (ho : offs[(x.toInt - lo).toNat]? = some off) (ht : (pc : Int) + off = (tgt : Int)) (k : vx_J own cc nL ret ini d mc ms Post ad kc ks N Λ μ (tgt) (ls) (st)) : vx_J own cc nL ret ini d mc ms Post ad kc ks N Λ μ (pc) (ls) (.inl x :: st) := by
  intro p l e s m args below meth c D dA A H locs LS hC hS hA hK hP hD hX hl
  exact lv_tableIn hC.1 hC.2.1 hd h1 h2 ho ht (k p l e s m args below meth c D dA A H locs LS hC hS hA hK hP hD hX hl)
theorem vx_tabOut {dflt lo hi : Int} {offs : Array Int} {len : Nat} {x : Int32} {tgt : Nat} (hd : decode cc pc = .ok (.tableswitch dflt lo hi offs, len)) (h : x.toInt < lo ∨ hi < x.toInt) (ht : (pc : Int) + dflt = (tgt : Int)) (k : vx_J own cc nL ret ini d mc ms Post ad kc ks N Λ μ (tgt) (ls) (st)) : vx_J own cc nL ret ini d mc ms Post ad kc ks N Λ μ (pc) (ls) (.inl x :: st) := by
  intro p l e s m args below meth c D dA A H locs LS hC hS hA hK hP hD hX hl
  exact lv_tableOut hC.1 hC.2.1 hd h ht (k p l e s m args below meth c D dA A H locs LS hC hS hA hK hP hD hX hl)
theorem vx_lksw {dflt : Int} {ps : Array (Int × Int)} {len : Nat} {x : Int32} {off : Int} {tgt : Nat} (hd : decode cc pc = .ok (.lookupswitch dflt ps, len)) (hp : (ps.toList.zip (ps.toList.drop 1)).all (fun (a, next) => a.1 < next.1) = true) (ho : Op.lookupswitch.offset ps.toList dflt x.toInt = off) (ht : (pc : Int) + off = (tgt : Int)) (k : vx_J own cc nL ret ini d mc ms Post ad kc ks N Λ μ (tgt) (ls) (st)) : vx_J own cc nL ret ini d mc ms Post ad kc ks N Λ μ (pc) (ls) (.inl x :: st) := by
  intro p l e s m args below meth c D dA A H locs LS hC hS hA hK hP hD hX hl
  exact lv_lookup hC.1 hC.2.1 hd hp ho ht (k p l e s m args below meth c D dA A H locs LS hC hS hA hK hP hD hX hl)

theorem vx_ret {x : Int32} {ty : FieldType} (hd : decode cc pc = .ok (.ireturn, 1)) (hr : ret = some ty) (hn : narrow ty (.int x) = .int x) (h1 : kc ≤ mc) (h2 : ks ≤ ms) (k : Post (some (.inl x)) ad N Λ μ) : vx_J own cc nL ret ini d mc ms Post ad kc ks N Λ μ (pc) (ls) ([.inl x]) := by
  intro p l e s m args below meth c D dA A H locs LS hC hS hA hK hP hD hX hl
  refine W.widen (k := mc) (n := ms) h1 h2 ?_
  exact W.zret (v := x) hC.1 hC.2.1 (hC.2.2.2.1.trans hr) hn (fun t ht hW => ⟨⟨some (.inl x), ad, N, Λ, μ, rfl, k, by rw [ht]; exact hP, va_K.moved hW.alike hK, hD⟩, hS.F ht⟩) hS.2.2 hd hC.2.2.2.2.2.2.1
theorem vx_vret (hd : decode cc pc = .ok (.return_, 1)) (hr : ret = none) (h1 : kc ≤ mc) (h2 : ks ≤ ms) (k : Post none ad N Λ μ) : vx_J own cc nL ret ini d mc ms Post ad kc ks N Λ μ (pc) (ls) ([]) := by
  intro p l e s m args below meth c D dA A H locs LS hC hS hA hK hP hD hX hl
  refine W.widen (k := mc) (n := ms) h1 h2 ?_
  exact W.vret hC.1 hC.2.1 (hC.2.2.2.1.trans hr) (fun t ht hW => ⟨⟨none, ad, N, Λ, μ, rfl, k, by rw [ht]; exact hP, va_K.moved hW.alike hK, hD⟩, hS.F ht⟩) hS.2.2 hd hC.2.2.2.2.2.2.1
theorem vx_aret {x : Nat} {ty : String} (hd : decode cc pc = .ok (.areturn, 1)) (hr : ret = some (.object ty)) (h1 : kc ≤ mc) (h2 : ks ≤ ms) (k : Post (some (vx_r x)) ad N Λ μ) : vx_J own cc nL ret ini d mc ms Post ad kc ks N Λ μ (pc) (ls) ([vx_r x]) := by
  intro p l e s m args below meth c D dA A H locs LS hC hS hA hK hP hD hX hl
  refine W.widen (k := mc) (n := ms) h1 h2 ?_
  exact W.aret (v := .ref (ad x)) hC.1 hC.2.1 (hC.2.2.2.1.trans hr) (Or.inl ⟨ty, rfl⟩) (Or.inr ⟨_, rfl⟩) (fun t ht hW => ⟨⟨some (vx_r x), ad, N, Λ, μ, rfl, k, by rw [ht]; exact hP, va_K.moved hW.alike hK, hD⟩, hS.F ht⟩) hS.2.2 hd hC.2.2.2.2.2.2.1

theorem vx_getI {C : String} {T : u_T} {n ci index a j : Nat} {fr : List (Option (Option Nat))} {v : Int32} (hd : decode cc pc = .ok (.getfield index, 3)) (hc : vwCl[ci]? = some (C, T, n)) (hin : ∀ w ∈ u_ws C T n, w ∈ vx_tbl) (hj : j < n) (hlk : Cond.fieldLink own index (T j).1 (T j).2.1 (T j).2.2.1 ∈ vx_tbl) (ha : a < N) (hΛ : Λ a = .inl (ci, fr)) (hf : fr[j]? = some none) (hv : μ a j = v) (k : vx_J own cc nL ret ini d mc ms Post ad kc ks N Λ μ (pc + 3) (ls) (.inl v :: st)) : vx_J own cc nL ret ini d mc ms Post ad kc ks N Λ μ (pc) (ls) (vx_r a :: st) := by
  subst hv
  intro p l e s m args below meth c D dA A H locs LS hC hS hA hK hP hD hX hl
  refine va_get (D := D) (v := .int (μ a j)) hC.1 hC.2.1 hC.2.2.2.2.2.1 hin hC.2.2.2.2.1 hK hP a (fs := vx_fs ad fr (μ a)) (by rw [vx_W_at ha, hΛ]; rfl) hc j hj (hC.2.2.2.2.2.1 _ hlk) (fun _ h9 => h9) (vx_fs_at hf) hd (k p l e s m args below meth c D dA A H locs LS hC hS hA hK hP hD hX hl)
theorem vx_getR {C : String} {T : u_T} {n ci index a j r : Nat} {fr : List (Option (Option Nat))} (hd : decode cc pc = .ok (.getfield index, 3)) (hc : vwCl[ci]? = some (C, T, n)) (hin : ∀ w ∈ u_ws C T n, w ∈ vx_tbl) (hj : j < n) (hlk : Cond.fieldLink own index (T j).1 (T j).2.1 (T j).2.2.1 ∈ vx_tbl) (ha : a < N) (hΛ : Λ a = .inl (ci, fr)) (hf : fr[j]? = some (some (some r))) (k : vx_J own cc nL ret ini d mc ms Post ad kc ks N Λ μ (pc + 3) (ls) (vx_r r :: st)) : vx_J own cc nL ret ini d mc ms Post ad kc ks N Λ μ (pc) (ls) (vx_r a :: st) := by
  intro p l e s m args below meth c D dA A H locs LS hC hS hA hK hP hD hX hl
  refine va_get (D := D) (v := .ref (ad r)) hC.1 hC.2.1 hC.2.2.2.2.2.1 hin hC.2.2.2.2.1 hK hP a (fs := vx_fs ad fr (μ a)) (by rw [vx_W_at ha, hΛ]; rfl) hc j hj (hC.2.2.2.2.2.1 _ hlk) (fun _ h9 => h9) (vx_fs_at hf) hd (k p l e s m args below meth c D dA A H locs LS hC hS hA hK hP hD hX hl)
theorem vx_putI {C : String} {T : u_T} {n ci index a j : Nat} {fr : List (Option (Option Nat))} {x : Int32} {ty0 : Nat → FieldType} {ty : FieldType} (hd : decode cc pc = .ok (.putfield index, 3)) (hc : vwCl[ci]? = some (C, T, n)) (hin : ∀ w ∈ u_ws C T n, w ∈ vx_tbl) (hty : ∀ k, k < n → parseFieldDescriptor (T k).2.2.1 = some (ty0 k)) (hnm : ∀ a, a < n → ∀ b, b < n → a ≠ b → (T a).2.1 ≠ (T b).2.1) (hj : j < n) (hlk : Cond.fieldLink own index (T j).1 (T j).2.1 (T j).2.2.1 ∈ vx_tbl) (hfin : (T j).2.2.2 = false) (ht : ty0 j = ty) (hn : narrow ty (.int x) = .int x) (hfit : fits ty (.int x) = true) (ha : a < N) (hΛ : Λ a = .inl (ci, fr)) (hf : fr[j]? = some none) {μ2 : vx_mem} (hm : va_up μ a (upd (μ a) j x) = μ2) (k : vx_J own cc nL ret ini d mc ms Post ad kc ks N Λ μ2 (pc + 3) (ls) (st)) : vx_J own cc nL ret ini d mc ms Post ad kc ks N Λ μ (pc) (ls) (.inl x :: vx_r a :: st) := by
  subst hm
  intro p l e s m args below meth c D dA A H locs LS hC hS hA hK hP hD hX hl
  refine va_put (D := D) (v := .int x) hC.1 hC.2.1 hC.2.2.2.2.2.1 hin ty0 hty hnm hC.2.2.2.2.1 hK hP hD hS a (fs := vx_fs ad fr (μ a)) (by rw [vx_W_at ha, hΛ]; rfl) hc j hj (hC.2.2.2.2.2.1 _ hlk) (fun _ h9 => h9) hfin ((hty j hj).trans (congrArg some ht)) hn hfit (by rw [vx_fs_len]; exact (List.getElem?_eq_some_iff.mp hf).1) hd (fun H locs hP hD hS => ?_)
  have e1 : (vx_W dA ad N Λ μ).set a (ad a, .inr (ci, (vx_fs ad fr (μ a)).set j (.int x))) = vx_W dA ad N Λ (va_up μ a (upd (μ a) j x)) := by
    rw [vx_fs_set hf]
    have e2 := vx_W_set (dA := dA) (ad := ad) (N := N) (Λ := Λ) (μ := μ) (k := a) (κ := Λ a) (f := upd (μ a) j x) ha
    rw [vx_up_id] at e2
    rw [← e2, hΛ]
    rfl
  rw [e1] at hP hD
  exact k p l e s m args below meth c D dA A H locs LS hC hS hA hK hP hD hX hl

theorem vx_iald {a n : Nat} {i v : Int32} (hd : decode cc pc = .ok (.iaload, 1)) (ha : a < N) (hΛ : Λ a = .inr (0, n, none)) (hi : vp_in i n) (hv : μ a i.toNatClampNeg = v) (k : vx_J own cc nL ret ini d mc ms Post ad kc ks N Λ μ (pc + 1) (ls) (.inl v :: st)) : vx_J own cc nL ret ini d mc ms Post ad kc ks N Λ μ (pc) (ls) (.inl i :: vx_r a :: st) := by
  subst hv
  intro p l e s m args below meth c D dA A H locs LS hC hS hA hK hP hD hX hl
  exact va_iald hC.1 hC.2.1 hK hP a 0 (f := μ a) (n := n) (by rw [vx_W_at ha, hΛ]; rfl) rfl hi hd (k p l e s m args below meth c D dA A H locs LS hC hS hA hK hP hD hX hl)
theorem vx_zald {a n : Nat} {i v : Int32} (hd : decode cc pc = .ok (.baload, 1)) (ha : a < N) (hΛ : Λ a = .inr (1, n, none)) (hi : vp_in i n) (hv : μ a i.toNatClampNeg = v) (k : vx_J own cc nL ret ini d mc ms Post ad kc ks N Λ μ (pc + 1) (ls) (.inl v :: st)) : vx_J own cc nL ret ini d mc ms Post ad kc ks N Λ μ (pc) (ls) (.inl i :: vx_r a :: st) := by
  subst hv
  intro p l e s m args below meth c D dA A H locs LS hC hS hA hK hP hD hX hl
  exact va_zald hC.1 hC.2.1 hK hP a 1 (f := μ a) (n := n) (by rw [vx_W_at ha, hΛ]; rfl) rfl hi hd (k p l e s m args below meth c D dA A H locs LS hC hS hA hK hP hD hX hl)
theorem vx_iast {a n : Nat} {i x : Int32} (hd : decode cc pc = .ok (.iastore, 1)) (ha : a < N) (hΛ : Λ a = .inr (0, n, none)) (hi : vp_in i n) {μ2 : vx_mem} (hm : va_up μ a (upd (μ a) i.toNatClampNeg x) = μ2) (k : vx_J own cc nL ret ini d mc ms Post ad kc ks N Λ μ2 (pc + 1) (ls) (st)) : vx_J own cc nL ret ini d mc ms Post ad kc ks N Λ μ (pc) (ls) (.inl x :: .inl i :: vx_r a :: st) := by
  subst hm
  intro p l e s m args below meth c D dA A H locs LS hC hS hA hK hP hD hX hl
  refine va_iast hC.1 hC.2.1 hK hP hD hS a 0 (f := μ a) (n := n) (by rw [vx_W_at ha, hΛ]; rfl) rfl hi hd (fun H locs hP hD hS => ?_)
  have e1 : (vx_W dA ad N Λ μ).set a (ad a, .inl (dA 0, n, .inl (upd (μ a) i.toNatClampNeg x))) = vx_W dA ad N Λ (va_up μ a (upd (μ a) i.toNatClampNeg x)) := by
    have e2 := vx_W_set (dA := dA) (ad := ad) (N := N) (Λ := Λ) (μ := μ) (k := a) (κ := Λ a) (f := upd (μ a) i.toNatClampNeg x) ha
    rw [vx_up_id] at e2
    rw [← e2, hΛ]
    rfl
  rw [e1] at hP hD
  exact k p l e s m args below meth c D dA A H locs LS hC hS hA hK hP hD hX hl
theorem vx_zast {a n : Nat} {i x : Int32} (hd : decode cc pc = .ok (.bastore, 1)) (ha : a < N) (hΛ : Λ a = .inr (1, n, none)) (hi : vp_in i n) {μ2 : vx_mem} (hm : va_up μ a (upd (μ a) i.toNatClampNeg (vp_nar .boolean x)) = μ2) (k : vx_J own cc nL ret ini d mc ms Post ad kc ks N Λ μ2 (pc + 1) (ls) (st)) : vx_J own cc nL ret ini d mc ms Post ad kc ks N Λ μ (pc) (ls) (.inl x :: .inl i :: vx_r a :: st) := by
  subst hm
  intro p l e s m args below meth c D dA A H locs LS hC hS hA hK hP hD hX hl
  refine va_zast hC.1 hC.2.1 hK hP hD hS a 1 (f := μ a) (n := n) (by rw [vx_W_at ha, hΛ]; rfl) rfl hi hd (fun H locs hP hD hS => ?_)
  have e1 : (vx_W dA ad N Λ μ).set a (ad a, .inl (dA 1, n, .inl (upd (μ a) i.toNatClampNeg (vp_nar .boolean x)))) = vx_W dA ad N Λ (va_up μ a (upd (μ a) i.toNatClampNeg (vp_nar .boolean x))) := by
    have e2 := vx_W_set (dA := dA) (ad := ad) (N := N) (Λ := Λ) (μ := μ) (k := a) (κ := Λ a) (f := upd (μ a) i.toNatClampNeg (vp_nar .boolean x)) ha
    rw [vx_up_id] at e2
    rw [← e2, hΛ]
    rfl
  rw [e1] at hP hD
  exact k p l e s m args below meth c D dA A H locs LS hC hS hA hK hP hD hX hl
theorem vx_alen {a t n : Nat} {o : Option (List Nat)} {v : Int32} (hd : decode cc pc = .ok (.arraylength, 1)) (ha : a < N) (hΛ : Λ a = .inr (t, n, o)) (ht : t < 3) (hv : Int32.ofNat n = v) (k : vx_J own cc nL ret ini d mc ms Post ad kc ks N Λ μ (pc + 1) (ls) (.inl v :: st)) : vx_J own cc nL ret ini d mc ms Post ad kc ks N Λ μ (pc) (ls) (vx_r a :: st) := by
  intro p l e s m args below meth c D dA A H locs LS hC hS hA hK hP hD hX hl
  obtain ⟨ty, hty⟩ : ∃ ty, (vx_T dA)[t]? = some (dA t, ty) := by
    rcases (show t = 0 ∨ t = 1 ∨ t = 2 by omega) with rfl | rfl | rfl
    · exact ⟨_, rfl⟩
    · exact ⟨_, rfl⟩
    · exact ⟨_, rfl⟩
  cases o with
  | none => exact va_alen hC.1 hC.2.1 hK hP a t (x := (n, .inl (μ a))) (by rw [vx_W_at ha, hΛ]; rfl) hty hv hd (k p l e s m args below meth c D dA A H locs LS hC hS hA hK hP hD hX hl)
  | some g => exact va_alen hC.1 hC.2.1 hK hP a t (x := (n, .inr (.inr (.inr (.inr (fun i => (g[i]?).map ad)))))) (by rw [vx_W_at ha, hΛ]; rfl) hty hv hd (k p l e s m args below meth c D dA A H locs LS hC hS hA hK hP hD hX hl)
theorem vx_aald {a n r : Nat} {g : List Nat} {i : Int32} (hd : decode cc pc = .ok (.aaload, 1)) (ha : a < N) (hΛ : Λ a = .inr (2, n, some g)) (hi : vp_in i n) (hr : g[i.toNatClampNeg]? = some r) (k : vx_J own cc nL ret ini d mc ms Post ad kc ks N Λ μ (pc + 1) (ls) (vx_r r :: st)) : vx_J own cc nL ret ini d mc ms Post ad kc ks N Λ μ (pc) (ls) (.inl i :: vx_r a :: st) := by
  intro p l e s m args below meth c D dA A H locs LS hC hS hA hK hP hD hX hl
  have hc : H[ad a]? = some (vp_cell (dA 2) (n, .inr (.inr (.inr (.inr (fun i => (g[i]?).map ad)))))) := by
    have := hP a (ad a, _) (vx_W_at ha)
    rw [hΛ] at this
    exact this
  refine W.aald hC.1 hC.2.1 hc (by rw [vp_cell_q]; exact (hK.2 2 _ rfl).1 n _) rfl (by rw [vp_cell_q]; exact fun q => by cases q) (by rw [vp_cell_q, arrV_size]; exact hi) (v := .ref (ad r)) ?_ rfl rfl hd (k p l e s m args below meth c D dA A H locs LS hC hS hA hK hP hD hX hl)
  rw [vp_cell_q]
  have hlt : i.toNatClampNeg < n := by
    unfold vp_in at hi
    omega
  rw [arrV_read _ _ hlt, hr]
  rfl
/-- rows that nobody writes -/
theorem vx_ialdX {j : Nat} {i v : Int32} (hd : decode cc pc = .ok (.iaload, 1)) (hj : j < 3) (hi : vp_in i 6) (hv : (vx_sv j).getD i.toNatClampNeg 0 = v) (k : vx_J own cc nL ret ini d mc ms Post ad kc ks N Λ μ (pc + 1) (ls) (.inl v :: st)) : vx_J own cc nL ret ini d mc ms Post ad kc ks N Λ μ (pc) (ls) (.inl i :: vx_r (1200 + j) :: st) := by
  intro p l e s m args below meth c D dA A H locs LS hC hS hA hK hP hD hX hl
  exact va_ti hC.1 hC.2.1 (hX.2.1 j hj).2 hS hi (v := .int v) (by show Value.int _ = Value.int _; rw [hv]) hd (k p l e s m args below meth c D dA A H locs LS hC hS hA hK hP hD hX hl)
theorem vx_alenX {j : Nat} (hd : decode cc pc = .ok (.arraylength, 1)) (hj : j < 3) (k : vx_J own cc nL ret ini d mc ms Post ad kc ks N Λ μ (pc + 1) (ls) (.inl 6 :: st)) : vx_J own cc nL ret ini d mc ms Post ad kc ks N Λ μ (pc) (ls) (vx_r (1200 + j) :: st) := by
  intro p l e s m args below meth c D dA A H locs LS hC hS hA hK hP hD hX hl
  exact va_tlen hC.1 hC.2.1 (hX.2.1 j hj).2 hS (v := 6) rfl hd (k p l e s m args below meth c D dA A H locs LS hC hS hA hK hP hD hX hl)
theorem vx_getsX {j index : Nat} (hd : decode cc pc = .ok (.getstatic index, 3)) (hj : j < 3) (hlk : Cond.fieldLink own index "ThreshRound$Customs" (vx_sn j) "[I" ∈ vx_tbl) (k : vx_J own cc nL ret ini d mc ms Post ad kc ks N Λ μ (pc + 3) (ls) (vx_r (1200 + j) :: st)) : vx_J own cc nL ret ini d mc ms Post ad kc ks N Λ μ (pc) (ls) (st) := by
  intro p l e s m args below meth c D dA A H locs LS hC hS hA hK hP hD hX hl
  exact va_gets hC.1 hC.2.1 (hX.2.1 j hj).1 hS hC.2.2.2.2.1 (hC.2.2.2.2.2.1 _ hlk) (fun _ h9 => h9) hd (k p l e s m args below meth c D dA A H locs LS hC hS hA hK hP hD hX hl)

theorem vx_mmax {index : Nat} {x y : Int32} (hd : decode cc pc = .ok (.invokestatic index, 3)) (hlk : Cond.methodLink own index Lib.Math.max.name ∈ vx_tbl) (hd1 : 1 ≤ d) (hst : st.length ≤ 8) (h1 : kc ≤ mc) (h2 : ks ≤ ms) (k : vx_J own cc nL ret ini d mc ms Post ad kc ks N Λ μ (pc + 3) (ls) (.inl (if x < y then y else x) :: st)) : vx_J own cc nL ret ini d mc ms Post ad kc ks N Λ μ (pc) (ls) (.inl y :: .inl x :: st) := by
  intro p l e s m args below meth c D dA A H locs LS hC hS hA hK hP hD hX hl
  have hs : ((st.map (vx_V ad)).map fun v => v.category).sum ≤ 8 := by
    have e : ((st.map (vx_V ad)).map fun v => v.category) = List.replicate st.length 1 := by
      apply List.ext_getElem?
      intro i
      by_cases hi : i < st.length
      · simp [List.getElem?_replicate, hi, vx_V_cat]
      · simp [List.getElem?_replicate, hi]
    rw [e, List.sum_replicate_nat]
    omega
  exact va_mmax hC.1 hC.2.1 (hC.2.2.1.trans hl.1.symm) hC.2.2.2.2.1 (hC.2.2.2.2.2.1 _ hlk) (hC.2.2.2.2.2.1 (.static Lib.Math.max.name) (vx_w 573 (by decide +kernel) rfl)) (hC.2.2.2.2.2.1 (.initialized "java/lang/Math") (vx_w 59 (by decide +kernel) rfl)) (hC.2.2.2.2.2.1 (.code Lib.Math.max.name Lib.Math.max.code 2 (some .int)) (vx_w 574 (by decide +kernel) rfl)) hd1 (by show _ ≤ 64 * d; omega) h1 h2 hd (k p l e s m args below meth c D dA A H locs LS hC hS hA hK hP hD hX hl)
theorem vx_mmin {index : Nat} {x y : Int32} (hd : decode cc pc = .ok (.invokestatic index, 3)) (hlk : Cond.methodLink own index Lib.Math.min.name ∈ vx_tbl) (hd1 : 1 ≤ d) (hst : st.length ≤ 8) (h1 : kc ≤ mc) (h2 : ks ≤ ms) (k : vx_J own cc nL ret ini d mc ms Post ad kc ks N Λ μ (pc + 3) (ls) (.inl (if y < x then y else x) :: st)) : vx_J own cc nL ret ini d mc ms Post ad kc ks N Λ μ (pc) (ls) (.inl y :: .inl x :: st) := by
  intro p l e s m args below meth c D dA A H locs LS hC hS hA hK hP hD hX hl
  have hs : ((st.map (vx_V ad)).map fun v => v.category).sum ≤ 8 := by
    have e : ((st.map (vx_V ad)).map fun v => v.category) = List.replicate st.length 1 := by
      apply List.ext_getElem?
      intro i
      by_cases hi : i < st.length
      · simp [List.getElem?_replicate, hi, vx_V_cat]
      · simp [List.getElem?_replicate, hi]
    rw [e, List.sum_replicate_nat]
    omega
  exact va_mmin hC.1 hC.2.1 (hC.2.2.1.trans hl.1.symm) hC.2.2.2.2.1 (hC.2.2.2.2.2.1 _ hlk) (hC.2.2.2.2.2.1 (.static Lib.Math.min.name) (vx_w 490 (by decide +kernel) rfl)) (hC.2.2.2.2.2.1 (.initialized "java/lang/Math") (vx_w 59 (by decide +kernel) rfl)) (hC.2.2.2.2.2.1 (.code Lib.Math.min.name Lib.Math.min.code 2 (some .int)) (vx_w 491 (by decide +kernel) rfl)) hd1 (by show _ ≤ 64 * d; omega) h1 h2 hd (k p l e s m args below meth c D dA A H locs LS hC hS hA hK hP hD hX hl)
end
end
section
theorem wd_0 : Cond.selects "ThreshRound$Customs" ⟨"ThreshRound$Customs", "forgetTold", "()V"⟩ ⟨"ThreshRound$Customs", "forgetTold", "()V"⟩ ∈ vx_tbl := vx_w 0 (by decide +kernel) rfl
theorem wd_1 : Cond.selects "ThreshRound$Customs" ⟨"ThreshRound$Customs", "putInForce", "()V"⟩ ⟨"ThreshRound$Customs", "putInForce", "()V"⟩ ∈ vx_tbl := vx_w 1 (by decide +kernel) rfl
theorem wd_2 : Cond.selects "ThreshRound$Search" ⟨"ThreshRound$Search", "setWaits", "(IZ)V"⟩ ⟨"ThreshRound$Search", "setWaits", "(IZ)V"⟩ ∈ vx_tbl := vx_w 2 (by decide +kernel) rfl
theorem wd_3 : Cond.selects "ThreshRound$Customs" ⟨"ThreshRound$Customs", "readLine", "(LThreshRound$Tape;)Z"⟩ ⟨"ThreshRound$Customs", "readLine", "(LThreshRound$Tape;)Z"⟩ ∈ vx_tbl := vx_w 3 (by decide +kernel) rfl
theorem wd_4 : Cond.selects "ThreshRound$Customs" ⟨"ThreshRound$Customs", "fails", "(II)Z"⟩ ⟨"ThreshRound$Customs", "fails", "(II)Z"⟩ ∈ vx_tbl := vx_w 4 (by decide +kernel) rfl
theorem wd_5 : Cond.selects "ThreshRound" ⟨"ThreshRound", "isPlace", "(I)Z"⟩ ⟨"ThreshRound", "isPlace", "(I)Z"⟩ ∈ vx_tbl := vx_w 5 (by decide +kernel) rfl
theorem wd_6 : Cond.selects "ThreshRound" ⟨"ThreshRound", "prepareSearch", "()V"⟩ ⟨"ThreshRound", "prepareSearch", "()V"⟩ ∈ vx_tbl := vx_w 6 (by decide +kernel) rfl
theorem wd_7 : Cond.selects "ThreshRound" ⟨"ThreshRound", "speedOf", "(I)I"⟩ ⟨"ThreshRound", "speedOf", "(I)I"⟩ ∈ vx_tbl := vx_w 7 (by decide +kernel) rfl
theorem wd_8 : Cond.selects "ThreshRound$Debts" ⟨"ThreshRound$Debts", "nextLender", "(II)I"⟩ ⟨"ThreshRound$Debts", "nextLender", "(II)I"⟩ ∈ vx_tbl := vx_w 8 (by decide +kernel) rfl
theorem wd_9 : Cond.selects "ThreshRound$Search" ⟨"ThreshRound$Search", "isWaiting", "(I)Z"⟩ ⟨"ThreshRound$Search", "isWaiting", "(I)Z"⟩ ∈ vx_tbl := vx_w 9 (by decide +kernel) rfl
theorem wd_10 : Cond.selects "ThreshRound$Search" ⟨"ThreshRound$Search", "keepAsBest", "(II)V"⟩ ⟨"ThreshRound$Search", "keepAsBest", "(II)V"⟩ ∈ vx_tbl := vx_w 10 (by decide +kernel) rfl
theorem wd_11 : Cond.selects "ThreshRound$Search" ⟨"ThreshRound$Search", "mayCome", "(II)Z"⟩ ⟨"ThreshRound$Search", "mayCome", "(II)Z"⟩ ∈ vx_tbl := vx_w 11 (by decide +kernel) rfl
theorem wd_12 : Cond.selects "ThreshRound$Search" ⟨"ThreshRound$Search", "beatsBest", "(II)Z"⟩ ⟨"ThreshRound$Search", "beatsBest", "(II)Z"⟩ ∈ vx_tbl := vx_w 12 (by decide +kernel) rfl
theorem wd_13 : Cond.selects "ThreshRound" ⟨"ThreshRound", "setOutFor", "(I)V"⟩ ⟨"ThreshRound", "setOutFor", "(I)V"⟩ ∈ vx_tbl := vx_w 13 (by decide +kernel) rfl
theorem wd_14 : Cond.selects "ThreshRound" ⟨"ThreshRound", "passDay", "()V"⟩ ⟨"ThreshRound", "passDay", "()V"⟩ ∈ vx_tbl := vx_w 14 (by decide +kernel) rfl
theorem wd_15 : Cond.selects "ThreshRound" ⟨"ThreshRound", "isAheadOfFrom", "()Z"⟩ ⟨"ThreshRound", "isAheadOfFrom", "()Z"⟩ ∈ vx_tbl := vx_w 15 (by decide +kernel) rfl
theorem wd_16 : Cond.selects "ThreshRound" ⟨"ThreshRound", "thresh", "(I)V"⟩ ⟨"ThreshRound", "thresh", "(I)V"⟩ ∈ vx_tbl := vx_w 16 (by decide +kernel) rfl
theorem wd_17 : Cond.selects "ThreshRound" ⟨"ThreshRound", "goOn", "()V"⟩ ⟨"ThreshRound", "goOn", "()V"⟩ ∈ vx_tbl := vx_w 17 (by decide +kernel) rfl
theorem wd_18 : Cond.selects "ThreshRound" ⟨"ThreshRound", "sacksOf", "(I)I"⟩ ⟨"ThreshRound", "sacksOf", "(I)I"⟩ ∈ vx_tbl := vx_w 18 (by decide +kernel) rfl
theorem wd_19 : Cond.selects "ThreshRound" ⟨"ThreshRound", "priceOf", "(I)I"⟩ ⟨"ThreshRound", "priceOf", "(I)I"⟩ ∈ vx_tbl := vx_w 19 (by decide +kernel) rfl
theorem wd_20 : Cond.selects "ThreshRound" ⟨"ThreshRound", "gangOf", "(I)I"⟩ ⟨"ThreshRound", "gangOf", "(I)I"⟩ ∈ vx_tbl := vx_w 20 (by decide +kernel) rfl
theorem wd_21 : Cond.selects "ThreshRound" ⟨"ThreshRound", "lossOf", "(I)I"⟩ ⟨"ThreshRound", "lossOf", "(I)I"⟩ ∈ vx_tbl := vx_w 21 (by decide +kernel) rfl
theorem wd_22 : Cond.selects "ThreshRound" ⟨"ThreshRound", "areTwoFarms", "(II)Z"⟩ ⟨"ThreshRound", "areTwoFarms", "(II)Z"⟩ ∈ vx_tbl := vx_w 22 (by decide +kernel) rfl
theorem wd_23 : Cond.selects "ThreshRound" ⟨"ThreshRound", "howItIs", "()I"⟩ ⟨"ThreshRound", "howItIs", "()I"⟩ ∈ vx_tbl := vx_w 23 (by decide +kernel) rfl
theorem wd_24 : Cond.selects "ThreshRoundModel" ⟨"ThreshRoundModel", "next", "()V"⟩ ⟨"ThreshRoundModel", "next", "()V"⟩ ∈ vx_tbl := vx_w 24 (by decide +kernel) rfl
theorem wd_25 : Cond.selects "ThreshRoundModel" ⟨"ThreshRoundModel", "here", "()I"⟩ ⟨"ThreshRoundModel", "here", "()I"⟩ ∈ vx_tbl := vx_w 25 (by decide +kernel) rfl
theorem wd_26 : Cond.selects "ThreshRoundModel" ⟨"ThreshRoundModel", "wordOf", "()I"⟩ ⟨"ThreshRoundModel", "wordOf", "()I"⟩ ∈ vx_tbl := vx_w 26 (by decide +kernel) rfl
theorem wd_27 : Cond.selects "ThreshRoundModel" ⟨"ThreshRoundModel", "line", "()V"⟩ ⟨"ThreshRoundModel", "line", "()V"⟩ ∈ vx_tbl := vx_w 27 (by decide +kernel) rfl
theorem wd_28 : Cond.selects "ThreshRoundModel" ⟨"ThreshRoundModel", "wrong", "(I)V"⟩ ⟨"ThreshRoundModel", "wrong", "(I)V"⟩ ∈ vx_tbl := vx_w 28 (by decide +kernel) rfl
theorem wd_29 : Cond.selects "ThreshRoundModel" ⟨"ThreshRoundModel", "isFarm", "(I)Z"⟩ ⟨"ThreshRoundModel", "isFarm", "(I)Z"⟩ ∈ vx_tbl := vx_w 29 (by decide +kernel) rfl
theorem wd_30 : Cond.selects "ThreshRoundModel" ⟨"ThreshRoundModel", "firstOrder", "()V"⟩ ⟨"ThreshRoundModel", "firstOrder", "()V"⟩ ∈ vx_tbl := vx_w 30 (by decide +kernel) rfl
theorem wd_31 : Cond.selects "ThreshRoundModel" ⟨"ThreshRoundModel", "isDone", "(I)Z"⟩ ⟨"ThreshRoundModel", "isDone", "(I)Z"⟩ ∈ vx_tbl := vx_w 31 (by decide +kernel) rfl
theorem wd_32 : Cond.selects "ThreshRoundModel" ⟨"ThreshRoundModel", "speedOf", "(I)I"⟩ ⟨"ThreshRoundModel", "speedOf", "(I)I"⟩ ∈ vx_tbl := vx_w 32 (by decide +kernel) rfl
theorem wd_33 : Cond.selects "ThreshRoundModel" ⟨"ThreshRoundModel", "gangs", "(I)V"⟩ ⟨"ThreshRoundModel", "gangs", "(I)V"⟩ ∈ vx_tbl := vx_w 33 (by decide +kernel) rfl
theorem wd_34 : Cond.selects "ThreshRoundModel" ⟨"ThreshRoundModel", "goes", "()Z"⟩ ⟨"ThreshRoundModel", "goes", "()Z"⟩ ∈ vx_tbl := vx_w 34 (by decide +kernel) rfl
theorem wd_35 : Cond.selects "ThreshRoundModel" ⟨"ThreshRoundModel", "lossOf", "(II)I"⟩ ⟨"ThreshRoundModel", "lossOf", "(II)I"⟩ ∈ vx_tbl := vx_w 35 (by decide +kernel) rfl
theorem wd_36 : Cond.selects "ThreshRoundModel" ⟨"ThreshRoundModel", "goesOn", "()Z"⟩ ⟨"ThreshRoundModel", "goesOn", "()Z"⟩ ∈ vx_tbl := vx_w 36 (by decide +kernel) rfl
theorem wd_37 : Cond.selects "ThreshRoundModel" ⟨"ThreshRoundModel", "swaps", "(II)V"⟩ ⟨"ThreshRoundModel", "swaps", "(II)V"⟩ ∈ vx_tbl := vx_w 37 (by decide +kernel) rfl
theorem wd_38 : Cond.selects "ThreshRoundModel" ⟨"ThreshRoundModel", "comes", "()V"⟩ ⟨"ThreshRoundModel", "comes", "()V"⟩ ∈ vx_tbl := vx_w 38 (by decide +kernel) rfl
theorem wd_39 : Cond.selects "ThreshRoundModel" ⟨"ThreshRoundModel", "setsOut", "()Z"⟩ ⟨"ThreshRoundModel", "setsOut", "()Z"⟩ ∈ vx_tbl := vx_w 39 (by decide +kernel) rfl
theorem wd_40 : Cond.selects "ThreshRoundModel" ⟨"ThreshRoundModel", "oneDay", "()V"⟩ ⟨"ThreshRoundModel", "oneDay", "()V"⟩ ∈ vx_tbl := vx_w 40 (by decide +kernel) rfl
theorem wd_41 : Cond.selects "ThreshRoundModel" ⟨"ThreshRoundModel", "isAtWork", "()Z"⟩ ⟨"ThreshRoundModel", "isAtWork", "()Z"⟩ ∈ vx_tbl := vx_w 41 (by decide +kernel) rfl
theorem wd_42 : Cond.selects "ThreshRoundModel" ⟨"ThreshRoundModel", "threshes", "(I)V"⟩ ⟨"ThreshRoundModel", "threshes", "(I)V"⟩ ∈ vx_tbl := vx_w 42 (by decide +kernel) rfl
theorem wd_43 : Cond.selects "ThreshRoundModel" ⟨"ThreshRoundModel", "sacksOf", "(I)I"⟩ ⟨"ThreshRoundModel", "sacksOf", "(I)I"⟩ ∈ vx_tbl := vx_w 43 (by decide +kernel) rfl
theorem wd_44 : Cond.initialized "ThreshRoundLaw" ∈ vx_tbl := vx_w 44 (by decide +kernel) rfl
theorem wd_45 : Cond.initialized "ThreshRound" ∈ vx_tbl := vx_w 45 (by decide +kernel) rfl
theorem wd_46 : Cond.initialized "ThreshRound$Tape" ∈ vx_tbl := vx_w 46 (by decide +kernel) rfl
theorem wd_47 : Cond.initialized "ThreshRound$Customs" ∈ vx_tbl := vx_w 47 (by decide +kernel) rfl
theorem wd_48 : Cond.initialized "ThreshRound$Farms" ∈ vx_tbl := vx_w 48 (by decide +kernel) rfl
theorem wd_49 : Cond.initialized "ThreshRound$Roads" ∈ vx_tbl := vx_w 49 (by decide +kernel) rfl
theorem wd_50 : Cond.initialized "ThreshRound$Debts" ∈ vx_tbl := vx_w 50 (by decide +kernel) rfl
theorem wd_51 : Cond.initialized "ThreshRound$Search" ∈ vx_tbl := vx_w 51 (by decide +kernel) rfl
theorem wd_52 : Cond.initialized "ThreshRound$Plan" ∈ vx_tbl := vx_w 52 (by decide +kernel) rfl
theorem wd_53 : Cond.initialized "ThreshRound$Engine" ∈ vx_tbl := vx_w 53 (by decide +kernel) rfl
theorem wd_54 : Cond.initialized "ThreshRoundModel" ∈ vx_tbl := vx_w 54 (by decide +kernel) rfl
theorem wd_55 : Cond.initialized "java/lang/String" ∈ vx_tbl := vx_w 55 (by decide +kernel) rfl
theorem wd_56 : Cond.initialized "java/lang/StringLatin1" ∈ vx_tbl := vx_w 56 (by decide +kernel) rfl
theorem wd_57 : Cond.initialized "jdk/internal/util/Preconditions" ∈ vx_tbl := vx_w 57 (by decide +kernel) rfl
theorem wd_58 : Cond.initialized "java/lang/StringUTF16" ∈ vx_tbl := vx_w 58 (by decide +kernel) rfl
theorem wd_59 : Cond.initialized "java/lang/Math" ∈ vx_tbl := vx_w 59 (by decide +kernel) rfl
theorem wd_60 : Cond.classLink "ThreshRoundLaw" 7 "ThreshRound" ∈ vx_tbl := vx_w 60 (by decide +kernel) rfl
theorem wd_61 : Cond.instantiable "ThreshRound" 8 ∈ vx_tbl := vx_w 61 (by decide +kernel) rfl
theorem wd_62 : Cond.methodLink "ThreshRoundLaw" 9 ⟨"ThreshRound", "<init>", "()V"⟩ ∈ vx_tbl := vx_w 62 (by decide +kernel) rfl
theorem wd_63 : Cond.instanceMethod ⟨"ThreshRound", "<init>", "()V"⟩ ∈ vx_tbl := vx_w 63 (by decide +kernel) rfl
theorem wd_64 : Cond.code ⟨"ThreshRound", "<init>", "()V"⟩ prog_1_method_1_code 1 (Option.none : Option Jvm.ClassFile.FieldType) ∈ vx_tbl := vx_w 64 (by decide +kernel) rfl
theorem wd_65 : Cond.methodLink "ThreshRound" 3 ⟨"java/lang/Object", "<init>", "()V"⟩ ∈ vx_tbl := vx_w 65 (by decide +kernel) rfl
theorem wd_66 : Cond.instanceMethod ⟨"java/lang/Object", "<init>", "()V"⟩ ∈ vx_tbl := vx_w 66 (by decide +kernel) rfl
theorem wd_67 : Cond.code ⟨"java/lang/Object", "<init>", "()V"⟩ object_method_1_code 1 (Option.none : Option Jvm.ClassFile.FieldType) ∈ vx_tbl := vx_w 67 (by decide +kernel) rfl
theorem wd_68 : Cond.classLink "ThreshRound" 9 "ThreshRound$Tape" ∈ vx_tbl := vx_w 68 (by decide +kernel) rfl
theorem wd_69 : Cond.instantiable "ThreshRound$Tape" 4 ∈ vx_tbl := vx_w 69 (by decide +kernel) rfl
theorem wd_70 : Cond.methodLink "ThreshRound" 11 ⟨"ThreshRound$Tape", "<init>", "()V"⟩ ∈ vx_tbl := vx_w 70 (by decide +kernel) rfl
theorem wd_71 : Cond.instanceMethod ⟨"ThreshRound$Tape", "<init>", "()V"⟩ ∈ vx_tbl := vx_w 71 (by decide +kernel) rfl
theorem wd_72 : Cond.code ⟨"ThreshRound$Tape", "<init>", "()V"⟩ prog_9_method_1_code 1 (Option.none : Option Jvm.ClassFile.FieldType) ∈ vx_tbl := vx_w 72 (by decide +kernel) rfl
theorem wd_73 : Cond.methodLink "ThreshRound$Tape" 3 ⟨"java/lang/Object", "<init>", "()V"⟩ ∈ vx_tbl := vx_w 73 (by decide +kernel) rfl
theorem wd_74 : Cond.fieldLink "ThreshRound$Tape" 11 "ThreshRound$Tape" "bytes" "[I" ∈ vx_tbl := vx_w 74 (by decide +kernel) rfl
theorem wd_75 : Cond.fieldLink "ThreshRound$Tape" 15 "ThreshRound$Tape" "length" "I" ∈ vx_tbl := vx_w 75 (by decide +kernel) rfl
theorem wd_76 : Cond.fieldLink "ThreshRound" 73 "ThreshRound$Tape" "length" "I" ∈ vx_tbl := vx_w 76 (by decide +kernel) rfl
theorem wd_77 : Cond.fieldLink "ThreshRound$Tape" 19 "ThreshRound$Tape" "place" "I" ∈ vx_tbl := vx_w 77 (by decide +kernel) rfl
theorem wd_78 : Cond.fieldLink "ThreshRound$Customs" 67 "ThreshRound$Tape" "place" "I" ∈ vx_tbl := vx_w 78 (by decide +kernel) rfl
theorem wd_79 : Cond.fieldLink "ThreshRound$Tape" 22 "ThreshRound$Tape" "end" "I" ∈ vx_tbl := vx_w 79 (by decide +kernel) rfl
theorem wd_89 : Cond.arrayClass Jvm.ClassFile.FieldType.int ∈ vx_tbl := vx_w 89 (by decide +kernel) rfl
theorem wd_90 : Cond.classLink "ThreshRound" 16 "ThreshRound$Customs" ∈ vx_tbl := vx_w 90 (by decide +kernel) rfl
theorem wd_91 : Cond.instantiable "ThreshRound$Customs" 4 ∈ vx_tbl := vx_w 91 (by decide +kernel) rfl
theorem wd_92 : Cond.methodLink "ThreshRound" 18 ⟨"ThreshRound$Customs", "<init>", "()V"⟩ ∈ vx_tbl := vx_w 92 (by decide +kernel) rfl
theorem wd_93 : Cond.instanceMethod ⟨"ThreshRound$Customs", "<init>", "()V"⟩ ∈ vx_tbl := vx_w 93 (by decide +kernel) rfl
theorem wd_94 : Cond.code ⟨"ThreshRound$Customs", "<init>", "()V"⟩ prog_2_method_1_code 1 (Option.none : Option Jvm.ClassFile.FieldType) ∈ vx_tbl := vx_w 94 (by decide +kernel) rfl
theorem wd_95 : Cond.methodLink "ThreshRound$Customs" 3 ⟨"java/lang/Object", "<init>", "()V"⟩ ∈ vx_tbl := vx_w 95 (by decide +kernel) rfl
theorem wd_96 : Cond.methodLink "ThreshRound$Customs" 18 ⟨"ThreshRound$Customs", "forgetTold", "()V"⟩ ∈ vx_tbl := vx_w 96 (by decide +kernel) rfl
theorem wd_98 : Cond.instanceMethod ⟨"ThreshRound$Customs", "forgetTold", "()V"⟩ ∈ vx_tbl := vx_w 98 (by decide +kernel) rfl
theorem wd_99 : Cond.code ⟨"ThreshRound$Customs", "forgetTold", "()V"⟩ prog_2_method_4_code 2 (Option.none : Option Jvm.ClassFile.FieldType) ∈ vx_tbl := vx_w 99 (by decide +kernel) rfl
theorem wd_101 : Cond.static ⟨"ThreshRound", "put", "([III)V"⟩ ∈ vx_tbl := vx_w 101 (by decide +kernel) rfl
theorem wd_102 : Cond.code ⟨"ThreshRound", "put", "([III)V"⟩ prog_1_method_33_code 3 (Option.none : Option Jvm.ClassFile.FieldType) ∈ vx_tbl := vx_w 102 (by decide +kernel) rfl
theorem wd_103 : Cond.methodLink "ThreshRound$Customs" 21 ⟨"ThreshRound$Customs", "putInForce", "()V"⟩ ∈ vx_tbl := vx_w 103 (by decide +kernel) rfl
theorem wd_105 : Cond.instanceMethod ⟨"ThreshRound$Customs", "putInForce", "()V"⟩ ∈ vx_tbl := vx_w 105 (by decide +kernel) rfl
theorem wd_106 : Cond.code ⟨"ThreshRound$Customs", "putInForce", "()V"⟩ prog_2_method_5_code 3 (Option.none : Option Jvm.ClassFile.FieldType) ∈ vx_tbl := vx_w 106 (by decide +kernel) rfl
theorem wd_108 : Cond.static ⟨"ThreshRound", "at", "([II)I"⟩ ∈ vx_tbl := vx_w 108 (by decide +kernel) rfl
theorem wd_109 : Cond.code ⟨"ThreshRound", "at", "([II)I"⟩ prog_1_method_32_code 2 (Option.some Jvm.ClassFile.FieldType.int) ∈ vx_tbl := vx_w 109 (by decide +kernel) rfl
theorem wd_110 : Cond.fieldLink "ThreshRound$Customs" 56 "ThreshRound$Customs" "USUAL" "[I" ∈ vx_tbl := vx_w 110 (by decide +kernel) rfl
theorem wd_112 : Cond.fieldLink "ThreshRound$Customs" 11 "ThreshRound$Customs" "inForce" "[I" ∈ vx_tbl := vx_w 112 (by decide +kernel) rfl
theorem wd_113 : Cond.fieldLink "ThreshRound$Customs" 15 "ThreshRound$Customs" "told" "[I" ∈ vx_tbl := vx_w 113 (by decide +kernel) rfl
theorem wd_114 : Cond.fieldLink "ThreshRound$Customs" 45 "ThreshRound$Customs" "fault" "I" ∈ vx_tbl := vx_w 114 (by decide +kernel) rfl
theorem wd_115 : Cond.fieldLink "ThreshRound" 81 "ThreshRound$Customs" "fault" "I" ∈ vx_tbl := vx_w 115 (by decide +kernel) rfl
theorem wd_116 : Cond.fieldLink "ThreshRound$Customs" 49 "ThreshRound$Customs" "faultPlace" "I" ∈ vx_tbl := vx_w 116 (by decide +kernel) rfl
theorem wd_117 : Cond.fieldLink "ThreshRound" 84 "ThreshRound$Customs" "faultPlace" "I" ∈ vx_tbl := vx_w 117 (by decide +kernel) rfl
theorem wd_127 : Cond.classLink "ThreshRound" 23 "ThreshRound$Farms" ∈ vx_tbl := vx_w 127 (by decide +kernel) rfl
theorem wd_128 : Cond.instantiable "ThreshRound$Farms" 12 ∈ vx_tbl := vx_w 128 (by decide +kernel) rfl
theorem wd_129 : Cond.methodLink "ThreshRound" 25 ⟨"ThreshRound$Farms", "<init>", "()V"⟩ ∈ vx_tbl := vx_w 129 (by decide +kernel) rfl
theorem wd_130 : Cond.instanceMethod ⟨"ThreshRound$Farms", "<init>", "()V"⟩ ∈ vx_tbl := vx_w 130 (by decide +kernel) rfl
theorem wd_131 : Cond.code ⟨"ThreshRound$Farms", "<init>", "()V"⟩ prog_5_method_1_code 1 (Option.none : Option Jvm.ClassFile.FieldType) ∈ vx_tbl := vx_w 131 (by decide +kernel) rfl
theorem wd_132 : Cond.methodLink "ThreshRound$Farms" 3 ⟨"java/lang/Object", "<init>", "()V"⟩ ∈ vx_tbl := vx_w 132 (by decide +kernel) rfl
theorem wd_133 : Cond.fieldLink "ThreshRound$Farms" 9 "ThreshRound$Farms" "count" "I" ∈ vx_tbl := vx_w 133 (by decide +kernel) rfl
theorem wd_134 : Cond.fieldLink "ThreshRound$Debts" 39 "ThreshRound$Farms" "count" "I" ∈ vx_tbl := vx_w 134 (by decide +kernel) rfl
theorem wd_135 : Cond.fieldLink "ThreshRound" 91 "ThreshRound$Farms" "count" "I" ∈ vx_tbl := vx_w 135 (by decide +kernel) rfl
theorem wd_136 : Cond.fieldLink "ThreshRound$Farms" 15 "ThreshRound$Farms" "stack" "[I" ∈ vx_tbl := vx_w 136 (by decide +kernel) rfl
theorem wd_137 : Cond.fieldLink "ThreshRound" 98 "ThreshRound$Farms" "stack" "[I" ∈ vx_tbl := vx_w 137 (by decide +kernel) rfl
theorem wd_138 : Cond.fieldLink "ThreshRound$Farms" 19 "ThreshRound$Farms" "left" "[I" ∈ vx_tbl := vx_w 138 (by decide +kernel) rfl
theorem wd_139 : Cond.fieldLink "ThreshRound" 106 "ThreshRound$Farms" "left" "[I" ∈ vx_tbl := vx_w 139 (by decide +kernel) rfl
theorem wd_140 : Cond.fieldLink "ThreshRound$Farms" 22 "ThreshRound$Farms" "damp" "[I" ∈ vx_tbl := vx_w 140 (by decide +kernel) rfl
theorem wd_141 : Cond.fieldLink "ThreshRound" 109 "ThreshRound$Farms" "damp" "[I" ∈ vx_tbl := vx_w 141 (by decide +kernel) rfl
theorem wd_142 : Cond.fieldLink "ThreshRound$Farms" 25 "ThreshRound$Farms" "own" "[I" ∈ vx_tbl := vx_w 142 (by decide +kernel) rfl
theorem wd_143 : Cond.fieldLink "ThreshRound$Debts" 24 "ThreshRound$Farms" "own" "[I" ∈ vx_tbl := vx_w 143 (by decide +kernel) rfl
theorem wd_144 : Cond.fieldLink "ThreshRound" 112 "ThreshRound$Farms" "own" "[I" ∈ vx_tbl := vx_w 144 (by decide +kernel) rfl
theorem wd_145 : Cond.fieldLink "ThreshRound$Farms" 28 "ThreshRound$Farms" "lends" "[I" ∈ vx_tbl := vx_w 145 (by decide +kernel) rfl
theorem wd_146 : Cond.fieldLink "ThreshRound$Debts" 46 "ThreshRound$Farms" "lends" "[I" ∈ vx_tbl := vx_w 146 (by decide +kernel) rfl
theorem wd_147 : Cond.fieldLink "ThreshRound" 115 "ThreshRound$Farms" "lends" "[I" ∈ vx_tbl := vx_w 147 (by decide +kernel) rfl
theorem wd_148 : Cond.fieldLink "ThreshRound$Farms" 31 "ThreshRound$Farms" "from" "[I" ∈ vx_tbl := vx_w 148 (by decide +kernel) rfl
theorem wd_149 : Cond.fieldLink "ThreshRound" 118 "ThreshRound$Farms" "from" "[I" ∈ vx_tbl := vx_w 149 (by decide +kernel) rfl
theorem wd_150 : Cond.fieldLink "ThreshRound$Farms" 34 "ThreshRound$Farms" "to" "[I" ∈ vx_tbl := vx_w 150 (by decide +kernel) rfl
theorem wd_151 : Cond.fieldLink "ThreshRound" 121 "ThreshRound$Farms" "to" "[I" ∈ vx_tbl := vx_w 151 (by decide +kernel) rfl
theorem wd_152 : Cond.fieldLink "ThreshRound$Farms" 37 "ThreshRound$Farms" "days" "[I" ∈ vx_tbl := vx_w 152 (by decide +kernel) rfl
theorem wd_153 : Cond.fieldLink "ThreshRound" 216 "ThreshRound$Farms" "days" "[I" ∈ vx_tbl := vx_w 153 (by decide +kernel) rfl
theorem wd_154 : Cond.fieldLink "ThreshRound$Farms" 40 "ThreshRound$Farms" "doneOn" "[I" ∈ vx_tbl := vx_w 154 (by decide +kernel) rfl
theorem wd_155 : Cond.fieldLink "ThreshRound" 218 "ThreshRound$Farms" "doneOn" "[I" ∈ vx_tbl := vx_w 155 (by decide +kernel) rfl
theorem wd_156 : Cond.fieldLink "ThreshRound$Farms" 43 "ThreshRound$Farms" "how" "[I" ∈ vx_tbl := vx_w 156 (by decide +kernel) rfl
theorem wd_157 : Cond.fieldLink "ThreshRound" 137 "ThreshRound$Farms" "how" "[I" ∈ vx_tbl := vx_w 157 (by decide +kernel) rfl
theorem wd_158 : Cond.fieldLink "ThreshRound$Farms" 46 "ThreshRound$Farms" "coins" "[I" ∈ vx_tbl := vx_w 158 (by decide +kernel) rfl
theorem wd_159 : Cond.fieldLink "ThreshRound" 140 "ThreshRound$Farms" "coins" "[I" ∈ vx_tbl := vx_w 159 (by decide +kernel) rfl
theorem wd_185 : Cond.classLink "ThreshRound" 30 "ThreshRound$Roads" ∈ vx_tbl := vx_w 185 (by decide +kernel) rfl
theorem wd_186 : Cond.instantiable "ThreshRound$Roads" 1 ∈ vx_tbl := vx_w 186 (by decide +kernel) rfl
theorem wd_187 : Cond.methodLink "ThreshRound" 32 ⟨"ThreshRound$Roads", "<init>", "()V"⟩ ∈ vx_tbl := vx_w 187 (by decide +kernel) rfl
theorem wd_188 : Cond.instanceMethod ⟨"ThreshRound$Roads", "<init>", "()V"⟩ ∈ vx_tbl := vx_w 188 (by decide +kernel) rfl
theorem wd_189 : Cond.code ⟨"ThreshRound$Roads", "<init>", "()V"⟩ prog_7_method_1_code 3 (Option.none : Option Jvm.ClassFile.FieldType) ∈ vx_tbl := vx_w 189 (by decide +kernel) rfl
theorem wd_190 : Cond.methodLink "ThreshRound$Roads" 3 ⟨"java/lang/Object", "<init>", "()V"⟩ ∈ vx_tbl := vx_w 190 (by decide +kernel) rfl
theorem wd_191 : Cond.classLink "ThreshRound$Roads" 9 "[[I" ∈ vx_tbl := vx_w 191 (by decide +kernel) rfl
theorem wd_194 : Cond.static ⟨"ThreshRound", "put", "([[IIII)V"⟩ ∈ vx_tbl := vx_w 194 (by decide +kernel) rfl
theorem wd_195 : Cond.code ⟨"ThreshRound", "put", "([[IIII)V"⟩ prog_1_method_35_code 4 (Option.none : Option Jvm.ClassFile.FieldType) ∈ vx_tbl := vx_w 195 (by decide +kernel) rfl
theorem wd_196 : Cond.fieldLink "ThreshRound$Roads" 11 "ThreshRound$Roads" "days" "[[I" ∈ vx_tbl := vx_w 196 (by decide +kernel) rfl
theorem wd_197 : Cond.fieldLink "ThreshRound" 127 "ThreshRound$Roads" "days" "[[I" ∈ vx_tbl := vx_w 197 (by decide +kernel) rfl
theorem wd_201 : Cond.classLink "ThreshRound" 37 "ThreshRound$Debts" ∈ vx_tbl := vx_w 201 (by decide +kernel) rfl
theorem wd_202 : Cond.instantiable "ThreshRound$Debts" 2 ∈ vx_tbl := vx_w 202 (by decide +kernel) rfl
theorem wd_203 : Cond.methodLink "ThreshRound" 39 ⟨"ThreshRound$Debts", "<init>", "()V"⟩ ∈ vx_tbl := vx_w 203 (by decide +kernel) rfl
theorem wd_204 : Cond.instanceMethod ⟨"ThreshRound$Debts", "<init>", "()V"⟩ ∈ vx_tbl := vx_w 204 (by decide +kernel) rfl
theorem wd_205 : Cond.code ⟨"ThreshRound$Debts", "<init>", "()V"⟩ prog_3_method_1_code 1 (Option.none : Option Jvm.ClassFile.FieldType) ∈ vx_tbl := vx_w 205 (by decide +kernel) rfl
theorem wd_206 : Cond.methodLink "ThreshRound$Debts" 3 ⟨"java/lang/Object", "<init>", "()V"⟩ ∈ vx_tbl := vx_w 206 (by decide +kernel) rfl
theorem wd_207 : Cond.classLink "ThreshRound$Debts" 9 "[[I" ∈ vx_tbl := vx_w 207 (by decide +kernel) rfl
theorem wd_208 : Cond.fieldLink "ThreshRound$Debts" 11 "ThreshRound$Debts" "owed" "[[I" ∈ vx_tbl := vx_w 208 (by decide +kernel) rfl
theorem wd_209 : Cond.fieldLink "ThreshRound" 237 "ThreshRound$Debts" "owed" "[[I" ∈ vx_tbl := vx_w 209 (by decide +kernel) rfl
theorem wd_210 : Cond.fieldLink "ThreshRound$Debts" 16 "ThreshRound$Debts" "given" "[I" ∈ vx_tbl := vx_w 210 (by decide +kernel) rfl
theorem wd_211 : Cond.fieldLink "ThreshRound" 246 "ThreshRound$Debts" "given" "[I" ∈ vx_tbl := vx_w 211 (by decide +kernel) rfl
theorem wd_217 : Cond.classLink "ThreshRound" 44 "ThreshRound$Search" ∈ vx_tbl := vx_w 217 (by decide +kernel) rfl
theorem wd_218 : Cond.instantiable "ThreshRound$Search" 12 ∈ vx_tbl := vx_w 218 (by decide +kernel) rfl
theorem wd_219 : Cond.methodLink "ThreshRound" 46 ⟨"ThreshRound$Search", "<init>", "()V"⟩ ∈ vx_tbl := vx_w 219 (by decide +kernel) rfl
theorem wd_220 : Cond.instanceMethod ⟨"ThreshRound$Search", "<init>", "()V"⟩ ∈ vx_tbl := vx_w 220 (by decide +kernel) rfl
theorem wd_221 : Cond.code ⟨"ThreshRound$Search", "<init>", "()V"⟩ prog_8_method_1_code 1 (Option.none : Option Jvm.ClassFile.FieldType) ∈ vx_tbl := vx_w 221 (by decide +kernel) rfl
theorem wd_222 : Cond.methodLink "ThreshRound$Search" 3 ⟨"java/lang/Object", "<init>", "()V"⟩ ∈ vx_tbl := vx_w 222 (by decide +kernel) rfl
theorem wd_223 : Cond.methodLink "ThreshRound$Search" 34 ⟨"ThreshRound$Search", "startAnew", "(I)V"⟩ ∈ vx_tbl := vx_w 223 (by decide +kernel) rfl
theorem wd_224 : Cond.instanceMethod ⟨"ThreshRound$Search", "startAnew", "(I)V"⟩ ∈ vx_tbl := vx_w 224 (by decide +kernel) rfl
theorem wd_225 : Cond.selects "ThreshRound$Search" ⟨"ThreshRound$Search", "startAnew", "(I)V"⟩ ⟨"ThreshRound$Search", "startAnew", "(I)V"⟩ ∈ vx_tbl := vx_w 225 (by decide +kernel) rfl
theorem wd_226 : Cond.code ⟨"ThreshRound$Search", "startAnew", "(I)V"⟩ prog_8_method_2_code 3 (Option.none : Option Jvm.ClassFile.FieldType) ∈ vx_tbl := vx_w 226 (by decide +kernel) rfl
theorem wd_227 : Cond.constant "ThreshRound$Search" 50 (2147483647 : Int32) ∈ vx_tbl := vx_w 227 (by decide +kernel) rfl
theorem wd_228 : Cond.methodLink "ThreshRound$Search" 57 ⟨"ThreshRound$Search", "setWaits", "(IZ)V"⟩ ∈ vx_tbl := vx_w 228 (by decide +kernel) rfl
theorem wd_230 : Cond.instanceMethod ⟨"ThreshRound$Search", "setWaits", "(IZ)V"⟩ ∈ vx_tbl := vx_w 230 (by decide +kernel) rfl
theorem wd_231 : Cond.code ⟨"ThreshRound$Search", "setWaits", "(IZ)V"⟩ prog_8_method_14_code 3 (Option.none : Option Jvm.ClassFile.FieldType) ∈ vx_tbl := vx_w 231 (by decide +kernel) rfl
theorem wd_232 : Cond.fieldLink "ThreshRound$Search" 38 "ThreshRound$Search" "late" "I" ∈ vx_tbl := vx_w 232 (by decide +kernel) rfl
theorem wd_233 : Cond.fieldLink "ThreshRound$Search" 9 "ThreshRound$Search" "need" "[I" ∈ vx_tbl := vx_w 233 (by decide +kernel) rfl
theorem wd_234 : Cond.fieldLink "ThreshRound$Search" 15 "ThreshRound$Search" "from" "[I" ∈ vx_tbl := vx_w 234 (by decide +kernel) rfl
theorem wd_235 : Cond.fieldLink "ThreshRound$Search" 18 "ThreshRound$Search" "to" "[I" ∈ vx_tbl := vx_w 235 (by decide +kernel) rfl
theorem wd_236 : Cond.fieldLink "ThreshRound$Search" 21 "ThreshRound$Search" "waits" "[Z" ∈ vx_tbl := vx_w 236 (by decide +kernel) rfl
theorem wd_237 : Cond.fieldLink "ThreshRound$Search" 25 "ThreshRound$Search" "forced" "[I" ∈ vx_tbl := vx_w 237 (by decide +kernel) rfl
theorem wd_238 : Cond.fieldLink "ThreshRound$Search" 45 "ThreshRound$Search" "forcedCount" "I" ∈ vx_tbl := vx_w 238 (by decide +kernel) rfl
theorem wd_239 : Cond.fieldLink "ThreshRound$Search" 28 "ThreshRound$Search" "order" "[I" ∈ vx_tbl := vx_w 239 (by decide +kernel) rfl
theorem wd_240 : Cond.fieldLink "ThreshRound$Search" 31 "ThreshRound$Search" "best" "[I" ∈ vx_tbl := vx_w 240 (by decide +kernel) rfl
theorem wd_241 : Cond.fieldLink "ThreshRound$Plan" 49 "ThreshRound$Search" "best" "[I" ∈ vx_tbl := vx_w 241 (by decide +kernel) rfl
theorem wd_242 : Cond.fieldLink "ThreshRound$Plan" 38 "ThreshRound$Search" "toGo" "I" ∈ vx_tbl := vx_w 242 (by decide +kernel) rfl
theorem wd_243 : Cond.fieldLink "ThreshRound$Search" 42 "ThreshRound$Search" "toGo" "I" ∈ vx_tbl := vx_w 243 (by decide +kernel) rfl
theorem wd_244 : Cond.fieldLink "ThreshRound$Search" 51 "ThreshRound$Search" "bestLoss" "I" ∈ vx_tbl := vx_w 244 (by decide +kernel) rfl
theorem wd_245 : Cond.fieldLink "ThreshRound" 167 "ThreshRound$Search" "bestLoss" "I" ∈ vx_tbl := vx_w 245 (by decide +kernel) rfl
theorem wd_246 : Cond.fieldLink "ThreshRound$Search" 54 "ThreshRound$Search" "bestEnd" "I" ∈ vx_tbl := vx_w 246 (by decide +kernel) rfl
theorem wd_272 : Cond.arrayClass Jvm.ClassFile.FieldType.boolean ∈ vx_tbl := vx_w 272 (by decide +kernel) rfl
theorem wd_273 : Cond.classLink "ThreshRound" 51 "ThreshRound$Plan" ∈ vx_tbl := vx_w 273 (by decide +kernel) rfl
theorem wd_274 : Cond.instantiable "ThreshRound$Plan" 8 ∈ vx_tbl := vx_w 274 (by decide +kernel) rfl
theorem wd_275 : Cond.methodLink "ThreshRound" 53 ⟨"ThreshRound$Plan", "<init>", "()V"⟩ ∈ vx_tbl := vx_w 275 (by decide +kernel) rfl
theorem wd_276 : Cond.instanceMethod ⟨"ThreshRound$Plan", "<init>", "()V"⟩ ∈ vx_tbl := vx_w 276 (by decide +kernel) rfl
theorem wd_277 : Cond.code ⟨"ThreshRound$Plan", "<init>", "()V"⟩ prog_6_method_1_code 1 (Option.none : Option Jvm.ClassFile.FieldType) ∈ vx_tbl := vx_w 277 (by decide +kernel) rfl
theorem wd_278 : Cond.methodLink "ThreshRound$Plan" 3 ⟨"java/lang/Object", "<init>", "()V"⟩ ∈ vx_tbl := vx_w 278 (by decide +kernel) rfl
theorem wd_279 : Cond.fieldLink "ThreshRound$Plan" 9 "ThreshRound$Plan" "length" "I" ∈ vx_tbl := vx_w 279 (by decide +kernel) rfl
theorem wd_280 : Cond.fieldLink "ThreshRound" 170 "ThreshRound$Plan" "length" "I" ∈ vx_tbl := vx_w 280 (by decide +kernel) rfl
theorem wd_281 : Cond.fieldLink "ThreshRound$Plan" 15 "ThreshRound$Plan" "madeOn" "I" ∈ vx_tbl := vx_w 281 (by decide +kernel) rfl
theorem wd_282 : Cond.fieldLink "ThreshRound" 193 "ThreshRound$Plan" "madeOn" "I" ∈ vx_tbl := vx_w 282 (by decide +kernel) rfl
theorem wd_283 : Cond.fieldLink "ThreshRound$Plan" 18 "ThreshRound$Plan" "wasSetOut" "Z" ∈ vx_tbl := vx_w 283 (by decide +kernel) rfl
theorem wd_284 : Cond.fieldLink "ThreshRound" 190 "ThreshRound$Plan" "wasSetOut" "Z" ∈ vx_tbl := vx_w 284 (by decide +kernel) rfl
theorem wd_285 : Cond.fieldLink "ThreshRound$Plan" 22 "ThreshRound$Plan" "order" "[I" ∈ vx_tbl := vx_w 285 (by decide +kernel) rfl
theorem wd_286 : Cond.fieldLink "ThreshRound" 171 "ThreshRound$Plan" "order" "[I" ∈ vx_tbl := vx_w 286 (by decide +kernel) rfl
theorem wd_287 : Cond.fieldLink "ThreshRound$Plan" 26 "ThreshRound$Plan" "there" "[I" ∈ vx_tbl := vx_w 287 (by decide +kernel) rfl
theorem wd_288 : Cond.fieldLink "ThreshRound" 178 "ThreshRound$Plan" "there" "[I" ∈ vx_tbl := vx_w 288 (by decide +kernel) rfl
theorem wd_289 : Cond.fieldLink "ThreshRound$Plan" 29 "ThreshRound$Plan" "begin" "[I" ∈ vx_tbl := vx_w 289 (by decide +kernel) rfl
theorem wd_290 : Cond.fieldLink "ThreshRound" 181 "ThreshRound$Plan" "begin" "[I" ∈ vx_tbl := vx_w 290 (by decide +kernel) rfl
theorem wd_291 : Cond.fieldLink "ThreshRound$Plan" 32 "ThreshRound$Plan" "leave" "[I" ∈ vx_tbl := vx_w 291 (by decide +kernel) rfl
theorem wd_292 : Cond.fieldLink "ThreshRound" 184 "ThreshRound$Plan" "leave" "[I" ∈ vx_tbl := vx_w 292 (by decide +kernel) rfl
theorem wd_293 : Cond.fieldLink "ThreshRound$Plan" 35 "ThreshRound$Plan" "loss" "[I" ∈ vx_tbl := vx_w 293 (by decide +kernel) rfl
theorem wd_294 : Cond.fieldLink "ThreshRound" 187 "ThreshRound$Plan" "loss" "[I" ∈ vx_tbl := vx_w 294 (by decide +kernel) rfl
theorem wd_312 : Cond.classLink "ThreshRound" 58 "ThreshRound$Engine" ∈ vx_tbl := vx_w 312 (by decide +kernel) rfl
theorem wd_313 : Cond.instantiable "ThreshRound$Engine" 6 ∈ vx_tbl := vx_w 313 (by decide +kernel) rfl
theorem wd_314 : Cond.methodLink "ThreshRound" 60 ⟨"ThreshRound$Engine", "<init>", "()V"⟩ ∈ vx_tbl := vx_w 314 (by decide +kernel) rfl
theorem wd_315 : Cond.instanceMethod ⟨"ThreshRound$Engine", "<init>", "()V"⟩ ∈ vx_tbl := vx_w 315 (by decide +kernel) rfl
theorem wd_316 : Cond.code ⟨"ThreshRound$Engine", "<init>", "()V"⟩ prog_4_method_1_code 1 (Option.none : Option Jvm.ClassFile.FieldType) ∈ vx_tbl := vx_w 316 (by decide +kernel) rfl
theorem wd_317 : Cond.methodLink "ThreshRound$Engine" 3 ⟨"java/lang/Object", "<init>", "()V"⟩ ∈ vx_tbl := vx_w 317 (by decide +kernel) rfl
theorem wd_318 : Cond.fieldLink "ThreshRound$Engine" 9 "ThreshRound$Engine" "today" "I" ∈ vx_tbl := vx_w 318 (by decide +kernel) rfl
theorem wd_319 : Cond.fieldLink "ThreshRound" 152 "ThreshRound$Engine" "today" "I" ∈ vx_tbl := vx_w 319 (by decide +kernel) rfl
theorem wd_320 : Cond.fieldLink "ThreshRound$Engine" 15 "ThreshRound$Engine" "place" "I" ∈ vx_tbl := vx_w 320 (by decide +kernel) rfl
theorem wd_321 : Cond.fieldLink "ThreshRound" 149 "ThreshRound$Engine" "place" "I" ∈ vx_tbl := vx_w 321 (by decide +kernel) rfl
theorem wd_322 : Cond.fieldLink "ThreshRound$Engine" 18 "ThreshRound$Engine" "onTheWay" "I" ∈ vx_tbl := vx_w 322 (by decide +kernel) rfl
theorem wd_323 : Cond.fieldLink "ThreshRound" 143 "ThreshRound$Engine" "onTheWay" "I" ∈ vx_tbl := vx_w 323 (by decide +kernel) rfl
theorem wd_324 : Cond.fieldLink "ThreshRound$Engine" 21 "ThreshRound$Engine" "broken" "I" ∈ vx_tbl := vx_w 324 (by decide +kernel) rfl
theorem wd_325 : Cond.fieldLink "ThreshRound" 206 "ThreshRound$Engine" "broken" "I" ∈ vx_tbl := vx_w 325 (by decide +kernel) rfl
theorem wd_326 : Cond.fieldLink "ThreshRound$Engine" 24 "ThreshRound$Engine" "going" "Z" ∈ vx_tbl := vx_w 326 (by decide +kernel) rfl
theorem wd_327 : Cond.fieldLink "ThreshRound" 163 "ThreshRound$Engine" "going" "Z" ∈ vx_tbl := vx_w 327 (by decide +kernel) rfl
theorem wd_328 : Cond.fieldLink "ThreshRound$Engine" 28 "ThreshRound$Engine" "step" "I" ∈ vx_tbl := vx_w 328 (by decide +kernel) rfl
theorem wd_329 : Cond.fieldLink "ThreshRound" 200 "ThreshRound$Engine" "step" "I" ∈ vx_tbl := vx_w 329 (by decide +kernel) rfl
theorem wd_343 : Cond.fieldLink "ThreshRound" 12 "ThreshRound" "tape" "LThreshRound$Tape;" ∈ vx_tbl := vx_w 343 (by decide +kernel) rfl
theorem wd_344 : Cond.fieldLink "ThreshRound" 19 "ThreshRound" "rules" "LThreshRound$Customs;" ∈ vx_tbl := vx_w 344 (by decide +kernel) rfl
theorem wd_345 : Cond.fieldLink "ThreshRound" 26 "ThreshRound" "farms" "LThreshRound$Farms;" ∈ vx_tbl := vx_w 345 (by decide +kernel) rfl
theorem wd_346 : Cond.fieldLink "ThreshRound" 33 "ThreshRound" "roads" "LThreshRound$Roads;" ∈ vx_tbl := vx_w 346 (by decide +kernel) rfl
theorem wd_347 : Cond.fieldLink "ThreshRound" 40 "ThreshRound" "debts" "LThreshRound$Debts;" ∈ vx_tbl := vx_w 347 (by decide +kernel) rfl
theorem wd_348 : Cond.fieldLink "ThreshRound" 47 "ThreshRound" "search" "LThreshRound$Search;" ∈ vx_tbl := vx_w 348 (by decide +kernel) rfl
theorem wd_349 : Cond.fieldLink "ThreshRound" 54 "ThreshRound" "atHand" "LThreshRound$Plan;" ∈ vx_tbl := vx_w 349 (by decide +kernel) rfl
theorem wd_350 : Cond.fieldLink "ThreshRound" 61 "ThreshRound" "engine" "LThreshRound$Engine;" ∈ vx_tbl := vx_w 350 (by decide +kernel) rfl
theorem wd_368 : Cond.methodLink "ThreshRoundLaw" 13 ⟨"ThreshRound", "feed", "(IIIII)I"⟩ ∈ vx_tbl := vx_w 368 (by decide +kernel) rfl
theorem wd_369 : Cond.instanceMethod ⟨"ThreshRound", "feed", "(IIIII)I"⟩ ∈ vx_tbl := vx_w 369 (by decide +kernel) rfl
theorem wd_370 : Cond.selects "ThreshRound" ⟨"ThreshRound", "feed", "(IIIII)I"⟩ ⟨"ThreshRound", "feed", "(IIIII)I"⟩ ∈ vx_tbl := vx_w 370 (by decide +kernel) rfl
theorem wd_371 : Cond.code ⟨"ThreshRound", "feed", "(IIIII)I"⟩ prog_1_method_2_code 6 (Option.some Jvm.ClassFile.FieldType.int) ∈ vx_tbl := vx_w 371 (by decide +kernel) rfl
theorem wd_372 : Cond.methodLink "ThreshRound" 65 ⟨"ThreshRound$Tape", "hasRoomFor", "(I)Z"⟩ ∈ vx_tbl := vx_w 372 (by decide +kernel) rfl
theorem wd_373 : Cond.instanceMethod ⟨"ThreshRound$Tape", "hasRoomFor", "(I)Z"⟩ ∈ vx_tbl := vx_w 373 (by decide +kernel) rfl
theorem wd_374 : Cond.selects "ThreshRound$Tape" ⟨"ThreshRound$Tape", "hasRoomFor", "(I)Z"⟩ ⟨"ThreshRound$Tape", "hasRoomFor", "(I)Z"⟩ ∈ vx_tbl := vx_w 374 (by decide +kernel) rfl
theorem wd_375 : Cond.code ⟨"ThreshRound$Tape", "hasRoomFor", "(I)Z"⟩ prog_9_method_2_code 2 (Option.some Jvm.ClassFile.FieldType.boolean) ∈ vx_tbl := vx_w 375 (by decide +kernel) rfl
theorem wd_376 : Cond.methodLink "ThreshRound" 69 ⟨"ThreshRound$Tape", "append", "(I)V"⟩ ∈ vx_tbl := vx_w 376 (by decide +kernel) rfl
theorem wd_377 : Cond.instanceMethod ⟨"ThreshRound$Tape", "append", "(I)V"⟩ ∈ vx_tbl := vx_w 377 (by decide +kernel) rfl
theorem wd_378 : Cond.selects "ThreshRound$Tape" ⟨"ThreshRound$Tape", "append", "(I)V"⟩ ⟨"ThreshRound$Tape", "append", "(I)V"⟩ ∈ vx_tbl := vx_w 378 (by decide +kernel) rfl
theorem wd_379 : Cond.code ⟨"ThreshRound$Tape", "append", "(I)V"⟩ prog_9_method_3_code 3 (Option.none : Option Jvm.ClassFile.FieldType) ∈ vx_tbl := vx_w 379 (by decide +kernel) rfl
theorem wd_381 : Cond.methodLink "ThreshRoundLaw" 18 ⟨"ThreshRound", "customs", "(I)I"⟩ ∈ vx_tbl := vx_w 381 (by decide +kernel) rfl
theorem wd_382 : Cond.instanceMethod ⟨"ThreshRound", "customs", "(I)I"⟩ ∈ vx_tbl := vx_w 382 (by decide +kernel) rfl
theorem wd_383 : Cond.selects "ThreshRound" ⟨"ThreshRound", "customs", "(I)I"⟩ ⟨"ThreshRound", "customs", "(I)I"⟩ ∈ vx_tbl := vx_w 383 (by decide +kernel) rfl
theorem wd_384 : Cond.code ⟨"ThreshRound", "customs", "(I)I"⟩ prog_1_method_3_code 3 (Option.some Jvm.ClassFile.FieldType.int) ∈ vx_tbl := vx_w 384 (by decide +kernel) rfl
theorem wd_385 : Cond.methodLink "ThreshRound" 77 ⟨"ThreshRound$Customs", "read", "(LThreshRound$Tape;I)I"⟩ ∈ vx_tbl := vx_w 385 (by decide +kernel) rfl
theorem wd_386 : Cond.instanceMethod ⟨"ThreshRound$Customs", "read", "(LThreshRound$Tape;I)I"⟩ ∈ vx_tbl := vx_w 386 (by decide +kernel) rfl
theorem wd_387 : Cond.selects "ThreshRound$Customs" ⟨"ThreshRound$Customs", "read", "(LThreshRound$Tape;I)I"⟩ ⟨"ThreshRound$Customs", "read", "(LThreshRound$Tape;I)I"⟩ ∈ vx_tbl := vx_w 387 (by decide +kernel) rfl
theorem wd_388 : Cond.code ⟨"ThreshRound$Customs", "read", "(LThreshRound$Tape;I)I"⟩ prog_2_method_3_code 4 (Option.some Jvm.ClassFile.FieldType.int) ∈ vx_tbl := vx_w 388 (by decide +kernel) rfl
theorem wd_389 : Cond.methodLink "ThreshRound$Customs" 28 ⟨"ThreshRound$Tape", "readFirst", "(I)V"⟩ ∈ vx_tbl := vx_w 389 (by decide +kernel) rfl
theorem wd_390 : Cond.instanceMethod ⟨"ThreshRound$Tape", "readFirst", "(I)V"⟩ ∈ vx_tbl := vx_w 390 (by decide +kernel) rfl
theorem wd_391 : Cond.selects "ThreshRound$Tape" ⟨"ThreshRound$Tape", "readFirst", "(I)V"⟩ ⟨"ThreshRound$Tape", "readFirst", "(I)V"⟩ ∈ vx_tbl := vx_w 391 (by decide +kernel) rfl
theorem wd_392 : Cond.code ⟨"ThreshRound$Tape", "readFirst", "(I)V"⟩ prog_9_method_4_code 2 (Option.none : Option Jvm.ClassFile.FieldType) ∈ vx_tbl := vx_w 392 (by decide +kernel) rfl
theorem wd_393 : Cond.methodLink "ThreshRound$Customs" 34 ⟨"ThreshRound$Tape", "skipBlanks", "()V"⟩ ∈ vx_tbl := vx_w 393 (by decide +kernel) rfl
theorem wd_394 : Cond.instanceMethod ⟨"ThreshRound$Tape", "skipBlanks", "()V"⟩ ∈ vx_tbl := vx_w 394 (by decide +kernel) rfl
theorem wd_395 : Cond.selects "ThreshRound$Tape" ⟨"ThreshRound$Tape", "skipBlanks", "()V"⟩ ⟨"ThreshRound$Tape", "skipBlanks", "()V"⟩ ∈ vx_tbl := vx_w 395 (by decide +kernel) rfl
theorem wd_396 : Cond.code ⟨"ThreshRound$Tape", "skipBlanks", "()V"⟩ prog_9_method_7_code 1 (Option.none : Option Jvm.ClassFile.FieldType) ∈ vx_tbl := vx_w 396 (by decide +kernel) rfl
theorem wd_397 : Cond.methodLink "ThreshRound$Tape" 33 ⟨"ThreshRound$Tape", "byteAt", "(I)I"⟩ ∈ vx_tbl := vx_w 397 (by decide +kernel) rfl
theorem wd_398 : Cond.instanceMethod ⟨"ThreshRound$Tape", "byteAt", "(I)I"⟩ ∈ vx_tbl := vx_w 398 (by decide +kernel) rfl
theorem wd_399 : Cond.selects "ThreshRound$Tape" ⟨"ThreshRound$Tape", "byteAt", "(I)I"⟩ ⟨"ThreshRound$Tape", "byteAt", "(I)I"⟩ ∈ vx_tbl := vx_w 399 (by decide +kernel) rfl
theorem wd_400 : Cond.code ⟨"ThreshRound$Tape", "byteAt", "(I)I"⟩ prog_9_method_6_code 2 (Option.some Jvm.ClassFile.FieldType.int) ∈ vx_tbl := vx_w 400 (by decide +kernel) rfl
theorem wd_402 : Cond.methodLink "ThreshRound$Customs" 37 ⟨"ThreshRound$Tape", "isAtEnd", "()Z"⟩ ∈ vx_tbl := vx_w 402 (by decide +kernel) rfl
theorem wd_403 : Cond.instanceMethod ⟨"ThreshRound$Tape", "isAtEnd", "()Z"⟩ ∈ vx_tbl := vx_w 403 (by decide +kernel) rfl
theorem wd_404 : Cond.selects "ThreshRound$Tape" ⟨"ThreshRound$Tape", "isAtEnd", "()Z"⟩ ⟨"ThreshRound$Tape", "isAtEnd", "()Z"⟩ ∈ vx_tbl := vx_w 404 (by decide +kernel) rfl
theorem wd_405 : Cond.code ⟨"ThreshRound$Tape", "isAtEnd", "()Z"⟩ prog_9_method_5_code 1 (Option.some Jvm.ClassFile.FieldType.boolean) ∈ vx_tbl := vx_w 405 (by decide +kernel) rfl
theorem wd_406 : Cond.methodLink "ThreshRound$Customs" 41 ⟨"ThreshRound$Customs", "readLine", "(LThreshRound$Tape;)Z"⟩ ∈ vx_tbl := vx_w 406 (by decide +kernel) rfl
theorem wd_408 : Cond.instanceMethod ⟨"ThreshRound$Customs", "readLine", "(LThreshRound$Tape;)Z"⟩ ∈ vx_tbl := vx_w 408 (by decide +kernel) rfl
theorem wd_409 : Cond.code ⟨"ThreshRound$Customs", "readLine", "(LThreshRound$Tape;)Z"⟩ prog_2_method_6_code 6 (Option.some Jvm.ClassFile.FieldType.boolean) ∈ vx_tbl := vx_w 409 (by decide +kernel) rfl
theorem wd_410 : Cond.methodLink "ThreshRound$Customs" 59 ⟨"ThreshRound$Tape", "endOfRow", "(CC)I"⟩ ∈ vx_tbl := vx_w 410 (by decide +kernel) rfl
theorem wd_411 : Cond.instanceMethod ⟨"ThreshRound$Tape", "endOfRow", "(CC)I"⟩ ∈ vx_tbl := vx_w 411 (by decide +kernel) rfl
theorem wd_412 : Cond.selects "ThreshRound$Tape" ⟨"ThreshRound$Tape", "endOfRow", "(CC)I"⟩ ⟨"ThreshRound$Tape", "endOfRow", "(CC)I"⟩ ∈ vx_tbl := vx_w 412 (by decide +kernel) rfl
theorem wd_413 : Cond.code ⟨"ThreshRound$Tape", "endOfRow", "(CC)I"⟩ prog_9_method_8_code 4 (Option.some Jvm.ClassFile.FieldType.int) ∈ vx_tbl := vx_w 413 (by decide +kernel) rfl
theorem wd_415 : Cond.static ⟨"ThreshRound", "within", "(III)Z"⟩ ∈ vx_tbl := vx_w 415 (by decide +kernel) rfl
theorem wd_416 : Cond.code ⟨"ThreshRound", "within", "(III)Z"⟩ prog_1_method_31_code 3 (Option.some Jvm.ClassFile.FieldType.boolean) ∈ vx_tbl := vx_w 416 (by decide +kernel) rfl
theorem wd_417 : Cond.methodLink "ThreshRound$Customs" 63 ⟨"ThreshRound$Customs", "kindOfWord", "(LThreshRound$Tape;I)I"⟩ ∈ vx_tbl := vx_w 417 (by decide +kernel) rfl
theorem wd_418 : Cond.static ⟨"ThreshRound$Customs", "kindOfWord", "(LThreshRound$Tape;I)I"⟩ ∈ vx_tbl := vx_w 418 (by decide +kernel) rfl
theorem wd_419 : Cond.code ⟨"ThreshRound$Customs", "kindOfWord", "(LThreshRound$Tape;I)I"⟩ prog_2_method_8_code 3 (Option.some Jvm.ClassFile.FieldType.int) ∈ vx_tbl := vx_w 419 (by decide +kernel) rfl
theorem wd_420 : Cond.methodLink "ThreshRound$Customs" 91 ⟨"ThreshRound$Customs", "word", "(I)Ljava/lang/String;"⟩ ∈ vx_tbl := vx_w 420 (by decide +kernel) rfl
theorem wd_421 : Cond.static ⟨"ThreshRound$Customs", "word", "(I)Ljava/lang/String;"⟩ ∈ vx_tbl := vx_w 421 (by decide +kernel) rfl
theorem wd_422 : Cond.code ⟨"ThreshRound$Customs", "word", "(I)Ljava/lang/String;"⟩ prog_2_method_9_code 1 (Option.some (Jvm.ClassFile.FieldType.object "java/lang/String")) ∈ vx_tbl := vx_w 422 (by decide +kernel) rfl
theorem wd_429 : Cond.methodLink "ThreshRound$Customs" 95 ⟨"ThreshRound$Tape", "isWordUpTo", "(ILjava/lang/String;)Z"⟩ ∈ vx_tbl := vx_w 429 (by decide +kernel) rfl
theorem wd_430 : Cond.instanceMethod ⟨"ThreshRound$Tape", "isWordUpTo", "(ILjava/lang/String;)Z"⟩ ∈ vx_tbl := vx_w 430 (by decide +kernel) rfl
theorem wd_431 : Cond.selects "ThreshRound$Tape" ⟨"ThreshRound$Tape", "isWordUpTo", "(ILjava/lang/String;)Z"⟩ ⟨"ThreshRound$Tape", "isWordUpTo", "(ILjava/lang/String;)Z"⟩ ∈ vx_tbl := vx_w 431 (by decide +kernel) rfl
theorem wd_432 : Cond.code ⟨"ThreshRound$Tape", "isWordUpTo", "(ILjava/lang/String;)Z"⟩ prog_9_method_10_code 4 (Option.some Jvm.ClassFile.FieldType.boolean) ∈ vx_tbl := vx_w 432 (by decide +kernel) rfl
theorem wd_433 : Cond.methodLink "ThreshRound$Tape" 47 ⟨"java/lang/String", "length", "()I"⟩ ∈ vx_tbl := vx_w 433 (by decide +kernel) rfl
theorem wd_434 : Cond.instanceMethod ⟨"java/lang/String", "length", "()I"⟩ ∈ vx_tbl := vx_w 434 (by decide +kernel) rfl
theorem wd_435 : Cond.selects "java/lang/String" ⟨"java/lang/String", "length", "()I"⟩ ⟨"java/lang/String", "length", "()I"⟩ ∈ vx_tbl := vx_w 435 (by decide +kernel) rfl
theorem wd_436 : Cond.code ⟨"java/lang/String", "length", "()I"⟩ prog_13_method_54_code 1 (Option.some Jvm.ClassFile.FieldType.int) ∈ vx_tbl := vx_w 436 (by decide +kernel) rfl
theorem wd_437 : Cond.methodLink "java/lang/String" 335 ⟨"java/lang/String", "coder", "()B"⟩ ∈ vx_tbl := vx_w 437 (by decide +kernel) rfl
theorem wd_438 : Cond.instanceMethod ⟨"java/lang/String", "coder", "()B"⟩ ∈ vx_tbl := vx_w 438 (by decide +kernel) rfl
theorem wd_439 : Cond.selects "java/lang/String" ⟨"java/lang/String", "coder", "()B"⟩ ⟨"java/lang/String", "coder", "()B"⟩ ∈ vx_tbl := vx_w 439 (by decide +kernel) rfl
theorem wd_440 : Cond.code ⟨"java/lang/String", "coder", "()B"⟩ prog_13_method_152_code 1 (Option.some Jvm.ClassFile.FieldType.byte) ∈ vx_tbl := vx_w 440 (by decide +kernel) rfl
theorem wd_441 : Cond.fieldLink "java/lang/String" 38 "java/lang/String" "COMPACT_STRINGS" "Z" ∈ vx_tbl := vx_w 441 (by decide +kernel) rfl
theorem wd_443 : Cond.methodLink "ThreshRound$Tape" 52 ⟨"java/lang/String", "charAt", "(I)C"⟩ ∈ vx_tbl := vx_w 443 (by decide +kernel) rfl
theorem wd_444 : Cond.instanceMethod ⟨"java/lang/String", "charAt", "(I)C"⟩ ∈ vx_tbl := vx_w 444 (by decide +kernel) rfl
theorem wd_445 : Cond.selects "java/lang/String" ⟨"java/lang/String", "charAt", "(I)C"⟩ ⟨"java/lang/String", "charAt", "(I)C"⟩ ∈ vx_tbl := vx_w 445 (by decide +kernel) rfl
theorem wd_446 : Cond.code ⟨"java/lang/String", "charAt", "(I)C"⟩ prog_13_method_56_code 2 (Option.some Jvm.ClassFile.FieldType.char) ∈ vx_tbl := vx_w 446 (by decide +kernel) rfl
theorem wd_447 : Cond.methodLink "java/lang/String" 492 ⟨"java/lang/String", "isLatin1", "()Z"⟩ ∈ vx_tbl := vx_w 447 (by decide +kernel) rfl
theorem wd_448 : Cond.instanceMethod ⟨"java/lang/String", "isLatin1", "()Z"⟩ ∈ vx_tbl := vx_w 448 (by decide +kernel) rfl
theorem wd_449 : Cond.selects "java/lang/String" ⟨"java/lang/String", "isLatin1", "()Z"⟩ ⟨"java/lang/String", "isLatin1", "()Z"⟩ ∈ vx_tbl := vx_w 449 (by decide +kernel) rfl
theorem wd_450 : Cond.code ⟨"java/lang/String", "isLatin1", "()Z"⟩ prog_13_method_154_code 1 (Option.some Jvm.ClassFile.FieldType.boolean) ∈ vx_tbl := vx_w 450 (by decide +kernel) rfl
theorem wd_451 : Cond.methodLink "java/lang/String" 495 ⟨"java/lang/StringLatin1", "charAt", "([BI)C"⟩ ∈ vx_tbl := vx_w 451 (by decide +kernel) rfl
theorem wd_452 : Cond.static ⟨"java/lang/StringLatin1", "charAt", "([BI)C"⟩ ∈ vx_tbl := vx_w 452 (by decide +kernel) rfl
theorem wd_453 : Cond.code ⟨"java/lang/StringLatin1", "charAt", "([BI)C"⟩ prog_14_method_2_code 2 (Option.some Jvm.ClassFile.FieldType.char) ∈ vx_tbl := vx_w 453 (by decide +kernel) rfl
theorem wd_454 : Cond.methodLink "java/lang/StringLatin1" 9 ⟨"java/lang/String", "checkIndex", "(II)V"⟩ ∈ vx_tbl := vx_w 454 (by decide +kernel) rfl
theorem wd_455 : Cond.static ⟨"java/lang/String", "checkIndex", "(II)V"⟩ ∈ vx_tbl := vx_w 455 (by decide +kernel) rfl
theorem wd_456 : Cond.code ⟨"java/lang/String", "checkIndex", "(II)V"⟩ prog_13_method_155_code 2 (Option.none : Option Jvm.ClassFile.FieldType) ∈ vx_tbl := vx_w 456 (by decide +kernel) rfl
theorem wd_457 : Cond.fieldLink "java/lang/String" 1053 "jdk/internal/util/Preconditions" "SIOOBE_FORMATTER" "Ljava/util/function/BiFunction;" ∈ vx_tbl := vx_w 457 (by decide +kernel) rfl
theorem wd_459 : Cond.methodLink "java/lang/String" 1059 ⟨"jdk/internal/util/Preconditions", "checkIndex", "(IILjava/util/function/BiFunction;)I"⟩ ∈ vx_tbl := vx_w 459 (by decide +kernel) rfl
theorem wd_460 : Cond.static ⟨"jdk/internal/util/Preconditions", "checkIndex", "(IILjava/util/function/BiFunction;)I"⟩ ∈ vx_tbl := vx_w 460 (by decide +kernel) rfl
theorem wd_461 : Cond.code ⟨"jdk/internal/util/Preconditions", "checkIndex", "(IILjava/util/function/BiFunction;)I"⟩ prog_16_method_11_code 3 (Option.some Jvm.ClassFile.FieldType.int) ∈ vx_tbl := vx_w 461 (by decide +kernel) rfl
theorem wd_462 : Cond.methodLink "java/lang/String" 498 ⟨"java/lang/StringUTF16", "charAt", "([BI)C"⟩ ∈ vx_tbl := vx_w 462 (by decide +kernel) rfl
theorem wd_463 : Cond.static ⟨"java/lang/StringUTF16", "charAt", "([BI)C"⟩ ∈ vx_tbl := vx_w 463 (by decide +kernel) rfl
theorem wd_464 : Cond.code ⟨"java/lang/StringUTF16", "charAt", "([BI)C"⟩ prog_15_method_83_code 2 (Option.some Jvm.ClassFile.FieldType.char) ∈ vx_tbl := vx_w 464 (by decide +kernel) rfl
theorem wd_465 : Cond.methodLink "java/lang/StringUTF16" 67 ⟨"java/lang/StringUTF16", "checkIndex", "(I[B)V"⟩ ∈ vx_tbl := vx_w 465 (by decide +kernel) rfl
theorem wd_466 : Cond.static ⟨"java/lang/StringUTF16", "checkIndex", "(I[B)V"⟩ ∈ vx_tbl := vx_w 466 (by decide +kernel) rfl
theorem wd_467 : Cond.code ⟨"java/lang/StringUTF16", "checkIndex", "(I[B)V"⟩ prog_15_method_91_code 2 (Option.none : Option Jvm.ClassFile.FieldType) ∈ vx_tbl := vx_w 467 (by decide +kernel) rfl
theorem wd_468 : Cond.methodLink "java/lang/StringUTF16" 48 ⟨"java/lang/StringUTF16", "length", "([B)I"⟩ ∈ vx_tbl := vx_w 468 (by decide +kernel) rfl
theorem wd_469 : Cond.static ⟨"java/lang/StringUTF16", "length", "([B)I"⟩ ∈ vx_tbl := vx_w 469 (by decide +kernel) rfl
theorem wd_470 : Cond.code ⟨"java/lang/StringUTF16", "length", "([B)I"⟩ prog_15_method_6_code 1 (Option.some Jvm.ClassFile.FieldType.int) ∈ vx_tbl := vx_w 470 (by decide +kernel) rfl
theorem wd_471 : Cond.methodLink "java/lang/StringUTF16" 414 ⟨"java/lang/String", "checkIndex", "(II)V"⟩ ∈ vx_tbl := vx_w 471 (by decide +kernel) rfl
theorem wd_472 : Cond.methodLink "java/lang/StringUTF16" 71 ⟨"java/lang/StringUTF16", "getChar", "([BI)C"⟩ ∈ vx_tbl := vx_w 472 (by decide +kernel) rfl
theorem wd_473 : Cond.static ⟨"java/lang/StringUTF16", "getChar", "([BI)C"⟩ ∈ vx_tbl := vx_w 473 (by decide +kernel) rfl
theorem wd_474 : Cond.code ⟨"java/lang/StringUTF16", "getChar", "([BI)C"⟩ prog_15_method_5_code 2 (Option.some Jvm.ClassFile.FieldType.char) ∈ vx_tbl := vx_w 474 (by decide +kernel) rfl
theorem wd_475 : Cond.fieldLink "java/lang/StringUTF16" 44 "java/lang/StringUTF16" "$assertionsDisabled" "Z" ∈ vx_tbl := vx_w 475 (by decide +kernel) rfl
theorem wd_477 : Cond.fieldLink "java/lang/StringUTF16" 59 "java/lang/StringUTF16" "HI_BYTE_SHIFT" "I" ∈ vx_tbl := vx_w 477 (by decide +kernel) rfl
theorem wd_479 : Cond.fieldLink "java/lang/StringUTF16" 63 "java/lang/StringUTF16" "LO_BYTE_SHIFT" "I" ∈ vx_tbl := vx_w 479 (by decide +kernel) rfl
theorem wd_481 : Cond.methodLink "ThreshRound$Customs" 70 ⟨"ThreshRound$Customs", "fails", "(II)Z"⟩ ∈ vx_tbl := vx_w 481 (by decide +kernel) rfl
theorem wd_483 : Cond.instanceMethod ⟨"ThreshRound$Customs", "fails", "(II)Z"⟩ ∈ vx_tbl := vx_w 483 (by decide +kernel) rfl
theorem wd_484 : Cond.code ⟨"ThreshRound$Customs", "fails", "(II)Z"⟩ prog_2_method_7_code 3 (Option.some Jvm.ClassFile.FieldType.boolean) ∈ vx_tbl := vx_w 484 (by decide +kernel) rfl
theorem wd_485 : Cond.methodLink "ThreshRound$Customs" 74 ⟨"ThreshRound$Tape", "numberUpTo", "(I)I"⟩ ∈ vx_tbl := vx_w 485 (by decide +kernel) rfl
theorem wd_486 : Cond.instanceMethod ⟨"ThreshRound$Tape", "numberUpTo", "(I)I"⟩ ∈ vx_tbl := vx_w 486 (by decide +kernel) rfl
theorem wd_487 : Cond.selects "ThreshRound$Tape" ⟨"ThreshRound$Tape", "numberUpTo", "(I)I"⟩ ⟨"ThreshRound$Tape", "numberUpTo", "(I)I"⟩ ∈ vx_tbl := vx_w 487 (by decide +kernel) rfl
theorem wd_488 : Cond.code ⟨"ThreshRound$Tape", "numberUpTo", "(I)I"⟩ prog_9_method_9_code 4 (Option.some Jvm.ClassFile.FieldType.int) ∈ vx_tbl := vx_w 488 (by decide +kernel) rfl
theorem wd_489 : Cond.methodLink "ThreshRound$Tape" 41 ⟨"java/lang/Math", "min", "(II)I"⟩ ∈ vx_tbl := vx_w 489 (by decide +kernel) rfl
theorem wd_490 : Cond.static ⟨"java/lang/Math", "min", "(II)I"⟩ ∈ vx_tbl := vx_w 490 (by decide +kernel) rfl
theorem wd_491 : Cond.code ⟨"java/lang/Math", "min", "(II)I"⟩ prog_12_method_69_code 2 (Option.some Jvm.ClassFile.FieldType.int) ∈ vx_tbl := vx_w 491 (by decide +kernel) rfl
theorem wd_492 : Cond.fieldLink "ThreshRound$Customs" 78 "ThreshRound$Customs" "LEAST" "[I" ∈ vx_tbl := vx_w 492 (by decide +kernel) rfl
theorem wd_494 : Cond.fieldLink "ThreshRound$Customs" 81 "ThreshRound$Customs" "MOST" "[I" ∈ vx_tbl := vx_w 494 (by decide +kernel) rfl
theorem wd_497 : Cond.methodLink "ThreshRound$Customs" 88 ⟨"ThreshRound$Tape", "byteAt", "(I)I"⟩ ∈ vx_tbl := vx_w 497 (by decide +kernel) rfl
theorem wd_498 : Cond.arrayClass Jvm.ClassFile.FieldType.byte ∈ vx_tbl := vx_w 498 (by decide +kernel) rfl
theorem wd_499 : Cond.methodLink "ThreshRoundLaw" 23 ⟨"ThreshRound", "fault", "(I)I"⟩ ∈ vx_tbl := vx_w 499 (by decide +kernel) rfl
theorem wd_500 : Cond.instanceMethod ⟨"ThreshRound", "fault", "(I)I"⟩ ∈ vx_tbl := vx_w 500 (by decide +kernel) rfl
theorem wd_501 : Cond.selects "ThreshRound" ⟨"ThreshRound", "fault", "(I)I"⟩ ⟨"ThreshRound", "fault", "(I)I"⟩ ∈ vx_tbl := vx_w 501 (by decide +kernel) rfl
theorem wd_502 : Cond.code ⟨"ThreshRound", "fault", "(I)I"⟩ prog_1_method_4_code 2 (Option.some Jvm.ClassFile.FieldType.int) ∈ vx_tbl := vx_w 502 (by decide +kernel) rfl
theorem wd_503 : Cond.methodLink "ThreshRoundLaw" 27 ⟨"ThreshRound", "farm", "(IIIIII)I"⟩ ∈ vx_tbl := vx_w 503 (by decide +kernel) rfl
theorem wd_504 : Cond.instanceMethod ⟨"ThreshRound", "farm", "(IIIIII)I"⟩ ∈ vx_tbl := vx_w 504 (by decide +kernel) rfl
theorem wd_505 : Cond.selects "ThreshRound" ⟨"ThreshRound", "farm", "(IIIIII)I"⟩ ⟨"ThreshRound", "farm", "(IIIIII)I"⟩ ∈ vx_tbl := vx_w 505 (by decide +kernel) rfl
theorem wd_506 : Cond.code ⟨"ThreshRound", "farm", "(IIIIII)I"⟩ prog_1_method_5_code 9 (Option.some Jvm.ClassFile.FieldType.int) ∈ vx_tbl := vx_w 506 (by decide +kernel) rfl
theorem wd_507 : Cond.methodLink "ThreshRound" 87 ⟨"ThreshRound", "within", "(III)Z"⟩ ∈ vx_tbl := vx_w 507 (by decide +kernel) rfl
theorem wd_508 : Cond.methodLink "ThreshRound" 94 ⟨"ThreshRound$Farms", "add", "()I"⟩ ∈ vx_tbl := vx_w 508 (by decide +kernel) rfl
theorem wd_509 : Cond.instanceMethod ⟨"ThreshRound$Farms", "add", "()I"⟩ ∈ vx_tbl := vx_w 509 (by decide +kernel) rfl
theorem wd_510 : Cond.selects "ThreshRound$Farms" ⟨"ThreshRound$Farms", "add", "()I"⟩ ⟨"ThreshRound$Farms", "add", "()I"⟩ ∈ vx_tbl := vx_w 510 (by decide +kernel) rfl
theorem wd_511 : Cond.code ⟨"ThreshRound$Farms", "add", "()I"⟩ prog_5_method_2_code 1 (Option.some Jvm.ClassFile.FieldType.int) ∈ vx_tbl := vx_w 511 (by decide +kernel) rfl
theorem wd_513 : Cond.methodLink "ThreshRound" 102 ⟨"ThreshRound", "put", "([III)V"⟩ ∈ vx_tbl := vx_w 513 (by decide +kernel) rfl
theorem wd_514 : Cond.methodLink "ThreshRoundLaw" 32 ⟨"ThreshRound", "way", "(III)Z"⟩ ∈ vx_tbl := vx_w 514 (by decide +kernel) rfl
theorem wd_515 : Cond.instanceMethod ⟨"ThreshRound", "way", "(III)Z"⟩ ∈ vx_tbl := vx_w 515 (by decide +kernel) rfl
theorem wd_516 : Cond.selects "ThreshRound" ⟨"ThreshRound", "way", "(III)Z"⟩ ⟨"ThreshRound", "way", "(III)Z"⟩ ∈ vx_tbl := vx_w 516 (by decide +kernel) rfl
theorem wd_517 : Cond.code ⟨"ThreshRound", "way", "(III)Z"⟩ prog_1_method_6_code 4 (Option.some Jvm.ClassFile.FieldType.boolean) ∈ vx_tbl := vx_w 517 (by decide +kernel) rfl
theorem wd_518 : Cond.methodLink "ThreshRound" 124 ⟨"ThreshRound", "isPlace", "(I)Z"⟩ ∈ vx_tbl := vx_w 518 (by decide +kernel) rfl
theorem wd_520 : Cond.instanceMethod ⟨"ThreshRound", "isPlace", "(I)Z"⟩ ∈ vx_tbl := vx_w 520 (by decide +kernel) rfl
theorem wd_521 : Cond.code ⟨"ThreshRound", "isPlace", "(I)Z"⟩ prog_1_method_17_code 2 (Option.some Jvm.ClassFile.FieldType.boolean) ∈ vx_tbl := vx_w 521 (by decide +kernel) rfl
theorem wd_522 : Cond.methodLink "ThreshRound" 134 ⟨"ThreshRound$Farms", "has", "(I)Z"⟩ ∈ vx_tbl := vx_w 522 (by decide +kernel) rfl
theorem wd_523 : Cond.instanceMethod ⟨"ThreshRound$Farms", "has", "(I)Z"⟩ ∈ vx_tbl := vx_w 523 (by decide +kernel) rfl
theorem wd_524 : Cond.selects "ThreshRound$Farms" ⟨"ThreshRound$Farms", "has", "(I)Z"⟩ ⟨"ThreshRound$Farms", "has", "(I)Z"⟩ ∈ vx_tbl := vx_w 524 (by decide +kernel) rfl
theorem wd_525 : Cond.code ⟨"ThreshRound$Farms", "has", "(I)Z"⟩ prog_5_method_3_code 2 (Option.some Jvm.ClassFile.FieldType.boolean) ∈ vx_tbl := vx_w 525 (by decide +kernel) rfl
theorem wd_526 : Cond.methodLink "ThreshRound" 131 ⟨"ThreshRound", "put", "([[IIII)V"⟩ ∈ vx_tbl := vx_w 526 (by decide +kernel) rfl
theorem wd_527 : Cond.methodLink "ThreshRoundLaw" 37 ⟨"ThreshRound", "bargain", "(III)Z"⟩ ∈ vx_tbl := vx_w 527 (by decide +kernel) rfl
theorem wd_528 : Cond.instanceMethod ⟨"ThreshRound", "bargain", "(III)Z"⟩ ∈ vx_tbl := vx_w 528 (by decide +kernel) rfl
theorem wd_529 : Cond.selects "ThreshRound" ⟨"ThreshRound", "bargain", "(III)Z"⟩ ⟨"ThreshRound", "bargain", "(III)Z"⟩ ∈ vx_tbl := vx_w 529 (by decide +kernel) rfl
theorem wd_530 : Cond.code ⟨"ThreshRound", "bargain", "(III)Z"⟩ prog_1_method_7_code 4 (Option.some Jvm.ClassFile.FieldType.boolean) ∈ vx_tbl := vx_w 530 (by decide +kernel) rfl
theorem wd_531 : Cond.methodLink "ThreshRoundLaw" 41 ⟨"ThreshRound", "plan", "()I"⟩ ∈ vx_tbl := vx_w 531 (by decide +kernel) rfl
theorem wd_532 : Cond.instanceMethod ⟨"ThreshRound", "plan", "()I"⟩ ∈ vx_tbl := vx_w 532 (by decide +kernel) rfl
theorem wd_533 : Cond.selects "ThreshRound" ⟨"ThreshRound", "plan", "()I"⟩ ⟨"ThreshRound", "plan", "()I"⟩ ∈ vx_tbl := vx_w 533 (by decide +kernel) rfl
theorem wd_534 : Cond.code ⟨"ThreshRound", "plan", "()I"⟩ prog_1_method_8_code 1 (Option.some Jvm.ClassFile.FieldType.int) ∈ vx_tbl := vx_w 534 (by decide +kernel) rfl
theorem wd_535 : Cond.methodLink "ThreshRound" 146 ⟨"ThreshRound", "prepareSearch", "()V"⟩ ∈ vx_tbl := vx_w 535 (by decide +kernel) rfl
theorem wd_537 : Cond.instanceMethod ⟨"ThreshRound", "prepareSearch", "()V"⟩ ∈ vx_tbl := vx_w 537 (by decide +kernel) rfl
theorem wd_538 : Cond.code ⟨"ThreshRound", "prepareSearch", "()V"⟩ prog_1_method_19_code 3 (Option.none : Option Jvm.ClassFile.FieldType) ∈ vx_tbl := vx_w 538 (by decide +kernel) rfl
theorem wd_539 : Cond.methodLink "ThreshRound" 255 ⟨"ThreshRound$Customs", "tells", "(I)I"⟩ ∈ vx_tbl := vx_w 539 (by decide +kernel) rfl
theorem wd_540 : Cond.instanceMethod ⟨"ThreshRound$Customs", "tells", "(I)I"⟩ ∈ vx_tbl := vx_w 540 (by decide +kernel) rfl
theorem wd_541 : Cond.selects "ThreshRound$Customs" ⟨"ThreshRound$Customs", "tells", "(I)I"⟩ ⟨"ThreshRound$Customs", "tells", "(I)I"⟩ ∈ vx_tbl := vx_w 541 (by decide +kernel) rfl
theorem wd_542 : Cond.code ⟨"ThreshRound$Customs", "tells", "(I)I"⟩ prog_2_method_2_code 2 (Option.some Jvm.ClassFile.FieldType.int) ∈ vx_tbl := vx_w 542 (by decide +kernel) rfl
theorem wd_543 : Cond.methodLink "ThreshRound" 258 ⟨"ThreshRound$Search", "startAnew", "(I)V"⟩ ∈ vx_tbl := vx_w 543 (by decide +kernel) rfl
theorem wd_544 : Cond.methodLink "ThreshRound" 261 ⟨"ThreshRound$Farms", "isOpen", "(I)Z"⟩ ∈ vx_tbl := vx_w 544 (by decide +kernel) rfl
theorem wd_545 : Cond.instanceMethod ⟨"ThreshRound$Farms", "isOpen", "(I)Z"⟩ ∈ vx_tbl := vx_w 545 (by decide +kernel) rfl
theorem wd_546 : Cond.selects "ThreshRound$Farms" ⟨"ThreshRound$Farms", "isOpen", "(I)Z"⟩ ⟨"ThreshRound$Farms", "isOpen", "(I)Z"⟩ ∈ vx_tbl := vx_w 546 (by decide +kernel) rfl
theorem wd_547 : Cond.code ⟨"ThreshRound$Farms", "isOpen", "(I)Z"⟩ prog_5_method_4_code 2 (Option.some Jvm.ClassFile.FieldType.boolean) ∈ vx_tbl := vx_w 547 (by decide +kernel) rfl
theorem wd_548 : Cond.methodLink "ThreshRound$Farms" 53 ⟨"ThreshRound$Farms", "has", "(I)Z"⟩ ∈ vx_tbl := vx_w 548 (by decide +kernel) rfl
theorem wd_550 : Cond.methodLink "ThreshRound" 174 ⟨"ThreshRound", "at", "([II)I"⟩ ∈ vx_tbl := vx_w 550 (by decide +kernel) rfl
theorem wd_551 : Cond.methodLink "ThreshRound" 227 ⟨"ThreshRound", "speedOf", "(I)I"⟩ ∈ vx_tbl := vx_w 551 (by decide +kernel) rfl
theorem wd_553 : Cond.instanceMethod ⟨"ThreshRound", "speedOf", "(I)I"⟩ ∈ vx_tbl := vx_w 553 (by decide +kernel) rfl
theorem wd_554 : Cond.code ⟨"ThreshRound", "speedOf", "(I)I"⟩ prog_1_method_21_code 4 (Option.some Jvm.ClassFile.FieldType.int) ∈ vx_tbl := vx_w 554 (by decide +kernel) rfl
theorem wd_555 : Cond.methodLink "ThreshRound" 273 ⟨"ThreshRound$Debts", "muster", "(LThreshRound$Farms;II)I"⟩ ∈ vx_tbl := vx_w 555 (by decide +kernel) rfl
theorem wd_556 : Cond.instanceMethod ⟨"ThreshRound$Debts", "muster", "(LThreshRound$Farms;II)I"⟩ ∈ vx_tbl := vx_w 556 (by decide +kernel) rfl
theorem wd_557 : Cond.selects "ThreshRound$Debts" ⟨"ThreshRound$Debts", "muster", "(LThreshRound$Farms;II)I"⟩ ⟨"ThreshRound$Debts", "muster", "(LThreshRound$Farms;II)I"⟩ ∈ vx_tbl := vx_w 557 (by decide +kernel) rfl
theorem wd_558 : Cond.code ⟨"ThreshRound$Debts", "muster", "(LThreshRound$Farms;II)I"⟩ prog_3_method_2_code 8 (Option.some Jvm.ClassFile.FieldType.int) ∈ vx_tbl := vx_w 558 (by decide +kernel) rfl
theorem wd_561 : Cond.methodLink "ThreshRound$Debts" 33 ⟨"java/lang/Math", "min", "(II)I"⟩ ∈ vx_tbl := vx_w 561 (by decide +kernel) rfl
theorem wd_562 : Cond.methodLink "ThreshRound$Debts" 43 ⟨"ThreshRound$Debts", "nextLender", "(II)I"⟩ ∈ vx_tbl := vx_w 562 (by decide +kernel) rfl
theorem wd_564 : Cond.instanceMethod ⟨"ThreshRound$Debts", "nextLender", "(II)I"⟩ ∈ vx_tbl := vx_w 564 (by decide +kernel) rfl
theorem wd_565 : Cond.code ⟨"ThreshRound$Debts", "nextLender", "(II)I"⟩ prog_3_method_3_code 6 (Option.some Jvm.ClassFile.FieldType.int) ∈ vx_tbl := vx_w 565 (by decide +kernel) rfl
theorem wd_567 : Cond.static ⟨"ThreshRound", "at", "([[III)I"⟩ ∈ vx_tbl := vx_w 567 (by decide +kernel) rfl
theorem wd_568 : Cond.code ⟨"ThreshRound", "at", "([[III)I"⟩ prog_1_method_34_code 3 (Option.some Jvm.ClassFile.FieldType.int) ∈ vx_tbl := vx_w 568 (by decide +kernel) rfl
theorem wd_569 : Cond.methodLink "ThreshRound" 277 ⟨"ThreshRound", "cut", "(II)I"⟩ ∈ vx_tbl := vx_w 569 (by decide +kernel) rfl
theorem wd_570 : Cond.static ⟨"ThreshRound", "cut", "(II)I"⟩ ∈ vx_tbl := vx_w 570 (by decide +kernel) rfl
theorem wd_571 : Cond.code ⟨"ThreshRound", "cut", "(II)I"⟩ prog_1_method_36_code 2 (Option.some Jvm.ClassFile.FieldType.int) ∈ vx_tbl := vx_w 571 (by decide +kernel) rfl
theorem wd_572 : Cond.methodLink "ThreshRound" 280 ⟨"java/lang/Math", "max", "(II)I"⟩ ∈ vx_tbl := vx_w 572 (by decide +kernel) rfl
theorem wd_573 : Cond.static ⟨"java/lang/Math", "max", "(II)I"⟩ ∈ vx_tbl := vx_w 573 (by decide +kernel) rfl
theorem wd_574 : Cond.code ⟨"java/lang/Math", "max", "(II)I"⟩ prog_12_method_65_code 2 (Option.some Jvm.ClassFile.FieldType.int) ∈ vx_tbl := vx_w 574 (by decide +kernel) rfl
theorem wd_575 : Cond.methodLink "ThreshRound" 264 ⟨"ThreshRound", "upwards", "(II)I"⟩ ∈ vx_tbl := vx_w 575 (by decide +kernel) rfl
theorem wd_576 : Cond.static ⟨"ThreshRound", "upwards", "(II)I"⟩ ∈ vx_tbl := vx_w 576 (by decide +kernel) rfl
theorem wd_577 : Cond.code ⟨"ThreshRound", "upwards", "(II)I"⟩ prog_1_method_37_code 2 (Option.some Jvm.ClassFile.FieldType.int) ∈ vx_tbl := vx_w 577 (by decide +kernel) rfl
theorem wd_578 : Cond.methodLink "ThreshRound" 267 ⟨"ThreshRound$Search", "add", "(IIII)V"⟩ ∈ vx_tbl := vx_w 578 (by decide +kernel) rfl
theorem wd_579 : Cond.instanceMethod ⟨"ThreshRound$Search", "add", "(IIII)V"⟩ ∈ vx_tbl := vx_w 579 (by decide +kernel) rfl
theorem wd_580 : Cond.selects "ThreshRound$Search" ⟨"ThreshRound$Search", "add", "(IIII)V"⟩ ⟨"ThreshRound$Search", "add", "(IIII)V"⟩ ∈ vx_tbl := vx_w 580 (by decide +kernel) rfl
theorem wd_581 : Cond.code ⟨"ThreshRound$Search", "add", "(IIII)V"⟩ prog_8_method_3_code 5 (Option.none : Option Jvm.ClassFile.FieldType) ∈ vx_tbl := vx_w 581 (by decide +kernel) rfl
theorem wd_583 : Cond.methodLink "ThreshRound" 270 ⟨"ThreshRound$Search", "force", "(I)V"⟩ ∈ vx_tbl := vx_w 583 (by decide +kernel) rfl
theorem wd_584 : Cond.instanceMethod ⟨"ThreshRound$Search", "force", "(I)V"⟩ ∈ vx_tbl := vx_w 584 (by decide +kernel) rfl
theorem wd_585 : Cond.selects "ThreshRound$Search" ⟨"ThreshRound$Search", "force", "(I)V"⟩ ⟨"ThreshRound$Search", "force", "(I)V"⟩ ∈ vx_tbl := vx_w 585 (by decide +kernel) rfl
theorem wd_586 : Cond.code ⟨"ThreshRound$Search", "force", "(I)V"⟩ prog_8_method_4_code 3 (Option.none : Option Jvm.ClassFile.FieldType) ∈ vx_tbl := vx_w 586 (by decide +kernel) rfl
theorem wd_588 : Cond.methodLink "ThreshRound$Search" 69 ⟨"ThreshRound$Search", "isWaiting", "(I)Z"⟩ ∈ vx_tbl := vx_w 588 (by decide +kernel) rfl
theorem wd_590 : Cond.instanceMethod ⟨"ThreshRound$Search", "isWaiting", "(I)Z"⟩ ∈ vx_tbl := vx_w 590 (by decide +kernel) rfl
theorem wd_591 : Cond.code ⟨"ThreshRound$Search", "isWaiting", "(I)Z"⟩ prog_8_method_13_code 2 (Option.some Jvm.ClassFile.FieldType.boolean) ∈ vx_tbl := vx_w 591 (by decide +kernel) rfl
theorem wd_592 : Cond.methodLink "ThreshRound" 155 ⟨"ThreshRound$Search", "find", "(LThreshRound$Roads;II)Z"⟩ ∈ vx_tbl := vx_w 592 (by decide +kernel) rfl
theorem wd_593 : Cond.instanceMethod ⟨"ThreshRound$Search", "find", "(LThreshRound$Roads;II)Z"⟩ ∈ vx_tbl := vx_w 593 (by decide +kernel) rfl
theorem wd_594 : Cond.selects "ThreshRound$Search" ⟨"ThreshRound$Search", "find", "(LThreshRound$Roads;II)Z"⟩ ⟨"ThreshRound$Search", "find", "(LThreshRound$Roads;II)Z"⟩ ∈ vx_tbl := vx_w 594 (by decide +kernel) rfl
theorem wd_595 : Cond.code ⟨"ThreshRound$Search", "find", "(LThreshRound$Roads;II)Z"⟩ prog_8_method_5_code 4 (Option.some Jvm.ClassFile.FieldType.boolean) ∈ vx_tbl := vx_w 595 (by decide +kernel) rfl
theorem wd_596 : Cond.methodLink "ThreshRound$Search" 73 ⟨"ThreshRound$Search", "extend", "(LThreshRound$Search;LThreshRound$Roads;IIII)V"⟩ ∈ vx_tbl := vx_w 596 (by decide +kernel) rfl
theorem wd_597 : Cond.static ⟨"ThreshRound$Search", "extend", "(LThreshRound$Search;LThreshRound$Roads;IIII)V"⟩ ∈ vx_tbl := vx_w 597 (by decide +kernel) rfl
theorem wd_598 : Cond.code ⟨"ThreshRound$Search", "extend", "(LThreshRound$Search;LThreshRound$Roads;IIII)V"⟩ prog_8_method_6_code 10 (Option.none : Option Jvm.ClassFile.FieldType) ∈ vx_tbl := vx_w 598 (by decide +kernel) rfl
theorem wd_599 : Cond.methodLink "ThreshRound$Search" 77 ⟨"ThreshRound$Search", "keepAsBest", "(II)V"⟩ ∈ vx_tbl := vx_w 599 (by decide +kernel) rfl
theorem wd_601 : Cond.instanceMethod ⟨"ThreshRound$Search", "keepAsBest", "(II)V"⟩ ∈ vx_tbl := vx_w 601 (by decide +kernel) rfl
theorem wd_602 : Cond.code ⟨"ThreshRound$Search", "keepAsBest", "(II)V"⟩ prog_8_method_12_code 4 (Option.none : Option Jvm.ClassFile.FieldType) ∈ vx_tbl := vx_w 602 (by decide +kernel) rfl
theorem wd_603 : Cond.methodLink "ThreshRound$Search" 81 ⟨"ThreshRound$Roads", "between", "(II)I"⟩ ∈ vx_tbl := vx_w 603 (by decide +kernel) rfl
theorem wd_604 : Cond.instanceMethod ⟨"ThreshRound$Roads", "between", "(II)I"⟩ ∈ vx_tbl := vx_w 604 (by decide +kernel) rfl
theorem wd_605 : Cond.selects "ThreshRound$Roads" ⟨"ThreshRound$Roads", "between", "(II)I"⟩ ⟨"ThreshRound$Roads", "between", "(II)I"⟩ ∈ vx_tbl := vx_w 605 (by decide +kernel) rfl
theorem wd_606 : Cond.code ⟨"ThreshRound$Roads", "between", "(II)I"⟩ prog_7_method_2_code 3 (Option.some Jvm.ClassFile.FieldType.int) ∈ vx_tbl := vx_w 606 (by decide +kernel) rfl
theorem wd_608 : Cond.methodLink "ThreshRound$Search" 87 ⟨"ThreshRound$Search", "mayCome", "(II)Z"⟩ ∈ vx_tbl := vx_w 608 (by decide +kernel) rfl
theorem wd_610 : Cond.instanceMethod ⟨"ThreshRound$Search", "mayCome", "(II)Z"⟩ ∈ vx_tbl := vx_w 610 (by decide +kernel) rfl
theorem wd_611 : Cond.code ⟨"ThreshRound$Search", "mayCome", "(II)Z"⟩ prog_8_method_7_code 3 (Option.some Jvm.ClassFile.FieldType.boolean) ∈ vx_tbl := vx_w 611 (by decide +kernel) rfl
theorem wd_612 : Cond.methodLink "ThreshRound$Search" 91 ⟨"ThreshRound$Search", "leaves", "(II)I"⟩ ∈ vx_tbl := vx_w 612 (by decide +kernel) rfl
theorem wd_613 : Cond.instanceMethod ⟨"ThreshRound$Search", "leaves", "(II)I"⟩ ∈ vx_tbl := vx_w 613 (by decide +kernel) rfl
theorem wd_614 : Cond.selects "ThreshRound$Search" ⟨"ThreshRound$Search", "leaves", "(II)I"⟩ ⟨"ThreshRound$Search", "leaves", "(II)I"⟩ ∈ vx_tbl := vx_w 614 (by decide +kernel) rfl
theorem wd_615 : Cond.code ⟨"ThreshRound$Search", "leaves", "(II)I"⟩ prog_8_method_9_code 3 (Option.some Jvm.ClassFile.FieldType.int) ∈ vx_tbl := vx_w 615 (by decide +kernel) rfl
theorem wd_616 : Cond.methodLink "ThreshRound$Search" 105 ⟨"ThreshRound$Search", "begins", "(II)I"⟩ ∈ vx_tbl := vx_w 616 (by decide +kernel) rfl
theorem wd_617 : Cond.instanceMethod ⟨"ThreshRound$Search", "begins", "(II)I"⟩ ∈ vx_tbl := vx_w 617 (by decide +kernel) rfl
theorem wd_618 : Cond.selects "ThreshRound$Search" ⟨"ThreshRound$Search", "begins", "(II)I"⟩ ⟨"ThreshRound$Search", "begins", "(II)I"⟩ ∈ vx_tbl := vx_w 618 (by decide +kernel) rfl
theorem wd_619 : Cond.code ⟨"ThreshRound$Search", "begins", "(II)I"⟩ prog_8_method_8_code 3 (Option.some Jvm.ClassFile.FieldType.int) ∈ vx_tbl := vx_w 619 (by decide +kernel) rfl
theorem wd_620 : Cond.methodLink "ThreshRound$Search" 100 ⟨"java/lang/Math", "max", "(II)I"⟩ ∈ vx_tbl := vx_w 620 (by decide +kernel) rfl
theorem wd_621 : Cond.methodLink "ThreshRound$Search" 94 ⟨"ThreshRound$Search", "lossOf", "(II)I"⟩ ∈ vx_tbl := vx_w 621 (by decide +kernel) rfl
theorem wd_622 : Cond.instanceMethod ⟨"ThreshRound$Search", "lossOf", "(II)I"⟩ ∈ vx_tbl := vx_w 622 (by decide +kernel) rfl
theorem wd_623 : Cond.selects "ThreshRound$Search" ⟨"ThreshRound$Search", "lossOf", "(II)I"⟩ ⟨"ThreshRound$Search", "lossOf", "(II)I"⟩ ∈ vx_tbl := vx_w 623 (by decide +kernel) rfl
theorem wd_624 : Cond.code ⟨"ThreshRound$Search", "lossOf", "(II)I"⟩ prog_8_method_10_code 3 (Option.some Jvm.ClassFile.FieldType.int) ∈ vx_tbl := vx_w 624 (by decide +kernel) rfl
theorem wd_625 : Cond.methodLink "ThreshRound$Search" 97 ⟨"ThreshRound$Search", "beatsBest", "(II)Z"⟩ ∈ vx_tbl := vx_w 625 (by decide +kernel) rfl
theorem wd_627 : Cond.instanceMethod ⟨"ThreshRound$Search", "beatsBest", "(II)Z"⟩ ∈ vx_tbl := vx_w 627 (by decide +kernel) rfl
theorem wd_628 : Cond.code ⟨"ThreshRound$Search", "beatsBest", "(II)Z"⟩ prog_8_method_11_code 3 (Option.some Jvm.ClassFile.FieldType.boolean) ∈ vx_tbl := vx_w 628 (by decide +kernel) rfl
theorem wd_629 : Cond.methodLink "ThreshRound" 159 ⟨"ThreshRound$Plan", "make", "(LThreshRound$Search;LThreshRound$Roads;II)V"⟩ ∈ vx_tbl := vx_w 629 (by decide +kernel) rfl
theorem wd_630 : Cond.instanceMethod ⟨"ThreshRound$Plan", "make", "(LThreshRound$Search;LThreshRound$Roads;II)V"⟩ ∈ vx_tbl := vx_w 630 (by decide +kernel) rfl
theorem wd_631 : Cond.selects "ThreshRound$Plan" ⟨"ThreshRound$Plan", "make", "(LThreshRound$Search;LThreshRound$Roads;II)V"⟩ ⟨"ThreshRound$Plan", "make", "(LThreshRound$Search;LThreshRound$Roads;II)V"⟩ ∈ vx_tbl := vx_w 631 (by decide +kernel) rfl
theorem wd_632 : Cond.code ⟨"ThreshRound$Plan", "make", "(LThreshRound$Search;LThreshRound$Roads;II)V"⟩ prog_6_method_2_code 10 (Option.none : Option Jvm.ClassFile.FieldType) ∈ vx_tbl := vx_w 632 (by decide +kernel) rfl
theorem wd_633 : Cond.methodLink "ThreshRound$Plan" 43 ⟨"java/lang/Math", "min", "(II)I"⟩ ∈ vx_tbl := vx_w 633 (by decide +kernel) rfl
theorem wd_635 : Cond.methodLink "ThreshRound$Plan" 56 ⟨"ThreshRound$Roads", "between", "(II)I"⟩ ∈ vx_tbl := vx_w 635 (by decide +kernel) rfl
theorem wd_637 : Cond.methodLink "ThreshRound$Plan" 65 ⟨"ThreshRound$Search", "begins", "(II)I"⟩ ∈ vx_tbl := vx_w 637 (by decide +kernel) rfl
theorem wd_638 : Cond.methodLink "ThreshRound$Plan" 68 ⟨"ThreshRound$Search", "leaves", "(II)I"⟩ ∈ vx_tbl := vx_w 638 (by decide +kernel) rfl
theorem wd_639 : Cond.methodLink "ThreshRound$Plan" 71 ⟨"ThreshRound$Search", "lossOf", "(II)I"⟩ ∈ vx_tbl := vx_w 639 (by decide +kernel) rfl
theorem wd_640 : Cond.methodLink "ThreshRoundLaw" 46 ⟨"ThreshRound", "planned", "(II)I"⟩ ∈ vx_tbl := vx_w 640 (by decide +kernel) rfl
theorem wd_641 : Cond.instanceMethod ⟨"ThreshRound", "planned", "(II)I"⟩ ∈ vx_tbl := vx_w 641 (by decide +kernel) rfl
theorem wd_642 : Cond.selects "ThreshRound" ⟨"ThreshRound", "planned", "(II)I"⟩ ⟨"ThreshRound", "planned", "(II)I"⟩ ∈ vx_tbl := vx_w 642 (by decide +kernel) rfl
theorem wd_643 : Cond.code ⟨"ThreshRound", "planned", "(II)I"⟩ prog_1_method_9_code 3 (Option.some Jvm.ClassFile.FieldType.int) ∈ vx_tbl := vx_w 643 (by decide +kernel) rfl
theorem wd_644 : Cond.methodLink "ThreshRoundLaw" 51 ⟨"ThreshRound", "out", "()Z"⟩ ∈ vx_tbl := vx_w 644 (by decide +kernel) rfl
theorem wd_645 : Cond.instanceMethod ⟨"ThreshRound", "out", "()Z"⟩ ∈ vx_tbl := vx_w 645 (by decide +kernel) rfl
theorem wd_646 : Cond.selects "ThreshRound" ⟨"ThreshRound", "out", "()Z"⟩ ⟨"ThreshRound", "out", "()Z"⟩ ∈ vx_tbl := vx_w 646 (by decide +kernel) rfl
theorem wd_647 : Cond.code ⟨"ThreshRound", "out", "()Z"⟩ prog_1_method_10_code 2 (Option.some Jvm.ClassFile.FieldType.boolean) ∈ vx_tbl := vx_w 647 (by decide +kernel) rfl
theorem wd_648 : Cond.methodLink "ThreshRound" 196 ⟨"ThreshRound$Roads", "between", "(II)I"⟩ ∈ vx_tbl := vx_w 648 (by decide +kernel) rfl
theorem wd_649 : Cond.methodLink "ThreshRound" 203 ⟨"ThreshRound", "setOutFor", "(I)V"⟩ ∈ vx_tbl := vx_w 649 (by decide +kernel) rfl
theorem wd_651 : Cond.instanceMethod ⟨"ThreshRound", "setOutFor", "(I)V"⟩ ∈ vx_tbl := vx_w 651 (by decide +kernel) rfl
theorem wd_652 : Cond.code ⟨"ThreshRound", "setOutFor", "(I)V"⟩ prog_1_method_30_code 2 (Option.none : Option Jvm.ClassFile.FieldType) ∈ vx_tbl := vx_w 652 (by decide +kernel) rfl
theorem wd_653 : Cond.methodLink "ThreshRoundLaw" 56 ⟨"ThreshRound", "breaks", "(I)Z"⟩ ∈ vx_tbl := vx_w 653 (by decide +kernel) rfl
theorem wd_654 : Cond.instanceMethod ⟨"ThreshRound", "breaks", "(I)Z"⟩ ∈ vx_tbl := vx_w 654 (by decide +kernel) rfl
theorem wd_655 : Cond.selects "ThreshRound" ⟨"ThreshRound", "breaks", "(I)Z"⟩ ⟨"ThreshRound", "breaks", "(I)Z"⟩ ∈ vx_tbl := vx_w 655 (by decide +kernel) rfl
theorem wd_656 : Cond.code ⟨"ThreshRound", "breaks", "(I)Z"⟩ prog_1_method_11_code 2 (Option.some Jvm.ClassFile.FieldType.boolean) ∈ vx_tbl := vx_w 656 (by decide +kernel) rfl
theorem wd_657 : Cond.methodLink "ThreshRoundLaw" 61 ⟨"ThreshRound", "day", "(I)I"⟩ ∈ vx_tbl := vx_w 657 (by decide +kernel) rfl
theorem wd_658 : Cond.instanceMethod ⟨"ThreshRound", "day", "(I)I"⟩ ∈ vx_tbl := vx_w 658 (by decide +kernel) rfl
theorem wd_659 : Cond.selects "ThreshRound" ⟨"ThreshRound", "day", "(I)I"⟩ ⟨"ThreshRound", "day", "(I)I"⟩ ∈ vx_tbl := vx_w 659 (by decide +kernel) rfl
theorem wd_660 : Cond.code ⟨"ThreshRound", "day", "(I)I"⟩ prog_1_method_12_code 3 (Option.some Jvm.ClassFile.FieldType.int) ∈ vx_tbl := vx_w 660 (by decide +kernel) rfl
theorem wd_661 : Cond.methodLink "ThreshRound" 209 ⟨"ThreshRound", "passDay", "()V"⟩ ∈ vx_tbl := vx_w 661 (by decide +kernel) rfl
theorem wd_663 : Cond.instanceMethod ⟨"ThreshRound", "passDay", "()V"⟩ ∈ vx_tbl := vx_w 663 (by decide +kernel) rfl
theorem wd_664 : Cond.code ⟨"ThreshRound", "passDay", "()V"⟩ prog_1_method_27_code 1 (Option.none : Option Jvm.ClassFile.FieldType) ∈ vx_tbl := vx_w 664 (by decide +kernel) rfl
theorem wd_665 : Cond.methodLink "ThreshRound" 285 ⟨"ThreshRound", "isAheadOfFrom", "()Z"⟩ ∈ vx_tbl := vx_w 665 (by decide +kernel) rfl
theorem wd_667 : Cond.instanceMethod ⟨"ThreshRound", "isAheadOfFrom", "()Z"⟩ ∈ vx_tbl := vx_w 667 (by decide +kernel) rfl
theorem wd_668 : Cond.code ⟨"ThreshRound", "isAheadOfFrom", "()Z"⟩ prog_1_method_26_code 1 (Option.some Jvm.ClassFile.FieldType.boolean) ∈ vx_tbl := vx_w 668 (by decide +kernel) rfl
theorem wd_669 : Cond.methodLink "ThreshRound" 289 ⟨"ThreshRound", "thresh", "(I)V"⟩ ∈ vx_tbl := vx_w 669 (by decide +kernel) rfl
theorem wd_671 : Cond.instanceMethod ⟨"ThreshRound", "thresh", "(I)V"⟩ ∈ vx_tbl := vx_w 671 (by decide +kernel) rfl
theorem wd_672 : Cond.code ⟨"ThreshRound", "thresh", "(I)V"⟩ prog_1_method_28_code 3 (Option.none : Option Jvm.ClassFile.FieldType) ∈ vx_tbl := vx_w 672 (by decide +kernel) rfl
theorem wd_673 : Cond.methodLink "ThreshRound" 292 ⟨"java/lang/Math", "min", "(II)I"⟩ ∈ vx_tbl := vx_w 673 (by decide +kernel) rfl
theorem wd_674 : Cond.methodLink "ThreshRound" 295 ⟨"ThreshRound$Debts", "oweTheGivers", "(II)V"⟩ ∈ vx_tbl := vx_w 674 (by decide +kernel) rfl
theorem wd_675 : Cond.instanceMethod ⟨"ThreshRound$Debts", "oweTheGivers", "(II)V"⟩ ∈ vx_tbl := vx_w 675 (by decide +kernel) rfl
theorem wd_676 : Cond.selects "ThreshRound$Debts" ⟨"ThreshRound$Debts", "oweTheGivers", "(II)V"⟩ ⟨"ThreshRound$Debts", "oweTheGivers", "(II)V"⟩ ∈ vx_tbl := vx_w 676 (by decide +kernel) rfl
theorem wd_677 : Cond.code ⟨"ThreshRound$Debts", "oweTheGivers", "(II)V"⟩ prog_3_method_4_code 5 (Option.none : Option Jvm.ClassFile.FieldType) ∈ vx_tbl := vx_w 677 (by decide +kernel) rfl
theorem wd_679 : Cond.methodLink "ThreshRound" 299 ⟨"ThreshRound", "goOn", "()V"⟩ ∈ vx_tbl := vx_w 679 (by decide +kernel) rfl
theorem wd_681 : Cond.instanceMethod ⟨"ThreshRound", "goOn", "()V"⟩ ∈ vx_tbl := vx_w 681 (by decide +kernel) rfl
theorem wd_682 : Cond.code ⟨"ThreshRound", "goOn", "()V"⟩ prog_1_method_29_code 3 (Option.none : Option Jvm.ClassFile.FieldType) ∈ vx_tbl := vx_w 682 (by decide +kernel) rfl
theorem wd_683 : Cond.methodLink "ThreshRoundLaw" 65 ⟨"ThreshRound", "look", "(II)I"⟩ ∈ vx_tbl := vx_w 683 (by decide +kernel) rfl
theorem wd_684 : Cond.instanceMethod ⟨"ThreshRound", "look", "(II)I"⟩ ∈ vx_tbl := vx_w 684 (by decide +kernel) rfl
theorem wd_685 : Cond.selects "ThreshRound" ⟨"ThreshRound", "look", "(II)I"⟩ ⟨"ThreshRound", "look", "(II)I"⟩ ∈ vx_tbl := vx_w 685 (by decide +kernel) rfl
theorem wd_686 : Cond.code ⟨"ThreshRound", "look", "(II)I"⟩ prog_1_method_13_code 3 (Option.some Jvm.ClassFile.FieldType.int) ∈ vx_tbl := vx_w 686 (by decide +kernel) rfl
theorem wd_687 : Cond.methodLink "ThreshRound" 212 ⟨"ThreshRound", "sacksOf", "(I)I"⟩ ∈ vx_tbl := vx_w 687 (by decide +kernel) rfl
theorem wd_689 : Cond.instanceMethod ⟨"ThreshRound", "sacksOf", "(I)I"⟩ ∈ vx_tbl := vx_w 689 (by decide +kernel) rfl
theorem wd_690 : Cond.code ⟨"ThreshRound", "sacksOf", "(I)I"⟩ prog_1_method_22_code 4 (Option.some Jvm.ClassFile.FieldType.int) ∈ vx_tbl := vx_w 690 (by decide +kernel) rfl
theorem wd_691 : Cond.methodLink "ThreshRound" 221 ⟨"ThreshRound", "priceOf", "(I)I"⟩ ∈ vx_tbl := vx_w 691 (by decide +kernel) rfl
theorem wd_693 : Cond.instanceMethod ⟨"ThreshRound", "priceOf", "(I)I"⟩ ∈ vx_tbl := vx_w 693 (by decide +kernel) rfl
theorem wd_694 : Cond.code ⟨"ThreshRound", "priceOf", "(I)I"⟩ prog_1_method_23_code 3 (Option.some Jvm.ClassFile.FieldType.int) ∈ vx_tbl := vx_w 694 (by decide +kernel) rfl
theorem wd_695 : Cond.methodLink "ThreshRound" 224 ⟨"ThreshRound", "gangOf", "(I)I"⟩ ∈ vx_tbl := vx_w 695 (by decide +kernel) rfl
theorem wd_697 : Cond.instanceMethod ⟨"ThreshRound", "gangOf", "(I)I"⟩ ∈ vx_tbl := vx_w 697 (by decide +kernel) rfl
theorem wd_698 : Cond.code ⟨"ThreshRound", "gangOf", "(I)I"⟩ prog_1_method_20_code 2 (Option.some Jvm.ClassFile.FieldType.int) ∈ vx_tbl := vx_w 698 (by decide +kernel) rfl
theorem wd_699 : Cond.methodLink "ThreshRound" 230 ⟨"ThreshRound", "lossOf", "(I)I"⟩ ∈ vx_tbl := vx_w 699 (by decide +kernel) rfl
theorem wd_701 : Cond.instanceMethod ⟨"ThreshRound", "lossOf", "(I)I"⟩ ∈ vx_tbl := vx_w 701 (by decide +kernel) rfl
theorem wd_702 : Cond.code ⟨"ThreshRound", "lossOf", "(I)I"⟩ prog_1_method_24_code 3 (Option.some Jvm.ClassFile.FieldType.int) ∈ vx_tbl := vx_w 702 (by decide +kernel) rfl
theorem wd_703 : Cond.methodLink "ThreshRoundLaw" 69 ⟨"ThreshRound", "owed", "(II)I"⟩ ∈ vx_tbl := vx_w 703 (by decide +kernel) rfl
theorem wd_704 : Cond.instanceMethod ⟨"ThreshRound", "owed", "(II)I"⟩ ∈ vx_tbl := vx_w 704 (by decide +kernel) rfl
theorem wd_705 : Cond.selects "ThreshRound" ⟨"ThreshRound", "owed", "(II)I"⟩ ⟨"ThreshRound", "owed", "(II)I"⟩ ∈ vx_tbl := vx_w 705 (by decide +kernel) rfl
theorem wd_706 : Cond.code ⟨"ThreshRound", "owed", "(II)I"⟩ prog_1_method_14_code 3 (Option.some Jvm.ClassFile.FieldType.int) ∈ vx_tbl := vx_w 706 (by decide +kernel) rfl
theorem wd_707 : Cond.methodLink "ThreshRound" 233 ⟨"ThreshRound", "areTwoFarms", "(II)Z"⟩ ∈ vx_tbl := vx_w 707 (by decide +kernel) rfl
theorem wd_709 : Cond.instanceMethod ⟨"ThreshRound", "areTwoFarms", "(II)Z"⟩ ∈ vx_tbl := vx_w 709 (by decide +kernel) rfl
theorem wd_710 : Cond.code ⟨"ThreshRound", "areTwoFarms", "(II)Z"⟩ prog_1_method_18_code 3 (Option.some Jvm.ClassFile.FieldType.boolean) ∈ vx_tbl := vx_w 710 (by decide +kernel) rfl
theorem wd_711 : Cond.methodLink "ThreshRound" 240 ⟨"ThreshRound", "at", "([[III)I"⟩ ∈ vx_tbl := vx_w 711 (by decide +kernel) rfl
theorem wd_712 : Cond.constant "ThreshRound" 245 (-2147483648 : Int32) ∈ vx_tbl := vx_w 712 (by decide +kernel) rfl
theorem wd_713 : Cond.methodLink "ThreshRoundLaw" 73 ⟨"ThreshRound", "lent", "(II)I"⟩ ∈ vx_tbl := vx_w 713 (by decide +kernel) rfl
theorem wd_714 : Cond.instanceMethod ⟨"ThreshRound", "lent", "(II)I"⟩ ∈ vx_tbl := vx_w 714 (by decide +kernel) rfl
theorem wd_715 : Cond.selects "ThreshRound" ⟨"ThreshRound", "lent", "(II)I"⟩ ⟨"ThreshRound", "lent", "(II)I"⟩ ∈ vx_tbl := vx_w 715 (by decide +kernel) rfl
theorem wd_716 : Cond.code ⟨"ThreshRound", "lent", "(II)I"⟩ prog_1_method_15_code 3 (Option.some Jvm.ClassFile.FieldType.int) ∈ vx_tbl := vx_w 716 (by decide +kernel) rfl
theorem wd_717 : Cond.methodLink "ThreshRoundLaw" 77 ⟨"ThreshRound", "count", "(I)I"⟩ ∈ vx_tbl := vx_w 717 (by decide +kernel) rfl
theorem wd_718 : Cond.instanceMethod ⟨"ThreshRound", "count", "(I)I"⟩ ∈ vx_tbl := vx_w 718 (by decide +kernel) rfl
theorem wd_719 : Cond.selects "ThreshRound" ⟨"ThreshRound", "count", "(I)I"⟩ ⟨"ThreshRound", "count", "(I)I"⟩ ∈ vx_tbl := vx_w 719 (by decide +kernel) rfl
theorem wd_720 : Cond.code ⟨"ThreshRound", "count", "(I)I"⟩ prog_1_method_16_code 2 (Option.some Jvm.ClassFile.FieldType.int) ∈ vx_tbl := vx_w 720 (by decide +kernel) rfl
theorem wd_721 : Cond.methodLink "ThreshRound" 249 ⟨"ThreshRound$Farms", "openOnes", "()I"⟩ ∈ vx_tbl := vx_w 721 (by decide +kernel) rfl
theorem wd_722 : Cond.instanceMethod ⟨"ThreshRound$Farms", "openOnes", "()I"⟩ ∈ vx_tbl := vx_w 722 (by decide +kernel) rfl
theorem wd_723 : Cond.selects "ThreshRound$Farms" ⟨"ThreshRound$Farms", "openOnes", "()I"⟩ ⟨"ThreshRound$Farms", "openOnes", "()I"⟩ ∈ vx_tbl := vx_w 723 (by decide +kernel) rfl
theorem wd_724 : Cond.code ⟨"ThreshRound$Farms", "openOnes", "()I"⟩ prog_5_method_5_code 3 (Option.some Jvm.ClassFile.FieldType.int) ∈ vx_tbl := vx_w 724 (by decide +kernel) rfl
theorem wd_725 : Cond.methodLink "ThreshRound$Farms" 61 ⟨"ThreshRound$Farms", "isOpen", "(I)Z"⟩ ∈ vx_tbl := vx_w 725 (by decide +kernel) rfl
theorem wd_726 : Cond.methodLink "ThreshRound" 252 ⟨"ThreshRound", "howItIs", "()I"⟩ ∈ vx_tbl := vx_w 726 (by decide +kernel) rfl
theorem wd_728 : Cond.instanceMethod ⟨"ThreshRound", "howItIs", "()I"⟩ ∈ vx_tbl := vx_w 728 (by decide +kernel) rfl
theorem wd_729 : Cond.code ⟨"ThreshRound", "howItIs", "()I"⟩ prog_1_method_25_code 1 (Option.some Jvm.ClassFile.FieldType.int) ∈ vx_tbl := vx_w 729 (by decide +kernel) rfl
theorem wd_730 : Cond.classLink "ThreshRoundLaw" 10 "ThreshRoundModel" ∈ vx_tbl := vx_w 730 (by decide +kernel) rfl
theorem wd_731 : Cond.instantiable "ThreshRoundModel" 56 ∈ vx_tbl := vx_w 731 (by decide +kernel) rfl
theorem wd_732 : Cond.methodLink "ThreshRoundLaw" 12 ⟨"ThreshRoundModel", "<init>", "()V"⟩ ∈ vx_tbl := vx_w 732 (by decide +kernel) rfl
theorem wd_733 : Cond.instanceMethod ⟨"ThreshRoundModel", "<init>", "()V"⟩ ∈ vx_tbl := vx_w 733 (by decide +kernel) rfl
theorem wd_734 : Cond.code ⟨"ThreshRoundModel", "<init>", "()V"⟩ prog_11_method_1_code 1 (Option.none : Option Jvm.ClassFile.FieldType) ∈ vx_tbl := vx_w 734 (by decide +kernel) rfl
theorem wd_735 : Cond.methodLink "ThreshRoundModel" 1 ⟨"java/lang/Object", "<init>", "()V"⟩ ∈ vx_tbl := vx_w 735 (by decide +kernel) rfl
theorem wd_736 : Cond.fieldLink "ThreshRoundModel" 95 "ThreshRoundModel" "thrown" "I" ∈ vx_tbl := vx_w 736 (by decide +kernel) rfl
theorem wd_737 : Cond.fieldLink "ThreshRoundModel" 7 "ThreshRoundModel" "tape" "[I" ∈ vx_tbl := vx_w 737 (by decide +kernel) rfl
theorem wd_738 : Cond.fieldLink "ThreshRoundModel" 98 "ThreshRoundModel" "taped" "I" ∈ vx_tbl := vx_w 738 (by decide +kernel) rfl
theorem wd_739 : Cond.fieldLink "ThreshRoundModel" 13 "ThreshRoundModel" "customs" "[I" ∈ vx_tbl := vx_w 739 (by decide +kernel) rfl
theorem wd_740 : Cond.fieldLink "ThreshRoundModel" 16 "ThreshRoundModel" "usual" "[I" ∈ vx_tbl := vx_w 740 (by decide +kernel) rfl
theorem wd_741 : Cond.fieldLink "ThreshRoundModel" 19 "ThreshRoundModel" "least" "[I" ∈ vx_tbl := vx_w 741 (by decide +kernel) rfl
theorem wd_742 : Cond.fieldLink "ThreshRoundModel" 22 "ThreshRoundModel" "most" "[I" ∈ vx_tbl := vx_w 742 (by decide +kernel) rfl
theorem wd_743 : Cond.fieldLink "ThreshRoundModel" 151 "ThreshRoundModel" "told" "I" ∈ vx_tbl := vx_w 743 (by decide +kernel) rfl
theorem wd_744 : Cond.fieldLink "ThreshRoundModel" 157 "ThreshRoundModel" "lines" "I" ∈ vx_tbl := vx_w 744 (by decide +kernel) rfl
theorem wd_745 : Cond.fieldLink "ThreshRoundModel" 104 "ThreshRoundModel" "size" "I" ∈ vx_tbl := vx_w 745 (by decide +kernel) rfl
theorem wd_746 : Cond.fieldLink "ThreshRoundModel" 101 "ThreshRoundModel" "at" "I" ∈ vx_tbl := vx_w 746 (by decide +kernel) rfl
theorem wd_747 : Cond.fieldLink "ThreshRoundModel" 111 "ThreshRoundModel" "place" "I" ∈ vx_tbl := vx_w 747 (by decide +kernel) rfl
theorem wd_748 : Cond.fieldLink "ThreshRoundModel" 114 "ThreshRoundModel" "sort" "I" ∈ vx_tbl := vx_w 748 (by decide +kernel) rfl
theorem wd_749 : Cond.fieldLink "ThreshRoundModel" 124 "ThreshRoundModel" "value" "I" ∈ vx_tbl := vx_w 749 (by decide +kernel) rfl
theorem wd_750 : Cond.fieldLink "ThreshRoundModel" 141 "ThreshRoundModel" "fault" "I" ∈ vx_tbl := vx_w 750 (by decide +kernel) rfl
theorem wd_751 : Cond.fieldLink "ThreshRoundModel" 144 "ThreshRoundModel" "faultPlace" "I" ∈ vx_tbl := vx_w 751 (by decide +kernel) rfl
theorem wd_752 : Cond.fieldLink "ThreshRoundModel" 163 "ThreshRoundModel" "lastFault" "I" ∈ vx_tbl := vx_w 752 (by decide +kernel) rfl
theorem wd_753 : Cond.fieldLink "ThreshRoundModel" 25 "ThreshRoundModel" "lastPlace" "I" ∈ vx_tbl := vx_w 753 (by decide +kernel) rfl
theorem wd_754 : Cond.fieldLink "ThreshRoundModel" 166 "ThreshRoundModel" "farms" "I" ∈ vx_tbl := vx_w 754 (by decide +kernel) rfl
theorem wd_755 : Cond.fieldLink "ThreshRoundModel" 29 "ThreshRoundModel" "stack" "[I" ∈ vx_tbl := vx_w 755 (by decide +kernel) rfl
theorem wd_756 : Cond.fieldLink "ThreshRoundModel" 32 "ThreshRoundModel" "left" "[I" ∈ vx_tbl := vx_w 756 (by decide +kernel) rfl
theorem wd_757 : Cond.fieldLink "ThreshRoundModel" 35 "ThreshRoundModel" "damp" "[I" ∈ vx_tbl := vx_w 757 (by decide +kernel) rfl
theorem wd_758 : Cond.fieldLink "ThreshRoundModel" 38 "ThreshRoundModel" "own" "[I" ∈ vx_tbl := vx_w 758 (by decide +kernel) rfl
theorem wd_759 : Cond.fieldLink "ThreshRoundModel" 41 "ThreshRoundModel" "lends" "[I" ∈ vx_tbl := vx_w 759 (by decide +kernel) rfl
theorem wd_760 : Cond.fieldLink "ThreshRoundModel" 44 "ThreshRoundModel" "from" "[I" ∈ vx_tbl := vx_w 760 (by decide +kernel) rfl
theorem wd_761 : Cond.fieldLink "ThreshRoundModel" 47 "ThreshRoundModel" "to" "[I" ∈ vx_tbl := vx_w 761 (by decide +kernel) rfl
theorem wd_762 : Cond.fieldLink "ThreshRoundModel" 50 "ThreshRoundModel" "threshed" "[I" ∈ vx_tbl := vx_w 762 (by decide +kernel) rfl
theorem wd_763 : Cond.fieldLink "ThreshRoundModel" 53 "ThreshRoundModel" "doneOn" "[I" ∈ vx_tbl := vx_w 763 (by decide +kernel) rfl
theorem wd_764 : Cond.fieldLink "ThreshRoundModel" 56 "ThreshRoundModel" "how" "[I" ∈ vx_tbl := vx_w 764 (by decide +kernel) rfl
theorem wd_765 : Cond.fieldLink "ThreshRoundModel" 59 "ThreshRoundModel" "coins" "[I" ∈ vx_tbl := vx_w 765 (by decide +kernel) rfl
theorem wd_766 : Cond.fieldLink "ThreshRoundModel" 62 "ThreshRoundModel" "ways" "[I" ∈ vx_tbl := vx_w 766 (by decide +kernel) rfl
theorem wd_767 : Cond.fieldLink "ThreshRoundModel" 65 "ThreshRoundModel" "owed" "[I" ∈ vx_tbl := vx_w 767 (by decide +kernel) rfl
theorem wd_768 : Cond.fieldLink "ThreshRoundModel" 68 "ThreshRoundModel" "gives" "[I" ∈ vx_tbl := vx_w 768 (by decide +kernel) rfl
theorem wd_769 : Cond.fieldLink "ThreshRoundModel" 181 "ThreshRoundModel" "gang" "I" ∈ vx_tbl := vx_w 769 (by decide +kernel) rfl
theorem wd_770 : Cond.fieldLink "ThreshRoundModel" 193 "ThreshRoundModel" "day" "I" ∈ vx_tbl := vx_w 770 (by decide +kernel) rfl
theorem wd_771 : Cond.fieldLink "ThreshRoundModel" 190 "ThreshRoundModel" "setAt" "I" ∈ vx_tbl := vx_w 771 (by decide +kernel) rfl
theorem wd_772 : Cond.fieldLink "ThreshRoundModel" 221 "ThreshRoundModel" "onWay" "I" ∈ vx_tbl := vx_w 772 (by decide +kernel) rfl
theorem wd_773 : Cond.fieldLink "ThreshRoundModel" 254 "ThreshRoundModel" "goesTo" "I" ∈ vx_tbl := vx_w 773 (by decide +kernel) rfl
theorem wd_774 : Cond.fieldLink "ThreshRoundModel" 260 "ThreshRoundModel" "broken" "I" ∈ vx_tbl := vx_w 774 (by decide +kernel) rfl
theorem wd_775 : Cond.fieldLink "ThreshRoundModel" 71 "ThreshRoundModel" "order" "[I" ∈ vx_tbl := vx_w 775 (by decide +kernel) rfl
theorem wd_776 : Cond.fieldLink "ThreshRoundModel" 74 "ThreshRoundModel" "arrives" "[I" ∈ vx_tbl := vx_w 776 (by decide +kernel) rfl
theorem wd_777 : Cond.fieldLink "ThreshRoundModel" 77 "ThreshRoundModel" "begins" "[I" ∈ vx_tbl := vx_w 777 (by decide +kernel) rfl
theorem wd_778 : Cond.fieldLink "ThreshRoundModel" 80 "ThreshRoundModel" "ends" "[I" ∈ vx_tbl := vx_w 778 (by decide +kernel) rfl
theorem wd_779 : Cond.fieldLink "ThreshRoundModel" 83 "ThreshRoundModel" "losses" "[I" ∈ vx_tbl := vx_w 779 (by decide +kernel) rfl
theorem wd_780 : Cond.fieldLink "ThreshRoundModel" 248 "ThreshRoundModel" "planned" "I" ∈ vx_tbl := vx_w 780 (by decide +kernel) rfl
theorem wd_781 : Cond.fieldLink "ThreshRoundModel" 245 "ThreshRoundModel" "planDay" "I" ∈ vx_tbl := vx_w 781 (by decide +kernel) rfl
theorem wd_782 : Cond.fieldLink "ThreshRoundModel" 238 "ThreshRoundModel" "hasPlan" "Z" ∈ vx_tbl := vx_w 782 (by decide +kernel) rfl
theorem wd_783 : Cond.fieldLink "ThreshRoundModel" 242 "ThreshRoundModel" "isOut" "Z" ∈ vx_tbl := vx_w 783 (by decide +kernel) rfl
theorem wd_784 : Cond.fieldLink "ThreshRoundModel" 251 "ThreshRoundModel" "turn" "I" ∈ vx_tbl := vx_w 784 (by decide +kernel) rfl
theorem wd_785 : Cond.fieldLink "ThreshRoundModel" 86 "ThreshRoundModel" "tried" "[I" ∈ vx_tbl := vx_w 785 (by decide +kernel) rfl
theorem wd_786 : Cond.fieldLink "ThreshRoundModel" 89 "ThreshRoundModel" "speeds" "[I" ∈ vx_tbl := vx_w 786 (by decide +kernel) rfl
theorem wd_787 : Cond.fieldLink "ThreshRoundModel" 199 "ThreshRoundModel" "many" "I" ∈ vx_tbl := vx_w 787 (by decide +kernel) rfl
theorem wd_788 : Cond.fieldLink "ThreshRoundModel" 208 "ThreshRoundModel" "fixed" "I" ∈ vx_tbl := vx_w 788 (by decide +kernel) rfl
theorem wd_789 : Cond.fieldLink "ThreshRoundModel" 196 "ThreshRoundModel" "loss" "I" ∈ vx_tbl := vx_w 789 (by decide +kernel) rfl
theorem wd_790 : Cond.fieldLink "ThreshRoundModel" 205 "ThreshRoundModel" "last" "I" ∈ vx_tbl := vx_w 790 (by decide +kernel) rfl
theorem wd_791 : Cond.fieldLink "ThreshRoundModel" 92 "ThreshRoundModel" "bestOrder" "[I" ∈ vx_tbl := vx_w 791 (by decide +kernel) rfl
theorem wd_905 : Cond.methodLink "ThreshRoundLaw" 17 ⟨"ThreshRoundModel", "feed", "(IIIII)I"⟩ ∈ vx_tbl := vx_w 905 (by decide +kernel) rfl
theorem wd_906 : Cond.instanceMethod ⟨"ThreshRoundModel", "feed", "(IIIII)I"⟩ ∈ vx_tbl := vx_w 906 (by decide +kernel) rfl
theorem wd_907 : Cond.selects "ThreshRoundModel" ⟨"ThreshRoundModel", "feed", "(IIIII)I"⟩ ⟨"ThreshRoundModel", "feed", "(IIIII)I"⟩ ∈ vx_tbl := vx_w 907 (by decide +kernel) rfl
theorem wd_908 : Cond.code ⟨"ThreshRoundModel", "feed", "(IIIII)I"⟩ prog_11_method_3_code 8 (Option.some Jvm.ClassFile.FieldType.int) ∈ vx_tbl := vx_w 908 (by decide +kernel) rfl
theorem wd_909 : Cond.methodLink "ThreshRoundLaw" 22 ⟨"ThreshRoundModel", "customs", "(I)I"⟩ ∈ vx_tbl := vx_w 909 (by decide +kernel) rfl
theorem wd_910 : Cond.instanceMethod ⟨"ThreshRoundModel", "customs", "(I)I"⟩ ∈ vx_tbl := vx_w 910 (by decide +kernel) rfl
theorem wd_911 : Cond.selects "ThreshRoundModel" ⟨"ThreshRoundModel", "customs", "(I)I"⟩ ⟨"ThreshRoundModel", "customs", "(I)I"⟩ ∈ vx_tbl := vx_w 911 (by decide +kernel) rfl
theorem wd_912 : Cond.code ⟨"ThreshRoundModel", "customs", "(I)I"⟩ prog_11_method_11_code 3 (Option.some Jvm.ClassFile.FieldType.int) ∈ vx_tbl := vx_w 912 (by decide +kernel) rfl
theorem wd_913 : Cond.methodLink "ThreshRoundModel" 154 ⟨"ThreshRoundModel", "next", "()V"⟩ ∈ vx_tbl := vx_w 913 (by decide +kernel) rfl
theorem wd_915 : Cond.instanceMethod ⟨"ThreshRoundModel", "next", "()V"⟩ ∈ vx_tbl := vx_w 915 (by decide +kernel) rfl
theorem wd_916 : Cond.code ⟨"ThreshRoundModel", "next", "()V"⟩ prog_11_method_7_code 2 (Option.none : Option Jvm.ClassFile.FieldType) ∈ vx_tbl := vx_w 916 (by decide +kernel) rfl
theorem wd_917 : Cond.methodLink "ThreshRoundModel" 107 ⟨"ThreshRoundModel", "here", "()I"⟩ ∈ vx_tbl := vx_w 917 (by decide +kernel) rfl
theorem wd_919 : Cond.instanceMethod ⟨"ThreshRoundModel", "here", "()I"⟩ ∈ vx_tbl := vx_w 919 (by decide +kernel) rfl
theorem wd_920 : Cond.code ⟨"ThreshRoundModel", "here", "()I"⟩ prog_11_method_4_code 1 (Option.some Jvm.ClassFile.FieldType.int) ∈ vx_tbl := vx_w 920 (by decide +kernel) rfl
theorem wd_921 : Cond.methodLink "ThreshRoundModel" 117 ⟨"ThreshRoundModel", "isSmall", "(I)Z"⟩ ∈ vx_tbl := vx_w 921 (by decide +kernel) rfl
theorem wd_922 : Cond.static ⟨"ThreshRoundModel", "isSmall", "(I)Z"⟩ ∈ vx_tbl := vx_w 922 (by decide +kernel) rfl
theorem wd_923 : Cond.code ⟨"ThreshRoundModel", "isSmall", "(I)Z"⟩ prog_11_method_5_code 1 (Option.some Jvm.ClassFile.FieldType.boolean) ∈ vx_tbl := vx_w 923 (by decide +kernel) rfl
theorem wd_924 : Cond.methodLink "ThreshRoundModel" 121 ⟨"ThreshRoundModel", "wordOf", "()I"⟩ ∈ vx_tbl := vx_w 924 (by decide +kernel) rfl
theorem wd_926 : Cond.instanceMethod ⟨"ThreshRoundModel", "wordOf", "()I"⟩ ∈ vx_tbl := vx_w 926 (by decide +kernel) rfl
theorem wd_927 : Cond.code ⟨"ThreshRoundModel", "wordOf", "()I"⟩ prog_11_method_8_code 4 (Option.some Jvm.ClassFile.FieldType.int) ∈ vx_tbl := vx_w 927 (by decide +kernel) rfl
theorem wd_929 : Cond.methodLink "ThreshRoundModel" 132 ⟨"java/lang/String", "length", "()I"⟩ ∈ vx_tbl := vx_w 929 (by decide +kernel) rfl
theorem wd_930 : Cond.methodLink "ThreshRoundModel" 137 ⟨"java/lang/String", "charAt", "(I)C"⟩ ∈ vx_tbl := vx_w 930 (by decide +kernel) rfl
theorem wd_931 : Cond.methodLink "ThreshRoundModel" 127 ⟨"ThreshRoundModel", "isDigit", "(I)Z"⟩ ∈ vx_tbl := vx_w 931 (by decide +kernel) rfl
theorem wd_932 : Cond.static ⟨"ThreshRoundModel", "isDigit", "(I)Z"⟩ ∈ vx_tbl := vx_w 932 (by decide +kernel) rfl
theorem wd_933 : Cond.code ⟨"ThreshRoundModel", "isDigit", "(I)Z"⟩ prog_11_method_6_code 1 (Option.some Jvm.ClassFile.FieldType.boolean) ∈ vx_tbl := vx_w 933 (by decide +kernel) rfl
theorem wd_934 : Cond.methodLink "ThreshRoundModel" 160 ⟨"ThreshRoundModel", "line", "()V"⟩ ∈ vx_tbl := vx_w 934 (by decide +kernel) rfl
theorem wd_936 : Cond.instanceMethod ⟨"ThreshRoundModel", "line", "()V"⟩ ∈ vx_tbl := vx_w 936 (by decide +kernel) rfl
theorem wd_937 : Cond.code ⟨"ThreshRoundModel", "line", "()V"⟩ prog_11_method_10_code 2 (Option.none : Option Jvm.ClassFile.FieldType) ∈ vx_tbl := vx_w 937 (by decide +kernel) rfl
theorem wd_938 : Cond.methodLink "ThreshRoundModel" 147 ⟨"ThreshRoundModel", "wrong", "(I)V"⟩ ∈ vx_tbl := vx_w 938 (by decide +kernel) rfl
theorem wd_940 : Cond.instanceMethod ⟨"ThreshRoundModel", "wrong", "(I)V"⟩ ∈ vx_tbl := vx_w 940 (by decide +kernel) rfl
theorem wd_941 : Cond.code ⟨"ThreshRoundModel", "wrong", "(I)V"⟩ prog_11_method_9_code 2 (Option.none : Option Jvm.ClassFile.FieldType) ∈ vx_tbl := vx_w 941 (by decide +kernel) rfl
theorem wd_942 : Cond.methodLink "ThreshRoundLaw" 26 ⟨"ThreshRoundModel", "fault", "(I)I"⟩ ∈ vx_tbl := vx_w 942 (by decide +kernel) rfl
theorem wd_943 : Cond.instanceMethod ⟨"ThreshRoundModel", "fault", "(I)I"⟩ ∈ vx_tbl := vx_w 943 (by decide +kernel) rfl
theorem wd_944 : Cond.selects "ThreshRoundModel" ⟨"ThreshRoundModel", "fault", "(I)I"⟩ ⟨"ThreshRoundModel", "fault", "(I)I"⟩ ∈ vx_tbl := vx_w 944 (by decide +kernel) rfl
theorem wd_945 : Cond.code ⟨"ThreshRoundModel", "fault", "(I)I"⟩ prog_11_method_12_code 2 (Option.some Jvm.ClassFile.FieldType.int) ∈ vx_tbl := vx_w 945 (by decide +kernel) rfl
theorem wd_946 : Cond.methodLink "ThreshRoundLaw" 31 ⟨"ThreshRoundModel", "farm", "(IIIIII)I"⟩ ∈ vx_tbl := vx_w 946 (by decide +kernel) rfl
theorem wd_947 : Cond.instanceMethod ⟨"ThreshRoundModel", "farm", "(IIIIII)I"⟩ ∈ vx_tbl := vx_w 947 (by decide +kernel) rfl
theorem wd_948 : Cond.selects "ThreshRoundModel" ⟨"ThreshRoundModel", "farm", "(IIIIII)I"⟩ ⟨"ThreshRoundModel", "farm", "(IIIIII)I"⟩ ∈ vx_tbl := vx_w 948 (by decide +kernel) rfl
theorem wd_949 : Cond.code ⟨"ThreshRoundModel", "farm", "(IIIIII)I"⟩ prog_11_method_15_code 7 (Option.some Jvm.ClassFile.FieldType.int) ∈ vx_tbl := vx_w 949 (by decide +kernel) rfl
theorem wd_950 : Cond.methodLink "ThreshRoundModel" 169 ⟨"ThreshRoundModel", "isTwelve", "(I)Z"⟩ ∈ vx_tbl := vx_w 950 (by decide +kernel) rfl
theorem wd_951 : Cond.static ⟨"ThreshRoundModel", "isTwelve", "(I)Z"⟩ ∈ vx_tbl := vx_w 951 (by decide +kernel) rfl
theorem wd_952 : Cond.code ⟨"ThreshRoundModel", "isTwelve", "(I)Z"⟩ prog_11_method_14_code 1 (Option.some Jvm.ClassFile.FieldType.boolean) ∈ vx_tbl := vx_w 952 (by decide +kernel) rfl
theorem wd_953 : Cond.methodLink "ThreshRoundLaw" 36 ⟨"ThreshRoundModel", "way", "(III)Z"⟩ ∈ vx_tbl := vx_w 953 (by decide +kernel) rfl
theorem wd_954 : Cond.instanceMethod ⟨"ThreshRoundModel", "way", "(III)Z"⟩ ∈ vx_tbl := vx_w 954 (by decide +kernel) rfl
theorem wd_955 : Cond.selects "ThreshRoundModel" ⟨"ThreshRoundModel", "way", "(III)Z"⟩ ⟨"ThreshRoundModel", "way", "(III)Z"⟩ ∈ vx_tbl := vx_w 955 (by decide +kernel) rfl
theorem wd_956 : Cond.code ⟨"ThreshRoundModel", "way", "(III)Z"⟩ prog_11_method_16_code 4 (Option.some Jvm.ClassFile.FieldType.boolean) ∈ vx_tbl := vx_w 956 (by decide +kernel) rfl
theorem wd_957 : Cond.methodLink "ThreshRoundLaw" 40 ⟨"ThreshRoundModel", "bargain", "(III)Z"⟩ ∈ vx_tbl := vx_w 957 (by decide +kernel) rfl
theorem wd_958 : Cond.instanceMethod ⟨"ThreshRoundModel", "bargain", "(III)Z"⟩ ∈ vx_tbl := vx_w 958 (by decide +kernel) rfl
theorem wd_959 : Cond.selects "ThreshRoundModel" ⟨"ThreshRoundModel", "bargain", "(III)Z"⟩ ⟨"ThreshRoundModel", "bargain", "(III)Z"⟩ ∈ vx_tbl := vx_w 959 (by decide +kernel) rfl
theorem wd_960 : Cond.code ⟨"ThreshRoundModel", "bargain", "(III)Z"⟩ prog_11_method_17_code 4 (Option.some Jvm.ClassFile.FieldType.boolean) ∈ vx_tbl := vx_w 960 (by decide +kernel) rfl
theorem wd_961 : Cond.methodLink "ThreshRoundModel" 172 ⟨"ThreshRoundModel", "isFarm", "(I)Z"⟩ ∈ vx_tbl := vx_w 961 (by decide +kernel) rfl
theorem wd_963 : Cond.instanceMethod ⟨"ThreshRoundModel", "isFarm", "(I)Z"⟩ ∈ vx_tbl := vx_w 963 (by decide +kernel) rfl
theorem wd_964 : Cond.code ⟨"ThreshRoundModel", "isFarm", "(I)Z"⟩ prog_11_method_13_code 2 (Option.some Jvm.ClassFile.FieldType.boolean) ∈ vx_tbl := vx_w 964 (by decide +kernel) rfl
theorem wd_965 : Cond.methodLink "ThreshRoundLaw" 45 ⟨"ThreshRoundModel", "plan", "()I"⟩ ∈ vx_tbl := vx_w 965 (by decide +kernel) rfl
theorem wd_966 : Cond.instanceMethod ⟨"ThreshRoundModel", "plan", "()I"⟩ ∈ vx_tbl := vx_w 966 (by decide +kernel) rfl
theorem wd_967 : Cond.selects "ThreshRoundModel" ⟨"ThreshRoundModel", "plan", "()I"⟩ ⟨"ThreshRoundModel", "plan", "()I"⟩ ∈ vx_tbl := vx_w 967 (by decide +kernel) rfl
theorem wd_968 : Cond.code ⟨"ThreshRoundModel", "plan", "()I"⟩ prog_11_method_26_code 5 (Option.some Jvm.ClassFile.FieldType.int) ∈ vx_tbl := vx_w 968 (by decide +kernel) rfl
theorem wd_969 : Cond.methodLink "ThreshRoundModel" 218 ⟨"ThreshRoundModel", "firstOrder", "()V"⟩ ∈ vx_tbl := vx_w 969 (by decide +kernel) rfl
theorem wd_971 : Cond.instanceMethod ⟨"ThreshRoundModel", "firstOrder", "()V"⟩ ∈ vx_tbl := vx_w 971 (by decide +kernel) rfl
theorem wd_972 : Cond.code ⟨"ThreshRoundModel", "firstOrder", "()V"⟩ prog_11_method_25_code 4 (Option.none : Option Jvm.ClassFile.FieldType) ∈ vx_tbl := vx_w 972 (by decide +kernel) rfl
theorem wd_973 : Cond.methodLink "ThreshRoundModel" 215 ⟨"ThreshRoundModel", "isDone", "(I)Z"⟩ ∈ vx_tbl := vx_w 973 (by decide +kernel) rfl
theorem wd_975 : Cond.instanceMethod ⟨"ThreshRoundModel", "isDone", "(I)Z"⟩ ∈ vx_tbl := vx_w 975 (by decide +kernel) rfl
theorem wd_976 : Cond.code ⟨"ThreshRoundModel", "isDone", "(I)Z"⟩ prog_11_method_20_code 2 (Option.some Jvm.ClassFile.FieldType.boolean) ∈ vx_tbl := vx_w 976 (by decide +kernel) rfl
theorem wd_977 : Cond.methodLink "ThreshRoundModel" 224 ⟨"ThreshRoundModel", "speedOf", "(I)I"⟩ ∈ vx_tbl := vx_w 977 (by decide +kernel) rfl
theorem wd_979 : Cond.instanceMethod ⟨"ThreshRoundModel", "speedOf", "(I)I"⟩ ∈ vx_tbl := vx_w 979 (by decide +kernel) rfl
theorem wd_980 : Cond.code ⟨"ThreshRoundModel", "speedOf", "(I)I"⟩ prog_11_method_19_code 2 (Option.some Jvm.ClassFile.FieldType.int) ∈ vx_tbl := vx_w 980 (by decide +kernel) rfl
theorem wd_981 : Cond.methodLink "ThreshRoundModel" 184 ⟨"ThreshRoundModel", "gangs", "(I)V"⟩ ∈ vx_tbl := vx_w 981 (by decide +kernel) rfl
theorem wd_983 : Cond.instanceMethod ⟨"ThreshRoundModel", "gangs", "(I)V"⟩ ∈ vx_tbl := vx_w 983 (by decide +kernel) rfl
theorem wd_984 : Cond.code ⟨"ThreshRoundModel", "gangs", "(I)V"⟩ prog_11_method_18_code 7 (Option.none : Option Jvm.ClassFile.FieldType) ∈ vx_tbl := vx_w 984 (by decide +kernel) rfl
theorem wd_985 : Cond.methodLink "ThreshRoundModel" 175 ⟨"java/lang/Math", "min", "(II)I"⟩ ∈ vx_tbl := vx_w 985 (by decide +kernel) rfl
theorem wd_986 : Cond.methodLink "ThreshRoundModel" 187 ⟨"java/lang/Math", "max", "(II)I"⟩ ∈ vx_tbl := vx_w 986 (by decide +kernel) rfl
theorem wd_987 : Cond.methodLink "ThreshRoundModel" 228 ⟨"ThreshRoundModel", "goes", "()Z"⟩ ∈ vx_tbl := vx_w 987 (by decide +kernel) rfl
theorem wd_989 : Cond.instanceMethod ⟨"ThreshRoundModel", "goes", "()Z"⟩ ∈ vx_tbl := vx_w 989 (by decide +kernel) rfl
theorem wd_990 : Cond.code ⟨"ThreshRoundModel", "goes", "()Z"⟩ prog_11_method_21_code 6 (Option.some Jvm.ClassFile.FieldType.boolean) ∈ vx_tbl := vx_w 990 (by decide +kernel) rfl
theorem wd_991 : Cond.methodLink "ThreshRoundModel" 202 ⟨"ThreshRoundModel", "lossOf", "(II)I"⟩ ∈ vx_tbl := vx_w 991 (by decide +kernel) rfl
theorem wd_993 : Cond.instanceMethod ⟨"ThreshRoundModel", "lossOf", "(II)I"⟩ ∈ vx_tbl := vx_w 993 (by decide +kernel) rfl
theorem wd_994 : Cond.code ⟨"ThreshRoundModel", "lossOf", "(II)I"⟩ prog_11_method_22_code 3 (Option.some Jvm.ClassFile.FieldType.int) ∈ vx_tbl := vx_w 994 (by decide +kernel) rfl
theorem wd_995 : Cond.methodLink "ThreshRoundModel" 232 ⟨"ThreshRoundModel", "goesOn", "()Z"⟩ ∈ vx_tbl := vx_w 995 (by decide +kernel) rfl
theorem wd_997 : Cond.instanceMethod ⟨"ThreshRoundModel", "goesOn", "()Z"⟩ ∈ vx_tbl := vx_w 997 (by decide +kernel) rfl
theorem wd_998 : Cond.code ⟨"ThreshRoundModel", "goesOn", "()Z"⟩ prog_11_method_23_code 5 (Option.some Jvm.ClassFile.FieldType.boolean) ∈ vx_tbl := vx_w 998 (by decide +kernel) rfl
theorem wd_999 : Cond.methodLink "ThreshRoundModel" 211 ⟨"ThreshRoundModel", "swaps", "(II)V"⟩ ∈ vx_tbl := vx_w 999 (by decide +kernel) rfl
theorem wd_1001 : Cond.instanceMethod ⟨"ThreshRoundModel", "swaps", "(II)V"⟩ ∈ vx_tbl := vx_w 1001 (by decide +kernel) rfl
theorem wd_1002 : Cond.code ⟨"ThreshRoundModel", "swaps", "(II)V"⟩ prog_11_method_24_code 4 (Option.none : Option Jvm.ClassFile.FieldType) ∈ vx_tbl := vx_w 1002 (by decide +kernel) rfl
theorem wd_1003 : Cond.methodLink "ThreshRoundModel" 235 ⟨"ThreshRoundModel", "comes", "()V"⟩ ∈ vx_tbl := vx_w 1003 (by decide +kernel) rfl
theorem wd_1005 : Cond.instanceMethod ⟨"ThreshRoundModel", "comes", "()V"⟩ ∈ vx_tbl := vx_w 1005 (by decide +kernel) rfl
theorem wd_1006 : Cond.code ⟨"ThreshRoundModel", "comes", "()V"⟩ prog_11_method_27_code 5 (Option.none : Option Jvm.ClassFile.FieldType) ∈ vx_tbl := vx_w 1006 (by decide +kernel) rfl
theorem wd_1007 : Cond.methodLink "ThreshRoundLaw" 50 ⟨"ThreshRoundModel", "planned", "(II)I"⟩ ∈ vx_tbl := vx_w 1007 (by decide +kernel) rfl
theorem wd_1008 : Cond.instanceMethod ⟨"ThreshRoundModel", "planned", "(II)I"⟩ ∈ vx_tbl := vx_w 1008 (by decide +kernel) rfl
theorem wd_1009 : Cond.selects "ThreshRoundModel" ⟨"ThreshRoundModel", "planned", "(II)I"⟩ ⟨"ThreshRoundModel", "planned", "(II)I"⟩ ∈ vx_tbl := vx_w 1009 (by decide +kernel) rfl
theorem wd_1010 : Cond.code ⟨"ThreshRoundModel", "planned", "(II)I"⟩ prog_11_method_28_code 3 (Option.some Jvm.ClassFile.FieldType.int) ∈ vx_tbl := vx_w 1010 (by decide +kernel) rfl
theorem wd_1011 : Cond.methodLink "ThreshRoundLaw" 55 ⟨"ThreshRoundModel", "out", "()Z"⟩ ∈ vx_tbl := vx_w 1011 (by decide +kernel) rfl
theorem wd_1012 : Cond.instanceMethod ⟨"ThreshRoundModel", "out", "()Z"⟩ ∈ vx_tbl := vx_w 1012 (by decide +kernel) rfl
theorem wd_1013 : Cond.selects "ThreshRoundModel" ⟨"ThreshRoundModel", "out", "()Z"⟩ ⟨"ThreshRoundModel", "out", "()Z"⟩ ∈ vx_tbl := vx_w 1013 (by decide +kernel) rfl
theorem wd_1014 : Cond.code ⟨"ThreshRoundModel", "out", "()Z"⟩ prog_11_method_30_code 1 (Option.some Jvm.ClassFile.FieldType.boolean) ∈ vx_tbl := vx_w 1014 (by decide +kernel) rfl
theorem wd_1015 : Cond.methodLink "ThreshRoundModel" 257 ⟨"ThreshRoundModel", "setsOut", "()Z"⟩ ∈ vx_tbl := vx_w 1015 (by decide +kernel) rfl
theorem wd_1017 : Cond.instanceMethod ⟨"ThreshRoundModel", "setsOut", "()Z"⟩ ∈ vx_tbl := vx_w 1017 (by decide +kernel) rfl
theorem wd_1018 : Cond.code ⟨"ThreshRoundModel", "setsOut", "()Z"⟩ prog_11_method_29_code 3 (Option.some Jvm.ClassFile.FieldType.boolean) ∈ vx_tbl := vx_w 1018 (by decide +kernel) rfl
theorem wd_1019 : Cond.methodLink "ThreshRoundLaw" 60 ⟨"ThreshRoundModel", "breaks", "(I)Z"⟩ ∈ vx_tbl := vx_w 1019 (by decide +kernel) rfl
theorem wd_1020 : Cond.instanceMethod ⟨"ThreshRoundModel", "breaks", "(I)Z"⟩ ∈ vx_tbl := vx_w 1020 (by decide +kernel) rfl
theorem wd_1021 : Cond.selects "ThreshRoundModel" ⟨"ThreshRoundModel", "breaks", "(I)Z"⟩ ⟨"ThreshRoundModel", "breaks", "(I)Z"⟩ ∈ vx_tbl := vx_w 1021 (by decide +kernel) rfl
theorem wd_1022 : Cond.code ⟨"ThreshRoundModel", "breaks", "(I)Z"⟩ prog_11_method_31_code 2 (Option.some Jvm.ClassFile.FieldType.boolean) ∈ vx_tbl := vx_w 1022 (by decide +kernel) rfl
theorem wd_1023 : Cond.methodLink "ThreshRoundLaw" 64 ⟨"ThreshRoundModel", "day", "(I)I"⟩ ∈ vx_tbl := vx_w 1023 (by decide +kernel) rfl
theorem wd_1024 : Cond.instanceMethod ⟨"ThreshRoundModel", "day", "(I)I"⟩ ∈ vx_tbl := vx_w 1024 (by decide +kernel) rfl
theorem wd_1025 : Cond.selects "ThreshRoundModel" ⟨"ThreshRoundModel", "day", "(I)I"⟩ ⟨"ThreshRoundModel", "day", "(I)I"⟩ ∈ vx_tbl := vx_w 1025 (by decide +kernel) rfl
theorem wd_1026 : Cond.code ⟨"ThreshRoundModel", "day", "(I)I"⟩ prog_11_method_35_code 3 (Option.some Jvm.ClassFile.FieldType.int) ∈ vx_tbl := vx_w 1026 (by decide +kernel) rfl
theorem wd_1027 : Cond.methodLink "ThreshRoundModel" 269 ⟨"ThreshRoundModel", "oneDay", "()V"⟩ ∈ vx_tbl := vx_w 1027 (by decide +kernel) rfl
theorem wd_1029 : Cond.instanceMethod ⟨"ThreshRoundModel", "oneDay", "()V"⟩ ∈ vx_tbl := vx_w 1029 (by decide +kernel) rfl
theorem wd_1030 : Cond.code ⟨"ThreshRoundModel", "oneDay", "()V"⟩ prog_11_method_34_code 1 (Option.none : Option Jvm.ClassFile.FieldType) ∈ vx_tbl := vx_w 1030 (by decide +kernel) rfl
theorem wd_1031 : Cond.methodLink "ThreshRoundModel" 263 ⟨"ThreshRoundModel", "isAtWork", "()Z"⟩ ∈ vx_tbl := vx_w 1031 (by decide +kernel) rfl
theorem wd_1033 : Cond.instanceMethod ⟨"ThreshRoundModel", "isAtWork", "()Z"⟩ ∈ vx_tbl := vx_w 1033 (by decide +kernel) rfl
theorem wd_1034 : Cond.code ⟨"ThreshRoundModel", "isAtWork", "()Z"⟩ prog_11_method_32_code 1 (Option.some Jvm.ClassFile.FieldType.boolean) ∈ vx_tbl := vx_w 1034 (by decide +kernel) rfl
theorem wd_1035 : Cond.methodLink "ThreshRoundModel" 266 ⟨"ThreshRoundModel", "threshes", "(I)V"⟩ ∈ vx_tbl := vx_w 1035 (by decide +kernel) rfl
theorem wd_1037 : Cond.instanceMethod ⟨"ThreshRoundModel", "threshes", "(I)V"⟩ ∈ vx_tbl := vx_w 1037 (by decide +kernel) rfl
theorem wd_1038 : Cond.code ⟨"ThreshRoundModel", "threshes", "(I)V"⟩ prog_11_method_33_code 4 (Option.none : Option Jvm.ClassFile.FieldType) ∈ vx_tbl := vx_w 1038 (by decide +kernel) rfl
theorem wd_1039 : Cond.methodLink "ThreshRoundLaw" 68 ⟨"ThreshRoundModel", "look", "(II)I"⟩ ∈ vx_tbl := vx_w 1039 (by decide +kernel) rfl
theorem wd_1040 : Cond.instanceMethod ⟨"ThreshRoundModel", "look", "(II)I"⟩ ∈ vx_tbl := vx_w 1040 (by decide +kernel) rfl
theorem wd_1041 : Cond.selects "ThreshRoundModel" ⟨"ThreshRoundModel", "look", "(II)I"⟩ ⟨"ThreshRoundModel", "look", "(II)I"⟩ ∈ vx_tbl := vx_w 1041 (by decide +kernel) rfl
theorem wd_1042 : Cond.code ⟨"ThreshRoundModel", "look", "(II)I"⟩ prog_11_method_37_code 3 (Option.some Jvm.ClassFile.FieldType.int) ∈ vx_tbl := vx_w 1042 (by decide +kernel) rfl
theorem wd_1043 : Cond.methodLink "ThreshRoundModel" 272 ⟨"ThreshRoundModel", "sacksOf", "(I)I"⟩ ∈ vx_tbl := vx_w 1043 (by decide +kernel) rfl
theorem wd_1045 : Cond.instanceMethod ⟨"ThreshRoundModel", "sacksOf", "(I)I"⟩ ∈ vx_tbl := vx_w 1045 (by decide +kernel) rfl
theorem wd_1046 : Cond.code ⟨"ThreshRoundModel", "sacksOf", "(I)I"⟩ prog_11_method_36_code 2 (Option.some Jvm.ClassFile.FieldType.int) ∈ vx_tbl := vx_w 1046 (by decide +kernel) rfl
theorem wd_1047 : Cond.methodLink "ThreshRoundLaw" 72 ⟨"ThreshRoundModel", "owed", "(II)I"⟩ ∈ vx_tbl := vx_w 1047 (by decide +kernel) rfl
theorem wd_1048 : Cond.instanceMethod ⟨"ThreshRoundModel", "owed", "(II)I"⟩ ∈ vx_tbl := vx_w 1048 (by decide +kernel) rfl
theorem wd_1049 : Cond.selects "ThreshRoundModel" ⟨"ThreshRoundModel", "owed", "(II)I"⟩ ⟨"ThreshRoundModel", "owed", "(II)I"⟩ ∈ vx_tbl := vx_w 1049 (by decide +kernel) rfl
theorem wd_1050 : Cond.code ⟨"ThreshRoundModel", "owed", "(II)I"⟩ prog_11_method_38_code 3 (Option.some Jvm.ClassFile.FieldType.int) ∈ vx_tbl := vx_w 1050 (by decide +kernel) rfl
theorem wd_1051 : Cond.constant "ThreshRoundModel" 277 (-2147483648 : Int32) ∈ vx_tbl := vx_w 1051 (by decide +kernel) rfl
theorem wd_1052 : Cond.methodLink "ThreshRoundLaw" 76 ⟨"ThreshRoundModel", "lent", "(II)I"⟩ ∈ vx_tbl := vx_w 1052 (by decide +kernel) rfl
theorem wd_1053 : Cond.instanceMethod ⟨"ThreshRoundModel", "lent", "(II)I"⟩ ∈ vx_tbl := vx_w 1053 (by decide +kernel) rfl
theorem wd_1054 : Cond.selects "ThreshRoundModel" ⟨"ThreshRoundModel", "lent", "(II)I"⟩ ⟨"ThreshRoundModel", "lent", "(II)I"⟩ ∈ vx_tbl := vx_w 1054 (by decide +kernel) rfl
theorem wd_1055 : Cond.code ⟨"ThreshRoundModel", "lent", "(II)I"⟩ prog_11_method_39_code 3 (Option.some Jvm.ClassFile.FieldType.int) ∈ vx_tbl := vx_w 1055 (by decide +kernel) rfl
theorem wd_1056 : Cond.methodLink "ThreshRoundLaw" 80 ⟨"ThreshRoundModel", "count", "(I)I"⟩ ∈ vx_tbl := vx_w 1056 (by decide +kernel) rfl
theorem wd_1057 : Cond.instanceMethod ⟨"ThreshRoundModel", "count", "(I)I"⟩ ∈ vx_tbl := vx_w 1057 (by decide +kernel) rfl
theorem wd_1058 : Cond.selects "ThreshRoundModel" ⟨"ThreshRoundModel", "count", "(I)I"⟩ ⟨"ThreshRoundModel", "count", "(I)I"⟩ ∈ vx_tbl := vx_w 1058 (by decide +kernel) rfl
theorem wd_1059 : Cond.code ⟨"ThreshRoundModel", "count", "(I)I"⟩ prog_11_method_40_code 4 (Option.some Jvm.ClassFile.FieldType.int) ∈ vx_tbl := vx_w 1059 (by decide +kernel) rfl
theorem wd_1060 : Cond.fieldLink "java/lang/String" 9 "java/lang/String" "value" "[B" ∈ vx_tbl := vx_w 1060 (by decide +kernel) rfl
theorem wd_1061 : Cond.fieldLink "java/lang/String" 15 "java/lang/String" "coder" "B" ∈ vx_tbl := vx_w 1061 (by decide +kernel) rfl
end
section
section
variable {own : String} {cc : ByteArray} {nL : Nat} {ret : Option FieldType} {ini : Bool} {d mc ms : Nat} {Post : vx_P} {ad : Nat → Nat} {kc ks N : Nat} {Λ : vx_L} {μ : vx_mem} {pc : Nat} {ls : List (Nat × vx_v)} {st : List vx_v}
theorem vx_cat (ad : Nat → Nat) (st : List vx_v) : (((st.map (vx_V ad)).map fun v => v.category).sum) = st.length := by
  have e : ((st.map (vx_V ad)).map fun v => v.category) = List.replicate st.length 1 := by
    apply List.ext_getElem?
    intro i
    by_cases hi : i < st.length
    · simp [List.getElem?_replicate, hi, vx_V_cat]
    · simp [List.getElem?_replicate, hi]
  rw [e, List.sum_replicate_nat]
  omega
theorem vx_sub_A {D : va_G} {dA : Nat → ClassId} {ad : Nat → Nat} {N : Nat} {Λ : vx_L} {μ : vx_mem} {A : Nat → Prop} {H0 H : Heap} {locs : List Loc} (hS : va_S A H0 H locs) (hA : ∀ q : Nat, H0.size ≤ q → A q) (hD : va_D A (vx_W dA ad N Λ μ)) : ∀ q, va_A (vx_W dA ad N Λ μ) H.size q → A q := by
  intro q h
  rcases h with ⟨k, e, h⟩ | h
  · exact hD.2 k _ h
  · exact hA q (Nat.le_trans hS.1 h)
theorem vx_blind {D : va_G} {dA : Nat → ClassId} {vs : List Value} {sz : Nat} {ws : va_W} {ad : Nat → Nat} : FrameBlind (va_Pc vs (fun U => U.heap.size = sz ∧ va_P D vwCl ws U.heap ∧ va_K D vwCl (vx_T dA) U ∧ va_D (fun _ => True) ws ∧ vx_X ad (va_A ws sz) U U.heap)) :=
  fun a U g mk q => by
    obtain ⟨q0, q1, qP, qK, qD, qX⟩ := q
    exact ⟨q0, q1, qP, va_K.moved (u := U) (U := U.calling g mk a) (Vm.Alike.refl U.vm) qK, qD, vx_X.same (s := U) (U := U.calling g mk a) rfl qX⟩
theorem vx_pre {s : State} {D : va_G} {dA : Nat → ClassId} {ad : Nat → Nat} {N : Nat} {Λ : vx_L} {μ : vx_mem} {A : Nat → Prop} {H : Heap} {locs : List Loc} {vs : List vx_v} (hS : va_S A s.heap H locs) (hA : ∀ q : Nat, s.heap.size ≤ q → A q) (hK : va_K D vwCl (vx_T dA) s) (hP : va_P D vwCl (vx_W dA ad N Λ μ) H) (hD : va_D A (vx_W dA ad N Λ μ)) (hX : vx_X ad A s s.heap) :
    ∀ U : State, U.heap = H → s.WarmedH U.vm → va_Pc (vs.map (vx_V ad)) (fun U => U.heap.size = H.size ∧ va_P D vwCl (vx_W dA ad N Λ μ) U.heap ∧ va_K D vwCl (vx_T dA) U ∧ va_D (fun _ => True) (vx_W dA ad N Λ μ) ∧ vx_X ad (va_A (vx_W dA ad N Λ μ) H.size) U U.heap) (vs.map (vx_V ad)).toArray U := by
  intro U hU hW
  refine ⟨rfl, by rw [hU], by rw [hU]; exact hP, va_K.moved hW.alike hK, hD.weaken (fun _ _ _ _ => trivial), ?_⟩
  rw [hU]
  exact ((hX.kept hS.2.1).narrow (vx_sub_A (D := D) hS hA hD)).warm hW
/-- behind a call -/
theorem vx_after {p : Program} {l : Launch} {e : Env} {R : Room} {s : State} {m : MethodId} {args : Array Value} {below : List Frame} {meth : Method} {c : Code} {H : Heap} {locs : List Loc} {kc ks mc2 ms2 : Nat} {Q : State → Prop} {D : va_G} {dA : Nat → ClassId} {A A1 : Nat → Prop} {P : vx_P} {a : Array Value} {free : Addr → Prop} {LS : Array Slot} {st0 rest : List Value}
    (hr : va_Run p l e R s m args below meth c H locs kc ks mc2 ms2 (F0 m pc LS st0) rest (vx_Q D dA A1 P a) free) (hS : va_S A s.heap H locs) (hA : ∀ q, q < H.size → A1 q → A q) (hf : ∀ q, free q → A q)
    (kk : ∀ (r : Option vx_v) (ad' : Nat → Nat) (N' : Nat) (Λ' : vx_L) (μ' : vx_mem) (H1 : Heap) (locs1 : List Loc), P r ad' N' Λ' μ' → va_P D vwCl (vx_W dA ad' N' Λ' μ') H1 → va_D A1 (vx_W dA ad' N' Λ' μ') → va_S A s.heap H1 locs1 → W p l e R s m args below meth c H1 locs1 (kc + mc2) (ks + ms2) Q (F0 m (pc + 3) LS ((r.map (vx_V ad')).toList ++ rest))) : W p l e R s m args below meth c H locs kc ks Q (F0 m pc LS st0) := by
  intro T hT X
  obtain ⟨v, st₀, t, T', L, h0, X', hL, e1, e2, ⟨⟨r, ad', N', Λ', μ', hv, hp, hP1, hK1, hD1⟩, hz, hk⟩, hst⟩ := hr T hT X
  cases hv
  rw [h0] at hz hk
  rw [← e1] at hP1
  obtain ⟨t2, a1, b1⟩ := kk r ad' N' Λ' μ' T'.heap (locs ++ L) hp hP1 hD1
    ⟨Nat.le_trans hS.1 (by rw [e1]; exact hz), fun q h1 h2 => by rw [e1, hk q (Nat.lt_of_lt_of_le h1 hS.1) (fun z => h2 (hA q (Nat.lt_of_lt_of_le h1 hS.1) z))]; exact hS.2.1 q h1 h2, fun q hq => by
      rcases List.mem_append.mp hq with h | h
      · exact hS.2.2 q h
      · exact hf _ (hL q h)⟩ T' rfl X'
  exact ⟨t2, hst t2 a1, b1⟩
/-- a method that makes nothing: what it answers, and the memory behind it -/
def vx_D (ad : Nat → Nat) (N : Nat) (Λ : vx_L) (Q : Option vx_v → vx_mem → Prop) : vx_P := fun r a n L m => a = ad ∧ n = N ∧ L = Λ ∧ Q r m
abbrev vx_Mn (y : MethodName) (cc : ByteArray) (nL : Nat) (ret : Option FieldType) (d : Nat) (ad : Nat → Nat) (N : Nat) (Λ : vx_L) (μ : vx_mem) (vs : List vx_v) (Q : Option vx_v → vx_mem → Prop) : Prop := vx_M y cc nL ret d 0 0 ad N Λ μ vs (vx_D ad N Λ Q)
/-- .. one answer, one memory -/
abbrev vx_Mf (y : MethodName) (cc : ByteArray) (nL : Nat) (ret : Option FieldType) (d : Nat) (ad : Nat → Nat) (N : Nat) (Λ : vx_L) (μ : vx_mem) (vs : List vx_v) (r0 : Option vx_v) (μ0 : vx_mem) : Prop := vx_Mn y cc nL ret d ad N Λ μ vs (fun r m => r = r0 ∧ m = μ0)
/-- values that two address books tell alike -/
def vx_al (ad ad' : Nat → Nat) (ls : List (Nat × vx_v)) (st : List vx_v) : Prop := (∀ q ∈ ls, vx_V ad' q.2 = vx_V ad q.2) ∧ (∀ v ∈ st, vx_V ad' v = vx_V ad v) ∧ ∀ k, 1000 ≤ k → ad' k = ad k
theorem vx_al.l {ad ad' : Nat → Nat} {ls : List (Nat × vx_v)} {st : List vx_v} (h : vx_al ad ad' ls st) : ls.map (fun q => (q.1, vx_V ad' q.2)) = ls.map (fun q => (q.1, vx_V ad q.2)) := List.map_congr_left (fun q hq => by rw [h.1 q hq])
theorem vx_al.s {ad ad' : Nat → Nat} {ls : List (Nat × vx_v)} {st : List vx_v} (h : vx_al ad ad' ls st) : st.map (vx_V ad') = st.map (vx_V ad) := List.map_congr_left (fun v hv => h.2.1 v hv)
theorem vx_al.rf {ad : Nat → Nat} {ls : List (Nat × vx_v)} {st : List vx_v} : vx_al ad ad ls st := ⟨fun _ _ => rfl, fun _ _ => rfl, fun _ _ => rfl⟩
variable {y : MethodName} {cc2 : ByteArray} {nL2 : Nat} {ret2 : Option FieldType} {d2 mc2 ms2 index : Nat} {vs : List vx_v}

theorem vx_callVG {b ci nn : Nat} {fr : List (Option (Option Nat))} {C : String} {T : u_T} {P : vx_P} (hd : decode cc pc = .ok (.invokevirtual index, 3)) (hM : vx_M y cc2 nL2 ret2 d2 mc2 ms2 ad N Λ μ (vx_r b :: vs) P) (hl : Cond.methodLink own index y ∈ vx_tbl) (hc : Cond.code y cc2 nL2 ret2 ∈ vx_tbl) (hn : Cond.initialized y.cls ∈ vx_tbl) (hy : y.cls ≠ "java/lang/invoke/MethodHandle" ∧ y.cls ≠ "java/lang/invoke/VarHandle" ∧ (parseMethodDescriptor y.desc).map (fun d => d.parameters.length) = some vs.length) (hi : Cond.instanceMethod y ∈ vx_tbl) (hs : Cond.selects y.cls y y ∈ vx_tbl) (hb : b < N) (hΛ : Λ b = .inl (ci, fr)) (hcl : vwCl[ci]? = some (C, T, nn)) (hC9 : C = y.cls) (hd2 : d2 < d) (hnl : nL2 ≤ 45) (hst : st.length ≤ 8) (hmc : kc + mc2 ≤ mc) (hms : ks + ms2 ≤ ms)
    (kk : ∀ (r : Option vx_v) (ad' : Nat → Nat) (N' : Nat) (Λ' : vx_L) (μ' : vx_mem), P r ad' N' Λ' μ' → vx_al ad ad' ls st ∧ vx_J own cc nL ret ini d mc ms Post ad' (kc + mc2) (ks + ms2) N' Λ' μ' (pc + 3) (ls) (r.toList ++ st)) : vx_J own cc nL ret ini d mc ms Post ad kc ks N Λ μ (pc) (ls) (vs.reverse ++ vx_r b :: st) := by
  intro p l e s m args below meth c D dA A H locs LS hC hS hA hK hP hD hX hl'
  subst hC9
  have hts : ∀ w ∈ vx_tbl, w.before args s = true := hC.2.2.2.2.2.1
  have hs8 := vx_cat ad st
  have hrun := va_runV (As := vs.map (vx_V ad)) (rest := st.map (vx_V ad)) (g := F0 m pc LS ((vs.reverse ++ vx_r b :: st).map (vx_V ad))) (locs := locs) (cells := kc) (slots := ks) (below := below) (e := e) (meth := meth) (l := l) ⟨hC.1, hC.2.1, hC.2.2.1, hC.2.2.2.2.1, hts⟩ (hM l D dA H.size) ⟨callB_of (n := vs.length) (rm := vx_R d2 mc2 ms2) (R := vx_R d mc ms) hts (vx_good hc) rfl rfl rfl (hts _ hn) (hts _ hl) hy ⟨Nat.succ_le_of_lt hd2, by show 8 + (nL2 + 11) + 64 * d2 ≤ 64 * d; omega⟩, hts _ hi, hts _ hs⟩ ⟨vx_blind, va_recv hK hP hcl (q0 := b) (by rw [vx_W_at hb, hΛ]; rfl), vx_pre (vs := vx_r b :: vs) hS hA hK hP hD hX⟩ rfl (by rw [List.length_map]) hl'.1 (by simp [List.map_append, List.map_reverse, vx_V, va_rf]) (lv_room (by rw [hs8]; exact hst)) hd ⟨hmc, hms⟩
  refine vx_after hrun hS (fun q _ h => vx_sub_A (D := D) hS hA hD q h) (fun q h => vx_sub_A (D := D) hS hA hD q h) (fun r ad' N' Λ' μ' H1 locs1 hp hP1 hD1 hS1 => ?_)
  obtain ⟨hal, hk⟩ := kk r ad' N' Λ' μ' hp
  have hl2 : lv_has LS nL (ls.map (fun q => (q.1, vx_V ad' q.2))) := by rw [hal.l]; exact hl'
  have hw := hk p l e s m args below meth c D dA A H1 locs1 LS hC hS1 hA hK hP1 (hD1.weaken (fun k q _ h => vx_sub_A (D := D) hS hA hD q.1 h)) (hX.ad hal.2.2) hl2
  have e1 : (r.toList ++ st).map (vx_V ad') = (r.map (vx_V ad')).toList ++ st.map (vx_V ad) := by
    rw [List.map_append, hal.s]
    cases r <;> rfl
  rw [e1] at hw
  exact hw
theorem vx_callVN {b ci nn : Nat} {fr : List (Option (Option Nat))} {C : String} {T : u_T} {Q : Option vx_v → vx_mem → Prop} (hd : decode cc pc = .ok (.invokevirtual index, 3)) (hM : vx_Mn y cc2 nL2 ret2 d2 ad N Λ μ (vx_r b :: vs) Q) (hl : Cond.methodLink own index y ∈ vx_tbl) (hc : Cond.code y cc2 nL2 ret2 ∈ vx_tbl) (hn : Cond.initialized y.cls ∈ vx_tbl) (hy : y.cls ≠ "java/lang/invoke/MethodHandle" ∧ y.cls ≠ "java/lang/invoke/VarHandle" ∧ (parseMethodDescriptor y.desc).map (fun d => d.parameters.length) = some vs.length) (hi : Cond.instanceMethod y ∈ vx_tbl) (hs : Cond.selects y.cls y y ∈ vx_tbl) (hb : b < N) (hΛ : Λ b = .inl (ci, fr)) (hcl : vwCl[ci]? = some (C, T, nn)) (hC9 : C = y.cls) (hd2 : d2 < d) (hnl : nL2 ≤ 45) (hst : st.length ≤ 8) (hmc : kc ≤ mc) (hms : ks ≤ ms)
    (kk : ∀ (r : Option vx_v) (μ' : vx_mem), Q r μ' → vx_J own cc nL ret ini d mc ms Post ad kc ks N Λ μ' (pc + 3) (ls) (r.toList ++ st)) : vx_J own cc nL ret ini d mc ms Post ad kc ks N Λ μ (pc) (ls) (vs.reverse ++ vx_r b :: st) :=
  vx_callVG hd hM hl hc hn hy hi hs hb hΛ hcl hC9 hd2 hnl hst hmc hms (fun r ad' N' Λ' μ' hp => by
    obtain ⟨rfl, rfl, rfl, hq⟩ := hp
    exact ⟨vx_al.rf, kk r μ' hq⟩)
theorem vx_callV {b ci nn : Nat} {fr : List (Option (Option Nat))} {C : String} {T : u_T} {r0 : Option vx_v} {μ0 : vx_mem} (hd : decode cc pc = .ok (.invokevirtual index, 3)) (hM : vx_Mf y cc2 nL2 ret2 d2 ad N Λ μ (vx_r b :: vs) r0 μ0) (hl : Cond.methodLink own index y ∈ vx_tbl) (hc : Cond.code y cc2 nL2 ret2 ∈ vx_tbl) (hn : Cond.initialized y.cls ∈ vx_tbl) (hy : y.cls ≠ "java/lang/invoke/MethodHandle" ∧ y.cls ≠ "java/lang/invoke/VarHandle" ∧ (parseMethodDescriptor y.desc).map (fun d => d.parameters.length) = some vs.length) (hi : Cond.instanceMethod y ∈ vx_tbl) (hs : Cond.selects y.cls y y ∈ vx_tbl) (hb : b < N) (hΛ : Λ b = .inl (ci, fr)) (hcl : vwCl[ci]? = some (C, T, nn)) (hC9 : C = y.cls) (hd2 : d2 < d) (hnl : nL2 ≤ 45) (hst : st.length ≤ 8) (hmc : kc ≤ mc) (hms : ks ≤ ms)
    (kk : vx_J own cc nL ret ini d mc ms Post ad kc ks N Λ μ0 (pc + 3) (ls) (r0.toList ++ st)) : vx_J own cc nL ret ini d mc ms Post ad kc ks N Λ μ (pc) (ls) (vs.reverse ++ vx_r b :: st) :=
  vx_callVN hd hM hl hc hn hy hi hs hb hΛ hcl hC9 hd2 hnl hst hmc hms (fun r μ' hp => by
    obtain ⟨rfl, rfl⟩ := hp
    exact kk)
theorem vx_callSG {P : vx_P} (hd : decode cc pc = .ok (.invokestatic index, 3)) (hM : vx_M y cc2 nL2 ret2 d2 mc2 ms2 ad N Λ μ (vs) P) (hl : Cond.methodLink own index y ∈ vx_tbl) (hc : Cond.code y cc2 nL2 ret2 ∈ vx_tbl) (hn : Cond.initialized y.cls ∈ vx_tbl) (hy : y.cls ≠ "java/lang/invoke/MethodHandle" ∧ y.cls ≠ "java/lang/invoke/VarHandle" ∧ (parseMethodDescriptor y.desc).map (fun d => d.parameters.length) = some vs.length) (hsta : Cond.static y ∈ vx_tbl) (hd2 : d2 < d) (hnl : nL2 ≤ 45) (hst : st.length ≤ 8) (hmc : kc + mc2 ≤ mc) (hms : ks + ms2 ≤ ms)
    (kk : ∀ (r : Option vx_v) (ad' : Nat → Nat) (N' : Nat) (Λ' : vx_L) (μ' : vx_mem), P r ad' N' Λ' μ' → vx_al ad ad' ls st ∧ vx_J own cc nL ret ini d mc ms Post ad' (kc + mc2) (ks + ms2) N' Λ' μ' (pc + 3) (ls) (r.toList ++ st)) : vx_J own cc nL ret ini d mc ms Post ad kc ks N Λ μ (pc) (ls) (vs.reverse ++ st) := by
  intro p l e s m args below meth c D dA A H locs LS hC hS hA hK hP hD hX hl'
  skip
  have hts : ∀ w ∈ vx_tbl, w.before args s = true := hC.2.2.2.2.2.1
  have hs8 := vx_cat ad st
  have hrun := va_runS (As := vs.map (vx_V ad)) (rest := st.map (vx_V ad)) (g := F0 m pc LS ((vs.reverse ++ st).map (vx_V ad))) (locs := locs) (cells := kc) (slots := ks) (below := below) (e := e) (meth := meth) (l := l) ⟨hC.1, hC.2.1, hC.2.2.1, hC.2.2.2.2.1, hts⟩ (hM l D dA H.size) ⟨callB_of (n := vs.length) (rm := vx_R d2 mc2 ms2) (R := vx_R d mc ms) hts (vx_good hc) rfl rfl rfl (hts _ hn) (hts _ hl) hy ⟨Nat.succ_le_of_lt hd2, by show 8 + (nL2 + 11) + 64 * d2 ≤ 64 * d; omega⟩, hts _ hsta⟩ ⟨vx_blind, vx_pre (vs := vs) hS hA hK hP hD hX⟩ rfl (by rw [List.length_map]) hl'.1 (by simp [List.map_append, List.map_reverse, vx_V, va_rf]) (lv_room (by rw [hs8]; exact hst)) hd ⟨hmc, hms⟩
  refine vx_after hrun hS (fun q _ h => vx_sub_A (D := D) hS hA hD q h) (fun q h => vx_sub_A (D := D) hS hA hD q h) (fun r ad' N' Λ' μ' H1 locs1 hp hP1 hD1 hS1 => ?_)
  obtain ⟨hal, hk⟩ := kk r ad' N' Λ' μ' hp
  have hl2 : lv_has LS nL (ls.map (fun q => (q.1, vx_V ad' q.2))) := by rw [hal.l]; exact hl'
  have hw := hk p l e s m args below meth c D dA A H1 locs1 LS hC hS1 hA hK hP1 (hD1.weaken (fun k q _ h => vx_sub_A (D := D) hS hA hD q.1 h)) (hX.ad hal.2.2) hl2
  have e1 : (r.toList ++ st).map (vx_V ad') = (r.map (vx_V ad')).toList ++ st.map (vx_V ad) := by
    rw [List.map_append, hal.s]
    cases r <;> rfl
  rw [e1] at hw
  exact hw
theorem vx_callSN {Q : Option vx_v → vx_mem → Prop} (hd : decode cc pc = .ok (.invokestatic index, 3)) (hM : vx_Mn y cc2 nL2 ret2 d2 ad N Λ μ (vs) Q) (hl : Cond.methodLink own index y ∈ vx_tbl) (hc : Cond.code y cc2 nL2 ret2 ∈ vx_tbl) (hn : Cond.initialized y.cls ∈ vx_tbl) (hy : y.cls ≠ "java/lang/invoke/MethodHandle" ∧ y.cls ≠ "java/lang/invoke/VarHandle" ∧ (parseMethodDescriptor y.desc).map (fun d => d.parameters.length) = some vs.length) (hsta : Cond.static y ∈ vx_tbl) (hd2 : d2 < d) (hnl : nL2 ≤ 45) (hst : st.length ≤ 8) (hmc : kc ≤ mc) (hms : ks ≤ ms)
    (kk : ∀ (r : Option vx_v) (μ' : vx_mem), Q r μ' → vx_J own cc nL ret ini d mc ms Post ad kc ks N Λ μ' (pc + 3) (ls) (r.toList ++ st)) : vx_J own cc nL ret ini d mc ms Post ad kc ks N Λ μ (pc) (ls) (vs.reverse ++ st) :=
  vx_callSG hd hM hl hc hn hy hsta hd2 hnl hst hmc hms (fun r ad' N' Λ' μ' hp => by
    obtain ⟨rfl, rfl, rfl, hq⟩ := hp
    exact ⟨vx_al.rf, kk r μ' hq⟩)
theorem vx_callS {r0 : Option vx_v} {μ0 : vx_mem} (hd : decode cc pc = .ok (.invokestatic index, 3)) (hM : vx_Mf y cc2 nL2 ret2 d2 ad N Λ μ (vs) r0 μ0) (hl : Cond.methodLink own index y ∈ vx_tbl) (hc : Cond.code y cc2 nL2 ret2 ∈ vx_tbl) (hn : Cond.initialized y.cls ∈ vx_tbl) (hy : y.cls ≠ "java/lang/invoke/MethodHandle" ∧ y.cls ≠ "java/lang/invoke/VarHandle" ∧ (parseMethodDescriptor y.desc).map (fun d => d.parameters.length) = some vs.length) (hsta : Cond.static y ∈ vx_tbl) (hd2 : d2 < d) (hnl : nL2 ≤ 45) (hst : st.length ≤ 8) (hmc : kc ≤ mc) (hms : ks ≤ ms)
    (kk : vx_J own cc nL ret ini d mc ms Post ad kc ks N Λ μ0 (pc + 3) (ls) (r0.toList ++ st)) : vx_J own cc nL ret ini d mc ms Post ad kc ks N Λ μ (pc) (ls) (vs.reverse ++ st) :=
  vx_callSN hd hM hl hc hn hy hsta hd2 hnl hst hmc hms (fun r μ' hp => by
    obtain ⟨rfl, rfl⟩ := hp
    exact kk)
theorem vx_callXG {P : vx_P} (hd : decode cc pc = .ok (.invokestatic index, 3)) (hM : vx_M y cc2 nL2 ret2 d2 mc2 ms2 ad N Λ μ (vs) P) (hl : Cond.methodLinkNest own index y "ThreshRound" ∈ vx_nest) (hc : Cond.code y cc2 nL2 ret2 ∈ vx_tbl) (hn : Cond.initialized y.cls ∈ vx_tbl) (hy : y.cls ≠ "java/lang/invoke/MethodHandle" ∧ y.cls ≠ "java/lang/invoke/VarHandle" ∧ (parseMethodDescriptor y.desc).map (fun d => d.parameters.length) = some vs.length) (hsta : Cond.static y ∈ vx_tbl) (hd2 : d2 < d) (hnl : nL2 ≤ 45) (hst : st.length ≤ 8) (hmc : kc + mc2 ≤ mc) (hms : ks + ms2 ≤ ms)
    (kk : ∀ (r : Option vx_v) (ad' : Nat → Nat) (N' : Nat) (Λ' : vx_L) (μ' : vx_mem), P r ad' N' Λ' μ' → vx_al ad ad' ls st ∧ vx_J own cc nL ret ini d mc ms Post ad' (kc + mc2) (ks + ms2) N' Λ' μ' (pc + 3) (ls) (r.toList ++ st)) : vx_J own cc nL ret ini d mc ms Post ad kc ks N Λ μ (pc) (ls) (vs.reverse ++ st) := by
  intro p l e s m args below meth c D dA A H locs LS hC hS hA hK hP hD hX hl'
  skip
  have hts : ∀ w ∈ vx_tbl, w.before args s = true := hC.2.2.2.2.2.1
  have hs8 := vx_cat ad st
  have hrun := va_runSN (As := vs.map (vx_V ad)) (rest := st.map (vx_V ad)) (g := F0 m pc LS ((vs.reverse ++ st).map (vx_V ad))) (locs := locs) (cells := kc) (slots := ks) (below := below) (e := e) (meth := meth) (l := l) ⟨hC.1, hC.2.1, hC.2.2.1, hC.2.2.2.2.1, hts⟩ (hM l D dA H.size) ⟨va_cnB (rm := vx_R d2 mc2 ms2) (R := vx_R d mc ms) vs.length hts (vx_good hc) rfl rfl rfl (hX.1 _ hl) (hts _ hn) hy ⟨Nat.succ_le_of_lt hd2, by show 8 + (nL2 + 11) + 64 * d2 ≤ 64 * d; omega⟩, hts _ hsta, trivial⟩ ⟨vx_blind, vx_pre (vs := vs) hS hA hK hP hD hX⟩ rfl (by rw [List.length_map]) hl'.1 (by simp [List.map_append, List.map_reverse, vx_V, va_rf]) (lv_room (by rw [hs8]; exact hst)) hd ⟨hmc, hms⟩
  refine vx_after hrun hS (fun q _ h => vx_sub_A (D := D) hS hA hD q h) (fun q h => vx_sub_A (D := D) hS hA hD q h) (fun r ad' N' Λ' μ' H1 locs1 hp hP1 hD1 hS1 => ?_)
  obtain ⟨hal, hk⟩ := kk r ad' N' Λ' μ' hp
  have hl2 : lv_has LS nL (ls.map (fun q => (q.1, vx_V ad' q.2))) := by rw [hal.l]; exact hl'
  have hw := hk p l e s m args below meth c D dA A H1 locs1 LS hC hS1 hA hK hP1 (hD1.weaken (fun k q _ h => vx_sub_A (D := D) hS hA hD q.1 h)) (hX.ad hal.2.2) hl2
  have e1 : (r.toList ++ st).map (vx_V ad') = (r.map (vx_V ad')).toList ++ st.map (vx_V ad) := by
    rw [List.map_append, hal.s]
    cases r <;> rfl
  rw [e1] at hw
  exact hw
theorem vx_callXN {Q : Option vx_v → vx_mem → Prop} (hd : decode cc pc = .ok (.invokestatic index, 3)) (hM : vx_Mn y cc2 nL2 ret2 d2 ad N Λ μ (vs) Q) (hl : Cond.methodLinkNest own index y "ThreshRound" ∈ vx_nest) (hc : Cond.code y cc2 nL2 ret2 ∈ vx_tbl) (hn : Cond.initialized y.cls ∈ vx_tbl) (hy : y.cls ≠ "java/lang/invoke/MethodHandle" ∧ y.cls ≠ "java/lang/invoke/VarHandle" ∧ (parseMethodDescriptor y.desc).map (fun d => d.parameters.length) = some vs.length) (hsta : Cond.static y ∈ vx_tbl) (hd2 : d2 < d) (hnl : nL2 ≤ 45) (hst : st.length ≤ 8) (hmc : kc ≤ mc) (hms : ks ≤ ms)
    (kk : ∀ (r : Option vx_v) (μ' : vx_mem), Q r μ' → vx_J own cc nL ret ini d mc ms Post ad kc ks N Λ μ' (pc + 3) (ls) (r.toList ++ st)) : vx_J own cc nL ret ini d mc ms Post ad kc ks N Λ μ (pc) (ls) (vs.reverse ++ st) :=
  vx_callXG hd hM hl hc hn hy hsta hd2 hnl hst hmc hms (fun r ad' N' Λ' μ' hp => by
    obtain ⟨rfl, rfl, rfl, hq⟩ := hp
    exact ⟨vx_al.rf, kk r μ' hq⟩)
theorem vx_callX {r0 : Option vx_v} {μ0 : vx_mem} (hd : decode cc pc = .ok (.invokestatic index, 3)) (hM : vx_Mf y cc2 nL2 ret2 d2 ad N Λ μ (vs) r0 μ0) (hl : Cond.methodLinkNest own index y "ThreshRound" ∈ vx_nest) (hc : Cond.code y cc2 nL2 ret2 ∈ vx_tbl) (hn : Cond.initialized y.cls ∈ vx_tbl) (hy : y.cls ≠ "java/lang/invoke/MethodHandle" ∧ y.cls ≠ "java/lang/invoke/VarHandle" ∧ (parseMethodDescriptor y.desc).map (fun d => d.parameters.length) = some vs.length) (hsta : Cond.static y ∈ vx_tbl) (hd2 : d2 < d) (hnl : nL2 ≤ 45) (hst : st.length ≤ 8) (hmc : kc ≤ mc) (hms : ks ≤ ms)
    (kk : vx_J own cc nL ret ini d mc ms Post ad kc ks N Λ μ0 (pc + 3) (ls) (r0.toList ++ st)) : vx_J own cc nL ret ini d mc ms Post ad kc ks N Λ μ (pc) (ls) (vs.reverse ++ st) :=
  vx_callXN hd hM hl hc hn hy hsta hd2 hnl hst hmc hms (fun r μ' hp => by
    obtain ⟨rfl, rfl⟩ := hp
    exact kk)
theorem vx_callIG {b : Nat} {P : vx_P} (hd : decode cc pc = .ok (.invokespecial index, 3)) (hM : vx_M y cc2 nL2 none d2 mc2 ms2 ad N Λ μ (vx_r b :: vs) P) (hl : Cond.methodLink own index y ∈ vx_tbl) (hc : Cond.code y cc2 nL2 none ∈ vx_tbl) (hn : Cond.initialized y.cls ∈ vx_tbl) (hy : y.cls ≠ "java/lang/invoke/MethodHandle" ∧ y.cls ≠ "java/lang/invoke/VarHandle" ∧ (parseMethodDescriptor y.desc).map (fun d => d.parameters.length) = some vs.length) (hi : Cond.instanceMethod y ∈ vx_tbl) (hin : y.name = "<init>") (hd2 : d2 < d) (hnl : nL2 ≤ 45) (hst : st.length ≤ 8) (hmc : kc + mc2 ≤ mc) (hms : ks + ms2 ≤ ms)
    (kk : ∀ (r : Option vx_v) (ad' : Nat → Nat) (N' : Nat) (Λ' : vx_L) (μ' : vx_mem), P r ad' N' Λ' μ' → vx_al ad ad' ls st ∧ vx_J own cc nL ret ini d mc ms Post ad' (kc + mc2) (ks + ms2) N' Λ' μ' (pc + 3) (ls) (r.toList ++ st)) : vx_J own cc nL ret ini d mc ms Post ad kc ks N Λ μ (pc) (ls) (vs.reverse ++ vx_r b :: st) := by
  intro p l e s m args below meth c D dA A H locs LS hC hS hA hK hP hD hX hl'
  skip
  have hts : ∀ w ∈ vx_tbl, w.before args s = true := hC.2.2.2.2.2.1
  have hs8 := vx_cat ad st
  have hrun := va_runI (As := vs.map (vx_V ad)) (rest := st.map (vx_V ad)) (g := F0 m pc LS ((vs.reverse ++ vx_r b :: st).map (vx_V ad))) (locs := locs) (cells := kc) (slots := ks) (below := below) (e := e) (meth := meth) (l := l) ⟨hC.1, hC.2.1, hC.2.2.1, hC.2.2.2.2.1, hts⟩ (hM l D dA H.size) ⟨callB_of (n := vs.length) (rm := vx_R d2 mc2 ms2) (R := vx_R d mc ms) hts (vx_good hc) rfl rfl rfl (hts _ hn) (hts _ hl) hy ⟨Nat.succ_le_of_lt hd2, by show 8 + (nL2 + 11) + 64 * d2 ≤ 64 * d; omega⟩, hin, hts _ hi⟩ ⟨vx_blind, vx_pre (vs := vx_r b :: vs) hS hA hK hP hD hX⟩ rfl (by rw [List.length_map]) hl'.1 (by simp [List.map_append, List.map_reverse, vx_V, va_rf]) (lv_room (by rw [hs8]; exact hst)) hd ⟨hmc, hms⟩
  refine vx_after hrun hS (fun q _ h => vx_sub_A (D := D) hS hA hD q h) (fun q h => vx_sub_A (D := D) hS hA hD q h) (fun r ad' N' Λ' μ' H1 locs1 hp hP1 hD1 hS1 => ?_)
  obtain ⟨hal, hk⟩ := kk r ad' N' Λ' μ' hp
  have hl2 : lv_has LS nL (ls.map (fun q => (q.1, vx_V ad' q.2))) := by rw [hal.l]; exact hl'
  have hw := hk p l e s m args below meth c D dA A H1 locs1 LS hC hS1 hA hK hP1 (hD1.weaken (fun k q _ h => vx_sub_A (D := D) hS hA hD q.1 h)) (hX.ad hal.2.2) hl2
  have e1 : (r.toList ++ st).map (vx_V ad') = (r.map (vx_V ad')).toList ++ st.map (vx_V ad) := by
    rw [List.map_append, hal.s]
    cases r <;> rfl
  rw [e1] at hw
  exact hw
theorem vx_Mf.to {ad : Nat → Nat} {N : Nat} {Λ : vx_L} {μ : vx_mem} {r r' : Option vx_v} {m m' : vx_mem} {d : Nat} (h : vx_Mf y cc2 nL2 ret2 d ad N Λ μ vs r m) (hr : r = r') (hm : m = m') : vx_Mf y cc2 nL2 ret2 d ad N Λ μ vs r' m' := by
  subst hr; subst hm; exact h
theorem vx_m1 {m : vx_mem} {k : Nat} {f g : Nat → Int32} : va_up (va_up m k f) k g = va_up m k g := bx_uu _ _ _ _
theorem vx_m2 {m : vx_mem} {a b : Nat} {f g : Nat → Int32} (h : a ≠ b) : va_up (va_up m a f) b g = va_up (va_up m b g) a f := by
  funext z
  unfold va_up
  by_cases h1 : z = b
  · by_cases h2 : z = a
    · exact absurd (h2.symm.trans h1) h
    · simp [h1, Ne.symm h]
  · simp [h1]
end
end
section
section
theorem vx_lays {ws : List Cond} (ps : List Nat) (hp : ws = ps.filterMap (fun i => lw_tbl[i]?)) (hg : ws.all goodWord = true) : ∀ x ∈ ws, x ∈ vx_tbl := by
  intro x hx
  have h1 := List.all_eq_true.mp hg x hx
  rw [hp] at hx
  obtain ⟨i, -, hi⟩ := List.mem_filterMap.mp hx
  exact vx_w i hi h1
set_option maxRecDepth 20000 in
theorem lay_X0 : ∀ x ∈ u_ws RX0 TX0 4, x ∈ vx_tbl := vx_lays [118, 120, 122, 124] (by decide +kernel) (by decide +kernel)
set_option maxRecDepth 20000 in
theorem lay_X1 : ∀ x ∈ u_ws RX1 TX1 2, x ∈ vx_tbl := vx_lays [212, 214] (by decide +kernel) (by decide +kernel)
set_option maxRecDepth 20000 in
theorem lay_X2 : ∀ x ∈ u_ws RX2 TX2 6, x ∈ vx_tbl := vx_lays [330, 332, 334, 336, 338, 340] (by decide +kernel) (by decide +kernel)
set_option maxRecDepth 20000 in
theorem lay_X3 : ∀ x ∈ u_ws RX3 TX3 12, x ∈ vx_tbl := vx_lays [160, 162, 164, 166, 168, 170, 172, 174, 176, 178, 180, 182] (by decide +kernel) (by decide +kernel)
set_option maxRecDepth 20000 in
theorem lay_X4 : ∀ x ∈ u_ws RX4 TX4 8, x ∈ vx_tbl := vx_lays [295, 297, 299, 301, 303, 305, 307, 309] (by decide +kernel) (by decide +kernel)
set_option maxRecDepth 20000 in
theorem lay_X5 : ∀ x ∈ u_ws RX5 TX5 1, x ∈ vx_tbl := vx_lays [198] (by decide +kernel) (by decide +kernel)
set_option maxRecDepth 20000 in
theorem lay_X6 : ∀ x ∈ u_ws RX6 TX6 12, x ∈ vx_tbl := vx_lays [247, 249, 251, 253, 255, 257, 259, 261, 263, 265, 267, 269] (by decide +kernel) (by decide +kernel)
set_option maxRecDepth 20000 in
theorem lay_X7 : ∀ x ∈ u_ws RX7 TX7 4, x ∈ vx_tbl := vx_lays [80, 82, 84, 86] (by decide +kernel) (by decide +kernel)
set_option maxRecDepth 20000 in
theorem lay_X8 : ∀ x ∈ u_ws RX8 TX8 8, x ∈ vx_tbl := vx_lays [351, 353, 355, 357, 359, 361, 363, 365] (by decide +kernel) (by decide +kernel)
set_option maxRecDepth 20000 in
theorem lay_X9 : ∀ x ∈ u_ws RX9 TX9 56, x ∈ vx_tbl := vx_lays [792, 794, 796, 798, 800, 802, 804, 806, 808, 810, 812, 814, 816, 818, 820, 822, 824, 826, 828, 830, 832, 834, 836, 838, 840, 842, 844, 846, 848, 850, 852, 854, 856, 858, 860, 862, 864, 866, 868, 870, 872, 874, 876, 878, 880, 882, 884, 886, 888, 890, 892, 894, 896, 898, 900, 902] (by decide +kernel) (by decide +kernel)
def vx_lst : List vx_k := [(.inl (8, [some (some 1), some (some 3), some (some 6), some (some 18), some (some 28), some (some 39), some (some 47), some (some 53)])), (.inl (7, [some (some 2), none, none, none])), (.inr (0, 300, none)), (.inl (0, [some (some 4), some (some 5), none, none])), (.inr (0, 6, none)), (.inr (0, 6, none)), (.inl (3, [none, some (some 7), some (some 8), some (some 9), some (some 10), some (some 11), some (some 12), some (some 13), some (some 14), some (some 15), some (some 16), some (some 17)])), (.inr (0, 8, none)), (.inr (0, 8, none)), (.inr (0, 8, none)), (.inr (0, 8, none)), (.inr (0, 8, none)), (.inr (0, 8, none)), (.inr (0, 8, none)), (.inr (0, 8, none)), (.inr (0, 8, none)), (.inr (0, 8, none)), (.inr (0, 8, none)), (.inl (5, [some (some 19)])), (.inr (2, 8, some [20, 21, 22, 23, 24, 25, 26, 27])), (.inr (0, 8, none)), (.inr (0, 8, none)), (.inr (0, 8, none)), (.inr (0, 8, none)), (.inr (0, 8, none)), (.inr (0, 8, none)), (.inr (0, 8, none)), (.inr (0, 8, none)), (.inl (1, [some (some 29), some (some 38)])), (.inr (2, 8, some [30, 31, 32, 33, 34, 35, 36, 37])), (.inr (0, 8, none)), (.inr (0, 8, none)), (.inr (0, 8, none)), (.inr (0, 8, none)), (.inr (0, 8, none)), (.inr (0, 8, none)), (.inr (0, 8, none)), (.inr (0, 8, none)), (.inr (0, 8, none)), (.inl (6, [none, some (some 40), some (some 41), some (some 42), some (some 43), some (some 44), none, some (some 45), some (some 46), none, none, none])), (.inr (0, 8, none)), (.inr (0, 8, none)), (.inr (0, 8, none)), (.inr (1, 8, none)), (.inr (0, 7, none)), (.inr (0, 7, none)), (.inr (0, 7, none)), (.inl (4, [none, none, none, some (some 48), some (some 49), some (some 50), some (some 51), some (some 52)])), (.inr (0, 7, none)), (.inr (0, 7, none)), (.inr (0, 7, none)), (.inr (0, 7, none)), (.inr (0, 7, none)), (.inl (2, [none, none, none, none, none, none])), (.inl (9, [none, some (some 55), none, some (some 56), some (some 57), some (some 58), some (some 59), none, none, none, none, none, none, none, none, none, none, none, none, some (some 60), some (some 61), some (some 62), some (some 63), some (some 64), some (some 65), some (some 66), some (some 67), some (some 68), some (some 69), some (some 70), some (some 71), some (some 72), some (some 73), none, none, none, none, none, none, some (some 74), some (some 75), some (some 76), some (some 77), some (some 78), none, none, none, none, none, some (some 79), some (some 80), none, none, none, none, some (some 81)])), (.inr (0, 300, none)), (.inr (0, 12, none)), (.inr (0, 6, none)), (.inr (0, 6, none)), (.inr (0, 6, none)), (.inr (0, 8, none)), (.inr (0, 8, none)), (.inr (0, 8, none)), (.inr (0, 8, none)), (.inr (0, 8, none)), (.inr (0, 8, none)), (.inr (0, 8, none)), (.inr (0, 8, none)), (.inr (0, 8, none)), (.inr (0, 8, none)), (.inr (0, 8, none)), (.inr (0, 64, none)), (.inr (0, 64, none)), (.inr (0, 8, none)), (.inr (0, 7, none)), (.inr (0, 7, none)), (.inr (0, 7, none)), (.inr (0, 7, none)), (.inr (0, 7, none)), (.inr (0, 7, none)), (.inr (0, 8, none)), (.inr (0, 7, none))]
def vx_lay : vx_L := fun k => vx_lst.getD k (.inr (0, 0, none))
theorem ly_0 : vx_lay 0 = (.inl (8, [some (some 1), some (some 3), some (some 6), some (some 18), some (some 28), some (some 39), some (some 47), some (some 53)])) := rfl
theorem ly_1 : vx_lay 1 = (.inl (7, [some (some 2), none, none, none])) := rfl
theorem ly_2 : vx_lay 2 = (.inr (0, 300, none)) := rfl
theorem ly_3 : vx_lay 3 = (.inl (0, [some (some 4), some (some 5), none, none])) := rfl
theorem ly_4 : vx_lay 4 = (.inr (0, 6, none)) := rfl
theorem ly_5 : vx_lay 5 = (.inr (0, 6, none)) := rfl
theorem ly_6 : vx_lay 6 = (.inl (3, [none, some (some 7), some (some 8), some (some 9), some (some 10), some (some 11), some (some 12), some (some 13), some (some 14), some (some 15), some (some 16), some (some 17)])) := rfl
theorem ly_7 : vx_lay 7 = (.inr (0, 8, none)) := rfl
theorem ly_8 : vx_lay 8 = (.inr (0, 8, none)) := rfl
theorem ly_9 : vx_lay 9 = (.inr (0, 8, none)) := rfl
theorem ly_10 : vx_lay 10 = (.inr (0, 8, none)) := rfl
theorem ly_11 : vx_lay 11 = (.inr (0, 8, none)) := rfl
theorem ly_12 : vx_lay 12 = (.inr (0, 8, none)) := rfl
theorem ly_13 : vx_lay 13 = (.inr (0, 8, none)) := rfl
theorem ly_14 : vx_lay 14 = (.inr (0, 8, none)) := rfl
theorem ly_15 : vx_lay 15 = (.inr (0, 8, none)) := rfl
theorem ly_16 : vx_lay 16 = (.inr (0, 8, none)) := rfl
theorem ly_17 : vx_lay 17 = (.inr (0, 8, none)) := rfl
theorem ly_18 : vx_lay 18 = (.inl (5, [some (some 19)])) := rfl
theorem ly_19 : vx_lay 19 = (.inr (2, 8, some [20, 21, 22, 23, 24, 25, 26, 27])) := rfl
theorem ly_20 : vx_lay 20 = (.inr (0, 8, none)) := rfl
theorem ly_21 : vx_lay 21 = (.inr (0, 8, none)) := rfl
theorem ly_22 : vx_lay 22 = (.inr (0, 8, none)) := rfl
theorem ly_23 : vx_lay 23 = (.inr (0, 8, none)) := rfl
theorem ly_24 : vx_lay 24 = (.inr (0, 8, none)) := rfl
theorem ly_25 : vx_lay 25 = (.inr (0, 8, none)) := rfl
theorem ly_26 : vx_lay 26 = (.inr (0, 8, none)) := rfl
theorem ly_27 : vx_lay 27 = (.inr (0, 8, none)) := rfl
theorem ly_28 : vx_lay 28 = (.inl (1, [some (some 29), some (some 38)])) := rfl
theorem ly_29 : vx_lay 29 = (.inr (2, 8, some [30, 31, 32, 33, 34, 35, 36, 37])) := rfl
theorem ly_30 : vx_lay 30 = (.inr (0, 8, none)) := rfl
theorem ly_31 : vx_lay 31 = (.inr (0, 8, none)) := rfl
theorem ly_32 : vx_lay 32 = (.inr (0, 8, none)) := rfl
theorem ly_33 : vx_lay 33 = (.inr (0, 8, none)) := rfl
theorem ly_34 : vx_lay 34 = (.inr (0, 8, none)) := rfl
theorem ly_35 : vx_lay 35 = (.inr (0, 8, none)) := rfl
theorem ly_36 : vx_lay 36 = (.inr (0, 8, none)) := rfl
theorem ly_37 : vx_lay 37 = (.inr (0, 8, none)) := rfl
theorem ly_38 : vx_lay 38 = (.inr (0, 8, none)) := rfl
theorem ly_39 : vx_lay 39 = (.inl (6, [none, some (some 40), some (some 41), some (some 42), some (some 43), some (some 44), none, some (some 45), some (some 46), none, none, none])) := rfl
theorem ly_40 : vx_lay 40 = (.inr (0, 8, none)) := rfl
theorem ly_41 : vx_lay 41 = (.inr (0, 8, none)) := rfl
theorem ly_42 : vx_lay 42 = (.inr (0, 8, none)) := rfl
theorem ly_43 : vx_lay 43 = (.inr (1, 8, none)) := rfl
theorem ly_44 : vx_lay 44 = (.inr (0, 7, none)) := rfl
theorem ly_45 : vx_lay 45 = (.inr (0, 7, none)) := rfl
theorem ly_46 : vx_lay 46 = (.inr (0, 7, none)) := rfl
theorem ly_47 : vx_lay 47 = (.inl (4, [none, none, none, some (some 48), some (some 49), some (some 50), some (some 51), some (some 52)])) := rfl
theorem ly_48 : vx_lay 48 = (.inr (0, 7, none)) := rfl
theorem ly_49 : vx_lay 49 = (.inr (0, 7, none)) := rfl
theorem ly_50 : vx_lay 50 = (.inr (0, 7, none)) := rfl
theorem ly_51 : vx_lay 51 = (.inr (0, 7, none)) := rfl
theorem ly_52 : vx_lay 52 = (.inr (0, 7, none)) := rfl
theorem ly_53 : vx_lay 53 = (.inl (2, [none, none, none, none, none, none])) := rfl
theorem ly_54 : vx_lay 54 = (.inl (9, [none, some (some 55), none, some (some 56), some (some 57), some (some 58), some (some 59), none, none, none, none, none, none, none, none, none, none, none, none, some (some 60), some (some 61), some (some 62), some (some 63), some (some 64), some (some 65), some (some 66), some (some 67), some (some 68), some (some 69), some (some 70), some (some 71), some (some 72), some (some 73), none, none, none, none, none, none, some (some 74), some (some 75), some (some 76), some (some 77), some (some 78), none, none, none, none, none, some (some 79), some (some 80), none, none, none, none, some (some 81)])) := rfl
theorem ly_55 : vx_lay 55 = (.inr (0, 300, none)) := rfl
theorem ly_56 : vx_lay 56 = (.inr (0, 12, none)) := rfl
theorem ly_57 : vx_lay 57 = (.inr (0, 6, none)) := rfl
theorem ly_58 : vx_lay 58 = (.inr (0, 6, none)) := rfl
theorem ly_59 : vx_lay 59 = (.inr (0, 6, none)) := rfl
theorem ly_60 : vx_lay 60 = (.inr (0, 8, none)) := rfl
theorem ly_61 : vx_lay 61 = (.inr (0, 8, none)) := rfl
theorem ly_62 : vx_lay 62 = (.inr (0, 8, none)) := rfl
theorem ly_63 : vx_lay 63 = (.inr (0, 8, none)) := rfl
theorem ly_64 : vx_lay 64 = (.inr (0, 8, none)) := rfl
theorem ly_65 : vx_lay 65 = (.inr (0, 8, none)) := rfl
theorem ly_66 : vx_lay 66 = (.inr (0, 8, none)) := rfl
theorem ly_67 : vx_lay 67 = (.inr (0, 8, none)) := rfl
theorem ly_68 : vx_lay 68 = (.inr (0, 8, none)) := rfl
theorem ly_69 : vx_lay 69 = (.inr (0, 8, none)) := rfl
theorem ly_70 : vx_lay 70 = (.inr (0, 8, none)) := rfl
theorem ly_71 : vx_lay 71 = (.inr (0, 64, none)) := rfl
theorem ly_72 : vx_lay 72 = (.inr (0, 64, none)) := rfl
theorem ly_73 : vx_lay 73 = (.inr (0, 8, none)) := rfl
theorem ly_74 : vx_lay 74 = (.inr (0, 7, none)) := rfl
theorem ly_75 : vx_lay 75 = (.inr (0, 7, none)) := rfl
theorem ly_76 : vx_lay 76 = (.inr (0, 7, none)) := rfl
theorem ly_77 : vx_lay 77 = (.inr (0, 7, none)) := rfl
theorem ly_78 : vx_lay 78 = (.inr (0, 7, none)) := rfl
theorem ly_79 : vx_lay 79 = (.inr (0, 7, none)) := rfl
theorem ly_80 : vx_lay 80 = (.inr (0, 8, none)) := rfl
theorem ly_81 : vx_lay 81 = (.inr (0, 7, none)) := rfl
theorem nst_0 : Cond.methodLinkNest "ThreshRound$Customs" 52 ⟨"ThreshRound", "put", "([III)V"⟩ "ThreshRound" ∈ vx_nest := List.mem_of_getElem? (i := 0) rfl
theorem nst_1 : Cond.methodLinkNest "ThreshRound$Customs" 24 ⟨"ThreshRound", "at", "([II)I"⟩ "ThreshRound" ∈ vx_nest := List.mem_of_getElem? (i := 1) rfl
theorem nst_2 : Cond.methodLinkNest "ThreshRound$Roads" 16 ⟨"ThreshRound", "put", "([[IIII)V"⟩ "ThreshRound" ∈ vx_nest := List.mem_of_getElem? (i := 2) rfl
theorem nst_3 : Cond.methodLinkNest "ThreshRound$Tape" 25 ⟨"ThreshRound", "put", "([III)V"⟩ "ThreshRound" ∈ vx_nest := List.mem_of_getElem? (i := 3) rfl
theorem nst_4 : Cond.methodLinkNest "ThreshRound$Tape" 29 ⟨"ThreshRound", "at", "([II)I"⟩ "ThreshRound" ∈ vx_nest := List.mem_of_getElem? (i := 4) rfl
theorem nst_5 : Cond.methodLinkNest "ThreshRound$Tape" 37 ⟨"ThreshRound", "within", "(III)Z"⟩ "ThreshRound" ∈ vx_nest := List.mem_of_getElem? (i := 5) rfl
theorem nst_6 : Cond.methodLinkNest "ThreshRound$Customs" 84 ⟨"ThreshRound", "within", "(III)Z"⟩ "ThreshRound" ∈ vx_nest := List.mem_of_getElem? (i := 6) rfl
theorem nst_7 : Cond.methodLinkNest "ThreshRound$Farms" 49 ⟨"ThreshRound", "put", "([III)V"⟩ "ThreshRound" ∈ vx_nest := List.mem_of_getElem? (i := 7) rfl
theorem nst_8 : Cond.methodLinkNest "ThreshRound$Farms" 57 ⟨"ThreshRound", "at", "([II)I"⟩ "ThreshRound" ∈ vx_nest := List.mem_of_getElem? (i := 8) rfl
theorem nst_9 : Cond.methodLinkNest "ThreshRound$Debts" 20 ⟨"ThreshRound", "put", "([III)V"⟩ "ThreshRound" ∈ vx_nest := List.mem_of_getElem? (i := 9) rfl
theorem nst_10 : Cond.methodLinkNest "ThreshRound$Debts" 29 ⟨"ThreshRound", "at", "([II)I"⟩ "ThreshRound" ∈ vx_nest := List.mem_of_getElem? (i := 10) rfl
theorem nst_11 : Cond.methodLinkNest "ThreshRound$Debts" 49 ⟨"ThreshRound", "at", "([[III)I"⟩ "ThreshRound" ∈ vx_nest := List.mem_of_getElem? (i := 11) rfl
theorem nst_12 : Cond.methodLinkNest "ThreshRound$Search" 61 ⟨"ThreshRound", "put", "([III)V"⟩ "ThreshRound" ∈ vx_nest := List.mem_of_getElem? (i := 12) rfl
theorem nst_13 : Cond.methodLinkNest "ThreshRound$Search" 65 ⟨"ThreshRound", "at", "([II)I"⟩ "ThreshRound" ∈ vx_nest := List.mem_of_getElem? (i := 13) rfl
theorem nst_14 : Cond.methodLinkNest "ThreshRound$Roads" 20 ⟨"ThreshRound", "at", "([[III)I"⟩ "ThreshRound" ∈ vx_nest := List.mem_of_getElem? (i := 14) rfl
theorem nst_15 : Cond.methodLinkNest "ThreshRound$Plan" 52 ⟨"ThreshRound", "at", "([II)I"⟩ "ThreshRound" ∈ vx_nest := List.mem_of_getElem? (i := 15) rfl
theorem nst_16 : Cond.methodLinkNest "ThreshRound$Plan" 61 ⟨"ThreshRound", "put", "([III)V"⟩ "ThreshRound" ∈ vx_nest := List.mem_of_getElem? (i := 16) rfl
theorem nst_17 : Cond.methodLinkNest "ThreshRound$Debts" 52 ⟨"ThreshRound", "put", "([[IIII)V"⟩ "ThreshRound" ∈ vx_nest := List.mem_of_getElem? (i := 17) rfl
theorem hy_X0_init : yX0_init.cls ≠ "java/lang/invoke/MethodHandle" ∧ yX0_init.cls ≠ "java/lang/invoke/VarHandle" ∧ (parseMethodDescriptor yX0_init.desc).map (fun d => d.parameters.length) = some 0 := by decide +kernel
theorem pn_X0_init : plainName yX0_init.cls = true := by decide +kernel
theorem hy_X0_tells : yX0_tells.cls ≠ "java/lang/invoke/MethodHandle" ∧ yX0_tells.cls ≠ "java/lang/invoke/VarHandle" ∧ (parseMethodDescriptor yX0_tells.desc).map (fun d => d.parameters.length) = some 1 := by decide +kernel
theorem pn_X0_tells : plainName yX0_tells.cls = true := by decide +kernel
theorem hy_X0_read : yX0_read.cls ≠ "java/lang/invoke/MethodHandle" ∧ yX0_read.cls ≠ "java/lang/invoke/VarHandle" ∧ (parseMethodDescriptor yX0_read.desc).map (fun d => d.parameters.length) = some 2 := by decide +kernel
theorem pn_X0_read : plainName yX0_read.cls = true := by decide +kernel
theorem hy_X0_forgetTold : yX0_forgetTold.cls ≠ "java/lang/invoke/MethodHandle" ∧ yX0_forgetTold.cls ≠ "java/lang/invoke/VarHandle" ∧ (parseMethodDescriptor yX0_forgetTold.desc).map (fun d => d.parameters.length) = some 0 := by decide +kernel
theorem pn_X0_forgetTold : plainName yX0_forgetTold.cls = true := by decide +kernel
theorem hy_X0_putInForce : yX0_putInForce.cls ≠ "java/lang/invoke/MethodHandle" ∧ yX0_putInForce.cls ≠ "java/lang/invoke/VarHandle" ∧ (parseMethodDescriptor yX0_putInForce.desc).map (fun d => d.parameters.length) = some 0 := by decide +kernel
theorem pn_X0_putInForce : plainName yX0_putInForce.cls = true := by decide +kernel
theorem hy_X0_readLine : yX0_readLine.cls ≠ "java/lang/invoke/MethodHandle" ∧ yX0_readLine.cls ≠ "java/lang/invoke/VarHandle" ∧ (parseMethodDescriptor yX0_readLine.desc).map (fun d => d.parameters.length) = some 1 := by decide +kernel
theorem pn_X0_readLine : plainName yX0_readLine.cls = true := by decide +kernel
theorem hy_X0_fails : yX0_fails.cls ≠ "java/lang/invoke/MethodHandle" ∧ yX0_fails.cls ≠ "java/lang/invoke/VarHandle" ∧ (parseMethodDescriptor yX0_fails.desc).map (fun d => d.parameters.length) = some 2 := by decide +kernel
theorem pn_X0_fails : plainName yX0_fails.cls = true := by decide +kernel
theorem hy_X0_kindOfWord : yX0_kindOfWord.cls ≠ "java/lang/invoke/MethodHandle" ∧ yX0_kindOfWord.cls ≠ "java/lang/invoke/VarHandle" ∧ (parseMethodDescriptor yX0_kindOfWord.desc).map (fun d => d.parameters.length) = some 2 := by decide +kernel
theorem pn_X0_kindOfWord : plainName yX0_kindOfWord.cls = true := by decide +kernel
theorem hy_X0_word : yX0_word.cls ≠ "java/lang/invoke/MethodHandle" ∧ yX0_word.cls ≠ "java/lang/invoke/VarHandle" ∧ (parseMethodDescriptor yX0_word.desc).map (fun d => d.parameters.length) = some 1 := by decide +kernel
theorem pn_X0_word : plainName yX0_word.cls = true := by decide +kernel
theorem hy_X1_init : yX1_init.cls ≠ "java/lang/invoke/MethodHandle" ∧ yX1_init.cls ≠ "java/lang/invoke/VarHandle" ∧ (parseMethodDescriptor yX1_init.desc).map (fun d => d.parameters.length) = some 0 := by decide +kernel
theorem pn_X1_init : plainName yX1_init.cls = true := by decide +kernel
theorem hy_X1_muster : yX1_muster.cls ≠ "java/lang/invoke/MethodHandle" ∧ yX1_muster.cls ≠ "java/lang/invoke/VarHandle" ∧ (parseMethodDescriptor yX1_muster.desc).map (fun d => d.parameters.length) = some 3 := by decide +kernel
theorem pn_X1_muster : plainName yX1_muster.cls = true := by decide +kernel
theorem hy_X1_nextLender : yX1_nextLender.cls ≠ "java/lang/invoke/MethodHandle" ∧ yX1_nextLender.cls ≠ "java/lang/invoke/VarHandle" ∧ (parseMethodDescriptor yX1_nextLender.desc).map (fun d => d.parameters.length) = some 2 := by decide +kernel
theorem pn_X1_nextLender : plainName yX1_nextLender.cls = true := by decide +kernel
theorem hy_X1_oweTheGivers : yX1_oweTheGivers.cls ≠ "java/lang/invoke/MethodHandle" ∧ yX1_oweTheGivers.cls ≠ "java/lang/invoke/VarHandle" ∧ (parseMethodDescriptor yX1_oweTheGivers.desc).map (fun d => d.parameters.length) = some 2 := by decide +kernel
theorem pn_X1_oweTheGivers : plainName yX1_oweTheGivers.cls = true := by decide +kernel
theorem hy_X2_init : yX2_init.cls ≠ "java/lang/invoke/MethodHandle" ∧ yX2_init.cls ≠ "java/lang/invoke/VarHandle" ∧ (parseMethodDescriptor yX2_init.desc).map (fun d => d.parameters.length) = some 0 := by decide +kernel
theorem pn_X2_init : plainName yX2_init.cls = true := by decide +kernel
theorem hy_X3_init : yX3_init.cls ≠ "java/lang/invoke/MethodHandle" ∧ yX3_init.cls ≠ "java/lang/invoke/VarHandle" ∧ (parseMethodDescriptor yX3_init.desc).map (fun d => d.parameters.length) = some 0 := by decide +kernel
theorem pn_X3_init : plainName yX3_init.cls = true := by decide +kernel
theorem hy_X3_add : yX3_add.cls ≠ "java/lang/invoke/MethodHandle" ∧ yX3_add.cls ≠ "java/lang/invoke/VarHandle" ∧ (parseMethodDescriptor yX3_add.desc).map (fun d => d.parameters.length) = some 0 := by decide +kernel
theorem pn_X3_add : plainName yX3_add.cls = true := by decide +kernel
theorem hy_X3_has : yX3_has.cls ≠ "java/lang/invoke/MethodHandle" ∧ yX3_has.cls ≠ "java/lang/invoke/VarHandle" ∧ (parseMethodDescriptor yX3_has.desc).map (fun d => d.parameters.length) = some 1 := by decide +kernel
theorem pn_X3_has : plainName yX3_has.cls = true := by decide +kernel
theorem hy_X3_isOpen : yX3_isOpen.cls ≠ "java/lang/invoke/MethodHandle" ∧ yX3_isOpen.cls ≠ "java/lang/invoke/VarHandle" ∧ (parseMethodDescriptor yX3_isOpen.desc).map (fun d => d.parameters.length) = some 1 := by decide +kernel
theorem pn_X3_isOpen : plainName yX3_isOpen.cls = true := by decide +kernel
theorem hy_X3_openOnes : yX3_openOnes.cls ≠ "java/lang/invoke/MethodHandle" ∧ yX3_openOnes.cls ≠ "java/lang/invoke/VarHandle" ∧ (parseMethodDescriptor yX3_openOnes.desc).map (fun d => d.parameters.length) = some 0 := by decide +kernel
theorem pn_X3_openOnes : plainName yX3_openOnes.cls = true := by decide +kernel
theorem hy_X4_init : yX4_init.cls ≠ "java/lang/invoke/MethodHandle" ∧ yX4_init.cls ≠ "java/lang/invoke/VarHandle" ∧ (parseMethodDescriptor yX4_init.desc).map (fun d => d.parameters.length) = some 0 := by decide +kernel
theorem pn_X4_init : plainName yX4_init.cls = true := by decide +kernel
theorem hy_X4_make : yX4_make.cls ≠ "java/lang/invoke/MethodHandle" ∧ yX4_make.cls ≠ "java/lang/invoke/VarHandle" ∧ (parseMethodDescriptor yX4_make.desc).map (fun d => d.parameters.length) = some 4 := by decide +kernel
theorem pn_X4_make : plainName yX4_make.cls = true := by decide +kernel
theorem hy_X5_init : yX5_init.cls ≠ "java/lang/invoke/MethodHandle" ∧ yX5_init.cls ≠ "java/lang/invoke/VarHandle" ∧ (parseMethodDescriptor yX5_init.desc).map (fun d => d.parameters.length) = some 0 := by decide +kernel
theorem pn_X5_init : plainName yX5_init.cls = true := by decide +kernel
theorem hy_X5_between : yX5_between.cls ≠ "java/lang/invoke/MethodHandle" ∧ yX5_between.cls ≠ "java/lang/invoke/VarHandle" ∧ (parseMethodDescriptor yX5_between.desc).map (fun d => d.parameters.length) = some 2 := by decide +kernel
theorem pn_X5_between : plainName yX5_between.cls = true := by decide +kernel
theorem hy_X6_init : yX6_init.cls ≠ "java/lang/invoke/MethodHandle" ∧ yX6_init.cls ≠ "java/lang/invoke/VarHandle" ∧ (parseMethodDescriptor yX6_init.desc).map (fun d => d.parameters.length) = some 0 := by decide +kernel
theorem pn_X6_init : plainName yX6_init.cls = true := by decide +kernel
theorem hy_X6_startAnew : yX6_startAnew.cls ≠ "java/lang/invoke/MethodHandle" ∧ yX6_startAnew.cls ≠ "java/lang/invoke/VarHandle" ∧ (parseMethodDescriptor yX6_startAnew.desc).map (fun d => d.parameters.length) = some 1 := by decide +kernel
theorem pn_X6_startAnew : plainName yX6_startAnew.cls = true := by decide +kernel
theorem hy_X6_add : yX6_add.cls ≠ "java/lang/invoke/MethodHandle" ∧ yX6_add.cls ≠ "java/lang/invoke/VarHandle" ∧ (parseMethodDescriptor yX6_add.desc).map (fun d => d.parameters.length) = some 4 := by decide +kernel
theorem pn_X6_add : plainName yX6_add.cls = true := by decide +kernel
theorem hy_X6_force : yX6_force.cls ≠ "java/lang/invoke/MethodHandle" ∧ yX6_force.cls ≠ "java/lang/invoke/VarHandle" ∧ (parseMethodDescriptor yX6_force.desc).map (fun d => d.parameters.length) = some 1 := by decide +kernel
theorem pn_X6_force : plainName yX6_force.cls = true := by decide +kernel
theorem hy_X6_find : yX6_find.cls ≠ "java/lang/invoke/MethodHandle" ∧ yX6_find.cls ≠ "java/lang/invoke/VarHandle" ∧ (parseMethodDescriptor yX6_find.desc).map (fun d => d.parameters.length) = some 3 := by decide +kernel
theorem pn_X6_find : plainName yX6_find.cls = true := by decide +kernel
theorem hy_X6_extend : yX6_extend.cls ≠ "java/lang/invoke/MethodHandle" ∧ yX6_extend.cls ≠ "java/lang/invoke/VarHandle" ∧ (parseMethodDescriptor yX6_extend.desc).map (fun d => d.parameters.length) = some 6 := by decide +kernel
theorem pn_X6_extend : plainName yX6_extend.cls = true := by decide +kernel
theorem hy_X6_mayCome : yX6_mayCome.cls ≠ "java/lang/invoke/MethodHandle" ∧ yX6_mayCome.cls ≠ "java/lang/invoke/VarHandle" ∧ (parseMethodDescriptor yX6_mayCome.desc).map (fun d => d.parameters.length) = some 2 := by decide +kernel
theorem pn_X6_mayCome : plainName yX6_mayCome.cls = true := by decide +kernel
theorem hy_X6_begins : yX6_begins.cls ≠ "java/lang/invoke/MethodHandle" ∧ yX6_begins.cls ≠ "java/lang/invoke/VarHandle" ∧ (parseMethodDescriptor yX6_begins.desc).map (fun d => d.parameters.length) = some 2 := by decide +kernel
theorem pn_X6_begins : plainName yX6_begins.cls = true := by decide +kernel
theorem hy_X6_leaves : yX6_leaves.cls ≠ "java/lang/invoke/MethodHandle" ∧ yX6_leaves.cls ≠ "java/lang/invoke/VarHandle" ∧ (parseMethodDescriptor yX6_leaves.desc).map (fun d => d.parameters.length) = some 2 := by decide +kernel
theorem pn_X6_leaves : plainName yX6_leaves.cls = true := by decide +kernel
theorem hy_X6_lossOf : yX6_lossOf.cls ≠ "java/lang/invoke/MethodHandle" ∧ yX6_lossOf.cls ≠ "java/lang/invoke/VarHandle" ∧ (parseMethodDescriptor yX6_lossOf.desc).map (fun d => d.parameters.length) = some 2 := by decide +kernel
theorem pn_X6_lossOf : plainName yX6_lossOf.cls = true := by decide +kernel
theorem hy_X6_beatsBest : yX6_beatsBest.cls ≠ "java/lang/invoke/MethodHandle" ∧ yX6_beatsBest.cls ≠ "java/lang/invoke/VarHandle" ∧ (parseMethodDescriptor yX6_beatsBest.desc).map (fun d => d.parameters.length) = some 2 := by decide +kernel
theorem pn_X6_beatsBest : plainName yX6_beatsBest.cls = true := by decide +kernel
theorem hy_X6_keepAsBest : yX6_keepAsBest.cls ≠ "java/lang/invoke/MethodHandle" ∧ yX6_keepAsBest.cls ≠ "java/lang/invoke/VarHandle" ∧ (parseMethodDescriptor yX6_keepAsBest.desc).map (fun d => d.parameters.length) = some 2 := by decide +kernel
theorem pn_X6_keepAsBest : plainName yX6_keepAsBest.cls = true := by decide +kernel
theorem hy_X6_isWaiting : yX6_isWaiting.cls ≠ "java/lang/invoke/MethodHandle" ∧ yX6_isWaiting.cls ≠ "java/lang/invoke/VarHandle" ∧ (parseMethodDescriptor yX6_isWaiting.desc).map (fun d => d.parameters.length) = some 1 := by decide +kernel
theorem pn_X6_isWaiting : plainName yX6_isWaiting.cls = true := by decide +kernel
theorem hy_X6_setWaits : yX6_setWaits.cls ≠ "java/lang/invoke/MethodHandle" ∧ yX6_setWaits.cls ≠ "java/lang/invoke/VarHandle" ∧ (parseMethodDescriptor yX6_setWaits.desc).map (fun d => d.parameters.length) = some 2 := by decide +kernel
theorem pn_X6_setWaits : plainName yX6_setWaits.cls = true := by decide +kernel
theorem hy_X7_init : yX7_init.cls ≠ "java/lang/invoke/MethodHandle" ∧ yX7_init.cls ≠ "java/lang/invoke/VarHandle" ∧ (parseMethodDescriptor yX7_init.desc).map (fun d => d.parameters.length) = some 0 := by decide +kernel
theorem pn_X7_init : plainName yX7_init.cls = true := by decide +kernel
theorem hy_X7_hasRoomFor : yX7_hasRoomFor.cls ≠ "java/lang/invoke/MethodHandle" ∧ yX7_hasRoomFor.cls ≠ "java/lang/invoke/VarHandle" ∧ (parseMethodDescriptor yX7_hasRoomFor.desc).map (fun d => d.parameters.length) = some 1 := by decide +kernel
theorem pn_X7_hasRoomFor : plainName yX7_hasRoomFor.cls = true := by decide +kernel
theorem hy_X7_append : yX7_append.cls ≠ "java/lang/invoke/MethodHandle" ∧ yX7_append.cls ≠ "java/lang/invoke/VarHandle" ∧ (parseMethodDescriptor yX7_append.desc).map (fun d => d.parameters.length) = some 1 := by decide +kernel
theorem pn_X7_append : plainName yX7_append.cls = true := by decide +kernel
theorem hy_X7_readFirst : yX7_readFirst.cls ≠ "java/lang/invoke/MethodHandle" ∧ yX7_readFirst.cls ≠ "java/lang/invoke/VarHandle" ∧ (parseMethodDescriptor yX7_readFirst.desc).map (fun d => d.parameters.length) = some 1 := by decide +kernel
theorem pn_X7_readFirst : plainName yX7_readFirst.cls = true := by decide +kernel
theorem hy_X7_isAtEnd : yX7_isAtEnd.cls ≠ "java/lang/invoke/MethodHandle" ∧ yX7_isAtEnd.cls ≠ "java/lang/invoke/VarHandle" ∧ (parseMethodDescriptor yX7_isAtEnd.desc).map (fun d => d.parameters.length) = some 0 := by decide +kernel
theorem pn_X7_isAtEnd : plainName yX7_isAtEnd.cls = true := by decide +kernel
theorem hy_X7_byteAt : yX7_byteAt.cls ≠ "java/lang/invoke/MethodHandle" ∧ yX7_byteAt.cls ≠ "java/lang/invoke/VarHandle" ∧ (parseMethodDescriptor yX7_byteAt.desc).map (fun d => d.parameters.length) = some 1 := by decide +kernel
theorem pn_X7_byteAt : plainName yX7_byteAt.cls = true := by decide +kernel
theorem hy_X7_skipBlanks : yX7_skipBlanks.cls ≠ "java/lang/invoke/MethodHandle" ∧ yX7_skipBlanks.cls ≠ "java/lang/invoke/VarHandle" ∧ (parseMethodDescriptor yX7_skipBlanks.desc).map (fun d => d.parameters.length) = some 0 := by decide +kernel
theorem pn_X7_skipBlanks : plainName yX7_skipBlanks.cls = true := by decide +kernel
theorem hy_X7_endOfRow : yX7_endOfRow.cls ≠ "java/lang/invoke/MethodHandle" ∧ yX7_endOfRow.cls ≠ "java/lang/invoke/VarHandle" ∧ (parseMethodDescriptor yX7_endOfRow.desc).map (fun d => d.parameters.length) = some 2 := by decide +kernel
theorem pn_X7_endOfRow : plainName yX7_endOfRow.cls = true := by decide +kernel
theorem hy_X7_numberUpTo : yX7_numberUpTo.cls ≠ "java/lang/invoke/MethodHandle" ∧ yX7_numberUpTo.cls ≠ "java/lang/invoke/VarHandle" ∧ (parseMethodDescriptor yX7_numberUpTo.desc).map (fun d => d.parameters.length) = some 1 := by decide +kernel
theorem pn_X7_numberUpTo : plainName yX7_numberUpTo.cls = true := by decide +kernel
theorem hy_X7_isWordUpTo : yX7_isWordUpTo.cls ≠ "java/lang/invoke/MethodHandle" ∧ yX7_isWordUpTo.cls ≠ "java/lang/invoke/VarHandle" ∧ (parseMethodDescriptor yX7_isWordUpTo.desc).map (fun d => d.parameters.length) = some 2 := by decide +kernel
theorem pn_X7_isWordUpTo : plainName yX7_isWordUpTo.cls = true := by decide +kernel
theorem hy_X8_init : yX8_init.cls ≠ "java/lang/invoke/MethodHandle" ∧ yX8_init.cls ≠ "java/lang/invoke/VarHandle" ∧ (parseMethodDescriptor yX8_init.desc).map (fun d => d.parameters.length) = some 0 := by decide +kernel
theorem pn_X8_init : plainName yX8_init.cls = true := by decide +kernel
theorem hy_X8_feed : yX8_feed.cls ≠ "java/lang/invoke/MethodHandle" ∧ yX8_feed.cls ≠ "java/lang/invoke/VarHandle" ∧ (parseMethodDescriptor yX8_feed.desc).map (fun d => d.parameters.length) = some 5 := by decide +kernel
theorem pn_X8_feed : plainName yX8_feed.cls = true := by decide +kernel
theorem hy_X8_customs : yX8_customs.cls ≠ "java/lang/invoke/MethodHandle" ∧ yX8_customs.cls ≠ "java/lang/invoke/VarHandle" ∧ (parseMethodDescriptor yX8_customs.desc).map (fun d => d.parameters.length) = some 1 := by decide +kernel
theorem pn_X8_customs : plainName yX8_customs.cls = true := by decide +kernel
theorem hy_X8_fault : yX8_fault.cls ≠ "java/lang/invoke/MethodHandle" ∧ yX8_fault.cls ≠ "java/lang/invoke/VarHandle" ∧ (parseMethodDescriptor yX8_fault.desc).map (fun d => d.parameters.length) = some 1 := by decide +kernel
theorem pn_X8_fault : plainName yX8_fault.cls = true := by decide +kernel
theorem hy_X8_farm : yX8_farm.cls ≠ "java/lang/invoke/MethodHandle" ∧ yX8_farm.cls ≠ "java/lang/invoke/VarHandle" ∧ (parseMethodDescriptor yX8_farm.desc).map (fun d => d.parameters.length) = some 6 := by decide +kernel
theorem pn_X8_farm : plainName yX8_farm.cls = true := by decide +kernel
theorem hy_X8_way : yX8_way.cls ≠ "java/lang/invoke/MethodHandle" ∧ yX8_way.cls ≠ "java/lang/invoke/VarHandle" ∧ (parseMethodDescriptor yX8_way.desc).map (fun d => d.parameters.length) = some 3 := by decide +kernel
theorem pn_X8_way : plainName yX8_way.cls = true := by decide +kernel
theorem hy_X8_bargain : yX8_bargain.cls ≠ "java/lang/invoke/MethodHandle" ∧ yX8_bargain.cls ≠ "java/lang/invoke/VarHandle" ∧ (parseMethodDescriptor yX8_bargain.desc).map (fun d => d.parameters.length) = some 3 := by decide +kernel
theorem pn_X8_bargain : plainName yX8_bargain.cls = true := by decide +kernel
theorem hy_X8_plan : yX8_plan.cls ≠ "java/lang/invoke/MethodHandle" ∧ yX8_plan.cls ≠ "java/lang/invoke/VarHandle" ∧ (parseMethodDescriptor yX8_plan.desc).map (fun d => d.parameters.length) = some 0 := by decide +kernel
theorem pn_X8_plan : plainName yX8_plan.cls = true := by decide +kernel
theorem hy_X8_planned : yX8_planned.cls ≠ "java/lang/invoke/MethodHandle" ∧ yX8_planned.cls ≠ "java/lang/invoke/VarHandle" ∧ (parseMethodDescriptor yX8_planned.desc).map (fun d => d.parameters.length) = some 2 := by decide +kernel
theorem pn_X8_planned : plainName yX8_planned.cls = true := by decide +kernel
theorem hy_X8_out : yX8_out.cls ≠ "java/lang/invoke/MethodHandle" ∧ yX8_out.cls ≠ "java/lang/invoke/VarHandle" ∧ (parseMethodDescriptor yX8_out.desc).map (fun d => d.parameters.length) = some 0 := by decide +kernel
theorem pn_X8_out : plainName yX8_out.cls = true := by decide +kernel
theorem hy_X8_breaks : yX8_breaks.cls ≠ "java/lang/invoke/MethodHandle" ∧ yX8_breaks.cls ≠ "java/lang/invoke/VarHandle" ∧ (parseMethodDescriptor yX8_breaks.desc).map (fun d => d.parameters.length) = some 1 := by decide +kernel
theorem pn_X8_breaks : plainName yX8_breaks.cls = true := by decide +kernel
theorem hy_X8_day : yX8_day.cls ≠ "java/lang/invoke/MethodHandle" ∧ yX8_day.cls ≠ "java/lang/invoke/VarHandle" ∧ (parseMethodDescriptor yX8_day.desc).map (fun d => d.parameters.length) = some 1 := by decide +kernel
theorem pn_X8_day : plainName yX8_day.cls = true := by decide +kernel
theorem hy_X8_look : yX8_look.cls ≠ "java/lang/invoke/MethodHandle" ∧ yX8_look.cls ≠ "java/lang/invoke/VarHandle" ∧ (parseMethodDescriptor yX8_look.desc).map (fun d => d.parameters.length) = some 2 := by decide +kernel
theorem pn_X8_look : plainName yX8_look.cls = true := by decide +kernel
theorem hy_X8_owed : yX8_owed.cls ≠ "java/lang/invoke/MethodHandle" ∧ yX8_owed.cls ≠ "java/lang/invoke/VarHandle" ∧ (parseMethodDescriptor yX8_owed.desc).map (fun d => d.parameters.length) = some 2 := by decide +kernel
theorem pn_X8_owed : plainName yX8_owed.cls = true := by decide +kernel
theorem hy_X8_lent : yX8_lent.cls ≠ "java/lang/invoke/MethodHandle" ∧ yX8_lent.cls ≠ "java/lang/invoke/VarHandle" ∧ (parseMethodDescriptor yX8_lent.desc).map (fun d => d.parameters.length) = some 2 := by decide +kernel
theorem pn_X8_lent : plainName yX8_lent.cls = true := by decide +kernel
theorem hy_X8_count : yX8_count.cls ≠ "java/lang/invoke/MethodHandle" ∧ yX8_count.cls ≠ "java/lang/invoke/VarHandle" ∧ (parseMethodDescriptor yX8_count.desc).map (fun d => d.parameters.length) = some 1 := by decide +kernel
theorem pn_X8_count : plainName yX8_count.cls = true := by decide +kernel
theorem hy_X8_isPlace : yX8_isPlace.cls ≠ "java/lang/invoke/MethodHandle" ∧ yX8_isPlace.cls ≠ "java/lang/invoke/VarHandle" ∧ (parseMethodDescriptor yX8_isPlace.desc).map (fun d => d.parameters.length) = some 1 := by decide +kernel
theorem pn_X8_isPlace : plainName yX8_isPlace.cls = true := by decide +kernel
theorem hy_X8_areTwoFarms : yX8_areTwoFarms.cls ≠ "java/lang/invoke/MethodHandle" ∧ yX8_areTwoFarms.cls ≠ "java/lang/invoke/VarHandle" ∧ (parseMethodDescriptor yX8_areTwoFarms.desc).map (fun d => d.parameters.length) = some 2 := by decide +kernel
theorem pn_X8_areTwoFarms : plainName yX8_areTwoFarms.cls = true := by decide +kernel
theorem hy_X8_prepareSearch : yX8_prepareSearch.cls ≠ "java/lang/invoke/MethodHandle" ∧ yX8_prepareSearch.cls ≠ "java/lang/invoke/VarHandle" ∧ (parseMethodDescriptor yX8_prepareSearch.desc).map (fun d => d.parameters.length) = some 0 := by decide +kernel
theorem pn_X8_prepareSearch : plainName yX8_prepareSearch.cls = true := by decide +kernel
theorem hy_X8_gangOf : yX8_gangOf.cls ≠ "java/lang/invoke/MethodHandle" ∧ yX8_gangOf.cls ≠ "java/lang/invoke/VarHandle" ∧ (parseMethodDescriptor yX8_gangOf.desc).map (fun d => d.parameters.length) = some 1 := by decide +kernel
theorem pn_X8_gangOf : plainName yX8_gangOf.cls = true := by decide +kernel
theorem hy_X8_speedOf : yX8_speedOf.cls ≠ "java/lang/invoke/MethodHandle" ∧ yX8_speedOf.cls ≠ "java/lang/invoke/VarHandle" ∧ (parseMethodDescriptor yX8_speedOf.desc).map (fun d => d.parameters.length) = some 1 := by decide +kernel
theorem pn_X8_speedOf : plainName yX8_speedOf.cls = true := by decide +kernel
theorem hy_X8_sacksOf : yX8_sacksOf.cls ≠ "java/lang/invoke/MethodHandle" ∧ yX8_sacksOf.cls ≠ "java/lang/invoke/VarHandle" ∧ (parseMethodDescriptor yX8_sacksOf.desc).map (fun d => d.parameters.length) = some 1 := by decide +kernel
theorem pn_X8_sacksOf : plainName yX8_sacksOf.cls = true := by decide +kernel
theorem hy_X8_priceOf : yX8_priceOf.cls ≠ "java/lang/invoke/MethodHandle" ∧ yX8_priceOf.cls ≠ "java/lang/invoke/VarHandle" ∧ (parseMethodDescriptor yX8_priceOf.desc).map (fun d => d.parameters.length) = some 1 := by decide +kernel
theorem pn_X8_priceOf : plainName yX8_priceOf.cls = true := by decide +kernel
theorem hy_X8_lossOf : yX8_lossOf.cls ≠ "java/lang/invoke/MethodHandle" ∧ yX8_lossOf.cls ≠ "java/lang/invoke/VarHandle" ∧ (parseMethodDescriptor yX8_lossOf.desc).map (fun d => d.parameters.length) = some 1 := by decide +kernel
theorem pn_X8_lossOf : plainName yX8_lossOf.cls = true := by decide +kernel
theorem hy_X8_howItIs : yX8_howItIs.cls ≠ "java/lang/invoke/MethodHandle" ∧ yX8_howItIs.cls ≠ "java/lang/invoke/VarHandle" ∧ (parseMethodDescriptor yX8_howItIs.desc).map (fun d => d.parameters.length) = some 0 := by decide +kernel
theorem pn_X8_howItIs : plainName yX8_howItIs.cls = true := by decide +kernel
theorem hy_X8_isAheadOfFrom : yX8_isAheadOfFrom.cls ≠ "java/lang/invoke/MethodHandle" ∧ yX8_isAheadOfFrom.cls ≠ "java/lang/invoke/VarHandle" ∧ (parseMethodDescriptor yX8_isAheadOfFrom.desc).map (fun d => d.parameters.length) = some 0 := by decide +kernel
theorem pn_X8_isAheadOfFrom : plainName yX8_isAheadOfFrom.cls = true := by decide +kernel
theorem hy_X8_passDay : yX8_passDay.cls ≠ "java/lang/invoke/MethodHandle" ∧ yX8_passDay.cls ≠ "java/lang/invoke/VarHandle" ∧ (parseMethodDescriptor yX8_passDay.desc).map (fun d => d.parameters.length) = some 0 := by decide +kernel
theorem pn_X8_passDay : plainName yX8_passDay.cls = true := by decide +kernel
theorem hy_X8_thresh : yX8_thresh.cls ≠ "java/lang/invoke/MethodHandle" ∧ yX8_thresh.cls ≠ "java/lang/invoke/VarHandle" ∧ (parseMethodDescriptor yX8_thresh.desc).map (fun d => d.parameters.length) = some 1 := by decide +kernel
theorem pn_X8_thresh : plainName yX8_thresh.cls = true := by decide +kernel
theorem hy_X8_goOn : yX8_goOn.cls ≠ "java/lang/invoke/MethodHandle" ∧ yX8_goOn.cls ≠ "java/lang/invoke/VarHandle" ∧ (parseMethodDescriptor yX8_goOn.desc).map (fun d => d.parameters.length) = some 0 := by decide +kernel
theorem pn_X8_goOn : plainName yX8_goOn.cls = true := by decide +kernel
theorem hy_X8_setOutFor : yX8_setOutFor.cls ≠ "java/lang/invoke/MethodHandle" ∧ yX8_setOutFor.cls ≠ "java/lang/invoke/VarHandle" ∧ (parseMethodDescriptor yX8_setOutFor.desc).map (fun d => d.parameters.length) = some 1 := by decide +kernel
theorem pn_X8_setOutFor : plainName yX8_setOutFor.cls = true := by decide +kernel
theorem hy_X8_within : yX8_within.cls ≠ "java/lang/invoke/MethodHandle" ∧ yX8_within.cls ≠ "java/lang/invoke/VarHandle" ∧ (parseMethodDescriptor yX8_within.desc).map (fun d => d.parameters.length) = some 3 := by decide +kernel
theorem pn_X8_within : plainName yX8_within.cls = true := by decide +kernel
theorem hy_X8_at : yX8_at.cls ≠ "java/lang/invoke/MethodHandle" ∧ yX8_at.cls ≠ "java/lang/invoke/VarHandle" ∧ (parseMethodDescriptor yX8_at.desc).map (fun d => d.parameters.length) = some 2 := by decide +kernel
theorem pn_X8_at : plainName yX8_at.cls = true := by decide +kernel
theorem hy_X8_put : yX8_put.cls ≠ "java/lang/invoke/MethodHandle" ∧ yX8_put.cls ≠ "java/lang/invoke/VarHandle" ∧ (parseMethodDescriptor yX8_put.desc).map (fun d => d.parameters.length) = some 3 := by decide +kernel
theorem pn_X8_put : plainName yX8_put.cls = true := by decide +kernel
theorem hy_X8_at_ : yX8_at_.cls ≠ "java/lang/invoke/MethodHandle" ∧ yX8_at_.cls ≠ "java/lang/invoke/VarHandle" ∧ (parseMethodDescriptor yX8_at_.desc).map (fun d => d.parameters.length) = some 3 := by decide +kernel
theorem pn_X8_at_ : plainName yX8_at_.cls = true := by decide +kernel
theorem hy_X8_put_ : yX8_put_.cls ≠ "java/lang/invoke/MethodHandle" ∧ yX8_put_.cls ≠ "java/lang/invoke/VarHandle" ∧ (parseMethodDescriptor yX8_put_.desc).map (fun d => d.parameters.length) = some 4 := by decide +kernel
theorem pn_X8_put_ : plainName yX8_put_.cls = true := by decide +kernel
theorem hy_X8_cut : yX8_cut.cls ≠ "java/lang/invoke/MethodHandle" ∧ yX8_cut.cls ≠ "java/lang/invoke/VarHandle" ∧ (parseMethodDescriptor yX8_cut.desc).map (fun d => d.parameters.length) = some 2 := by decide +kernel
theorem pn_X8_cut : plainName yX8_cut.cls = true := by decide +kernel
theorem hy_X8_upwards : yX8_upwards.cls ≠ "java/lang/invoke/MethodHandle" ∧ yX8_upwards.cls ≠ "java/lang/invoke/VarHandle" ∧ (parseMethodDescriptor yX8_upwards.desc).map (fun d => d.parameters.length) = some 2 := by decide +kernel
theorem pn_X8_upwards : plainName yX8_upwards.cls = true := by decide +kernel
theorem hy_X9_init : yX9_init.cls ≠ "java/lang/invoke/MethodHandle" ∧ yX9_init.cls ≠ "java/lang/invoke/VarHandle" ∧ (parseMethodDescriptor yX9_init.desc).map (fun d => d.parameters.length) = some 0 := by decide +kernel
theorem pn_X9_init : plainName yX9_init.cls = true := by decide +kernel
theorem hy_X9_feed : yX9_feed.cls ≠ "java/lang/invoke/MethodHandle" ∧ yX9_feed.cls ≠ "java/lang/invoke/VarHandle" ∧ (parseMethodDescriptor yX9_feed.desc).map (fun d => d.parameters.length) = some 5 := by decide +kernel
theorem pn_X9_feed : plainName yX9_feed.cls = true := by decide +kernel
theorem hy_X9_here : yX9_here.cls ≠ "java/lang/invoke/MethodHandle" ∧ yX9_here.cls ≠ "java/lang/invoke/VarHandle" ∧ (parseMethodDescriptor yX9_here.desc).map (fun d => d.parameters.length) = some 0 := by decide +kernel
theorem pn_X9_here : plainName yX9_here.cls = true := by decide +kernel
theorem hy_X9_isSmall : yX9_isSmall.cls ≠ "java/lang/invoke/MethodHandle" ∧ yX9_isSmall.cls ≠ "java/lang/invoke/VarHandle" ∧ (parseMethodDescriptor yX9_isSmall.desc).map (fun d => d.parameters.length) = some 1 := by decide +kernel
theorem pn_X9_isSmall : plainName yX9_isSmall.cls = true := by decide +kernel
theorem hy_X9_isDigit : yX9_isDigit.cls ≠ "java/lang/invoke/MethodHandle" ∧ yX9_isDigit.cls ≠ "java/lang/invoke/VarHandle" ∧ (parseMethodDescriptor yX9_isDigit.desc).map (fun d => d.parameters.length) = some 1 := by decide +kernel
theorem pn_X9_isDigit : plainName yX9_isDigit.cls = true := by decide +kernel
theorem hy_X9_next : yX9_next.cls ≠ "java/lang/invoke/MethodHandle" ∧ yX9_next.cls ≠ "java/lang/invoke/VarHandle" ∧ (parseMethodDescriptor yX9_next.desc).map (fun d => d.parameters.length) = some 0 := by decide +kernel
theorem pn_X9_next : plainName yX9_next.cls = true := by decide +kernel
theorem hy_X9_wordOf : yX9_wordOf.cls ≠ "java/lang/invoke/MethodHandle" ∧ yX9_wordOf.cls ≠ "java/lang/invoke/VarHandle" ∧ (parseMethodDescriptor yX9_wordOf.desc).map (fun d => d.parameters.length) = some 0 := by decide +kernel
theorem pn_X9_wordOf : plainName yX9_wordOf.cls = true := by decide +kernel
theorem hy_X9_wrong : yX9_wrong.cls ≠ "java/lang/invoke/MethodHandle" ∧ yX9_wrong.cls ≠ "java/lang/invoke/VarHandle" ∧ (parseMethodDescriptor yX9_wrong.desc).map (fun d => d.parameters.length) = some 1 := by decide +kernel
theorem pn_X9_wrong : plainName yX9_wrong.cls = true := by decide +kernel
theorem hy_X9_line : yX9_line.cls ≠ "java/lang/invoke/MethodHandle" ∧ yX9_line.cls ≠ "java/lang/invoke/VarHandle" ∧ (parseMethodDescriptor yX9_line.desc).map (fun d => d.parameters.length) = some 0 := by decide +kernel
theorem pn_X9_line : plainName yX9_line.cls = true := by decide +kernel
theorem hy_X9_customs : yX9_customs.cls ≠ "java/lang/invoke/MethodHandle" ∧ yX9_customs.cls ≠ "java/lang/invoke/VarHandle" ∧ (parseMethodDescriptor yX9_customs.desc).map (fun d => d.parameters.length) = some 1 := by decide +kernel
theorem pn_X9_customs : plainName yX9_customs.cls = true := by decide +kernel
theorem hy_X9_fault : yX9_fault.cls ≠ "java/lang/invoke/MethodHandle" ∧ yX9_fault.cls ≠ "java/lang/invoke/VarHandle" ∧ (parseMethodDescriptor yX9_fault.desc).map (fun d => d.parameters.length) = some 1 := by decide +kernel
theorem pn_X9_fault : plainName yX9_fault.cls = true := by decide +kernel
theorem hy_X9_isFarm : yX9_isFarm.cls ≠ "java/lang/invoke/MethodHandle" ∧ yX9_isFarm.cls ≠ "java/lang/invoke/VarHandle" ∧ (parseMethodDescriptor yX9_isFarm.desc).map (fun d => d.parameters.length) = some 1 := by decide +kernel
theorem pn_X9_isFarm : plainName yX9_isFarm.cls = true := by decide +kernel
theorem hy_X9_isTwelve : yX9_isTwelve.cls ≠ "java/lang/invoke/MethodHandle" ∧ yX9_isTwelve.cls ≠ "java/lang/invoke/VarHandle" ∧ (parseMethodDescriptor yX9_isTwelve.desc).map (fun d => d.parameters.length) = some 1 := by decide +kernel
theorem pn_X9_isTwelve : plainName yX9_isTwelve.cls = true := by decide +kernel
theorem hy_X9_farm : yX9_farm.cls ≠ "java/lang/invoke/MethodHandle" ∧ yX9_farm.cls ≠ "java/lang/invoke/VarHandle" ∧ (parseMethodDescriptor yX9_farm.desc).map (fun d => d.parameters.length) = some 6 := by decide +kernel
theorem pn_X9_farm : plainName yX9_farm.cls = true := by decide +kernel
theorem hy_X9_way : yX9_way.cls ≠ "java/lang/invoke/MethodHandle" ∧ yX9_way.cls ≠ "java/lang/invoke/VarHandle" ∧ (parseMethodDescriptor yX9_way.desc).map (fun d => d.parameters.length) = some 3 := by decide +kernel
theorem pn_X9_way : plainName yX9_way.cls = true := by decide +kernel
theorem hy_X9_bargain : yX9_bargain.cls ≠ "java/lang/invoke/MethodHandle" ∧ yX9_bargain.cls ≠ "java/lang/invoke/VarHandle" ∧ (parseMethodDescriptor yX9_bargain.desc).map (fun d => d.parameters.length) = some 3 := by decide +kernel
theorem pn_X9_bargain : plainName yX9_bargain.cls = true := by decide +kernel
theorem hy_X9_gangs : yX9_gangs.cls ≠ "java/lang/invoke/MethodHandle" ∧ yX9_gangs.cls ≠ "java/lang/invoke/VarHandle" ∧ (parseMethodDescriptor yX9_gangs.desc).map (fun d => d.parameters.length) = some 1 := by decide +kernel
theorem pn_X9_gangs : plainName yX9_gangs.cls = true := by decide +kernel
theorem hy_X9_speedOf : yX9_speedOf.cls ≠ "java/lang/invoke/MethodHandle" ∧ yX9_speedOf.cls ≠ "java/lang/invoke/VarHandle" ∧ (parseMethodDescriptor yX9_speedOf.desc).map (fun d => d.parameters.length) = some 1 := by decide +kernel
theorem pn_X9_speedOf : plainName yX9_speedOf.cls = true := by decide +kernel
theorem hy_X9_isDone : yX9_isDone.cls ≠ "java/lang/invoke/MethodHandle" ∧ yX9_isDone.cls ≠ "java/lang/invoke/VarHandle" ∧ (parseMethodDescriptor yX9_isDone.desc).map (fun d => d.parameters.length) = some 1 := by decide +kernel
theorem pn_X9_isDone : plainName yX9_isDone.cls = true := by decide +kernel
theorem hy_X9_goes : yX9_goes.cls ≠ "java/lang/invoke/MethodHandle" ∧ yX9_goes.cls ≠ "java/lang/invoke/VarHandle" ∧ (parseMethodDescriptor yX9_goes.desc).map (fun d => d.parameters.length) = some 0 := by decide +kernel
theorem pn_X9_goes : plainName yX9_goes.cls = true := by decide +kernel
theorem hy_X9_lossOf : yX9_lossOf.cls ≠ "java/lang/invoke/MethodHandle" ∧ yX9_lossOf.cls ≠ "java/lang/invoke/VarHandle" ∧ (parseMethodDescriptor yX9_lossOf.desc).map (fun d => d.parameters.length) = some 2 := by decide +kernel
theorem pn_X9_lossOf : plainName yX9_lossOf.cls = true := by decide +kernel
theorem hy_X9_goesOn : yX9_goesOn.cls ≠ "java/lang/invoke/MethodHandle" ∧ yX9_goesOn.cls ≠ "java/lang/invoke/VarHandle" ∧ (parseMethodDescriptor yX9_goesOn.desc).map (fun d => d.parameters.length) = some 0 := by decide +kernel
theorem pn_X9_goesOn : plainName yX9_goesOn.cls = true := by decide +kernel
theorem hy_X9_swaps : yX9_swaps.cls ≠ "java/lang/invoke/MethodHandle" ∧ yX9_swaps.cls ≠ "java/lang/invoke/VarHandle" ∧ (parseMethodDescriptor yX9_swaps.desc).map (fun d => d.parameters.length) = some 2 := by decide +kernel
theorem pn_X9_swaps : plainName yX9_swaps.cls = true := by decide +kernel
theorem hy_X9_firstOrder : yX9_firstOrder.cls ≠ "java/lang/invoke/MethodHandle" ∧ yX9_firstOrder.cls ≠ "java/lang/invoke/VarHandle" ∧ (parseMethodDescriptor yX9_firstOrder.desc).map (fun d => d.parameters.length) = some 0 := by decide +kernel
theorem pn_X9_firstOrder : plainName yX9_firstOrder.cls = true := by decide +kernel
theorem hy_X9_plan : yX9_plan.cls ≠ "java/lang/invoke/MethodHandle" ∧ yX9_plan.cls ≠ "java/lang/invoke/VarHandle" ∧ (parseMethodDescriptor yX9_plan.desc).map (fun d => d.parameters.length) = some 0 := by decide +kernel
theorem pn_X9_plan : plainName yX9_plan.cls = true := by decide +kernel
theorem hy_X9_comes : yX9_comes.cls ≠ "java/lang/invoke/MethodHandle" ∧ yX9_comes.cls ≠ "java/lang/invoke/VarHandle" ∧ (parseMethodDescriptor yX9_comes.desc).map (fun d => d.parameters.length) = some 0 := by decide +kernel
theorem pn_X9_comes : plainName yX9_comes.cls = true := by decide +kernel
theorem hy_X9_planned : yX9_planned.cls ≠ "java/lang/invoke/MethodHandle" ∧ yX9_planned.cls ≠ "java/lang/invoke/VarHandle" ∧ (parseMethodDescriptor yX9_planned.desc).map (fun d => d.parameters.length) = some 2 := by decide +kernel
theorem pn_X9_planned : plainName yX9_planned.cls = true := by decide +kernel
theorem hy_X9_setsOut : yX9_setsOut.cls ≠ "java/lang/invoke/MethodHandle" ∧ yX9_setsOut.cls ≠ "java/lang/invoke/VarHandle" ∧ (parseMethodDescriptor yX9_setsOut.desc).map (fun d => d.parameters.length) = some 0 := by decide +kernel
theorem pn_X9_setsOut : plainName yX9_setsOut.cls = true := by decide +kernel
theorem hy_X9_out : yX9_out.cls ≠ "java/lang/invoke/MethodHandle" ∧ yX9_out.cls ≠ "java/lang/invoke/VarHandle" ∧ (parseMethodDescriptor yX9_out.desc).map (fun d => d.parameters.length) = some 0 := by decide +kernel
theorem pn_X9_out : plainName yX9_out.cls = true := by decide +kernel
theorem hy_X9_breaks : yX9_breaks.cls ≠ "java/lang/invoke/MethodHandle" ∧ yX9_breaks.cls ≠ "java/lang/invoke/VarHandle" ∧ (parseMethodDescriptor yX9_breaks.desc).map (fun d => d.parameters.length) = some 1 := by decide +kernel
theorem pn_X9_breaks : plainName yX9_breaks.cls = true := by decide +kernel
theorem hy_X9_isAtWork : yX9_isAtWork.cls ≠ "java/lang/invoke/MethodHandle" ∧ yX9_isAtWork.cls ≠ "java/lang/invoke/VarHandle" ∧ (parseMethodDescriptor yX9_isAtWork.desc).map (fun d => d.parameters.length) = some 0 := by decide +kernel
theorem pn_X9_isAtWork : plainName yX9_isAtWork.cls = true := by decide +kernel
theorem hy_X9_threshes : yX9_threshes.cls ≠ "java/lang/invoke/MethodHandle" ∧ yX9_threshes.cls ≠ "java/lang/invoke/VarHandle" ∧ (parseMethodDescriptor yX9_threshes.desc).map (fun d => d.parameters.length) = some 1 := by decide +kernel
theorem pn_X9_threshes : plainName yX9_threshes.cls = true := by decide +kernel
theorem hy_X9_oneDay : yX9_oneDay.cls ≠ "java/lang/invoke/MethodHandle" ∧ yX9_oneDay.cls ≠ "java/lang/invoke/VarHandle" ∧ (parseMethodDescriptor yX9_oneDay.desc).map (fun d => d.parameters.length) = some 0 := by decide +kernel
theorem pn_X9_oneDay : plainName yX9_oneDay.cls = true := by decide +kernel
theorem hy_X9_day : yX9_day.cls ≠ "java/lang/invoke/MethodHandle" ∧ yX9_day.cls ≠ "java/lang/invoke/VarHandle" ∧ (parseMethodDescriptor yX9_day.desc).map (fun d => d.parameters.length) = some 1 := by decide +kernel
theorem pn_X9_day : plainName yX9_day.cls = true := by decide +kernel
theorem hy_X9_sacksOf : yX9_sacksOf.cls ≠ "java/lang/invoke/MethodHandle" ∧ yX9_sacksOf.cls ≠ "java/lang/invoke/VarHandle" ∧ (parseMethodDescriptor yX9_sacksOf.desc).map (fun d => d.parameters.length) = some 1 := by decide +kernel
theorem pn_X9_sacksOf : plainName yX9_sacksOf.cls = true := by decide +kernel
theorem hy_X9_look : yX9_look.cls ≠ "java/lang/invoke/MethodHandle" ∧ yX9_look.cls ≠ "java/lang/invoke/VarHandle" ∧ (parseMethodDescriptor yX9_look.desc).map (fun d => d.parameters.length) = some 2 := by decide +kernel
theorem pn_X9_look : plainName yX9_look.cls = true := by decide +kernel
theorem hy_X9_owed : yX9_owed.cls ≠ "java/lang/invoke/MethodHandle" ∧ yX9_owed.cls ≠ "java/lang/invoke/VarHandle" ∧ (parseMethodDescriptor yX9_owed.desc).map (fun d => d.parameters.length) = some 2 := by decide +kernel
theorem pn_X9_owed : plainName yX9_owed.cls = true := by decide +kernel
theorem hy_X9_lent : yX9_lent.cls ≠ "java/lang/invoke/MethodHandle" ∧ yX9_lent.cls ≠ "java/lang/invoke/VarHandle" ∧ (parseMethodDescriptor yX9_lent.desc).map (fun d => d.parameters.length) = some 2 := by decide +kernel
theorem pn_X9_lent : plainName yX9_lent.cls = true := by decide +kernel
theorem hy_X9_count : yX9_count.cls ≠ "java/lang/invoke/MethodHandle" ∧ yX9_count.cls ≠ "java/lang/invoke/VarHandle" ∧ (parseMethodDescriptor yX9_count.desc).map (fun d => d.parameters.length) = some 1 := by decide +kernel
theorem pn_X9_count : plainName yX9_count.cls = true := by decide +kernel
theorem hy_J0_length_8abf5 : yJ0_length_8abf5.cls ≠ "java/lang/invoke/MethodHandle" ∧ yJ0_length_8abf5.cls ≠ "java/lang/invoke/VarHandle" ∧ (parseMethodDescriptor yJ0_length_8abf5.desc).map (fun d => d.parameters.length) = some 0 := by decide +kernel
theorem pn_J0_length_8abf5 : plainName yJ0_length_8abf5.cls = true := by decide +kernel
theorem hy_J0_charAt_5068e : yJ0_charAt_5068e.cls ≠ "java/lang/invoke/MethodHandle" ∧ yJ0_charAt_5068e.cls ≠ "java/lang/invoke/VarHandle" ∧ (parseMethodDescriptor yJ0_charAt_5068e.desc).map (fun d => d.parameters.length) = some 1 := by decide +kernel
theorem pn_J0_charAt_5068e : plainName yJ0_charAt_5068e.cls = true := by decide +kernel
theorem hy_J0_coder_7d493 : yJ0_coder_7d493.cls ≠ "java/lang/invoke/MethodHandle" ∧ yJ0_coder_7d493.cls ≠ "java/lang/invoke/VarHandle" ∧ (parseMethodDescriptor yJ0_coder_7d493.desc).map (fun d => d.parameters.length) = some 0 := by decide +kernel
theorem pn_J0_coder_7d493 : plainName yJ0_coder_7d493.cls = true := by decide +kernel
theorem hy_J0_isLatin1_aae02 : yJ0_isLatin1_aae02.cls ≠ "java/lang/invoke/MethodHandle" ∧ yJ0_isLatin1_aae02.cls ≠ "java/lang/invoke/VarHandle" ∧ (parseMethodDescriptor yJ0_isLatin1_aae02.desc).map (fun d => d.parameters.length) = some 0 := by decide +kernel
theorem pn_J0_isLatin1_aae02 : plainName yJ0_isLatin1_aae02.cls = true := by decide +kernel
theorem hy_J0_checkIndex_df160 : yJ0_checkIndex_df160.cls ≠ "java/lang/invoke/MethodHandle" ∧ yJ0_checkIndex_df160.cls ≠ "java/lang/invoke/VarHandle" ∧ (parseMethodDescriptor yJ0_checkIndex_df160.desc).map (fun d => d.parameters.length) = some 2 := by decide +kernel
theorem pn_J0_checkIndex_df160 : plainName yJ0_checkIndex_df160.cls = true := by decide +kernel
theorem hy_J1_charAt_3b067 : yJ1_charAt_3b067.cls ≠ "java/lang/invoke/MethodHandle" ∧ yJ1_charAt_3b067.cls ≠ "java/lang/invoke/VarHandle" ∧ (parseMethodDescriptor yJ1_charAt_3b067.desc).map (fun d => d.parameters.length) = some 2 := by decide +kernel
theorem pn_J1_charAt_3b067 : plainName yJ1_charAt_3b067.cls = true := by decide +kernel
theorem hy_J2_getChar_3b067 : yJ2_getChar_3b067.cls ≠ "java/lang/invoke/MethodHandle" ∧ yJ2_getChar_3b067.cls ≠ "java/lang/invoke/VarHandle" ∧ (parseMethodDescriptor yJ2_getChar_3b067.desc).map (fun d => d.parameters.length) = some 2 := by decide +kernel
theorem pn_J2_getChar_3b067 : plainName yJ2_getChar_3b067.cls = true := by decide +kernel
theorem hy_J2_length_9d52b : yJ2_length_9d52b.cls ≠ "java/lang/invoke/MethodHandle" ∧ yJ2_length_9d52b.cls ≠ "java/lang/invoke/VarHandle" ∧ (parseMethodDescriptor yJ2_length_9d52b.desc).map (fun d => d.parameters.length) = some 1 := by decide +kernel
theorem pn_J2_length_9d52b : plainName yJ2_length_9d52b.cls = true := by decide +kernel
theorem hy_J2_charAt_3b067 : yJ2_charAt_3b067.cls ≠ "java/lang/invoke/MethodHandle" ∧ yJ2_charAt_3b067.cls ≠ "java/lang/invoke/VarHandle" ∧ (parseMethodDescriptor yJ2_charAt_3b067.desc).map (fun d => d.parameters.length) = some 2 := by decide +kernel
theorem pn_J2_charAt_3b067 : plainName yJ2_charAt_3b067.cls = true := by decide +kernel
theorem hy_J2_checkIndex_2214a : yJ2_checkIndex_2214a.cls ≠ "java/lang/invoke/MethodHandle" ∧ yJ2_checkIndex_2214a.cls ≠ "java/lang/invoke/VarHandle" ∧ (parseMethodDescriptor yJ2_checkIndex_2214a.desc).map (fun d => d.parameters.length) = some 2 := by decide +kernel
theorem pn_J2_checkIndex_2214a : plainName yJ2_checkIndex_2214a.cls = true := by decide +kernel
theorem hy_J3_checkIndex_8e157 : yJ3_checkIndex_8e157.cls ≠ "java/lang/invoke/MethodHandle" ∧ yJ3_checkIndex_8e157.cls ≠ "java/lang/invoke/VarHandle" ∧ (parseMethodDescriptor yJ3_checkIndex_8e157.desc).map (fun d => d.parameters.length) = some 3 := by decide +kernel
theorem pn_J3_checkIndex_8e157 : plainName yJ3_checkIndex_8e157.cls = true := by decide +kernel
theorem vx_pst {Post : vx_P} {ad : Nat → Nat} {N : Nat} {Λ : vx_L} {r r0 : Option vx_v} {m m0 : vx_mem} (h : Post r0 ad N Λ m0) (e1 : r = r0) (e2 : m = m0) : Post r ad N Λ m := by
  subst e1; subst e2; exact h
end
end
