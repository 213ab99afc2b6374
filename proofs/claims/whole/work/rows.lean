section
-- ===== PART A: goes FIRST, ahead of the names: the tables' words, and 'selects' of the private methods out of them =====
/-- a private method of a class that the tables say can be made, by its rows of tables_1 -/
def lw_okq (q : MethodName × Nat) : Prop := (q.1.cls ≠ "java/lang/invoke/MethodHandle" ∧ q.1.cls ≠ "java/lang/invoke/VarHandle") ∧ Cond.instantiable q.1.cls q.2 ∈ tables_1 ∧ Cond.privateMethod q.1 ∈ tables_1 ∧ Cond.instanceMethod q.1 ∈ tables_1
theorem lw_p0 : lw_okq (⟨"ThreshRound$Customs", "forgetTold", "()V"⟩, 4) := ⟨⟨by decide +kernel, by decide +kernel⟩, List.mem_of_getElem? (i := 47) (by decide +kernel), List.mem_of_getElem? (i := 53) (by decide +kernel), List.mem_of_getElem? (i := 54) (by decide +kernel)⟩
theorem lw_p1 : lw_okq (⟨"ThreshRound$Customs", "putInForce", "()V"⟩, 4) := ⟨⟨by decide +kernel, by decide +kernel⟩, List.mem_of_getElem? (i := 47) (by decide +kernel), List.mem_of_getElem? (i := 60) (by decide +kernel), List.mem_of_getElem? (i := 61) (by decide +kernel)⟩
theorem lw_p2 : lw_okq (⟨"ThreshRound$Search", "setWaits", "(IZ)V"⟩, 12) := ⟨⟨by decide +kernel, by decide +kernel⟩, List.mem_of_getElem? (i := 174) (by decide +kernel), List.mem_of_getElem? (i := 185) (by decide +kernel), List.mem_of_getElem? (i := 186) (by decide +kernel)⟩
theorem lw_p3 : lw_okq (⟨"ThreshRound$Customs", "readLine", "(LThreshRound$Tape;)Z"⟩, 4) := ⟨⟨by decide +kernel, by decide +kernel⟩, List.mem_of_getElem? (i := 47) (by decide +kernel), List.mem_of_getElem? (i := 363) (by decide +kernel), List.mem_of_getElem? (i := 364) (by decide +kernel)⟩
theorem lw_p4 : lw_okq (⟨"ThreshRound$Customs", "fails", "(II)Z"⟩, 4) := ⟨⟨by decide +kernel, by decide +kernel⟩, List.mem_of_getElem? (i := 47) (by decide +kernel), List.mem_of_getElem? (i := 438) (by decide +kernel), List.mem_of_getElem? (i := 439) (by decide +kernel)⟩
theorem lw_p5 : lw_okq (⟨"ThreshRound", "isPlace", "(I)Z"⟩, 8) := ⟨⟨by decide +kernel, by decide +kernel⟩, List.mem_of_getElem? (i := 17) (by decide +kernel), List.mem_of_getElem? (i := 475) (by decide +kernel), List.mem_of_getElem? (i := 476) (by decide +kernel)⟩
theorem lw_p6 : lw_okq (⟨"ThreshRound", "prepareSearch", "()V"⟩, 8) := ⟨⟨by decide +kernel, by decide +kernel⟩, List.mem_of_getElem? (i := 17) (by decide +kernel), List.mem_of_getElem? (i := 492) (by decide +kernel), List.mem_of_getElem? (i := 493) (by decide +kernel)⟩
theorem lw_p7 : lw_okq (⟨"ThreshRound", "speedOf", "(I)I"⟩, 8) := ⟨⟨by decide +kernel, by decide +kernel⟩, List.mem_of_getElem? (i := 17) (by decide +kernel), List.mem_of_getElem? (i := 508) (by decide +kernel), List.mem_of_getElem? (i := 509) (by decide +kernel)⟩
theorem lw_p8 : lw_okq (⟨"ThreshRound$Debts", "nextLender", "(II)I"⟩, 2) := ⟨⟨by decide +kernel, by decide +kernel⟩, List.mem_of_getElem? (i := 158) (by decide +kernel), List.mem_of_getElem? (i := 519) (by decide +kernel), List.mem_of_getElem? (i := 520) (by decide +kernel)⟩
theorem lw_p9 : lw_okq (⟨"ThreshRound$Search", "isWaiting", "(I)Z"⟩, 12) := ⟨⟨by decide +kernel, by decide +kernel⟩, List.mem_of_getElem? (i := 174) (by decide +kernel), List.mem_of_getElem? (i := 545) (by decide +kernel), List.mem_of_getElem? (i := 546) (by decide +kernel)⟩
theorem lw_p10 : lw_okq (⟨"ThreshRound$Search", "keepAsBest", "(II)V"⟩, 12) := ⟨⟨by decide +kernel, by decide +kernel⟩, List.mem_of_getElem? (i := 174) (by decide +kernel), List.mem_of_getElem? (i := 556) (by decide +kernel), List.mem_of_getElem? (i := 557) (by decide +kernel)⟩
theorem lw_p11 : lw_okq (⟨"ThreshRound$Search", "mayCome", "(II)Z"⟩, 12) := ⟨⟨by decide +kernel, by decide +kernel⟩, List.mem_of_getElem? (i := 174) (by decide +kernel), List.mem_of_getElem? (i := 565) (by decide +kernel), List.mem_of_getElem? (i := 566) (by decide +kernel)⟩
theorem lw_p12 : lw_okq (⟨"ThreshRound$Search", "beatsBest", "(II)Z"⟩, 12) := ⟨⟨by decide +kernel, by decide +kernel⟩, List.mem_of_getElem? (i := 174) (by decide +kernel), List.mem_of_getElem? (i := 582) (by decide +kernel), List.mem_of_getElem? (i := 583) (by decide +kernel)⟩
theorem lw_p13 : lw_okq (⟨"ThreshRound", "setOutFor", "(I)V"⟩, 8) := ⟨⟨by decide +kernel, by decide +kernel⟩, List.mem_of_getElem? (i := 17) (by decide +kernel), List.mem_of_getElem? (i := 606) (by decide +kernel), List.mem_of_getElem? (i := 607) (by decide +kernel)⟩
theorem lw_p14 : lw_okq (⟨"ThreshRound", "passDay", "()V"⟩, 8) := ⟨⟨by decide +kernel, by decide +kernel⟩, List.mem_of_getElem? (i := 17) (by decide +kernel), List.mem_of_getElem? (i := 618) (by decide +kernel), List.mem_of_getElem? (i := 619) (by decide +kernel)⟩
theorem lw_p15 : lw_okq (⟨"ThreshRound", "isAheadOfFrom", "()Z"⟩, 8) := ⟨⟨by decide +kernel, by decide +kernel⟩, List.mem_of_getElem? (i := 17) (by decide +kernel), List.mem_of_getElem? (i := 622) (by decide +kernel), List.mem_of_getElem? (i := 623) (by decide +kernel)⟩
def lw_privs_1 : List (MethodName × Nat) := [(⟨"ThreshRound$Customs", "forgetTold", "()V"⟩, 4), (⟨"ThreshRound$Customs", "putInForce", "()V"⟩, 4), (⟨"ThreshRound$Search", "setWaits", "(IZ)V"⟩, 12), (⟨"ThreshRound$Customs", "readLine", "(LThreshRound$Tape;)Z"⟩, 4), (⟨"ThreshRound$Customs", "fails", "(II)Z"⟩, 4), (⟨"ThreshRound", "isPlace", "(I)Z"⟩, 8), (⟨"ThreshRound", "prepareSearch", "()V"⟩, 8), (⟨"ThreshRound", "speedOf", "(I)I"⟩, 8), (⟨"ThreshRound$Debts", "nextLender", "(II)I"⟩, 2), (⟨"ThreshRound$Search", "isWaiting", "(I)Z"⟩, 12), (⟨"ThreshRound$Search", "keepAsBest", "(II)V"⟩, 12), (⟨"ThreshRound$Search", "mayCome", "(II)Z"⟩, 12), (⟨"ThreshRound$Search", "beatsBest", "(II)Z"⟩, 12), (⟨"ThreshRound", "setOutFor", "(I)V"⟩, 8), (⟨"ThreshRound", "passDay", "()V"⟩, 8), (⟨"ThreshRound", "isAheadOfFrom", "()Z"⟩, 8)]
theorem lw_r1 : ∀ q ∈ lw_privs_1, lw_okq q := List.forall_mem_cons.mpr ⟨lw_p0, List.forall_mem_cons.mpr ⟨lw_p1, List.forall_mem_cons.mpr ⟨lw_p2, List.forall_mem_cons.mpr ⟨lw_p3, List.forall_mem_cons.mpr ⟨lw_p4, List.forall_mem_cons.mpr ⟨lw_p5, List.forall_mem_cons.mpr ⟨lw_p6, List.forall_mem_cons.mpr ⟨lw_p7, List.forall_mem_cons.mpr ⟨lw_p8, List.forall_mem_cons.mpr ⟨lw_p9, List.forall_mem_cons.mpr ⟨lw_p10, List.forall_mem_cons.mpr ⟨lw_p11, List.forall_mem_cons.mpr ⟨lw_p12, List.forall_mem_cons.mpr ⟨lw_p13, List.forall_mem_cons.mpr ⟨lw_p14, List.forall_mem_cons.mpr ⟨lw_p15, fun _ h => absurd h List.not_mem_nil⟩⟩⟩⟩⟩⟩⟩⟩⟩⟩⟩⟩⟩⟩⟩⟩
theorem lw_p16 : lw_okq (⟨"ThreshRound", "thresh", "(I)V"⟩, 8) := ⟨⟨by decide +kernel, by decide +kernel⟩, List.mem_of_getElem? (i := 17) (by decide +kernel), List.mem_of_getElem? (i := 626) (by decide +kernel), List.mem_of_getElem? (i := 627) (by decide +kernel)⟩
theorem lw_p17 : lw_okq (⟨"ThreshRound", "goOn", "()V"⟩, 8) := ⟨⟨by decide +kernel, by decide +kernel⟩, List.mem_of_getElem? (i := 17) (by decide +kernel), List.mem_of_getElem? (i := 636) (by decide +kernel), List.mem_of_getElem? (i := 637) (by decide +kernel)⟩
theorem lw_p18 : lw_okq (⟨"ThreshRound", "sacksOf", "(I)I"⟩, 8) := ⟨⟨by decide +kernel, by decide +kernel⟩, List.mem_of_getElem? (i := 17) (by decide +kernel), List.mem_of_getElem? (i := 644) (by decide +kernel), List.mem_of_getElem? (i := 645) (by decide +kernel)⟩
theorem lw_p19 : lw_okq (⟨"ThreshRound", "priceOf", "(I)I"⟩, 8) := ⟨⟨by decide +kernel, by decide +kernel⟩, List.mem_of_getElem? (i := 17) (by decide +kernel), List.mem_of_getElem? (i := 648) (by decide +kernel), List.mem_of_getElem? (i := 649) (by decide +kernel)⟩
theorem lw_p20 : lw_okq (⟨"ThreshRound", "gangOf", "(I)I"⟩, 8) := ⟨⟨by decide +kernel, by decide +kernel⟩, List.mem_of_getElem? (i := 17) (by decide +kernel), List.mem_of_getElem? (i := 652) (by decide +kernel), List.mem_of_getElem? (i := 653) (by decide +kernel)⟩
theorem lw_p21 : lw_okq (⟨"ThreshRound", "lossOf", "(I)I"⟩, 8) := ⟨⟨by decide +kernel, by decide +kernel⟩, List.mem_of_getElem? (i := 17) (by decide +kernel), List.mem_of_getElem? (i := 656) (by decide +kernel), List.mem_of_getElem? (i := 657) (by decide +kernel)⟩
theorem lw_p22 : lw_okq (⟨"ThreshRound", "areTwoFarms", "(II)Z"⟩, 8) := ⟨⟨by decide +kernel, by decide +kernel⟩, List.mem_of_getElem? (i := 17) (by decide +kernel), List.mem_of_getElem? (i := 664) (by decide +kernel), List.mem_of_getElem? (i := 665) (by decide +kernel)⟩
theorem lw_p23 : lw_okq (⟨"ThreshRound", "howItIs", "()I"⟩, 8) := ⟨⟨by decide +kernel, by decide +kernel⟩, List.mem_of_getElem? (i := 17) (by decide +kernel), List.mem_of_getElem? (i := 683) (by decide +kernel), List.mem_of_getElem? (i := 684) (by decide +kernel)⟩
theorem lw_p24 : lw_okq (⟨"ThreshRoundModel", "next", "()V"⟩, 56) := ⟨⟨by decide +kernel, by decide +kernel⟩, List.mem_of_getElem? (i := 687) (by decide +kernel), List.mem_of_getElem? (i := 870) (by decide +kernel), List.mem_of_getElem? (i := 871) (by decide +kernel)⟩
theorem lw_p25 : lw_okq (⟨"ThreshRoundModel", "here", "()I"⟩, 56) := ⟨⟨by decide +kernel, by decide +kernel⟩, List.mem_of_getElem? (i := 687) (by decide +kernel), List.mem_of_getElem? (i := 874) (by decide +kernel), List.mem_of_getElem? (i := 875) (by decide +kernel)⟩
theorem lw_p26 : lw_okq (⟨"ThreshRoundModel", "wordOf", "()I"⟩, 56) := ⟨⟨by decide +kernel, by decide +kernel⟩, List.mem_of_getElem? (i := 687) (by decide +kernel), List.mem_of_getElem? (i := 881) (by decide +kernel), List.mem_of_getElem? (i := 882) (by decide +kernel)⟩
theorem lw_p27 : lw_okq (⟨"ThreshRoundModel", "line", "()V"⟩, 56) := ⟨⟨by decide +kernel, by decide +kernel⟩, List.mem_of_getElem? (i := 687) (by decide +kernel), List.mem_of_getElem? (i := 891) (by decide +kernel), List.mem_of_getElem? (i := 892) (by decide +kernel)⟩
theorem lw_p28 : lw_okq (⟨"ThreshRoundModel", "wrong", "(I)V"⟩, 56) := ⟨⟨by decide +kernel, by decide +kernel⟩, List.mem_of_getElem? (i := 687) (by decide +kernel), List.mem_of_getElem? (i := 895) (by decide +kernel), List.mem_of_getElem? (i := 896) (by decide +kernel)⟩
theorem lw_p29 : lw_okq (⟨"ThreshRoundModel", "isFarm", "(I)Z"⟩, 56) := ⟨⟨by decide +kernel, by decide +kernel⟩, List.mem_of_getElem? (i := 687) (by decide +kernel), List.mem_of_getElem? (i := 918) (by decide +kernel), List.mem_of_getElem? (i := 919) (by decide +kernel)⟩
theorem lw_p30 : lw_okq (⟨"ThreshRoundModel", "firstOrder", "()V"⟩, 56) := ⟨⟨by decide +kernel, by decide +kernel⟩, List.mem_of_getElem? (i := 687) (by decide +kernel), List.mem_of_getElem? (i := 926) (by decide +kernel), List.mem_of_getElem? (i := 927) (by decide +kernel)⟩
theorem lw_p31 : lw_okq (⟨"ThreshRoundModel", "isDone", "(I)Z"⟩, 56) := ⟨⟨by decide +kernel, by decide +kernel⟩, List.mem_of_getElem? (i := 687) (by decide +kernel), List.mem_of_getElem? (i := 930) (by decide +kernel), List.mem_of_getElem? (i := 931) (by decide +kernel)⟩
def lw_privs_2 : List (MethodName × Nat) := [(⟨"ThreshRound", "thresh", "(I)V"⟩, 8), (⟨"ThreshRound", "goOn", "()V"⟩, 8), (⟨"ThreshRound", "sacksOf", "(I)I"⟩, 8), (⟨"ThreshRound", "priceOf", "(I)I"⟩, 8), (⟨"ThreshRound", "gangOf", "(I)I"⟩, 8), (⟨"ThreshRound", "lossOf", "(I)I"⟩, 8), (⟨"ThreshRound", "areTwoFarms", "(II)Z"⟩, 8), (⟨"ThreshRound", "howItIs", "()I"⟩, 8), (⟨"ThreshRoundModel", "next", "()V"⟩, 56), (⟨"ThreshRoundModel", "here", "()I"⟩, 56), (⟨"ThreshRoundModel", "wordOf", "()I"⟩, 56), (⟨"ThreshRoundModel", "line", "()V"⟩, 56), (⟨"ThreshRoundModel", "wrong", "(I)V"⟩, 56), (⟨"ThreshRoundModel", "isFarm", "(I)Z"⟩, 56), (⟨"ThreshRoundModel", "firstOrder", "()V"⟩, 56), (⟨"ThreshRoundModel", "isDone", "(I)Z"⟩, 56)]
theorem lw_r2 : ∀ q ∈ lw_privs_2, lw_okq q := List.forall_mem_cons.mpr ⟨lw_p16, List.forall_mem_cons.mpr ⟨lw_p17, List.forall_mem_cons.mpr ⟨lw_p18, List.forall_mem_cons.mpr ⟨lw_p19, List.forall_mem_cons.mpr ⟨lw_p20, List.forall_mem_cons.mpr ⟨lw_p21, List.forall_mem_cons.mpr ⟨lw_p22, List.forall_mem_cons.mpr ⟨lw_p23, List.forall_mem_cons.mpr ⟨lw_p24, List.forall_mem_cons.mpr ⟨lw_p25, List.forall_mem_cons.mpr ⟨lw_p26, List.forall_mem_cons.mpr ⟨lw_p27, List.forall_mem_cons.mpr ⟨lw_p28, List.forall_mem_cons.mpr ⟨lw_p29, List.forall_mem_cons.mpr ⟨lw_p30, List.forall_mem_cons.mpr ⟨lw_p31, fun _ h => absurd h List.not_mem_nil⟩⟩⟩⟩⟩⟩⟩⟩⟩⟩⟩⟩⟩⟩⟩⟩
theorem lw_p32 : lw_okq (⟨"ThreshRoundModel", "speedOf", "(I)I"⟩, 56) := ⟨⟨by decide +kernel, by decide +kernel⟩, List.mem_of_getElem? (i := 687) (by decide +kernel), List.mem_of_getElem? (i := 934) (by decide +kernel), List.mem_of_getElem? (i := 935) (by decide +kernel)⟩
theorem lw_p33 : lw_okq (⟨"ThreshRoundModel", "gangs", "(I)V"⟩, 56) := ⟨⟨by decide +kernel, by decide +kernel⟩, List.mem_of_getElem? (i := 687) (by decide +kernel), List.mem_of_getElem? (i := 938) (by decide +kernel), List.mem_of_getElem? (i := 939) (by decide +kernel)⟩
theorem lw_p34 : lw_okq (⟨"ThreshRoundModel", "goes", "()Z"⟩, 56) := ⟨⟨by decide +kernel, by decide +kernel⟩, List.mem_of_getElem? (i := 687) (by decide +kernel), List.mem_of_getElem? (i := 944) (by decide +kernel), List.mem_of_getElem? (i := 945) (by decide +kernel)⟩
theorem lw_p35 : lw_okq (⟨"ThreshRoundModel", "lossOf", "(II)I"⟩, 56) := ⟨⟨by decide +kernel, by decide +kernel⟩, List.mem_of_getElem? (i := 687) (by decide +kernel), List.mem_of_getElem? (i := 948) (by decide +kernel), List.mem_of_getElem? (i := 949) (by decide +kernel)⟩
theorem lw_p36 : lw_okq (⟨"ThreshRoundModel", "goesOn", "()Z"⟩, 56) := ⟨⟨by decide +kernel, by decide +kernel⟩, List.mem_of_getElem? (i := 687) (by decide +kernel), List.mem_of_getElem? (i := 952) (by decide +kernel), List.mem_of_getElem? (i := 953) (by decide +kernel)⟩
theorem lw_p37 : lw_okq (⟨"ThreshRoundModel", "swaps", "(II)V"⟩, 56) := ⟨⟨by decide +kernel, by decide +kernel⟩, List.mem_of_getElem? (i := 687) (by decide +kernel), List.mem_of_getElem? (i := 956) (by decide +kernel), List.mem_of_getElem? (i := 957) (by decide +kernel)⟩
theorem lw_p38 : lw_okq (⟨"ThreshRoundModel", "comes", "()V"⟩, 56) := ⟨⟨by decide +kernel, by decide +kernel⟩, List.mem_of_getElem? (i := 687) (by decide +kernel), List.mem_of_getElem? (i := 960) (by decide +kernel), List.mem_of_getElem? (i := 961) (by decide +kernel)⟩
theorem lw_p39 : lw_okq (⟨"ThreshRoundModel", "setsOut", "()Z"⟩, 56) := ⟨⟨by decide +kernel, by decide +kernel⟩, List.mem_of_getElem? (i := 687) (by decide +kernel), List.mem_of_getElem? (i := 972) (by decide +kernel), List.mem_of_getElem? (i := 973) (by decide +kernel)⟩
theorem lw_p40 : lw_okq (⟨"ThreshRoundModel", "oneDay", "()V"⟩, 56) := ⟨⟨by decide +kernel, by decide +kernel⟩, List.mem_of_getElem? (i := 687) (by decide +kernel), List.mem_of_getElem? (i := 984) (by decide +kernel), List.mem_of_getElem? (i := 985) (by decide +kernel)⟩
theorem lw_p41 : lw_okq (⟨"ThreshRoundModel", "isAtWork", "()Z"⟩, 56) := ⟨⟨by decide +kernel, by decide +kernel⟩, List.mem_of_getElem? (i := 687) (by decide +kernel), List.mem_of_getElem? (i := 988) (by decide +kernel), List.mem_of_getElem? (i := 989) (by decide +kernel)⟩
theorem lw_p42 : lw_okq (⟨"ThreshRoundModel", "threshes", "(I)V"⟩, 56) := ⟨⟨by decide +kernel, by decide +kernel⟩, List.mem_of_getElem? (i := 687) (by decide +kernel), List.mem_of_getElem? (i := 992) (by decide +kernel), List.mem_of_getElem? (i := 993) (by decide +kernel)⟩
theorem lw_p43 : lw_okq (⟨"ThreshRoundModel", "sacksOf", "(I)I"⟩, 56) := ⟨⟨by decide +kernel, by decide +kernel⟩, List.mem_of_getElem? (i := 687) (by decide +kernel), List.mem_of_getElem? (i := 1000) (by decide +kernel), List.mem_of_getElem? (i := 1001) (by decide +kernel)⟩
def lw_privs_3 : List (MethodName × Nat) := [(⟨"ThreshRoundModel", "speedOf", "(I)I"⟩, 56), (⟨"ThreshRoundModel", "gangs", "(I)V"⟩, 56), (⟨"ThreshRoundModel", "goes", "()Z"⟩, 56), (⟨"ThreshRoundModel", "lossOf", "(II)I"⟩, 56), (⟨"ThreshRoundModel", "goesOn", "()Z"⟩, 56), (⟨"ThreshRoundModel", "swaps", "(II)V"⟩, 56), (⟨"ThreshRoundModel", "comes", "()V"⟩, 56), (⟨"ThreshRoundModel", "setsOut", "()Z"⟩, 56), (⟨"ThreshRoundModel", "oneDay", "()V"⟩, 56), (⟨"ThreshRoundModel", "isAtWork", "()Z"⟩, 56), (⟨"ThreshRoundModel", "threshes", "(I)V"⟩, 56), (⟨"ThreshRoundModel", "sacksOf", "(I)I"⟩, 56)]
theorem lw_r3 : ∀ q ∈ lw_privs_3, lw_okq q := List.forall_mem_cons.mpr ⟨lw_p32, List.forall_mem_cons.mpr ⟨lw_p33, List.forall_mem_cons.mpr ⟨lw_p34, List.forall_mem_cons.mpr ⟨lw_p35, List.forall_mem_cons.mpr ⟨lw_p36, List.forall_mem_cons.mpr ⟨lw_p37, List.forall_mem_cons.mpr ⟨lw_p38, List.forall_mem_cons.mpr ⟨lw_p39, List.forall_mem_cons.mpr ⟨lw_p40, List.forall_mem_cons.mpr ⟨lw_p41, List.forall_mem_cons.mpr ⟨lw_p42, List.forall_mem_cons.mpr ⟨lw_p43, fun _ h => absurd h List.not_mem_nil⟩⟩⟩⟩⟩⟩⟩⟩⟩⟩⟩⟩
def lw_privs : List (MethodName × Nat) := lw_privs_1 ++ (lw_privs_2 ++ (lw_privs_3))
def lw_tbl : List Cond := k2_sels lw_privs ++ tables_1
theorem lw_privs_ok : ∀ q ∈ lw_privs, lw_okq q := by
  show ∀ q ∈ lw_privs_1 ++ (lw_privs_2 ++ (lw_privs_3)), lw_okq q
  exact List.forall_mem_append.mpr ⟨lw_r1, List.forall_mem_append.mpr ⟨lw_r2, lw_r3⟩⟩
-- ===== end of PART A; then your names; then what follows =====
def RX0 : String := "ThreshRound$Customs"
def TX0 : u_T := fun k => match k with
  | 0 => ("ThreshRound$Customs", "inForce", "[I", true)
  | 1 => ("ThreshRound$Customs", "told", "[I", true)
  | 2 => ("ThreshRound$Customs", "fault", "I", false)
  | _ => ("ThreshRound$Customs", "faultPlace", "I", false)
def tyX0 : Nat → FieldType := fun k => match k with
  | 0 => .array .int
  | 1 => .array .int
  | 2 => .int
  | _ => .int
theorem nmX0 : ∀ a, a < 4 → ∀ b, b < 4 → a ≠ b → (TX0 a).2.1 ≠ (TX0 b).2.1 := by decide +kernel
theorem tyX0_ok : ∀ k, k < 4 → parseFieldDescriptor (TX0 k).2.2.1 = some (tyX0 k) := by decide +kernel
abbrev cX0_init : ByteArray := prog_2_method_1_code
def yX0_init : MethodName := ⟨RX0, "<init>", "()V"⟩
abbrev cX0_tells : ByteArray := prog_2_method_2_code
def yX0_tells : MethodName := ⟨RX0, "tells", "(I)I"⟩
abbrev cX0_read : ByteArray := prog_2_method_3_code
def yX0_read : MethodName := ⟨RX0, "read", "(LThreshRound$Tape;I)I"⟩
abbrev cX0_forgetTold : ByteArray := prog_2_method_4_code
def yX0_forgetTold : MethodName := ⟨RX0, "forgetTold", "()V"⟩
abbrev cX0_putInForce : ByteArray := prog_2_method_5_code
def yX0_putInForce : MethodName := ⟨RX0, "putInForce", "()V"⟩
abbrev cX0_readLine : ByteArray := prog_2_method_6_code
def yX0_readLine : MethodName := ⟨RX0, "readLine", "(LThreshRound$Tape;)Z"⟩
abbrev cX0_fails : ByteArray := prog_2_method_7_code
def yX0_fails : MethodName := ⟨RX0, "fails", "(II)Z"⟩
abbrev cX0_kindOfWord : ByteArray := prog_2_method_8_code
def yX0_kindOfWord : MethodName := ⟨RX0, "kindOfWord", "(LThreshRound$Tape;I)I"⟩
abbrev cX0_word : ByteArray := prog_2_method_9_code
def yX0_word : MethodName := ⟨RX0, "word", "(I)Ljava/lang/String;"⟩
def RX1 : String := "ThreshRound$Debts"
def TX1 : u_T := fun k => match k with
  | 0 => ("ThreshRound$Debts", "owed", "[[I", true)
  | _ => ("ThreshRound$Debts", "given", "[I", true)
def tyX1 : Nat → FieldType := fun k => match k with
  | 0 => .array (.array .int)
  | _ => .array .int
theorem nmX1 : ∀ a, a < 2 → ∀ b, b < 2 → a ≠ b → (TX1 a).2.1 ≠ (TX1 b).2.1 := by decide +kernel
theorem tyX1_ok : ∀ k, k < 2 → parseFieldDescriptor (TX1 k).2.2.1 = some (tyX1 k) := by decide +kernel
abbrev cX1_init : ByteArray := prog_3_method_1_code
def yX1_init : MethodName := ⟨RX1, "<init>", "()V"⟩
abbrev cX1_muster : ByteArray := prog_3_method_2_code
def yX1_muster : MethodName := ⟨RX1, "muster", "(LThreshRound$Farms;II)I"⟩
abbrev cX1_nextLender : ByteArray := prog_3_method_3_code
def yX1_nextLender : MethodName := ⟨RX1, "nextLender", "(II)I"⟩
abbrev cX1_oweTheGivers : ByteArray := prog_3_method_4_code
def yX1_oweTheGivers : MethodName := ⟨RX1, "oweTheGivers", "(II)V"⟩
def RX2 : String := "ThreshRound$Engine"
def TX2 : u_T := fun k => match k with
  | 0 => ("ThreshRound$Engine", "today", "I", false)
  | 1 => ("ThreshRound$Engine", "place", "I", false)
  | 2 => ("ThreshRound$Engine", "onTheWay", "I", false)
  | 3 => ("ThreshRound$Engine", "broken", "I", false)
  | 4 => ("ThreshRound$Engine", "going", "Z", false)
  | _ => ("ThreshRound$Engine", "step", "I", false)
def tyX2 : Nat → FieldType := fun k => match k with
  | 0 => .int
  | 1 => .int
  | 2 => .int
  | 3 => .int
  | 4 => .boolean
  | _ => .int
theorem nmX2 : ∀ a, a < 6 → ∀ b, b < 6 → a ≠ b → (TX2 a).2.1 ≠ (TX2 b).2.1 := by decide +kernel
theorem tyX2_ok : ∀ k, k < 6 → parseFieldDescriptor (TX2 k).2.2.1 = some (tyX2 k) := by decide +kernel
abbrev cX2_init : ByteArray := prog_4_method_1_code
def yX2_init : MethodName := ⟨RX2, "<init>", "()V"⟩
def RX3 : String := "ThreshRound$Farms"
def TX3 : u_T := fun k => match k with
  | 0 => ("ThreshRound$Farms", "count", "I", false)
  | 1 => ("ThreshRound$Farms", "stack", "[I", true)
  | 2 => ("ThreshRound$Farms", "left", "[I", true)
  | 3 => ("ThreshRound$Farms", "damp", "[I", true)
  | 4 => ("ThreshRound$Farms", "own", "[I", true)
  | 5 => ("ThreshRound$Farms", "lends", "[I", true)
  | 6 => ("ThreshRound$Farms", "from", "[I", true)
  | 7 => ("ThreshRound$Farms", "to", "[I", true)
  | 8 => ("ThreshRound$Farms", "days", "[I", true)
  | 9 => ("ThreshRound$Farms", "doneOn", "[I", true)
  | 10 => ("ThreshRound$Farms", "how", "[I", true)
  | _ => ("ThreshRound$Farms", "coins", "[I", true)
def tyX3 : Nat → FieldType := fun k => match k with
  | 0 => .int
  | 1 => .array .int
  | 2 => .array .int
  | 3 => .array .int
  | 4 => .array .int
  | 5 => .array .int
  | 6 => .array .int
  | 7 => .array .int
  | 8 => .array .int
  | 9 => .array .int
  | 10 => .array .int
  | _ => .array .int
theorem nmX3 : ∀ a, a < 12 → ∀ b, b < 12 → a ≠ b → (TX3 a).2.1 ≠ (TX3 b).2.1 := by decide +kernel
theorem tyX3_ok : ∀ k, k < 12 → parseFieldDescriptor (TX3 k).2.2.1 = some (tyX3 k) := by decide +kernel
abbrev cX3_init : ByteArray := prog_5_method_1_code
def yX3_init : MethodName := ⟨RX3, "<init>", "()V"⟩
abbrev cX3_add : ByteArray := prog_5_method_2_code
def yX3_add : MethodName := ⟨RX3, "add", "()I"⟩
abbrev cX3_has : ByteArray := prog_5_method_3_code
def yX3_has : MethodName := ⟨RX3, "has", "(I)Z"⟩
abbrev cX3_isOpen : ByteArray := prog_5_method_4_code
def yX3_isOpen : MethodName := ⟨RX3, "isOpen", "(I)Z"⟩
abbrev cX3_openOnes : ByteArray := prog_5_method_5_code
def yX3_openOnes : MethodName := ⟨RX3, "openOnes", "()I"⟩
def RX4 : String := "ThreshRound$Plan"
def TX4 : u_T := fun k => match k with
  | 0 => ("ThreshRound$Plan", "length", "I", false)
  | 1 => ("ThreshRound$Plan", "madeOn", "I", false)
  | 2 => ("ThreshRound$Plan", "wasSetOut", "Z", false)
  | 3 => ("ThreshRound$Plan", "order", "[I", true)
  | 4 => ("ThreshRound$Plan", "there", "[I", true)
  | 5 => ("ThreshRound$Plan", "begin", "[I", true)
  | 6 => ("ThreshRound$Plan", "leave", "[I", true)
  | _ => ("ThreshRound$Plan", "loss", "[I", true)
def tyX4 : Nat → FieldType := fun k => match k with
  | 0 => .int
  | 1 => .int
  | 2 => .boolean
  | 3 => .array .int
  | 4 => .array .int
  | 5 => .array .int
  | 6 => .array .int
  | _ => .array .int
theorem nmX4 : ∀ a, a < 8 → ∀ b, b < 8 → a ≠ b → (TX4 a).2.1 ≠ (TX4 b).2.1 := by decide +kernel
theorem tyX4_ok : ∀ k, k < 8 → parseFieldDescriptor (TX4 k).2.2.1 = some (tyX4 k) := by decide +kernel
abbrev cX4_init : ByteArray := prog_6_method_1_code
def yX4_init : MethodName := ⟨RX4, "<init>", "()V"⟩
abbrev cX4_make : ByteArray := prog_6_method_2_code
def yX4_make : MethodName := ⟨RX4, "make", "(LThreshRound$Search;LThreshRound$Roads;II)V"⟩
def RX5 : String := "ThreshRound$Roads"
def TX5 : u_T := fun k => match k with
  | _ => ("ThreshRound$Roads", "days", "[[I", true)
def tyX5 : Nat → FieldType := fun k => match k with
  | _ => .array (.array .int)
theorem nmX5 : ∀ a, a < 1 → ∀ b, b < 1 → a ≠ b → (TX5 a).2.1 ≠ (TX5 b).2.1 := by decide +kernel
theorem tyX5_ok : ∀ k, k < 1 → parseFieldDescriptor (TX5 k).2.2.1 = some (tyX5 k) := by decide +kernel
abbrev cX5_init : ByteArray := prog_7_method_1_code
def yX5_init : MethodName := ⟨RX5, "<init>", "()V"⟩
abbrev cX5_between : ByteArray := prog_7_method_2_code
def yX5_between : MethodName := ⟨RX5, "between", "(II)I"⟩
def RX6 : String := "ThreshRound$Search"
def TX6 : u_T := fun k => match k with
  | 0 => ("ThreshRound$Search", "late", "I", false)
  | 1 => ("ThreshRound$Search", "need", "[I", true)
  | 2 => ("ThreshRound$Search", "from", "[I", true)
  | 3 => ("ThreshRound$Search", "to", "[I", true)
  | 4 => ("ThreshRound$Search", "waits", "[Z", true)
  | 5 => ("ThreshRound$Search", "forced", "[I", true)
  | 6 => ("ThreshRound$Search", "forcedCount", "I", false)
  | 7 => ("ThreshRound$Search", "order", "[I", true)
  | 8 => ("ThreshRound$Search", "best", "[I", true)
  | 9 => ("ThreshRound$Search", "toGo", "I", false)
  | 10 => ("ThreshRound$Search", "bestLoss", "I", false)
  | _ => ("ThreshRound$Search", "bestEnd", "I", false)
def tyX6 : Nat → FieldType := fun k => match k with
  | 0 => .int
  | 1 => .array .int
  | 2 => .array .int
  | 3 => .array .int
  | 4 => .array .boolean
  | 5 => .array .int
  | 6 => .int
  | 7 => .array .int
  | 8 => .array .int
  | 9 => .int
  | 10 => .int
  | _ => .int
theorem nmX6 : ∀ a, a < 12 → ∀ b, b < 12 → a ≠ b → (TX6 a).2.1 ≠ (TX6 b).2.1 := by decide +kernel
theorem tyX6_ok : ∀ k, k < 12 → parseFieldDescriptor (TX6 k).2.2.1 = some (tyX6 k) := by decide +kernel
abbrev cX6_init : ByteArray := prog_8_method_1_code
def yX6_init : MethodName := ⟨RX6, "<init>", "()V"⟩
abbrev cX6_startAnew : ByteArray := prog_8_method_2_code
def yX6_startAnew : MethodName := ⟨RX6, "startAnew", "(I)V"⟩
abbrev cX6_add : ByteArray := prog_8_method_3_code
def yX6_add : MethodName := ⟨RX6, "add", "(IIII)V"⟩
abbrev cX6_force : ByteArray := prog_8_method_4_code
def yX6_force : MethodName := ⟨RX6, "force", "(I)V"⟩
abbrev cX6_find : ByteArray := prog_8_method_5_code
def yX6_find : MethodName := ⟨RX6, "find", "(LThreshRound$Roads;II)Z"⟩
abbrev cX6_extend : ByteArray := prog_8_method_6_code
def yX6_extend : MethodName := ⟨RX6, "extend", "(LThreshRound$Search;LThreshRound$Roads;IIII)V"⟩
abbrev cX6_mayCome : ByteArray := prog_8_method_7_code
def yX6_mayCome : MethodName := ⟨RX6, "mayCome", "(II)Z"⟩
abbrev cX6_begins : ByteArray := prog_8_method_8_code
def yX6_begins : MethodName := ⟨RX6, "begins", "(II)I"⟩
abbrev cX6_leaves : ByteArray := prog_8_method_9_code
def yX6_leaves : MethodName := ⟨RX6, "leaves", "(II)I"⟩
abbrev cX6_lossOf : ByteArray := prog_8_method_10_code
def yX6_lossOf : MethodName := ⟨RX6, "lossOf", "(II)I"⟩
abbrev cX6_beatsBest : ByteArray := prog_8_method_11_code
def yX6_beatsBest : MethodName := ⟨RX6, "beatsBest", "(II)Z"⟩
abbrev cX6_keepAsBest : ByteArray := prog_8_method_12_code
def yX6_keepAsBest : MethodName := ⟨RX6, "keepAsBest", "(II)V"⟩
abbrev cX6_isWaiting : ByteArray := prog_8_method_13_code
def yX6_isWaiting : MethodName := ⟨RX6, "isWaiting", "(I)Z"⟩
abbrev cX6_setWaits : ByteArray := prog_8_method_14_code
def yX6_setWaits : MethodName := ⟨RX6, "setWaits", "(IZ)V"⟩
def RX7 : String := "ThreshRound$Tape"
def TX7 : u_T := fun k => match k with
  | 0 => ("ThreshRound$Tape", "bytes", "[I", true)
  | 1 => ("ThreshRound$Tape", "length", "I", false)
  | 2 => ("ThreshRound$Tape", "place", "I", false)
  | _ => ("ThreshRound$Tape", "end", "I", false)
def tyX7 : Nat → FieldType := fun k => match k with
  | 0 => .array .int
  | 1 => .int
  | 2 => .int
  | _ => .int
theorem nmX7 : ∀ a, a < 4 → ∀ b, b < 4 → a ≠ b → (TX7 a).2.1 ≠ (TX7 b).2.1 := by decide +kernel
theorem tyX7_ok : ∀ k, k < 4 → parseFieldDescriptor (TX7 k).2.2.1 = some (tyX7 k) := by decide +kernel
abbrev cX7_init : ByteArray := prog_9_method_1_code
def yX7_init : MethodName := ⟨RX7, "<init>", "()V"⟩
abbrev cX7_hasRoomFor : ByteArray := prog_9_method_2_code
def yX7_hasRoomFor : MethodName := ⟨RX7, "hasRoomFor", "(I)Z"⟩
abbrev cX7_append : ByteArray := prog_9_method_3_code
def yX7_append : MethodName := ⟨RX7, "append", "(I)V"⟩
abbrev cX7_readFirst : ByteArray := prog_9_method_4_code
def yX7_readFirst : MethodName := ⟨RX7, "readFirst", "(I)V"⟩
abbrev cX7_isAtEnd : ByteArray := prog_9_method_5_code
def yX7_isAtEnd : MethodName := ⟨RX7, "isAtEnd", "()Z"⟩
abbrev cX7_byteAt : ByteArray := prog_9_method_6_code
def yX7_byteAt : MethodName := ⟨RX7, "byteAt", "(I)I"⟩
abbrev cX7_skipBlanks : ByteArray := prog_9_method_7_code
def yX7_skipBlanks : MethodName := ⟨RX7, "skipBlanks", "()V"⟩
abbrev cX7_endOfRow : ByteArray := prog_9_method_8_code
def yX7_endOfRow : MethodName := ⟨RX7, "endOfRow", "(CC)I"⟩
abbrev cX7_numberUpTo : ByteArray := prog_9_method_9_code
def yX7_numberUpTo : MethodName := ⟨RX7, "numberUpTo", "(I)I"⟩
abbrev cX7_isWordUpTo : ByteArray := prog_9_method_10_code
def yX7_isWordUpTo : MethodName := ⟨RX7, "isWordUpTo", "(ILjava/lang/String;)Z"⟩
def RX8 : String := "ThreshRound"
def TX8 : u_T := fun k => match k with
  | 0 => ("ThreshRound", "tape", "LThreshRound$Tape;", true)
  | 1 => ("ThreshRound", "rules", "LThreshRound$Customs;", true)
  | 2 => ("ThreshRound", "farms", "LThreshRound$Farms;", true)
  | 3 => ("ThreshRound", "roads", "LThreshRound$Roads;", true)
  | 4 => ("ThreshRound", "debts", "LThreshRound$Debts;", true)
  | 5 => ("ThreshRound", "search", "LThreshRound$Search;", true)
  | 6 => ("ThreshRound", "atHand", "LThreshRound$Plan;", true)
  | _ => ("ThreshRound", "engine", "LThreshRound$Engine;", true)
def tyX8 : Nat → FieldType := fun k => match k with
  | 0 => .object "ThreshRound$Tape"
  | 1 => .object "ThreshRound$Customs"
  | 2 => .object "ThreshRound$Farms"
  | 3 => .object "ThreshRound$Roads"
  | 4 => .object "ThreshRound$Debts"
  | 5 => .object "ThreshRound$Search"
  | 6 => .object "ThreshRound$Plan"
  | _ => .object "ThreshRound$Engine"
theorem nmX8 : ∀ a, a < 8 → ∀ b, b < 8 → a ≠ b → (TX8 a).2.1 ≠ (TX8 b).2.1 := by decide +kernel
theorem tyX8_ok : ∀ k, k < 8 → parseFieldDescriptor (TX8 k).2.2.1 = some (tyX8 k) := by decide +kernel
abbrev cX8_init : ByteArray := prog_1_method_1_code
def yX8_init : MethodName := ⟨RX8, "<init>", "()V"⟩
abbrev cX8_feed : ByteArray := prog_1_method_2_code
def yX8_feed : MethodName := ⟨RX8, "feed", "(IIIII)I"⟩
abbrev cX8_customs : ByteArray := prog_1_method_3_code
def yX8_customs : MethodName := ⟨RX8, "customs", "(I)I"⟩
abbrev cX8_fault : ByteArray := prog_1_method_4_code
def yX8_fault : MethodName := ⟨RX8, "fault", "(I)I"⟩
abbrev cX8_farm : ByteArray := prog_1_method_5_code
def yX8_farm : MethodName := ⟨RX8, "farm", "(IIIIII)I"⟩
abbrev cX8_way : ByteArray := prog_1_method_6_code
def yX8_way : MethodName := ⟨RX8, "way", "(III)Z"⟩
abbrev cX8_bargain : ByteArray := prog_1_method_7_code
def yX8_bargain : MethodName := ⟨RX8, "bargain", "(III)Z"⟩
abbrev cX8_plan : ByteArray := prog_1_method_8_code
def yX8_plan : MethodName := ⟨RX8, "plan", "()I"⟩
abbrev cX8_planned : ByteArray := prog_1_method_9_code
def yX8_planned : MethodName := ⟨RX8, "planned", "(II)I"⟩
abbrev cX8_out : ByteArray := prog_1_method_10_code
def yX8_out : MethodName := ⟨RX8, "out", "()Z"⟩
abbrev cX8_breaks : ByteArray := prog_1_method_11_code
def yX8_breaks : MethodName := ⟨RX8, "breaks", "(I)Z"⟩
abbrev cX8_day : ByteArray := prog_1_method_12_code
def yX8_day : MethodName := ⟨RX8, "day", "(I)I"⟩
abbrev cX8_look : ByteArray := prog_1_method_13_code
def yX8_look : MethodName := ⟨RX8, "look", "(II)I"⟩
abbrev cX8_owed : ByteArray := prog_1_method_14_code
def yX8_owed : MethodName := ⟨RX8, "owed", "(II)I"⟩
abbrev cX8_lent : ByteArray := prog_1_method_15_code
def yX8_lent : MethodName := ⟨RX8, "lent", "(II)I"⟩
abbrev cX8_count : ByteArray := prog_1_method_16_code
def yX8_count : MethodName := ⟨RX8, "count", "(I)I"⟩
abbrev cX8_isPlace : ByteArray := prog_1_method_17_code
def yX8_isPlace : MethodName := ⟨RX8, "isPlace", "(I)Z"⟩
abbrev cX8_areTwoFarms : ByteArray := prog_1_method_18_code
def yX8_areTwoFarms : MethodName := ⟨RX8, "areTwoFarms", "(II)Z"⟩
abbrev cX8_prepareSearch : ByteArray := prog_1_method_19_code
def yX8_prepareSearch : MethodName := ⟨RX8, "prepareSearch", "()V"⟩
abbrev cX8_gangOf : ByteArray := prog_1_method_20_code
def yX8_gangOf : MethodName := ⟨RX8, "gangOf", "(I)I"⟩
abbrev cX8_speedOf : ByteArray := prog_1_method_21_code
def yX8_speedOf : MethodName := ⟨RX8, "speedOf", "(I)I"⟩
abbrev cX8_sacksOf : ByteArray := prog_1_method_22_code
def yX8_sacksOf : MethodName := ⟨RX8, "sacksOf", "(I)I"⟩
abbrev cX8_priceOf : ByteArray := prog_1_method_23_code
def yX8_priceOf : MethodName := ⟨RX8, "priceOf", "(I)I"⟩
abbrev cX8_lossOf : ByteArray := prog_1_method_24_code
def yX8_lossOf : MethodName := ⟨RX8, "lossOf", "(I)I"⟩
abbrev cX8_howItIs : ByteArray := prog_1_method_25_code
def yX8_howItIs : MethodName := ⟨RX8, "howItIs", "()I"⟩
abbrev cX8_isAheadOfFrom : ByteArray := prog_1_method_26_code
def yX8_isAheadOfFrom : MethodName := ⟨RX8, "isAheadOfFrom", "()Z"⟩
abbrev cX8_passDay : ByteArray := prog_1_method_27_code
def yX8_passDay : MethodName := ⟨RX8, "passDay", "()V"⟩
abbrev cX8_thresh : ByteArray := prog_1_method_28_code
def yX8_thresh : MethodName := ⟨RX8, "thresh", "(I)V"⟩
abbrev cX8_goOn : ByteArray := prog_1_method_29_code
def yX8_goOn : MethodName := ⟨RX8, "goOn", "()V"⟩
abbrev cX8_setOutFor : ByteArray := prog_1_method_30_code
def yX8_setOutFor : MethodName := ⟨RX8, "setOutFor", "(I)V"⟩
abbrev cX8_within : ByteArray := prog_1_method_31_code
def yX8_within : MethodName := ⟨RX8, "within", "(III)Z"⟩
abbrev cX8_at : ByteArray := prog_1_method_32_code
def yX8_at : MethodName := ⟨RX8, "at", "([II)I"⟩
abbrev cX8_put : ByteArray := prog_1_method_33_code
def yX8_put : MethodName := ⟨RX8, "put", "([III)V"⟩
abbrev cX8_at_ : ByteArray := prog_1_method_34_code
def yX8_at_ : MethodName := ⟨RX8, "at", "([[III)I"⟩
abbrev cX8_put_ : ByteArray := prog_1_method_35_code
def yX8_put_ : MethodName := ⟨RX8, "put", "([[IIII)V"⟩
abbrev cX8_cut : ByteArray := prog_1_method_36_code
def yX8_cut : MethodName := ⟨RX8, "cut", "(II)I"⟩
abbrev cX8_upwards : ByteArray := prog_1_method_37_code
def yX8_upwards : MethodName := ⟨RX8, "upwards", "(II)I"⟩
def RX9 : String := "ThreshRoundModel"
def TX9 : u_T := fun k => match k with
  | 0 => ("ThreshRoundModel", "thrown", "I", false)
  | 1 => ("ThreshRoundModel", "tape", "[I", true)
  | 2 => ("ThreshRoundModel", "taped", "I", false)
  | 3 => ("ThreshRoundModel", "customs", "[I", true)
  | 4 => ("ThreshRoundModel", "usual", "[I", true)
  | 5 => ("ThreshRoundModel", "least", "[I", true)
  | 6 => ("ThreshRoundModel", "most", "[I", true)
  | 7 => ("ThreshRoundModel", "told", "I", false)
  | 8 => ("ThreshRoundModel", "lines", "I", false)
  | 9 => ("ThreshRoundModel", "size", "I", false)
  | 10 => ("ThreshRoundModel", "at", "I", false)
  | 11 => ("ThreshRoundModel", "place", "I", false)
  | 12 => ("ThreshRoundModel", "sort", "I", false)
  | 13 => ("ThreshRoundModel", "value", "I", false)
  | 14 => ("ThreshRoundModel", "fault", "I", false)
  | 15 => ("ThreshRoundModel", "faultPlace", "I", false)
  | 16 => ("ThreshRoundModel", "lastFault", "I", false)
  | 17 => ("ThreshRoundModel", "lastPlace", "I", false)
  | 18 => ("ThreshRoundModel", "farms", "I", false)
  | 19 => ("ThreshRoundModel", "stack", "[I", true)
  | 20 => ("ThreshRoundModel", "left", "[I", true)
  | 21 => ("ThreshRoundModel", "damp", "[I", true)
  | 22 => ("ThreshRoundModel", "own", "[I", true)
  | 23 => ("ThreshRoundModel", "lends", "[I", true)
  | 24 => ("ThreshRoundModel", "from", "[I", true)
  | 25 => ("ThreshRoundModel", "to", "[I", true)
  | 26 => ("ThreshRoundModel", "threshed", "[I", true)
  | 27 => ("ThreshRoundModel", "doneOn", "[I", true)
  | 28 => ("ThreshRoundModel", "how", "[I", true)
  | 29 => ("ThreshRoundModel", "coins", "[I", true)
  | 30 => ("ThreshRoundModel", "ways", "[I", true)
  | 31 => ("ThreshRoundModel", "owed", "[I", true)
  | 32 => ("ThreshRoundModel", "gives", "[I", true)
  | 33 => ("ThreshRoundModel", "gang", "I", false)
  | 34 => ("ThreshRoundModel", "day", "I", false)
  | 35 => ("ThreshRoundModel", "setAt", "I", false)
  | 36 => ("ThreshRoundModel", "onWay", "I", false)
  | 37 => ("ThreshRoundModel", "goesTo", "I", false)
  | 38 => ("ThreshRoundModel", "broken", "I", false)
  | 39 => ("ThreshRoundModel", "order", "[I", true)
  | 40 => ("ThreshRoundModel", "arrives", "[I", true)
  | 41 => ("ThreshRoundModel", "begins", "[I", true)
  | 42 => ("ThreshRoundModel", "ends", "[I", true)
  | 43 => ("ThreshRoundModel", "losses", "[I", true)
  | 44 => ("ThreshRoundModel", "planned", "I", false)
  | 45 => ("ThreshRoundModel", "planDay", "I", false)
  | 46 => ("ThreshRoundModel", "hasPlan", "Z", false)
  | 47 => ("ThreshRoundModel", "isOut", "Z", false)
  | 48 => ("ThreshRoundModel", "turn", "I", false)
  | 49 => ("ThreshRoundModel", "tried", "[I", true)
  | 50 => ("ThreshRoundModel", "speeds", "[I", true)
  | 51 => ("ThreshRoundModel", "many", "I", false)
  | 52 => ("ThreshRoundModel", "fixed", "I", false)
  | 53 => ("ThreshRoundModel", "loss", "I", false)
  | 54 => ("ThreshRoundModel", "last", "I", false)
  | _ => ("ThreshRoundModel", "bestOrder", "[I", true)
def tyX9 : Nat → FieldType := fun k => match k with
  | 0 => .int
  | 1 => .array .int
  | 2 => .int
  | 3 => .array .int
  | 4 => .array .int
  | 5 => .array .int
  | 6 => .array .int
  | 7 => .int
  | 8 => .int
  | 9 => .int
  | 10 => .int
  | 11 => .int
  | 12 => .int
  | 13 => .int
  | 14 => .int
  | 15 => .int
  | 16 => .int
  | 17 => .int
  | 18 => .int
  | 19 => .array .int
  | 20 => .array .int
  | 21 => .array .int
  | 22 => .array .int
  | 23 => .array .int
  | 24 => .array .int
  | 25 => .array .int
  | 26 => .array .int
  | 27 => .array .int
  | 28 => .array .int
  | 29 => .array .int
  | 30 => .array .int
  | 31 => .array .int
  | 32 => .array .int
  | 33 => .int
  | 34 => .int
  | 35 => .int
  | 36 => .int
  | 37 => .int
  | 38 => .int
  | 39 => .array .int
  | 40 => .array .int
  | 41 => .array .int
  | 42 => .array .int
  | 43 => .array .int
  | 44 => .int
  | 45 => .int
  | 46 => .boolean
  | 47 => .boolean
  | 48 => .int
  | 49 => .array .int
  | 50 => .array .int
  | 51 => .int
  | 52 => .int
  | 53 => .int
  | 54 => .int
  | _ => .array .int
theorem nmX9 : ∀ a, a < 56 → ∀ b, b < 56 → a ≠ b → (TX9 a).2.1 ≠ (TX9 b).2.1 := by decide +kernel
theorem tyX9_ok : ∀ k, k < 56 → parseFieldDescriptor (TX9 k).2.2.1 = some (tyX9 k) := by decide +kernel
abbrev cX9_init : ByteArray := prog_11_method_1_code
def yX9_init : MethodName := ⟨RX9, "<init>", "()V"⟩
abbrev cX9_feed : ByteArray := prog_11_method_3_code
def yX9_feed : MethodName := ⟨RX9, "feed", "(IIIII)I"⟩
abbrev cX9_here : ByteArray := prog_11_method_4_code
def yX9_here : MethodName := ⟨RX9, "here", "()I"⟩
abbrev cX9_isSmall : ByteArray := prog_11_method_5_code
def yX9_isSmall : MethodName := ⟨RX9, "isSmall", "(I)Z"⟩
abbrev cX9_isDigit : ByteArray := prog_11_method_6_code
def yX9_isDigit : MethodName := ⟨RX9, "isDigit", "(I)Z"⟩
abbrev cX9_next : ByteArray := prog_11_method_7_code
def yX9_next : MethodName := ⟨RX9, "next", "()V"⟩
abbrev cX9_wordOf : ByteArray := prog_11_method_8_code
def yX9_wordOf : MethodName := ⟨RX9, "wordOf", "()I"⟩
abbrev cX9_wrong : ByteArray := prog_11_method_9_code
def yX9_wrong : MethodName := ⟨RX9, "wrong", "(I)V"⟩
abbrev cX9_line : ByteArray := prog_11_method_10_code
def yX9_line : MethodName := ⟨RX9, "line", "()V"⟩
abbrev cX9_customs : ByteArray := prog_11_method_11_code
def yX9_customs : MethodName := ⟨RX9, "customs", "(I)I"⟩
abbrev cX9_fault : ByteArray := prog_11_method_12_code
def yX9_fault : MethodName := ⟨RX9, "fault", "(I)I"⟩
abbrev cX9_isFarm : ByteArray := prog_11_method_13_code
def yX9_isFarm : MethodName := ⟨RX9, "isFarm", "(I)Z"⟩
abbrev cX9_isTwelve : ByteArray := prog_11_method_14_code
def yX9_isTwelve : MethodName := ⟨RX9, "isTwelve", "(I)Z"⟩
abbrev cX9_farm : ByteArray := prog_11_method_15_code
def yX9_farm : MethodName := ⟨RX9, "farm", "(IIIIII)I"⟩
abbrev cX9_way : ByteArray := prog_11_method_16_code
def yX9_way : MethodName := ⟨RX9, "way", "(III)Z"⟩
abbrev cX9_bargain : ByteArray := prog_11_method_17_code
def yX9_bargain : MethodName := ⟨RX9, "bargain", "(III)Z"⟩
abbrev cX9_gangs : ByteArray := prog_11_method_18_code
def yX9_gangs : MethodName := ⟨RX9, "gangs", "(I)V"⟩
abbrev cX9_speedOf : ByteArray := prog_11_method_19_code
def yX9_speedOf : MethodName := ⟨RX9, "speedOf", "(I)I"⟩
abbrev cX9_isDone : ByteArray := prog_11_method_20_code
def yX9_isDone : MethodName := ⟨RX9, "isDone", "(I)Z"⟩
abbrev cX9_goes : ByteArray := prog_11_method_21_code
def yX9_goes : MethodName := ⟨RX9, "goes", "()Z"⟩
abbrev cX9_lossOf : ByteArray := prog_11_method_22_code
def yX9_lossOf : MethodName := ⟨RX9, "lossOf", "(II)I"⟩
abbrev cX9_goesOn : ByteArray := prog_11_method_23_code
def yX9_goesOn : MethodName := ⟨RX9, "goesOn", "()Z"⟩
abbrev cX9_swaps : ByteArray := prog_11_method_24_code
def yX9_swaps : MethodName := ⟨RX9, "swaps", "(II)V"⟩
abbrev cX9_firstOrder : ByteArray := prog_11_method_25_code
def yX9_firstOrder : MethodName := ⟨RX9, "firstOrder", "()V"⟩
abbrev cX9_plan : ByteArray := prog_11_method_26_code
def yX9_plan : MethodName := ⟨RX9, "plan", "()I"⟩
abbrev cX9_comes : ByteArray := prog_11_method_27_code
def yX9_comes : MethodName := ⟨RX9, "comes", "()V"⟩
abbrev cX9_planned : ByteArray := prog_11_method_28_code
def yX9_planned : MethodName := ⟨RX9, "planned", "(II)I"⟩
abbrev cX9_setsOut : ByteArray := prog_11_method_29_code
def yX9_setsOut : MethodName := ⟨RX9, "setsOut", "()Z"⟩
abbrev cX9_out : ByteArray := prog_11_method_30_code
def yX9_out : MethodName := ⟨RX9, "out", "()Z"⟩
abbrev cX9_breaks : ByteArray := prog_11_method_31_code
def yX9_breaks : MethodName := ⟨RX9, "breaks", "(I)Z"⟩
abbrev cX9_isAtWork : ByteArray := prog_11_method_32_code
def yX9_isAtWork : MethodName := ⟨RX9, "isAtWork", "()Z"⟩
abbrev cX9_threshes : ByteArray := prog_11_method_33_code
def yX9_threshes : MethodName := ⟨RX9, "threshes", "(I)V"⟩
abbrev cX9_oneDay : ByteArray := prog_11_method_34_code
def yX9_oneDay : MethodName := ⟨RX9, "oneDay", "()V"⟩
abbrev cX9_day : ByteArray := prog_11_method_35_code
def yX9_day : MethodName := ⟨RX9, "day", "(I)I"⟩
abbrev cX9_sacksOf : ByteArray := prog_11_method_36_code
def yX9_sacksOf : MethodName := ⟨RX9, "sacksOf", "(I)I"⟩
abbrev cX9_look : ByteArray := prog_11_method_37_code
def yX9_look : MethodName := ⟨RX9, "look", "(II)I"⟩
abbrev cX9_owed : ByteArray := prog_11_method_38_code
def yX9_owed : MethodName := ⟨RX9, "owed", "(II)I"⟩
abbrev cX9_lent : ByteArray := prog_11_method_39_code
def yX9_lent : MethodName := ⟨RX9, "lent", "(II)I"⟩
abbrev cX9_count : ByteArray := prog_11_method_40_code
def yX9_count : MethodName := ⟨RX9, "count", "(I)I"⟩
def RJ9 : String := "java/lang/Math"
def TJ9 : u_T := fun k => match k with
  | _ => ("", "", "", false)
def tyJ9 : Nat → FieldType := fun k => match k with
  | _ => .int
theorem nmJ9 : ∀ a, a < 0 → ∀ b, b < 0 → a ≠ b → (TJ9 a).2.1 ≠ (TJ9 b).2.1 := by decide +kernel
theorem tyJ9_ok : ∀ k, k < 0 → parseFieldDescriptor (TJ9 k).2.2.1 = some (tyJ9 k) := by decide +kernel
abbrev cJ9_max_7cf53 : ByteArray := prog_12_method_65_code
def yJ9_max_7cf53 : MethodName := ⟨RJ9, "max", "(II)I"⟩
abbrev cJ9_min_7cf53 : ByteArray := prog_12_method_69_code
def yJ9_min_7cf53 : MethodName := ⟨RJ9, "min", "(II)I"⟩
def RJ0 : String := "java/lang/String"
def TJ0 : u_T := fun k => match k with
  | _ => ("", "", "", false)
def tyJ0 : Nat → FieldType := fun k => match k with
  | _ => .int
theorem nmJ0 : ∀ a, a < 0 → ∀ b, b < 0 → a ≠ b → (TJ0 a).2.1 ≠ (TJ0 b).2.1 := by decide +kernel
theorem tyJ0_ok : ∀ k, k < 0 → parseFieldDescriptor (TJ0 k).2.2.1 = some (tyJ0 k) := by decide +kernel
abbrev cJ0_length_8abf5 : ByteArray := prog_13_method_54_code
def yJ0_length_8abf5 : MethodName := ⟨RJ0, "length", "()I"⟩
abbrev cJ0_charAt_5068e : ByteArray := prog_13_method_56_code
def yJ0_charAt_5068e : MethodName := ⟨RJ0, "charAt", "(I)C"⟩
abbrev cJ0_coder_7d493 : ByteArray := prog_13_method_152_code
def yJ0_coder_7d493 : MethodName := ⟨RJ0, "coder", "()B"⟩
abbrev cJ0_isLatin1_aae02 : ByteArray := prog_13_method_154_code
def yJ0_isLatin1_aae02 : MethodName := ⟨RJ0, "isLatin1", "()Z"⟩
abbrev cJ0_checkIndex_df160 : ByteArray := prog_13_method_155_code
def yJ0_checkIndex_df160 : MethodName := ⟨RJ0, "checkIndex", "(II)V"⟩
def RJ1 : String := "java/lang/StringLatin1"
def TJ1 : u_T := fun k => match k with
  | _ => ("", "", "", false)
def tyJ1 : Nat → FieldType := fun k => match k with
  | _ => .int
theorem nmJ1 : ∀ a, a < 0 → ∀ b, b < 0 → a ≠ b → (TJ1 a).2.1 ≠ (TJ1 b).2.1 := by decide +kernel
theorem tyJ1_ok : ∀ k, k < 0 → parseFieldDescriptor (TJ1 k).2.2.1 = some (tyJ1 k) := by decide +kernel
abbrev cJ1_charAt_3b067 : ByteArray := prog_14_method_2_code
def yJ1_charAt_3b067 : MethodName := ⟨RJ1, "charAt", "([BI)C"⟩
def RJ2 : String := "java/lang/StringUTF16"
def TJ2 : u_T := fun k => match k with
  | _ => ("", "", "", false)
def tyJ2 : Nat → FieldType := fun k => match k with
  | _ => .int
theorem nmJ2 : ∀ a, a < 0 → ∀ b, b < 0 → a ≠ b → (TJ2 a).2.1 ≠ (TJ2 b).2.1 := by decide +kernel
theorem tyJ2_ok : ∀ k, k < 0 → parseFieldDescriptor (TJ2 k).2.2.1 = some (tyJ2 k) := by decide +kernel
abbrev cJ2_getChar_3b067 : ByteArray := prog_15_method_5_code
def yJ2_getChar_3b067 : MethodName := ⟨RJ2, "getChar", "([BI)C"⟩
abbrev cJ2_length_9d52b : ByteArray := prog_15_method_6_code
def yJ2_length_9d52b : MethodName := ⟨RJ2, "length", "([B)I"⟩
abbrev cJ2_charAt_3b067 : ByteArray := prog_15_method_83_code
def yJ2_charAt_3b067 : MethodName := ⟨RJ2, "charAt", "([BI)C"⟩
abbrev cJ2_checkIndex_2214a : ByteArray := prog_15_method_91_code
def yJ2_checkIndex_2214a : MethodName := ⟨RJ2, "checkIndex", "(I[B)V"⟩
def RJ3 : String := "jdk/internal/util/Preconditions"
def TJ3 : u_T := fun k => match k with
  | _ => ("", "", "", false)
def tyJ3 : Nat → FieldType := fun k => match k with
  | _ => .int
theorem nmJ3 : ∀ a, a < 0 → ∀ b, b < 0 → a ≠ b → (TJ3 a).2.1 ≠ (TJ3 b).2.1 := by decide +kernel
theorem tyJ3_ok : ∀ k, k < 0 → parseFieldDescriptor (TJ3 k).2.2.1 = some (tyJ3 k) := by decide +kernel
abbrev cJ3_checkIndex_8e157 : ByteArray := prog_16_method_11_code
def yJ3_checkIndex_8e157 : MethodName := ⟨RJ3, "checkIndex", "(IILjava/util/function/BiFunction;)I"⟩
def RL : String := "ThreshRoundLaw"
abbrev cL_law : ByteArray := code
def yL_law : MethodName := ⟨RL, "law", "([I)Z"⟩
abbrev vwCl : List vw_C := [(RX0, TX0, 4), (RX1, TX1, 2), (RX2, TX2, 6), (RX3, TX3, 12), (RX4, TX4, 8), (RX5, TX5, 1), (RX6, TX6, 12), (RX7, TX7, 4), (RX8, TX8, 8), (RX9, TX9, 56)]
end
section
theorem dX0_init_0 : decode cX0_init 0 = .ok (.aload_n 0, 1) := by decide +kernel
theorem dX0_init_1 : decode cX0_init 1 = .ok (.invokespecial 3, 3) := by decide +kernel
theorem dX0_init_4 : decode cX0_init 4 = .ok (.aload_n 0, 1) := by decide +kernel
theorem dX0_init_5 : decode cX0_init 5 = .ok (.bipush 6, 2) := by decide +kernel
theorem dX0_init_7 : decode cX0_init 7 = .ok (.newarray .int, 2) := by decide +kernel
theorem dX0_init_9 : decode cX0_init 9 = .ok (.putfield 11, 3) := by decide +kernel
theorem dX0_init_12 : decode cX0_init 12 = .ok (.aload_n 0, 1) := by decide +kernel
theorem dX0_init_13 : decode cX0_init 13 = .ok (.bipush 6, 2) := by decide +kernel
theorem dX0_init_15 : decode cX0_init 15 = .ok (.newarray .int, 2) := by decide +kernel
theorem dX0_init_17 : decode cX0_init 17 = .ok (.putfield 15, 3) := by decide +kernel
theorem dX0_init_20 : decode cX0_init 20 = .ok (.aload_n 0, 1) := by decide +kernel
theorem dX0_init_21 : decode cX0_init 21 = .ok (.invokevirtual 18, 3) := by decide +kernel
theorem dX0_init_24 : decode cX0_init 24 = .ok (.aload_n 0, 1) := by decide +kernel
theorem dX0_init_25 : decode cX0_init 25 = .ok (.invokevirtual 21, 3) := by decide +kernel
theorem dX0_init_28 : decode cX0_init 28 = .ok (.return_, 1) := by decide +kernel
theorem dX0_tells_0 : decode cX0_tells 0 = .ok (.aload_n 0, 1) := by decide +kernel
theorem dX0_tells_1 : decode cX0_tells 1 = .ok (.getfield 11, 3) := by decide +kernel
theorem dX0_tells_4 : decode cX0_tells 4 = .ok (.iload_n 1, 1) := by decide +kernel
theorem dX0_tells_5 : decode cX0_tells 5 = .ok (.invokestatic 24, 3) := by decide +kernel
theorem dX0_tells_8 : decode cX0_tells 8 = .ok (.ireturn, 1) := by decide +kernel
theorem dX0_read_0 : decode cX0_read 0 = .ok (.aload_n 0, 1) := by decide +kernel
theorem dX0_read_1 : decode cX0_read 1 = .ok (.invokevirtual 18, 3) := by decide +kernel
theorem dX0_read_4 : decode cX0_read 4 = .ok (.aload_n 1, 1) := by decide +kernel
theorem dX0_read_5 : decode cX0_read 5 = .ok (.iload_n 2, 1) := by decide +kernel
theorem dX0_read_6 : decode cX0_read 6 = .ok (.invokevirtual 28, 3) := by decide +kernel
theorem dX0_read_9 : decode cX0_read 9 = .ok (.aload_n 1, 1) := by decide +kernel
theorem dX0_read_10 : decode cX0_read 10 = .ok (.invokevirtual 34, 3) := by decide +kernel
theorem dX0_read_13 : decode cX0_read 13 = .ok (.iconst 0, 1) := by decide +kernel
theorem dX0_read_14 : decode cX0_read 14 = .ok (.istore_n 3, 1) := by decide +kernel
theorem dX0_read_15 : decode cX0_read 15 = .ok (.iload_n 3, 1) := by decide +kernel
theorem dX0_read_16 : decode cX0_read 16 = .ok (.iload_n 2, 1) := by decide +kernel
theorem dX0_read_17 : decode cX0_read 17 = .ok (.if_icmp .ge 30, 3) := by decide +kernel
theorem dX0_read_20 : decode cX0_read 20 = .ok (.aload_n 1, 1) := by decide +kernel
theorem dX0_read_21 : decode cX0_read 21 = .ok (.invokevirtual 37, 3) := by decide +kernel
theorem dX0_read_24 : decode cX0_read 24 = .ok (.ifCond .ne 23, 3) := by decide +kernel
theorem dX0_read_27 : decode cX0_read 27 = .ok (.aload_n 0, 1) := by decide +kernel
theorem dX0_read_28 : decode cX0_read 28 = .ok (.aload_n 1, 1) := by decide +kernel
theorem dX0_read_29 : decode cX0_read 29 = .ok (.invokevirtual 41, 3) := by decide +kernel
theorem dX0_read_32 : decode cX0_read 32 = .ok (.ifCond .ne 5, 3) := by decide +kernel
theorem dX0_read_35 : decode cX0_read 35 = .ok (.iconst (-1), 1) := by decide +kernel
theorem dX0_read_36 : decode cX0_read 36 = .ok (.ireturn, 1) := by decide +kernel
theorem dX0_read_37 : decode cX0_read 37 = .ok (.iinc 3 1, 3) := by decide +kernel
theorem dX0_read_40 : decode cX0_read 40 = .ok (.aload_n 1, 1) := by decide +kernel
theorem dX0_read_41 : decode cX0_read 41 = .ok (.invokevirtual 34, 3) := by decide +kernel
theorem dX0_read_44 : decode cX0_read 44 = .ok (.goto (-29), 3) := by decide +kernel
theorem dX0_read_47 : decode cX0_read 47 = .ok (.aload_n 0, 1) := by decide +kernel
theorem dX0_read_48 : decode cX0_read 48 = .ok (.invokevirtual 21, 3) := by decide +kernel
theorem dX0_read_51 : decode cX0_read 51 = .ok (.iload_n 3, 1) := by decide +kernel
theorem dX0_read_52 : decode cX0_read 52 = .ok (.ireturn, 1) := by decide +kernel
theorem dX0_forgetTold_0 : decode cX0_forgetTold 0 = .ok (.aload_n 0, 1) := by decide +kernel
theorem dX0_forgetTold_1 : decode cX0_forgetTold 1 = .ok (.iconst 0, 1) := by decide +kernel
theorem dX0_forgetTold_2 : decode cX0_forgetTold 2 = .ok (.putfield 45, 3) := by decide +kernel
theorem dX0_forgetTold_5 : decode cX0_forgetTold 5 = .ok (.aload_n 0, 1) := by decide +kernel
theorem dX0_forgetTold_6 : decode cX0_forgetTold 6 = .ok (.iconst (-1), 1) := by decide +kernel
theorem dX0_forgetTold_7 : decode cX0_forgetTold 7 = .ok (.putfield 49, 3) := by decide +kernel
theorem dX0_forgetTold_10 : decode cX0_forgetTold 10 = .ok (.iconst 0, 1) := by decide +kernel
theorem dX0_forgetTold_11 : decode cX0_forgetTold 11 = .ok (.istore_n 1, 1) := by decide +kernel
theorem dX0_forgetTold_12 : decode cX0_forgetTold 12 = .ok (.iload_n 1, 1) := by decide +kernel
theorem dX0_forgetTold_13 : decode cX0_forgetTold 13 = .ok (.bipush 6, 2) := by decide +kernel
theorem dX0_forgetTold_15 : decode cX0_forgetTold 15 = .ok (.if_icmp .ge 18, 3) := by decide +kernel
theorem dX0_forgetTold_18 : decode cX0_forgetTold 18 = .ok (.aload_n 0, 1) := by decide +kernel
theorem dX0_forgetTold_19 : decode cX0_forgetTold 19 = .ok (.getfield 15, 3) := by decide +kernel
theorem dX0_forgetTold_22 : decode cX0_forgetTold 22 = .ok (.iload_n 1, 1) := by decide +kernel
theorem dX0_forgetTold_23 : decode cX0_forgetTold 23 = .ok (.iconst (-1), 1) := by decide +kernel
theorem dX0_forgetTold_24 : decode cX0_forgetTold 24 = .ok (.invokestatic 52, 3) := by decide +kernel
theorem dX0_forgetTold_27 : decode cX0_forgetTold 27 = .ok (.iinc 1 1, 3) := by decide +kernel
theorem dX0_forgetTold_30 : decode cX0_forgetTold 30 = .ok (.goto (-18), 3) := by decide +kernel
theorem dX0_forgetTold_33 : decode cX0_forgetTold 33 = .ok (.return_, 1) := by decide +kernel
theorem dX0_putInForce_0 : decode cX0_putInForce 0 = .ok (.iconst 0, 1) := by decide +kernel
theorem dX0_putInForce_1 : decode cX0_putInForce 1 = .ok (.istore_n 1, 1) := by decide +kernel
theorem dX0_putInForce_2 : decode cX0_putInForce 2 = .ok (.iload_n 1, 1) := by decide +kernel
theorem dX0_putInForce_3 : decode cX0_putInForce 3 = .ok (.bipush 6, 2) := by decide +kernel
theorem dX0_putInForce_5 : decode cX0_putInForce 5 = .ok (.if_icmp .ge 42, 3) := by decide +kernel
theorem dX0_putInForce_8 : decode cX0_putInForce 8 = .ok (.aload_n 0, 1) := by decide +kernel
theorem dX0_putInForce_9 : decode cX0_putInForce 9 = .ok (.getfield 15, 3) := by decide +kernel
theorem dX0_putInForce_12 : decode cX0_putInForce 12 = .ok (.iload_n 1, 1) := by decide +kernel
theorem dX0_putInForce_13 : decode cX0_putInForce 13 = .ok (.invokestatic 24, 3) := by decide +kernel
theorem dX0_putInForce_16 : decode cX0_putInForce 16 = .ok (.istore_n 2, 1) := by decide +kernel
theorem dX0_putInForce_17 : decode cX0_putInForce 17 = .ok (.aload_n 0, 1) := by decide +kernel
theorem dX0_putInForce_18 : decode cX0_putInForce 18 = .ok (.getfield 11, 3) := by decide +kernel
theorem dX0_putInForce_21 : decode cX0_putInForce 21 = .ok (.iload_n 1, 1) := by decide +kernel
theorem dX0_putInForce_22 : decode cX0_putInForce 22 = .ok (.iload_n 2, 1) := by decide +kernel
theorem dX0_putInForce_23 : decode cX0_putInForce 23 = .ok (.iconst (-1), 1) := by decide +kernel
theorem dX0_putInForce_24 : decode cX0_putInForce 24 = .ok (.if_icmp .ne 13, 3) := by decide +kernel
theorem dX0_putInForce_27 : decode cX0_putInForce 27 = .ok (.getstatic 56, 3) := by decide +kernel
theorem dX0_putInForce_30 : decode cX0_putInForce 30 = .ok (.iload_n 1, 1) := by decide +kernel
theorem dX0_putInForce_31 : decode cX0_putInForce 31 = .ok (.invokestatic 24, 3) := by decide +kernel
theorem dX0_putInForce_34 : decode cX0_putInForce 34 = .ok (.goto 4, 3) := by decide +kernel
theorem dX0_putInForce_37 : decode cX0_putInForce 37 = .ok (.iload_n 2, 1) := by decide +kernel
theorem dX0_putInForce_38 : decode cX0_putInForce 38 = .ok (.invokestatic 52, 3) := by decide +kernel
theorem dX0_putInForce_41 : decode cX0_putInForce 41 = .ok (.iinc 1 1, 3) := by decide +kernel
theorem dX0_putInForce_44 : decode cX0_putInForce 44 = .ok (.goto (-42), 3) := by decide +kernel
theorem dX0_putInForce_47 : decode cX0_putInForce 47 = .ok (.return_, 1) := by decide +kernel
theorem dX0_readLine_0 : decode cX0_readLine 0 = .ok (.aload_n 1, 1) := by decide +kernel
theorem dX0_readLine_1 : decode cX0_readLine 1 = .ok (.bipush 97, 2) := by decide +kernel
theorem dX0_readLine_3 : decode cX0_readLine 3 = .ok (.bipush 122, 2) := by decide +kernel
theorem dX0_readLine_5 : decode cX0_readLine 5 = .ok (.invokevirtual 59, 3) := by decide +kernel
theorem dX0_readLine_8 : decode cX0_readLine 8 = .ok (.istore_n 2, 1) := by decide +kernel
theorem dX0_readLine_9 : decode cX0_readLine 9 = .ok (.aload_n 1, 1) := by decide +kernel
theorem dX0_readLine_10 : decode cX0_readLine 10 = .ok (.iload_n 2, 1) := by decide +kernel
theorem dX0_readLine_11 : decode cX0_readLine 11 = .ok (.invokestatic 63, 3) := by decide +kernel
theorem dX0_readLine_14 : decode cX0_readLine 14 = .ok (.istore_n 3, 1) := by decide +kernel
theorem dX0_readLine_15 : decode cX0_readLine 15 = .ok (.iload_n 3, 1) := by decide +kernel
theorem dX0_readLine_16 : decode cX0_readLine 16 = .ok (.iconst (-1), 1) := by decide +kernel
theorem dX0_readLine_17 : decode cX0_readLine 17 = .ok (.if_icmp .ne 13, 3) := by decide +kernel
theorem dX0_readLine_20 : decode cX0_readLine 20 = .ok (.aload_n 0, 1) := by decide +kernel
theorem dX0_readLine_21 : decode cX0_readLine 21 = .ok (.iconst 1, 1) := by decide +kernel
theorem dX0_readLine_22 : decode cX0_readLine 22 = .ok (.aload_n 1, 1) := by decide +kernel
theorem dX0_readLine_23 : decode cX0_readLine 23 = .ok (.getfield 67, 3) := by decide +kernel
theorem dX0_readLine_26 : decode cX0_readLine 26 = .ok (.invokevirtual 70, 3) := by decide +kernel
theorem dX0_readLine_29 : decode cX0_readLine 29 = .ok (.ireturn, 1) := by decide +kernel
theorem dX0_readLine_30 : decode cX0_readLine 30 = .ok (.aload_n 0, 1) := by decide +kernel
theorem dX0_readLine_31 : decode cX0_readLine 31 = .ok (.getfield 15, 3) := by decide +kernel
theorem dX0_readLine_34 : decode cX0_readLine 34 = .ok (.iload_n 3, 1) := by decide +kernel
theorem dX0_readLine_35 : decode cX0_readLine 35 = .ok (.invokestatic 24, 3) := by decide +kernel
theorem dX0_readLine_38 : decode cX0_readLine 38 = .ok (.iconst (-1), 1) := by decide +kernel
theorem dX0_readLine_39 : decode cX0_readLine 39 = .ok (.if_icmp .eq 13, 3) := by decide +kernel
theorem dX0_readLine_42 : decode cX0_readLine 42 = .ok (.aload_n 0, 1) := by decide +kernel
theorem dX0_readLine_43 : decode cX0_readLine 43 = .ok (.iconst 3, 1) := by decide +kernel
theorem dX0_readLine_44 : decode cX0_readLine 44 = .ok (.aload_n 1, 1) := by decide +kernel
theorem dX0_readLine_45 : decode cX0_readLine 45 = .ok (.getfield 67, 3) := by decide +kernel
theorem dX0_readLine_48 : decode cX0_readLine 48 = .ok (.invokevirtual 70, 3) := by decide +kernel
theorem dX0_readLine_51 : decode cX0_readLine 51 = .ok (.ireturn, 1) := by decide +kernel
theorem dX0_readLine_52 : decode cX0_readLine 52 = .ok (.aload_n 1, 1) := by decide +kernel
theorem dX0_readLine_53 : decode cX0_readLine 53 = .ok (.iload_n 2, 1) := by decide +kernel
theorem dX0_readLine_54 : decode cX0_readLine 54 = .ok (.putfield 67, 3) := by decide +kernel
theorem dX0_readLine_57 : decode cX0_readLine 57 = .ok (.aload_n 1, 1) := by decide +kernel
theorem dX0_readLine_58 : decode cX0_readLine 58 = .ok (.invokevirtual 34, 3) := by decide +kernel
theorem dX0_readLine_61 : decode cX0_readLine 61 = .ok (.aload_n 1, 1) := by decide +kernel
theorem dX0_readLine_62 : decode cX0_readLine 62 = .ok (.bipush 48, 2) := by decide +kernel
theorem dX0_readLine_64 : decode cX0_readLine 64 = .ok (.bipush 57, 2) := by decide +kernel
theorem dX0_readLine_66 : decode cX0_readLine 66 = .ok (.invokevirtual 59, 3) := by decide +kernel
theorem dX0_readLine_69 : decode cX0_readLine 69 = .ok (.istore 4, 2) := by decide +kernel
theorem dX0_readLine_71 : decode cX0_readLine 71 = .ok (.iload 4, 2) := by decide +kernel
theorem dX0_readLine_73 : decode cX0_readLine 73 = .ok (.aload_n 1, 1) := by decide +kernel
theorem dX0_readLine_74 : decode cX0_readLine 74 = .ok (.getfield 67, 3) := by decide +kernel
theorem dX0_readLine_77 : decode cX0_readLine 77 = .ok (.if_icmp .ne 13, 3) := by decide +kernel
theorem dX0_readLine_80 : decode cX0_readLine 80 = .ok (.aload_n 0, 1) := by decide +kernel
theorem dX0_readLine_81 : decode cX0_readLine 81 = .ok (.iconst 1, 1) := by decide +kernel
theorem dX0_readLine_82 : decode cX0_readLine 82 = .ok (.aload_n 1, 1) := by decide +kernel
theorem dX0_readLine_83 : decode cX0_readLine 83 = .ok (.getfield 67, 3) := by decide +kernel
theorem dX0_readLine_86 : decode cX0_readLine 86 = .ok (.invokevirtual 70, 3) := by decide +kernel
theorem dX0_readLine_89 : decode cX0_readLine 89 = .ok (.ireturn, 1) := by decide +kernel
theorem dX0_readLine_90 : decode cX0_readLine 90 = .ok (.aload_n 1, 1) := by decide +kernel
theorem dX0_readLine_91 : decode cX0_readLine 91 = .ok (.iload 4, 2) := by decide +kernel
theorem dX0_readLine_93 : decode cX0_readLine 93 = .ok (.invokevirtual 74, 3) := by decide +kernel
theorem dX0_readLine_96 : decode cX0_readLine 96 = .ok (.istore 5, 2) := by decide +kernel
theorem dX0_readLine_98 : decode cX0_readLine 98 = .ok (.iload 5, 2) := by decide +kernel
theorem dX0_readLine_100 : decode cX0_readLine 100 = .ok (.getstatic 78, 3) := by decide +kernel
theorem dX0_readLine_103 : decode cX0_readLine 103 = .ok (.iload_n 3, 1) := by decide +kernel
theorem dX0_readLine_104 : decode cX0_readLine 104 = .ok (.invokestatic 24, 3) := by decide +kernel
theorem dX0_readLine_107 : decode cX0_readLine 107 = .ok (.getstatic 81, 3) := by decide +kernel
theorem dX0_readLine_110 : decode cX0_readLine 110 = .ok (.iload_n 3, 1) := by decide +kernel
theorem dX0_readLine_111 : decode cX0_readLine 111 = .ok (.invokestatic 24, 3) := by decide +kernel
theorem dX0_readLine_114 : decode cX0_readLine 114 = .ok (.invokestatic 84, 3) := by decide +kernel
theorem dX0_readLine_117 : decode cX0_readLine 117 = .ok (.ifCond .ne 13, 3) := by decide +kernel
theorem dX0_readLine_120 : decode cX0_readLine 120 = .ok (.aload_n 0, 1) := by decide +kernel
theorem dX0_readLine_121 : decode cX0_readLine 121 = .ok (.iconst 2, 1) := by decide +kernel
theorem dX0_readLine_122 : decode cX0_readLine 122 = .ok (.aload_n 1, 1) := by decide +kernel
theorem dX0_readLine_123 : decode cX0_readLine 123 = .ok (.getfield 67, 3) := by decide +kernel
theorem dX0_readLine_126 : decode cX0_readLine 126 = .ok (.invokevirtual 70, 3) := by decide +kernel
theorem dX0_readLine_129 : decode cX0_readLine 129 = .ok (.ireturn, 1) := by decide +kernel
theorem dX0_readLine_130 : decode cX0_readLine 130 = .ok (.aload_n 1, 1) := by decide +kernel
theorem dX0_readLine_131 : decode cX0_readLine 131 = .ok (.iload 4, 2) := by decide +kernel
theorem dX0_readLine_133 : decode cX0_readLine 133 = .ok (.putfield 67, 3) := by decide +kernel
theorem dX0_readLine_136 : decode cX0_readLine 136 = .ok (.aload_n 1, 1) := by decide +kernel
theorem dX0_readLine_137 : decode cX0_readLine 137 = .ok (.invokevirtual 34, 3) := by decide +kernel
theorem dX0_readLine_140 : decode cX0_readLine 140 = .ok (.aload_n 1, 1) := by decide +kernel
theorem dX0_readLine_141 : decode cX0_readLine 141 = .ok (.aload_n 1, 1) := by decide +kernel
theorem dX0_readLine_142 : decode cX0_readLine 142 = .ok (.getfield 67, 3) := by decide +kernel
theorem dX0_readLine_145 : decode cX0_readLine 145 = .ok (.invokevirtual 88, 3) := by decide +kernel
theorem dX0_readLine_148 : decode cX0_readLine 148 = .ok (.bipush 59, 2) := by decide +kernel
theorem dX0_readLine_150 : decode cX0_readLine 150 = .ok (.if_icmp .eq 13, 3) := by decide +kernel
theorem dX0_readLine_153 : decode cX0_readLine 153 = .ok (.aload_n 0, 1) := by decide +kernel
theorem dX0_readLine_154 : decode cX0_readLine 154 = .ok (.iconst 1, 1) := by decide +kernel
theorem dX0_readLine_155 : decode cX0_readLine 155 = .ok (.aload_n 1, 1) := by decide +kernel
theorem dX0_readLine_156 : decode cX0_readLine 156 = .ok (.getfield 67, 3) := by decide +kernel
theorem dX0_readLine_159 : decode cX0_readLine 159 = .ok (.invokevirtual 70, 3) := by decide +kernel
theorem dX0_readLine_162 : decode cX0_readLine 162 = .ok (.ireturn, 1) := by decide +kernel
theorem dX0_readLine_163 : decode cX0_readLine 163 = .ok (.aload_n 1, 1) := by decide +kernel
theorem dX0_readLine_164 : decode cX0_readLine 164 = .ok (.dup, 1) := by decide +kernel
theorem dX0_readLine_165 : decode cX0_readLine 165 = .ok (.getfield 67, 3) := by decide +kernel
theorem dX0_readLine_168 : decode cX0_readLine 168 = .ok (.iconst 1, 1) := by decide +kernel
theorem dX0_readLine_169 : decode cX0_readLine 169 = .ok (.iadd, 1) := by decide +kernel
theorem dX0_readLine_170 : decode cX0_readLine 170 = .ok (.putfield 67, 3) := by decide +kernel
theorem dX0_readLine_173 : decode cX0_readLine 173 = .ok (.aload_n 0, 1) := by decide +kernel
theorem dX0_readLine_174 : decode cX0_readLine 174 = .ok (.getfield 15, 3) := by decide +kernel
theorem dX0_readLine_177 : decode cX0_readLine 177 = .ok (.iload_n 3, 1) := by decide +kernel
theorem dX0_readLine_178 : decode cX0_readLine 178 = .ok (.iload 5, 2) := by decide +kernel
theorem dX0_readLine_180 : decode cX0_readLine 180 = .ok (.invokestatic 52, 3) := by decide +kernel
theorem dX0_readLine_183 : decode cX0_readLine 183 = .ok (.iconst 1, 1) := by decide +kernel
theorem dX0_readLine_184 : decode cX0_readLine 184 = .ok (.ireturn, 1) := by decide +kernel
theorem dX0_fails_0 : decode cX0_fails 0 = .ok (.aload_n 0, 1) := by decide +kernel
theorem dX0_fails_1 : decode cX0_fails 1 = .ok (.iload_n 1, 1) := by decide +kernel
theorem dX0_fails_2 : decode cX0_fails 2 = .ok (.putfield 45, 3) := by decide +kernel
theorem dX0_fails_5 : decode cX0_fails 5 = .ok (.aload_n 0, 1) := by decide +kernel
theorem dX0_fails_6 : decode cX0_fails 6 = .ok (.iload_n 2, 1) := by decide +kernel
theorem dX0_fails_7 : decode cX0_fails 7 = .ok (.putfield 49, 3) := by decide +kernel
theorem dX0_fails_10 : decode cX0_fails 10 = .ok (.iconst 0, 1) := by decide +kernel
theorem dX0_fails_11 : decode cX0_fails 11 = .ok (.ireturn, 1) := by decide +kernel
theorem dX0_kindOfWord_0 : decode cX0_kindOfWord 0 = .ok (.iconst 0, 1) := by decide +kernel
theorem dX0_kindOfWord_1 : decode cX0_kindOfWord 1 = .ok (.istore_n 2, 1) := by decide +kernel
theorem dX0_kindOfWord_2 : decode cX0_kindOfWord 2 = .ok (.iload_n 2, 1) := by decide +kernel
theorem dX0_kindOfWord_3 : decode cX0_kindOfWord 3 = .ok (.bipush 6, 2) := by decide +kernel
theorem dX0_kindOfWord_5 : decode cX0_kindOfWord 5 = .ok (.if_icmp .ge 23, 3) := by decide +kernel
theorem dX0_kindOfWord_8 : decode cX0_kindOfWord 8 = .ok (.aload_n 0, 1) := by decide +kernel
theorem dX0_kindOfWord_9 : decode cX0_kindOfWord 9 = .ok (.iload_n 1, 1) := by decide +kernel
theorem dX0_kindOfWord_10 : decode cX0_kindOfWord 10 = .ok (.iload_n 2, 1) := by decide +kernel
theorem dX0_kindOfWord_11 : decode cX0_kindOfWord 11 = .ok (.invokestatic 91, 3) := by decide +kernel
theorem dX0_kindOfWord_14 : decode cX0_kindOfWord 14 = .ok (.invokevirtual 95, 3) := by decide +kernel
theorem dX0_kindOfWord_17 : decode cX0_kindOfWord 17 = .ok (.ifCond .eq 5, 3) := by decide +kernel
theorem dX0_kindOfWord_20 : decode cX0_kindOfWord 20 = .ok (.iload_n 2, 1) := by decide +kernel
theorem dX0_kindOfWord_21 : decode cX0_kindOfWord 21 = .ok (.ireturn, 1) := by decide +kernel
theorem dX0_kindOfWord_22 : decode cX0_kindOfWord 22 = .ok (.iinc 2 1, 3) := by decide +kernel
theorem dX0_kindOfWord_25 : decode cX0_kindOfWord 25 = .ok (.goto (-23), 3) := by decide +kernel
theorem dX0_kindOfWord_28 : decode cX0_kindOfWord 28 = .ok (.iconst (-1), 1) := by decide +kernel
theorem dX0_kindOfWord_29 : decode cX0_kindOfWord 29 = .ok (.ireturn, 1) := by decide +kernel
theorem dX0_word_0 : decode cX0_word 0 = .ok (.iload_n 0, 1) := by decide +kernel
theorem dX0_word_1 : decode cX0_word 1 = .ok (.tableswitch 50 0 4 #[35, 38, 41, 44, 47], 35) := by decide +kernel
theorem dX0_word_36 : decode cX0_word 36 = .ok (.ldc 99, 2) := by decide +kernel
theorem dX0_word_38 : decode cX0_word 38 = .ok (.areturn, 1) := by decide +kernel
theorem dX0_word_39 : decode cX0_word 39 = .ok (.ldc 101, 2) := by decide +kernel
theorem dX0_word_41 : decode cX0_word 41 = .ok (.areturn, 1) := by decide +kernel
theorem dX0_word_42 : decode cX0_word 42 = .ok (.ldc 103, 2) := by decide +kernel
theorem dX0_word_44 : decode cX0_word 44 = .ok (.areturn, 1) := by decide +kernel
theorem dX0_word_45 : decode cX0_word 45 = .ok (.ldc 105, 2) := by decide +kernel
theorem dX0_word_47 : decode cX0_word 47 = .ok (.areturn, 1) := by decide +kernel
theorem dX0_word_48 : decode cX0_word 48 = .ok (.ldc 107, 2) := by decide +kernel
theorem dX0_word_50 : decode cX0_word 50 = .ok (.areturn, 1) := by decide +kernel
theorem dX0_word_51 : decode cX0_word 51 = .ok (.ldc 109, 2) := by decide +kernel
theorem dX0_word_53 : decode cX0_word 53 = .ok (.areturn, 1) := by decide +kernel
theorem dX1_init_0 : decode cX1_init 0 = .ok (.aload_n 0, 1) := by decide +kernel
theorem dX1_init_1 : decode cX1_init 1 = .ok (.invokespecial 3, 3) := by decide +kernel
theorem dX1_init_4 : decode cX1_init 4 = .ok (.aload_n 0, 1) := by decide +kernel
theorem dX1_init_5 : decode cX1_init 5 = .ok (.bipush 8, 2) := by decide +kernel
theorem dX1_init_7 : decode cX1_init 7 = .ok (.bipush 8, 2) := by decide +kernel
theorem dX1_init_9 : decode cX1_init 9 = .ok (.multianewarray 9 2, 4) := by decide +kernel
theorem dX1_init_13 : decode cX1_init 13 = .ok (.putfield 11, 3) := by decide +kernel
theorem dX1_init_16 : decode cX1_init 16 = .ok (.aload_n 0, 1) := by decide +kernel
theorem dX1_init_17 : decode cX1_init 17 = .ok (.bipush 8, 2) := by decide +kernel
theorem dX1_init_19 : decode cX1_init 19 = .ok (.newarray .int, 2) := by decide +kernel
theorem dX1_init_21 : decode cX1_init 21 = .ok (.putfield 16, 3) := by decide +kernel
theorem dX1_init_24 : decode cX1_init 24 = .ok (.return_, 1) := by decide +kernel
theorem dX1_muster_0 : decode cX1_muster 0 = .ok (.iconst 0, 1) := by decide +kernel
theorem dX1_muster_1 : decode cX1_muster 1 = .ok (.istore 4, 2) := by decide +kernel
theorem dX1_muster_3 : decode cX1_muster 3 = .ok (.iload 4, 2) := by decide +kernel
theorem dX1_muster_5 : decode cX1_muster 5 = .ok (.bipush 8, 2) := by decide +kernel
theorem dX1_muster_7 : decode cX1_muster 7 = .ok (.if_icmp .ge 19, 3) := by decide +kernel
theorem dX1_muster_10 : decode cX1_muster 10 = .ok (.aload_n 0, 1) := by decide +kernel
theorem dX1_muster_11 : decode cX1_muster 11 = .ok (.getfield 16, 3) := by decide +kernel
theorem dX1_muster_14 : decode cX1_muster 14 = .ok (.iload 4, 2) := by decide +kernel
theorem dX1_muster_16 : decode cX1_muster 16 = .ok (.iconst (-1), 1) := by decide +kernel
theorem dX1_muster_17 : decode cX1_muster 17 = .ok (.invokestatic 20, 3) := by decide +kernel
theorem dX1_muster_20 : decode cX1_muster 20 = .ok (.iinc 4 1, 3) := by decide +kernel
theorem dX1_muster_23 : decode cX1_muster 23 = .ok (.goto (-20), 3) := by decide +kernel
theorem dX1_muster_26 : decode cX1_muster 26 = .ok (.aload_n 0, 1) := by decide +kernel
theorem dX1_muster_27 : decode cX1_muster 27 = .ok (.getfield 16, 3) := by decide +kernel
theorem dX1_muster_30 : decode cX1_muster 30 = .ok (.iload_n 2, 1) := by decide +kernel
theorem dX1_muster_31 : decode cX1_muster 31 = .ok (.iconst 0, 1) := by decide +kernel
theorem dX1_muster_32 : decode cX1_muster 32 = .ok (.invokestatic 20, 3) := by decide +kernel
theorem dX1_muster_35 : decode cX1_muster 35 = .ok (.aload_n 1, 1) := by decide +kernel
theorem dX1_muster_36 : decode cX1_muster 36 = .ok (.getfield 24, 3) := by decide +kernel
theorem dX1_muster_39 : decode cX1_muster 39 = .ok (.iload_n 2, 1) := by decide +kernel
theorem dX1_muster_40 : decode cX1_muster 40 = .ok (.invokestatic 29, 3) := by decide +kernel
theorem dX1_muster_43 : decode cX1_muster 43 = .ok (.iload_n 3, 1) := by decide +kernel
theorem dX1_muster_44 : decode cX1_muster 44 = .ok (.invokestatic 33, 3) := by decide +kernel
theorem dX1_muster_47 : decode cX1_muster 47 = .ok (.istore 4, 2) := by decide +kernel
theorem dX1_muster_49 : decode cX1_muster 49 = .ok (.iconst 1, 1) := by decide +kernel
theorem dX1_muster_50 : decode cX1_muster 50 = .ok (.istore 5, 2) := by decide +kernel
theorem dX1_muster_52 : decode cX1_muster 52 = .ok (.iload 5, 2) := by decide +kernel
theorem dX1_muster_54 : decode cX1_muster 54 = .ok (.aload_n 1, 1) := by decide +kernel
theorem dX1_muster_55 : decode cX1_muster 55 = .ok (.getfield 39, 3) := by decide +kernel
theorem dX1_muster_58 : decode cX1_muster 58 = .ok (.if_icmp .ge 56, 3) := by decide +kernel
theorem dX1_muster_61 : decode cX1_muster 61 = .ok (.aload_n 0, 1) := by decide +kernel
theorem dX1_muster_62 : decode cX1_muster 62 = .ok (.aload_n 1, 1) := by decide +kernel
theorem dX1_muster_63 : decode cX1_muster 63 = .ok (.getfield 39, 3) := by decide +kernel
theorem dX1_muster_66 : decode cX1_muster 66 = .ok (.iload_n 2, 1) := by decide +kernel
theorem dX1_muster_67 : decode cX1_muster 67 = .ok (.invokevirtual 43, 3) := by decide +kernel
theorem dX1_muster_70 : decode cX1_muster 70 = .ok (.istore 6, 2) := by decide +kernel
theorem dX1_muster_72 : decode cX1_muster 72 = .ok (.aload_n 1, 1) := by decide +kernel
theorem dX1_muster_73 : decode cX1_muster 73 = .ok (.getfield 46, 3) := by decide +kernel
theorem dX1_muster_76 : decode cX1_muster 76 = .ok (.iload 6, 2) := by decide +kernel
theorem dX1_muster_78 : decode cX1_muster 78 = .ok (.invokestatic 29, 3) := by decide +kernel
theorem dX1_muster_81 : decode cX1_muster 81 = .ok (.iload_n 3, 1) := by decide +kernel
theorem dX1_muster_82 : decode cX1_muster 82 = .ok (.iload 4, 2) := by decide +kernel
theorem dX1_muster_84 : decode cX1_muster 84 = .ok (.isub, 1) := by decide +kernel
theorem dX1_muster_85 : decode cX1_muster 85 = .ok (.invokestatic 33, 3) := by decide +kernel
theorem dX1_muster_88 : decode cX1_muster 88 = .ok (.istore 7, 2) := by decide +kernel
theorem dX1_muster_90 : decode cX1_muster 90 = .ok (.aload_n 0, 1) := by decide +kernel
theorem dX1_muster_91 : decode cX1_muster 91 = .ok (.getfield 16, 3) := by decide +kernel
theorem dX1_muster_94 : decode cX1_muster 94 = .ok (.iload 6, 2) := by decide +kernel
theorem dX1_muster_96 : decode cX1_muster 96 = .ok (.iload 7, 2) := by decide +kernel
theorem dX1_muster_98 : decode cX1_muster 98 = .ok (.invokestatic 20, 3) := by decide +kernel
theorem dX1_muster_101 : decode cX1_muster 101 = .ok (.iload 4, 2) := by decide +kernel
theorem dX1_muster_103 : decode cX1_muster 103 = .ok (.iload 7, 2) := by decide +kernel
theorem dX1_muster_105 : decode cX1_muster 105 = .ok (.iadd, 1) := by decide +kernel
theorem dX1_muster_106 : decode cX1_muster 106 = .ok (.istore 4, 2) := by decide +kernel
theorem dX1_muster_108 : decode cX1_muster 108 = .ok (.iinc 5 1, 3) := by decide +kernel
theorem dX1_muster_111 : decode cX1_muster 111 = .ok (.goto (-59), 3) := by decide +kernel
theorem dX1_muster_114 : decode cX1_muster 114 = .ok (.iload 4, 2) := by decide +kernel
theorem dX1_muster_116 : decode cX1_muster 116 = .ok (.ireturn, 1) := by decide +kernel
theorem dX1_nextLender_0 : decode cX1_nextLender 0 = .ok (.iconst (-1), 1) := by decide +kernel
theorem dX1_nextLender_1 : decode cX1_nextLender 1 = .ok (.istore_n 3, 1) := by decide +kernel
theorem dX1_nextLender_2 : decode cX1_nextLender 2 = .ok (.iconst 1, 1) := by decide +kernel
theorem dX1_nextLender_3 : decode cX1_nextLender 3 = .ok (.istore 4, 2) := by decide +kernel
theorem dX1_nextLender_5 : decode cX1_nextLender 5 = .ok (.iload 4, 2) := by decide +kernel
theorem dX1_nextLender_7 : decode cX1_nextLender 7 = .ok (.iload_n 1, 1) := by decide +kernel
theorem dX1_nextLender_8 : decode cX1_nextLender 8 = .ok (.if_icmp .gt 64, 3) := by decide +kernel
theorem dX1_nextLender_11 : decode cX1_nextLender 11 = .ok (.aload_n 0, 1) := by decide +kernel
theorem dX1_nextLender_12 : decode cX1_nextLender 12 = .ok (.getfield 16, 3) := by decide +kernel
theorem dX1_nextLender_15 : decode cX1_nextLender 15 = .ok (.iload 4, 2) := by decide +kernel
theorem dX1_nextLender_17 : decode cX1_nextLender 17 = .ok (.invokestatic 29, 3) := by decide +kernel
theorem dX1_nextLender_20 : decode cX1_nextLender 20 = .ok (.iconst (-1), 1) := by decide +kernel
theorem dX1_nextLender_21 : decode cX1_nextLender 21 = .ok (.if_icmp .ne 7, 3) := by decide +kernel
theorem dX1_nextLender_24 : decode cX1_nextLender 24 = .ok (.iconst 1, 1) := by decide +kernel
theorem dX1_nextLender_25 : decode cX1_nextLender 25 = .ok (.goto 4, 3) := by decide +kernel
theorem dX1_nextLender_28 : decode cX1_nextLender 28 = .ok (.iconst 0, 1) := by decide +kernel
theorem dX1_nextLender_29 : decode cX1_nextLender 29 = .ok (.istore 5, 2) := by decide +kernel
theorem dX1_nextLender_31 : decode cX1_nextLender 31 = .ok (.iload 5, 2) := by decide +kernel
theorem dX1_nextLender_33 : decode cX1_nextLender 33 = .ok (.ifCond .eq 33, 3) := by decide +kernel
theorem dX1_nextLender_36 : decode cX1_nextLender 36 = .ok (.iload_n 3, 1) := by decide +kernel
theorem dX1_nextLender_37 : decode cX1_nextLender 37 = .ok (.iconst (-1), 1) := by decide +kernel
theorem dX1_nextLender_38 : decode cX1_nextLender 38 = .ok (.if_icmp .eq 25, 3) := by decide +kernel
theorem dX1_nextLender_41 : decode cX1_nextLender 41 = .ok (.aload_n 0, 1) := by decide +kernel
theorem dX1_nextLender_42 : decode cX1_nextLender 42 = .ok (.getfield 11, 3) := by decide +kernel
theorem dX1_nextLender_45 : decode cX1_nextLender 45 = .ok (.iload 4, 2) := by decide +kernel
theorem dX1_nextLender_47 : decode cX1_nextLender 47 = .ok (.iload_n 2, 1) := by decide +kernel
theorem dX1_nextLender_48 : decode cX1_nextLender 48 = .ok (.invokestatic 49, 3) := by decide +kernel
theorem dX1_nextLender_51 : decode cX1_nextLender 51 = .ok (.aload_n 0, 1) := by decide +kernel
theorem dX1_nextLender_52 : decode cX1_nextLender 52 = .ok (.getfield 11, 3) := by decide +kernel
theorem dX1_nextLender_55 : decode cX1_nextLender 55 = .ok (.iload_n 3, 1) := by decide +kernel
theorem dX1_nextLender_56 : decode cX1_nextLender 56 = .ok (.iload_n 2, 1) := by decide +kernel
theorem dX1_nextLender_57 : decode cX1_nextLender 57 = .ok (.invokestatic 49, 3) := by decide +kernel
theorem dX1_nextLender_60 : decode cX1_nextLender 60 = .ok (.if_icmp .le 6, 3) := by decide +kernel
theorem dX1_nextLender_63 : decode cX1_nextLender 63 = .ok (.iload 4, 2) := by decide +kernel
theorem dX1_nextLender_65 : decode cX1_nextLender 65 = .ok (.istore_n 3, 1) := by decide +kernel
theorem dX1_nextLender_66 : decode cX1_nextLender 66 = .ok (.iinc 4 1, 3) := by decide +kernel
theorem dX1_nextLender_69 : decode cX1_nextLender 69 = .ok (.goto (-64), 3) := by decide +kernel
theorem dX1_nextLender_72 : decode cX1_nextLender 72 = .ok (.iload_n 3, 1) := by decide +kernel
theorem dX1_nextLender_73 : decode cX1_nextLender 73 = .ok (.ireturn, 1) := by decide +kernel
theorem dX1_oweTheGivers_0 : decode cX1_oweTheGivers 0 = .ok (.iconst 1, 1) := by decide +kernel
theorem dX1_oweTheGivers_1 : decode cX1_oweTheGivers 1 = .ok (.istore_n 3, 1) := by decide +kernel
theorem dX1_oweTheGivers_2 : decode cX1_oweTheGivers 2 = .ok (.iload_n 3, 1) := by decide +kernel
theorem dX1_oweTheGivers_3 : decode cX1_oweTheGivers 3 = .ok (.iload_n 1, 1) := by decide +kernel
theorem dX1_oweTheGivers_4 : decode cX1_oweTheGivers 4 = .ok (.if_icmp .gt 66, 3) := by decide +kernel
theorem dX1_oweTheGivers_7 : decode cX1_oweTheGivers 7 = .ok (.iload_n 3, 1) := by decide +kernel
theorem dX1_oweTheGivers_8 : decode cX1_oweTheGivers 8 = .ok (.iload_n 2, 1) := by decide +kernel
theorem dX1_oweTheGivers_9 : decode cX1_oweTheGivers 9 = .ok (.if_icmp .eq 55, 3) := by decide +kernel
theorem dX1_oweTheGivers_12 : decode cX1_oweTheGivers 12 = .ok (.aload_n 0, 1) := by decide +kernel
theorem dX1_oweTheGivers_13 : decode cX1_oweTheGivers 13 = .ok (.getfield 16, 3) := by decide +kernel
theorem dX1_oweTheGivers_16 : decode cX1_oweTheGivers 16 = .ok (.iload_n 3, 1) := by decide +kernel
theorem dX1_oweTheGivers_17 : decode cX1_oweTheGivers 17 = .ok (.invokestatic 29, 3) := by decide +kernel
theorem dX1_oweTheGivers_20 : decode cX1_oweTheGivers 20 = .ok (.istore 4, 2) := by decide +kernel
theorem dX1_oweTheGivers_22 : decode cX1_oweTheGivers 22 = .ok (.aload_n 0, 1) := by decide +kernel
theorem dX1_oweTheGivers_23 : decode cX1_oweTheGivers 23 = .ok (.getfield 11, 3) := by decide +kernel
theorem dX1_oweTheGivers_26 : decode cX1_oweTheGivers 26 = .ok (.iload_n 2, 1) := by decide +kernel
theorem dX1_oweTheGivers_27 : decode cX1_oweTheGivers 27 = .ok (.iload_n 3, 1) := by decide +kernel
theorem dX1_oweTheGivers_28 : decode cX1_oweTheGivers 28 = .ok (.aload_n 0, 1) := by decide +kernel
theorem dX1_oweTheGivers_29 : decode cX1_oweTheGivers 29 = .ok (.getfield 11, 3) := by decide +kernel
theorem dX1_oweTheGivers_32 : decode cX1_oweTheGivers 32 = .ok (.iload_n 2, 1) := by decide +kernel
theorem dX1_oweTheGivers_33 : decode cX1_oweTheGivers 33 = .ok (.iload_n 3, 1) := by decide +kernel
theorem dX1_oweTheGivers_34 : decode cX1_oweTheGivers 34 = .ok (.invokestatic 49, 3) := by decide +kernel
theorem dX1_oweTheGivers_37 : decode cX1_oweTheGivers 37 = .ok (.iload 4, 2) := by decide +kernel
theorem dX1_oweTheGivers_39 : decode cX1_oweTheGivers 39 = .ok (.iadd, 1) := by decide +kernel
theorem dX1_oweTheGivers_40 : decode cX1_oweTheGivers 40 = .ok (.invokestatic 52, 3) := by decide +kernel
theorem dX1_oweTheGivers_43 : decode cX1_oweTheGivers 43 = .ok (.aload_n 0, 1) := by decide +kernel
theorem dX1_oweTheGivers_44 : decode cX1_oweTheGivers 44 = .ok (.getfield 11, 3) := by decide +kernel
theorem dX1_oweTheGivers_47 : decode cX1_oweTheGivers 47 = .ok (.iload_n 3, 1) := by decide +kernel
theorem dX1_oweTheGivers_48 : decode cX1_oweTheGivers 48 = .ok (.iload_n 2, 1) := by decide +kernel
theorem dX1_oweTheGivers_49 : decode cX1_oweTheGivers 49 = .ok (.aload_n 0, 1) := by decide +kernel
theorem dX1_oweTheGivers_50 : decode cX1_oweTheGivers 50 = .ok (.getfield 11, 3) := by decide +kernel
theorem dX1_oweTheGivers_53 : decode cX1_oweTheGivers 53 = .ok (.iload_n 3, 1) := by decide +kernel
theorem dX1_oweTheGivers_54 : decode cX1_oweTheGivers 54 = .ok (.iload_n 2, 1) := by decide +kernel
theorem dX1_oweTheGivers_55 : decode cX1_oweTheGivers 55 = .ok (.invokestatic 49, 3) := by decide +kernel
theorem dX1_oweTheGivers_58 : decode cX1_oweTheGivers 58 = .ok (.iload 4, 2) := by decide +kernel
theorem dX1_oweTheGivers_60 : decode cX1_oweTheGivers 60 = .ok (.isub, 1) := by decide +kernel
theorem dX1_oweTheGivers_61 : decode cX1_oweTheGivers 61 = .ok (.invokestatic 52, 3) := by decide +kernel
theorem dX1_oweTheGivers_64 : decode cX1_oweTheGivers 64 = .ok (.iinc 3 1, 3) := by decide +kernel
theorem dX1_oweTheGivers_67 : decode cX1_oweTheGivers 67 = .ok (.goto (-65), 3) := by decide +kernel
theorem dX1_oweTheGivers_70 : decode cX1_oweTheGivers 70 = .ok (.return_, 1) := by decide +kernel
theorem dX2_init_0 : decode cX2_init 0 = .ok (.aload_n 0, 1) := by decide +kernel
theorem dX2_init_1 : decode cX2_init 1 = .ok (.invokespecial 3, 3) := by decide +kernel
theorem dX2_init_4 : decode cX2_init 4 = .ok (.aload_n 0, 1) := by decide +kernel
theorem dX2_init_5 : decode cX2_init 5 = .ok (.iconst 0, 1) := by decide +kernel
theorem dX2_init_6 : decode cX2_init 6 = .ok (.putfield 9, 3) := by decide +kernel
theorem dX2_init_9 : decode cX2_init 9 = .ok (.aload_n 0, 1) := by decide +kernel
theorem dX2_init_10 : decode cX2_init 10 = .ok (.iconst 0, 1) := by decide +kernel
theorem dX2_init_11 : decode cX2_init 11 = .ok (.putfield 15, 3) := by decide +kernel
theorem dX2_init_14 : decode cX2_init 14 = .ok (.aload_n 0, 1) := by decide +kernel
theorem dX2_init_15 : decode cX2_init 15 = .ok (.iconst 0, 1) := by decide +kernel
theorem dX2_init_16 : decode cX2_init 16 = .ok (.putfield 18, 3) := by decide +kernel
theorem dX2_init_19 : decode cX2_init 19 = .ok (.aload_n 0, 1) := by decide +kernel
theorem dX2_init_20 : decode cX2_init 20 = .ok (.iconst 0, 1) := by decide +kernel
theorem dX2_init_21 : decode cX2_init 21 = .ok (.putfield 21, 3) := by decide +kernel
theorem dX2_init_24 : decode cX2_init 24 = .ok (.aload_n 0, 1) := by decide +kernel
theorem dX2_init_25 : decode cX2_init 25 = .ok (.iconst 0, 1) := by decide +kernel
theorem dX2_init_26 : decode cX2_init 26 = .ok (.putfield 24, 3) := by decide +kernel
theorem dX2_init_29 : decode cX2_init 29 = .ok (.aload_n 0, 1) := by decide +kernel
theorem dX2_init_30 : decode cX2_init 30 = .ok (.iconst 0, 1) := by decide +kernel
theorem dX2_init_31 : decode cX2_init 31 = .ok (.putfield 28, 3) := by decide +kernel
theorem dX2_init_34 : decode cX2_init 34 = .ok (.return_, 1) := by decide +kernel
theorem dX3_init_0 : decode cX3_init 0 = .ok (.aload_n 0, 1) := by decide +kernel
theorem dX3_init_1 : decode cX3_init 1 = .ok (.invokespecial 3, 3) := by decide +kernel
theorem dX3_init_4 : decode cX3_init 4 = .ok (.aload_n 0, 1) := by decide +kernel
theorem dX3_init_5 : decode cX3_init 5 = .ok (.iconst 0, 1) := by decide +kernel
theorem dX3_init_6 : decode cX3_init 6 = .ok (.putfield 9, 3) := by decide +kernel
theorem dX3_init_9 : decode cX3_init 9 = .ok (.aload_n 0, 1) := by decide +kernel
theorem dX3_init_10 : decode cX3_init 10 = .ok (.bipush 8, 2) := by decide +kernel
theorem dX3_init_12 : decode cX3_init 12 = .ok (.newarray .int, 2) := by decide +kernel
theorem dX3_init_14 : decode cX3_init 14 = .ok (.putfield 15, 3) := by decide +kernel
theorem dX3_init_17 : decode cX3_init 17 = .ok (.aload_n 0, 1) := by decide +kernel
theorem dX3_init_18 : decode cX3_init 18 = .ok (.bipush 8, 2) := by decide +kernel
theorem dX3_init_20 : decode cX3_init 20 = .ok (.newarray .int, 2) := by decide +kernel
theorem dX3_init_22 : decode cX3_init 22 = .ok (.putfield 19, 3) := by decide +kernel
theorem dX3_init_25 : decode cX3_init 25 = .ok (.aload_n 0, 1) := by decide +kernel
theorem dX3_init_26 : decode cX3_init 26 = .ok (.bipush 8, 2) := by decide +kernel
theorem dX3_init_28 : decode cX3_init 28 = .ok (.newarray .int, 2) := by decide +kernel
theorem dX3_init_30 : decode cX3_init 30 = .ok (.putfield 22, 3) := by decide +kernel
theorem dX3_init_33 : decode cX3_init 33 = .ok (.aload_n 0, 1) := by decide +kernel
theorem dX3_init_34 : decode cX3_init 34 = .ok (.bipush 8, 2) := by decide +kernel
theorem dX3_init_36 : decode cX3_init 36 = .ok (.newarray .int, 2) := by decide +kernel
theorem dX3_init_38 : decode cX3_init 38 = .ok (.putfield 25, 3) := by decide +kernel
theorem dX3_init_41 : decode cX3_init 41 = .ok (.aload_n 0, 1) := by decide +kernel
theorem dX3_init_42 : decode cX3_init 42 = .ok (.bipush 8, 2) := by decide +kernel
theorem dX3_init_44 : decode cX3_init 44 = .ok (.newarray .int, 2) := by decide +kernel
theorem dX3_init_46 : decode cX3_init 46 = .ok (.putfield 28, 3) := by decide +kernel
theorem dX3_init_49 : decode cX3_init 49 = .ok (.aload_n 0, 1) := by decide +kernel
theorem dX3_init_50 : decode cX3_init 50 = .ok (.bipush 8, 2) := by decide +kernel
theorem dX3_init_52 : decode cX3_init 52 = .ok (.newarray .int, 2) := by decide +kernel
theorem dX3_init_54 : decode cX3_init 54 = .ok (.putfield 31, 3) := by decide +kernel
theorem dX3_init_57 : decode cX3_init 57 = .ok (.aload_n 0, 1) := by decide +kernel
theorem dX3_init_58 : decode cX3_init 58 = .ok (.bipush 8, 2) := by decide +kernel
theorem dX3_init_60 : decode cX3_init 60 = .ok (.newarray .int, 2) := by decide +kernel
theorem dX3_init_62 : decode cX3_init 62 = .ok (.putfield 34, 3) := by decide +kernel
theorem dX3_init_65 : decode cX3_init 65 = .ok (.aload_n 0, 1) := by decide +kernel
theorem dX3_init_66 : decode cX3_init 66 = .ok (.bipush 8, 2) := by decide +kernel
theorem dX3_init_68 : decode cX3_init 68 = .ok (.newarray .int, 2) := by decide +kernel
theorem dX3_init_70 : decode cX3_init 70 = .ok (.putfield 37, 3) := by decide +kernel
theorem dX3_init_73 : decode cX3_init 73 = .ok (.aload_n 0, 1) := by decide +kernel
theorem dX3_init_74 : decode cX3_init 74 = .ok (.bipush 8, 2) := by decide +kernel
theorem dX3_init_76 : decode cX3_init 76 = .ok (.newarray .int, 2) := by decide +kernel
theorem dX3_init_78 : decode cX3_init 78 = .ok (.putfield 40, 3) := by decide +kernel
theorem dX3_init_81 : decode cX3_init 81 = .ok (.aload_n 0, 1) := by decide +kernel
theorem dX3_init_82 : decode cX3_init 82 = .ok (.bipush 8, 2) := by decide +kernel
theorem dX3_init_84 : decode cX3_init 84 = .ok (.newarray .int, 2) := by decide +kernel
theorem dX3_init_86 : decode cX3_init 86 = .ok (.putfield 43, 3) := by decide +kernel
theorem dX3_init_89 : decode cX3_init 89 = .ok (.aload_n 0, 1) := by decide +kernel
theorem dX3_init_90 : decode cX3_init 90 = .ok (.bipush 8, 2) := by decide +kernel
theorem dX3_init_92 : decode cX3_init 92 = .ok (.newarray .int, 2) := by decide +kernel
theorem dX3_init_94 : decode cX3_init 94 = .ok (.putfield 46, 3) := by decide +kernel
theorem dX3_init_97 : decode cX3_init 97 = .ok (.return_, 1) := by decide +kernel
theorem dX3_add_0 : decode cX3_add 0 = .ok (.aload_n 0, 1) := by decide +kernel
theorem dX3_add_1 : decode cX3_add 1 = .ok (.dup, 1) := by decide +kernel
theorem dX3_add_2 : decode cX3_add 2 = .ok (.getfield 9, 3) := by decide +kernel
theorem dX3_add_5 : decode cX3_add 5 = .ok (.iconst 1, 1) := by decide +kernel
theorem dX3_add_6 : decode cX3_add 6 = .ok (.iadd, 1) := by decide +kernel
theorem dX3_add_7 : decode cX3_add 7 = .ok (.putfield 9, 3) := by decide +kernel
theorem dX3_add_10 : decode cX3_add 10 = .ok (.aload_n 0, 1) := by decide +kernel
theorem dX3_add_11 : decode cX3_add 11 = .ok (.getfield 40, 3) := by decide +kernel
theorem dX3_add_14 : decode cX3_add 14 = .ok (.aload_n 0, 1) := by decide +kernel
theorem dX3_add_15 : decode cX3_add 15 = .ok (.getfield 9, 3) := by decide +kernel
theorem dX3_add_18 : decode cX3_add 18 = .ok (.iconst (-1), 1) := by decide +kernel
theorem dX3_add_19 : decode cX3_add 19 = .ok (.invokestatic 49, 3) := by decide +kernel
theorem dX3_add_22 : decode cX3_add 22 = .ok (.aload_n 0, 1) := by decide +kernel
theorem dX3_add_23 : decode cX3_add 23 = .ok (.getfield 9, 3) := by decide +kernel
theorem dX3_add_26 : decode cX3_add 26 = .ok (.ireturn, 1) := by decide +kernel
theorem dX3_has_0 : decode cX3_has 0 = .ok (.iload_n 1, 1) := by decide +kernel
theorem dX3_has_1 : decode cX3_has 1 = .ok (.iconst 1, 1) := by decide +kernel
theorem dX3_has_2 : decode cX3_has 2 = .ok (.if_icmp .lt 15, 3) := by decide +kernel
theorem dX3_has_5 : decode cX3_has 5 = .ok (.iload_n 1, 1) := by decide +kernel
theorem dX3_has_6 : decode cX3_has 6 = .ok (.aload_n 0, 1) := by decide +kernel
theorem dX3_has_7 : decode cX3_has 7 = .ok (.getfield 9, 3) := by decide +kernel
theorem dX3_has_10 : decode cX3_has 10 = .ok (.if_icmp .gt 7, 3) := by decide +kernel
theorem dX3_has_13 : decode cX3_has 13 = .ok (.iconst 1, 1) := by decide +kernel
theorem dX3_has_14 : decode cX3_has 14 = .ok (.goto 4, 3) := by decide +kernel
theorem dX3_has_17 : decode cX3_has 17 = .ok (.iconst 0, 1) := by decide +kernel
theorem dX3_has_18 : decode cX3_has 18 = .ok (.ireturn, 1) := by decide +kernel
theorem dX3_isOpen_0 : decode cX3_isOpen 0 = .ok (.aload_n 0, 1) := by decide +kernel
theorem dX3_isOpen_1 : decode cX3_isOpen 1 = .ok (.iload_n 1, 1) := by decide +kernel
theorem dX3_isOpen_2 : decode cX3_isOpen 2 = .ok (.invokevirtual 53, 3) := by decide +kernel
theorem dX3_isOpen_5 : decode cX3_isOpen 5 = .ok (.ifCond .eq 18, 3) := by decide +kernel
theorem dX3_isOpen_8 : decode cX3_isOpen 8 = .ok (.aload_n 0, 1) := by decide +kernel
theorem dX3_isOpen_9 : decode cX3_isOpen 9 = .ok (.getfield 19, 3) := by decide +kernel
theorem dX3_isOpen_12 : decode cX3_isOpen 12 = .ok (.iload_n 1, 1) := by decide +kernel
theorem dX3_isOpen_13 : decode cX3_isOpen 13 = .ok (.invokestatic 57, 3) := by decide +kernel
theorem dX3_isOpen_16 : decode cX3_isOpen 16 = .ok (.ifCond .le 7, 3) := by decide +kernel
theorem dX3_isOpen_19 : decode cX3_isOpen 19 = .ok (.iconst 1, 1) := by decide +kernel
theorem dX3_isOpen_20 : decode cX3_isOpen 20 = .ok (.goto 4, 3) := by decide +kernel
theorem dX3_isOpen_23 : decode cX3_isOpen 23 = .ok (.iconst 0, 1) := by decide +kernel
theorem dX3_isOpen_24 : decode cX3_isOpen 24 = .ok (.ireturn, 1) := by decide +kernel
theorem dX3_openOnes_0 : decode cX3_openOnes 0 = .ok (.iconst 0, 1) := by decide +kernel
theorem dX3_openOnes_1 : decode cX3_openOnes 1 = .ok (.istore_n 1, 1) := by decide +kernel
theorem dX3_openOnes_2 : decode cX3_openOnes 2 = .ok (.iconst 1, 1) := by decide +kernel
theorem dX3_openOnes_3 : decode cX3_openOnes 3 = .ok (.istore_n 2, 1) := by decide +kernel
theorem dX3_openOnes_4 : decode cX3_openOnes 4 = .ok (.iload_n 2, 1) := by decide +kernel
theorem dX3_openOnes_5 : decode cX3_openOnes 5 = .ok (.aload_n 0, 1) := by decide +kernel
theorem dX3_openOnes_6 : decode cX3_openOnes 6 = .ok (.getfield 9, 3) := by decide +kernel
theorem dX3_openOnes_9 : decode cX3_openOnes 9 = .ok (.if_icmp .gt 20, 3) := by decide +kernel
theorem dX3_openOnes_12 : decode cX3_openOnes 12 = .ok (.aload_n 0, 1) := by decide +kernel
theorem dX3_openOnes_13 : decode cX3_openOnes 13 = .ok (.iload_n 2, 1) := by decide +kernel
theorem dX3_openOnes_14 : decode cX3_openOnes 14 = .ok (.invokevirtual 61, 3) := by decide +kernel
theorem dX3_openOnes_17 : decode cX3_openOnes 17 = .ok (.ifCond .eq 6, 3) := by decide +kernel
theorem dX3_openOnes_20 : decode cX3_openOnes 20 = .ok (.iinc 1 1, 3) := by decide +kernel
theorem dX3_openOnes_23 : decode cX3_openOnes 23 = .ok (.iinc 2 1, 3) := by decide +kernel
theorem dX3_openOnes_26 : decode cX3_openOnes 26 = .ok (.goto (-22), 3) := by decide +kernel
theorem dX3_openOnes_29 : decode cX3_openOnes 29 = .ok (.iload_n 1, 1) := by decide +kernel
theorem dX3_openOnes_30 : decode cX3_openOnes 30 = .ok (.ireturn, 1) := by decide +kernel
theorem dX4_init_0 : decode cX4_init 0 = .ok (.aload_n 0, 1) := by decide +kernel
theorem dX4_init_1 : decode cX4_init 1 = .ok (.invokespecial 3, 3) := by decide +kernel
theorem dX4_init_4 : decode cX4_init 4 = .ok (.aload_n 0, 1) := by decide +kernel
theorem dX4_init_5 : decode cX4_init 5 = .ok (.iconst 0, 1) := by decide +kernel
theorem dX4_init_6 : decode cX4_init 6 = .ok (.putfield 9, 3) := by decide +kernel
theorem dX4_init_9 : decode cX4_init 9 = .ok (.aload_n 0, 1) := by decide +kernel
theorem dX4_init_10 : decode cX4_init 10 = .ok (.iconst 0, 1) := by decide +kernel
theorem dX4_init_11 : decode cX4_init 11 = .ok (.putfield 15, 3) := by decide +kernel
theorem dX4_init_14 : decode cX4_init 14 = .ok (.aload_n 0, 1) := by decide +kernel
theorem dX4_init_15 : decode cX4_init 15 = .ok (.iconst 0, 1) := by decide +kernel
theorem dX4_init_16 : decode cX4_init 16 = .ok (.putfield 18, 3) := by decide +kernel
theorem dX4_init_19 : decode cX4_init 19 = .ok (.aload_n 0, 1) := by decide +kernel
theorem dX4_init_20 : decode cX4_init 20 = .ok (.bipush 7, 2) := by decide +kernel
theorem dX4_init_22 : decode cX4_init 22 = .ok (.newarray .int, 2) := by decide +kernel
theorem dX4_init_24 : decode cX4_init 24 = .ok (.putfield 22, 3) := by decide +kernel
theorem dX4_init_27 : decode cX4_init 27 = .ok (.aload_n 0, 1) := by decide +kernel
theorem dX4_init_28 : decode cX4_init 28 = .ok (.bipush 7, 2) := by decide +kernel
theorem dX4_init_30 : decode cX4_init 30 = .ok (.newarray .int, 2) := by decide +kernel
theorem dX4_init_32 : decode cX4_init 32 = .ok (.putfield 26, 3) := by decide +kernel
theorem dX4_init_35 : decode cX4_init 35 = .ok (.aload_n 0, 1) := by decide +kernel
theorem dX4_init_36 : decode cX4_init 36 = .ok (.bipush 7, 2) := by decide +kernel
theorem dX4_init_38 : decode cX4_init 38 = .ok (.newarray .int, 2) := by decide +kernel
theorem dX4_init_40 : decode cX4_init 40 = .ok (.putfield 29, 3) := by decide +kernel
theorem dX4_init_43 : decode cX4_init 43 = .ok (.aload_n 0, 1) := by decide +kernel
theorem dX4_init_44 : decode cX4_init 44 = .ok (.bipush 7, 2) := by decide +kernel
theorem dX4_init_46 : decode cX4_init 46 = .ok (.newarray .int, 2) := by decide +kernel
theorem dX4_init_48 : decode cX4_init 48 = .ok (.putfield 32, 3) := by decide +kernel
theorem dX4_init_51 : decode cX4_init 51 = .ok (.aload_n 0, 1) := by decide +kernel
theorem dX4_init_52 : decode cX4_init 52 = .ok (.bipush 7, 2) := by decide +kernel
theorem dX4_init_54 : decode cX4_init 54 = .ok (.newarray .int, 2) := by decide +kernel
theorem dX4_init_56 : decode cX4_init 56 = .ok (.putfield 35, 3) := by decide +kernel
theorem dX4_init_59 : decode cX4_init 59 = .ok (.return_, 1) := by decide +kernel
theorem dX4_make_0 : decode cX4_make 0 = .ok (.aload_n 0, 1) := by decide +kernel
theorem dX4_make_1 : decode cX4_make 1 = .ok (.aload_n 1, 1) := by decide +kernel
theorem dX4_make_2 : decode cX4_make 2 = .ok (.getfield 38, 3) := by decide +kernel
theorem dX4_make_5 : decode cX4_make 5 = .ok (.bipush 7, 2) := by decide +kernel
theorem dX4_make_7 : decode cX4_make 7 = .ok (.invokestatic 43, 3) := by decide +kernel
theorem dX4_make_10 : decode cX4_make 10 = .ok (.putfield 9, 3) := by decide +kernel
theorem dX4_make_13 : decode cX4_make 13 = .ok (.aload_n 0, 1) := by decide +kernel
theorem dX4_make_14 : decode cX4_make 14 = .ok (.iload 4, 2) := by decide +kernel
theorem dX4_make_16 : decode cX4_make 16 = .ok (.putfield 15, 3) := by decide +kernel
theorem dX4_make_19 : decode cX4_make 19 = .ok (.aload_n 0, 1) := by decide +kernel
theorem dX4_make_20 : decode cX4_make 20 = .ok (.iconst 0, 1) := by decide +kernel
theorem dX4_make_21 : decode cX4_make 21 = .ok (.putfield 18, 3) := by decide +kernel
theorem dX4_make_24 : decode cX4_make 24 = .ok (.iload_n 3, 1) := by decide +kernel
theorem dX4_make_25 : decode cX4_make 25 = .ok (.istore 5, 2) := by decide +kernel
theorem dX4_make_27 : decode cX4_make 27 = .ok (.iload 4, 2) := by decide +kernel
theorem dX4_make_29 : decode cX4_make 29 = .ok (.istore 6, 2) := by decide +kernel
theorem dX4_make_31 : decode cX4_make 31 = .ok (.iconst 0, 1) := by decide +kernel
theorem dX4_make_32 : decode cX4_make 32 = .ok (.istore 7, 2) := by decide +kernel
theorem dX4_make_34 : decode cX4_make 34 = .ok (.iload 7, 2) := by decide +kernel
theorem dX4_make_36 : decode cX4_make 36 = .ok (.aload_n 0, 1) := by decide +kernel
theorem dX4_make_37 : decode cX4_make 37 = .ok (.getfield 9, 3) := by decide +kernel
theorem dX4_make_40 : decode cX4_make 40 = .ok (.if_icmp .ge 114, 3) := by decide +kernel
theorem dX4_make_43 : decode cX4_make 43 = .ok (.aload_n 1, 1) := by decide +kernel
theorem dX4_make_44 : decode cX4_make 44 = .ok (.getfield 49, 3) := by decide +kernel
theorem dX4_make_47 : decode cX4_make 47 = .ok (.iload 7, 2) := by decide +kernel
theorem dX4_make_49 : decode cX4_make 49 = .ok (.invokestatic 52, 3) := by decide +kernel
theorem dX4_make_52 : decode cX4_make 52 = .ok (.istore 8, 2) := by decide +kernel
theorem dX4_make_54 : decode cX4_make 54 = .ok (.iload 6, 2) := by decide +kernel
theorem dX4_make_56 : decode cX4_make 56 = .ok (.aload_n 2, 1) := by decide +kernel
theorem dX4_make_57 : decode cX4_make 57 = .ok (.iload 5, 2) := by decide +kernel
theorem dX4_make_59 : decode cX4_make 59 = .ok (.iload 8, 2) := by decide +kernel
theorem dX4_make_61 : decode cX4_make 61 = .ok (.invokevirtual 56, 3) := by decide +kernel
theorem dX4_make_64 : decode cX4_make 64 = .ok (.iadd, 1) := by decide +kernel
theorem dX4_make_65 : decode cX4_make 65 = .ok (.istore 9, 2) := by decide +kernel
theorem dX4_make_67 : decode cX4_make 67 = .ok (.aload_n 0, 1) := by decide +kernel
theorem dX4_make_68 : decode cX4_make 68 = .ok (.getfield 22, 3) := by decide +kernel
theorem dX4_make_71 : decode cX4_make 71 = .ok (.iload 7, 2) := by decide +kernel
theorem dX4_make_73 : decode cX4_make 73 = .ok (.iload 8, 2) := by decide +kernel
theorem dX4_make_75 : decode cX4_make 75 = .ok (.invokestatic 61, 3) := by decide +kernel
theorem dX4_make_78 : decode cX4_make 78 = .ok (.aload_n 0, 1) := by decide +kernel
theorem dX4_make_79 : decode cX4_make 79 = .ok (.getfield 26, 3) := by decide +kernel
theorem dX4_make_82 : decode cX4_make 82 = .ok (.iload 7, 2) := by decide +kernel
theorem dX4_make_84 : decode cX4_make 84 = .ok (.iload 9, 2) := by decide +kernel
theorem dX4_make_86 : decode cX4_make 86 = .ok (.invokestatic 61, 3) := by decide +kernel
theorem dX4_make_89 : decode cX4_make 89 = .ok (.aload_n 0, 1) := by decide +kernel
theorem dX4_make_90 : decode cX4_make 90 = .ok (.getfield 29, 3) := by decide +kernel
theorem dX4_make_93 : decode cX4_make 93 = .ok (.iload 7, 2) := by decide +kernel
theorem dX4_make_95 : decode cX4_make 95 = .ok (.aload_n 1, 1) := by decide +kernel
theorem dX4_make_96 : decode cX4_make 96 = .ok (.iload 8, 2) := by decide +kernel
theorem dX4_make_98 : decode cX4_make 98 = .ok (.iload 9, 2) := by decide +kernel
theorem dX4_make_100 : decode cX4_make 100 = .ok (.invokevirtual 65, 3) := by decide +kernel
theorem dX4_make_103 : decode cX4_make 103 = .ok (.invokestatic 61, 3) := by decide +kernel
theorem dX4_make_106 : decode cX4_make 106 = .ok (.aload_n 1, 1) := by decide +kernel
theorem dX4_make_107 : decode cX4_make 107 = .ok (.iload 8, 2) := by decide +kernel
theorem dX4_make_109 : decode cX4_make 109 = .ok (.iload 9, 2) := by decide +kernel
theorem dX4_make_111 : decode cX4_make 111 = .ok (.invokevirtual 68, 3) := by decide +kernel
theorem dX4_make_114 : decode cX4_make 114 = .ok (.istore 6, 2) := by decide +kernel
theorem dX4_make_116 : decode cX4_make 116 = .ok (.aload_n 0, 1) := by decide +kernel
theorem dX4_make_117 : decode cX4_make 117 = .ok (.getfield 32, 3) := by decide +kernel
theorem dX4_make_120 : decode cX4_make 120 = .ok (.iload 7, 2) := by decide +kernel
theorem dX4_make_122 : decode cX4_make 122 = .ok (.iload 6, 2) := by decide +kernel
theorem dX4_make_124 : decode cX4_make 124 = .ok (.invokestatic 61, 3) := by decide +kernel
theorem dX4_make_127 : decode cX4_make 127 = .ok (.aload_n 0, 1) := by decide +kernel
theorem dX4_make_128 : decode cX4_make 128 = .ok (.getfield 35, 3) := by decide +kernel
theorem dX4_make_131 : decode cX4_make 131 = .ok (.iload 7, 2) := by decide +kernel
theorem dX4_make_133 : decode cX4_make 133 = .ok (.aload_n 1, 1) := by decide +kernel
theorem dX4_make_134 : decode cX4_make 134 = .ok (.iload 8, 2) := by decide +kernel
theorem dX4_make_136 : decode cX4_make 136 = .ok (.iload 6, 2) := by decide +kernel
theorem dX4_make_138 : decode cX4_make 138 = .ok (.invokevirtual 71, 3) := by decide +kernel
theorem dX4_make_141 : decode cX4_make 141 = .ok (.invokestatic 61, 3) := by decide +kernel
theorem dX4_make_144 : decode cX4_make 144 = .ok (.iload 8, 2) := by decide +kernel
theorem dX4_make_146 : decode cX4_make 146 = .ok (.istore 5, 2) := by decide +kernel
theorem dX4_make_148 : decode cX4_make 148 = .ok (.iinc 7 1, 3) := by decide +kernel
theorem dX4_make_151 : decode cX4_make 151 = .ok (.goto (-117), 3) := by decide +kernel
theorem dX4_make_154 : decode cX4_make 154 = .ok (.return_, 1) := by decide +kernel
end
section
theorem dX5_init_0 : decode cX5_init 0 = .ok (.aload_n 0, 1) := by decide +kernel
theorem dX5_init_1 : decode cX5_init 1 = .ok (.invokespecial 3, 3) := by decide +kernel
theorem dX5_init_4 : decode cX5_init 4 = .ok (.aload_n 0, 1) := by decide +kernel
theorem dX5_init_5 : decode cX5_init 5 = .ok (.bipush 8, 2) := by decide +kernel
theorem dX5_init_7 : decode cX5_init 7 = .ok (.bipush 8, 2) := by decide +kernel
theorem dX5_init_9 : decode cX5_init 9 = .ok (.multianewarray 9 2, 4) := by decide +kernel
theorem dX5_init_13 : decode cX5_init 13 = .ok (.putfield 11, 3) := by decide +kernel
theorem dX5_init_16 : decode cX5_init 16 = .ok (.iconst 0, 1) := by decide +kernel
theorem dX5_init_17 : decode cX5_init 17 = .ok (.istore_n 1, 1) := by decide +kernel
theorem dX5_init_18 : decode cX5_init 18 = .ok (.iload_n 1, 1) := by decide +kernel
theorem dX5_init_19 : decode cX5_init 19 = .ok (.bipush 8, 2) := by decide +kernel
theorem dX5_init_21 : decode cX5_init 21 = .ok (.if_icmp .ge 33, 3) := by decide +kernel
theorem dX5_init_24 : decode cX5_init 24 = .ok (.iconst 0, 1) := by decide +kernel
theorem dX5_init_25 : decode cX5_init 25 = .ok (.istore_n 2, 1) := by decide +kernel
theorem dX5_init_26 : decode cX5_init 26 = .ok (.iload_n 2, 1) := by decide +kernel
theorem dX5_init_27 : decode cX5_init 27 = .ok (.bipush 8, 2) := by decide +kernel
theorem dX5_init_29 : decode cX5_init 29 = .ok (.if_icmp .ge 19, 3) := by decide +kernel
theorem dX5_init_32 : decode cX5_init 32 = .ok (.aload_n 0, 1) := by decide +kernel
theorem dX5_init_33 : decode cX5_init 33 = .ok (.getfield 11, 3) := by decide +kernel
theorem dX5_init_36 : decode cX5_init 36 = .ok (.iload_n 1, 1) := by decide +kernel
theorem dX5_init_37 : decode cX5_init 37 = .ok (.iload_n 2, 1) := by decide +kernel
theorem dX5_init_38 : decode cX5_init 38 = .ok (.iconst (-1), 1) := by decide +kernel
theorem dX5_init_39 : decode cX5_init 39 = .ok (.invokestatic 16, 3) := by decide +kernel
theorem dX5_init_42 : decode cX5_init 42 = .ok (.iinc 2 1, 3) := by decide +kernel
theorem dX5_init_45 : decode cX5_init 45 = .ok (.goto (-19), 3) := by decide +kernel
theorem dX5_init_48 : decode cX5_init 48 = .ok (.iinc 1 1, 3) := by decide +kernel
theorem dX5_init_51 : decode cX5_init 51 = .ok (.goto (-33), 3) := by decide +kernel
theorem dX5_init_54 : decode cX5_init 54 = .ok (.return_, 1) := by decide +kernel
theorem dX5_between_0 : decode cX5_between 0 = .ok (.iload_n 1, 1) := by decide +kernel
theorem dX5_between_1 : decode cX5_between 1 = .ok (.iload_n 2, 1) := by decide +kernel
theorem dX5_between_2 : decode cX5_between 2 = .ok (.if_icmp .ne 7, 3) := by decide +kernel
theorem dX5_between_5 : decode cX5_between 5 = .ok (.iconst 0, 1) := by decide +kernel
theorem dX5_between_6 : decode cX5_between 6 = .ok (.goto 12, 3) := by decide +kernel
theorem dX5_between_9 : decode cX5_between 9 = .ok (.aload_n 0, 1) := by decide +kernel
theorem dX5_between_10 : decode cX5_between 10 = .ok (.getfield 11, 3) := by decide +kernel
theorem dX5_between_13 : decode cX5_between 13 = .ok (.iload_n 1, 1) := by decide +kernel
theorem dX5_between_14 : decode cX5_between 14 = .ok (.iload_n 2, 1) := by decide +kernel
theorem dX5_between_15 : decode cX5_between 15 = .ok (.invokestatic 20, 3) := by decide +kernel
theorem dX5_between_18 : decode cX5_between 18 = .ok (.ireturn, 1) := by decide +kernel
theorem dX6_init_0 : decode cX6_init 0 = .ok (.aload_n 0, 1) := by decide +kernel
theorem dX6_init_1 : decode cX6_init 1 = .ok (.invokespecial 3, 3) := by decide +kernel
theorem dX6_init_4 : decode cX6_init 4 = .ok (.aload_n 0, 1) := by decide +kernel
theorem dX6_init_5 : decode cX6_init 5 = .ok (.bipush 8, 2) := by decide +kernel
theorem dX6_init_7 : decode cX6_init 7 = .ok (.newarray .int, 2) := by decide +kernel
theorem dX6_init_9 : decode cX6_init 9 = .ok (.putfield 9, 3) := by decide +kernel
theorem dX6_init_12 : decode cX6_init 12 = .ok (.aload_n 0, 1) := by decide +kernel
theorem dX6_init_13 : decode cX6_init 13 = .ok (.bipush 8, 2) := by decide +kernel
theorem dX6_init_15 : decode cX6_init 15 = .ok (.newarray .int, 2) := by decide +kernel
theorem dX6_init_17 : decode cX6_init 17 = .ok (.putfield 15, 3) := by decide +kernel
theorem dX6_init_20 : decode cX6_init 20 = .ok (.aload_n 0, 1) := by decide +kernel
theorem dX6_init_21 : decode cX6_init 21 = .ok (.bipush 8, 2) := by decide +kernel
theorem dX6_init_23 : decode cX6_init 23 = .ok (.newarray .int, 2) := by decide +kernel
theorem dX6_init_25 : decode cX6_init 25 = .ok (.putfield 18, 3) := by decide +kernel
theorem dX6_init_28 : decode cX6_init 28 = .ok (.aload_n 0, 1) := by decide +kernel
theorem dX6_init_29 : decode cX6_init 29 = .ok (.bipush 8, 2) := by decide +kernel
theorem dX6_init_31 : decode cX6_init 31 = .ok (.newarray .boolean, 2) := by decide +kernel
theorem dX6_init_33 : decode cX6_init 33 = .ok (.putfield 21, 3) := by decide +kernel
theorem dX6_init_36 : decode cX6_init 36 = .ok (.aload_n 0, 1) := by decide +kernel
theorem dX6_init_37 : decode cX6_init 37 = .ok (.bipush 7, 2) := by decide +kernel
theorem dX6_init_39 : decode cX6_init 39 = .ok (.newarray .int, 2) := by decide +kernel
theorem dX6_init_41 : decode cX6_init 41 = .ok (.putfield 25, 3) := by decide +kernel
theorem dX6_init_44 : decode cX6_init 44 = .ok (.aload_n 0, 1) := by decide +kernel
theorem dX6_init_45 : decode cX6_init 45 = .ok (.bipush 7, 2) := by decide +kernel
theorem dX6_init_47 : decode cX6_init 47 = .ok (.newarray .int, 2) := by decide +kernel
theorem dX6_init_49 : decode cX6_init 49 = .ok (.putfield 28, 3) := by decide +kernel
theorem dX6_init_52 : decode cX6_init 52 = .ok (.aload_n 0, 1) := by decide +kernel
theorem dX6_init_53 : decode cX6_init 53 = .ok (.bipush 7, 2) := by decide +kernel
theorem dX6_init_55 : decode cX6_init 55 = .ok (.newarray .int, 2) := by decide +kernel
theorem dX6_init_57 : decode cX6_init 57 = .ok (.putfield 31, 3) := by decide +kernel
theorem dX6_init_60 : decode cX6_init 60 = .ok (.aload_n 0, 1) := by decide +kernel
theorem dX6_init_61 : decode cX6_init 61 = .ok (.iconst 0, 1) := by decide +kernel
theorem dX6_init_62 : decode cX6_init 62 = .ok (.invokevirtual 34, 3) := by decide +kernel
theorem dX6_init_65 : decode cX6_init 65 = .ok (.return_, 1) := by decide +kernel
theorem dX6_startAnew_0 : decode cX6_startAnew 0 = .ok (.aload_n 0, 1) := by decide +kernel
theorem dX6_startAnew_1 : decode cX6_startAnew 1 = .ok (.iload_n 1, 1) := by decide +kernel
theorem dX6_startAnew_2 : decode cX6_startAnew 2 = .ok (.putfield 38, 3) := by decide +kernel
theorem dX6_startAnew_5 : decode cX6_startAnew 5 = .ok (.aload_n 0, 1) := by decide +kernel
theorem dX6_startAnew_6 : decode cX6_startAnew 6 = .ok (.iconst 0, 1) := by decide +kernel
theorem dX6_startAnew_7 : decode cX6_startAnew 7 = .ok (.putfield 42, 3) := by decide +kernel
theorem dX6_startAnew_10 : decode cX6_startAnew 10 = .ok (.aload_n 0, 1) := by decide +kernel
theorem dX6_startAnew_11 : decode cX6_startAnew 11 = .ok (.iconst 0, 1) := by decide +kernel
theorem dX6_startAnew_12 : decode cX6_startAnew 12 = .ok (.putfield 45, 3) := by decide +kernel
theorem dX6_startAnew_15 : decode cX6_startAnew 15 = .ok (.aload_n 0, 1) := by decide +kernel
theorem dX6_startAnew_16 : decode cX6_startAnew 16 = .ok (.ldc 50, 2) := by decide +kernel
theorem dX6_startAnew_18 : decode cX6_startAnew 18 = .ok (.putfield 51, 3) := by decide +kernel
theorem dX6_startAnew_21 : decode cX6_startAnew 21 = .ok (.aload_n 0, 1) := by decide +kernel
theorem dX6_startAnew_22 : decode cX6_startAnew 22 = .ok (.ldc 50, 2) := by decide +kernel
theorem dX6_startAnew_24 : decode cX6_startAnew 24 = .ok (.putfield 54, 3) := by decide +kernel
theorem dX6_startAnew_27 : decode cX6_startAnew 27 = .ok (.iconst 0, 1) := by decide +kernel
theorem dX6_startAnew_28 : decode cX6_startAnew 28 = .ok (.istore_n 2, 1) := by decide +kernel
theorem dX6_startAnew_29 : decode cX6_startAnew 29 = .ok (.iload_n 2, 1) := by decide +kernel
theorem dX6_startAnew_30 : decode cX6_startAnew 30 = .ok (.bipush 8, 2) := by decide +kernel
theorem dX6_startAnew_32 : decode cX6_startAnew 32 = .ok (.if_icmp .ge 15, 3) := by decide +kernel
theorem dX6_startAnew_35 : decode cX6_startAnew 35 = .ok (.aload_n 0, 1) := by decide +kernel
theorem dX6_startAnew_36 : decode cX6_startAnew 36 = .ok (.iload_n 2, 1) := by decide +kernel
theorem dX6_startAnew_37 : decode cX6_startAnew 37 = .ok (.iconst 0, 1) := by decide +kernel
theorem dX6_startAnew_38 : decode cX6_startAnew 38 = .ok (.invokevirtual 57, 3) := by decide +kernel
theorem dX6_startAnew_41 : decode cX6_startAnew 41 = .ok (.iinc 2 1, 3) := by decide +kernel
theorem dX6_startAnew_44 : decode cX6_startAnew 44 = .ok (.goto (-15), 3) := by decide +kernel
theorem dX6_startAnew_47 : decode cX6_startAnew 47 = .ok (.return_, 1) := by decide +kernel
theorem dX6_add_0 : decode cX6_add 0 = .ok (.aload_n 0, 1) := by decide +kernel
theorem dX6_add_1 : decode cX6_add 1 = .ok (.getfield 15, 3) := by decide +kernel
theorem dX6_add_4 : decode cX6_add 4 = .ok (.iload_n 1, 1) := by decide +kernel
theorem dX6_add_5 : decode cX6_add 5 = .ok (.iload_n 2, 1) := by decide +kernel
theorem dX6_add_6 : decode cX6_add 6 = .ok (.invokestatic 61, 3) := by decide +kernel
theorem dX6_add_9 : decode cX6_add 9 = .ok (.aload_n 0, 1) := by decide +kernel
theorem dX6_add_10 : decode cX6_add 10 = .ok (.getfield 18, 3) := by decide +kernel
theorem dX6_add_13 : decode cX6_add 13 = .ok (.iload_n 1, 1) := by decide +kernel
theorem dX6_add_14 : decode cX6_add 14 = .ok (.iload_n 3, 1) := by decide +kernel
theorem dX6_add_15 : decode cX6_add 15 = .ok (.invokestatic 61, 3) := by decide +kernel
theorem dX6_add_18 : decode cX6_add 18 = .ok (.aload_n 0, 1) := by decide +kernel
theorem dX6_add_19 : decode cX6_add 19 = .ok (.getfield 9, 3) := by decide +kernel
theorem dX6_add_22 : decode cX6_add 22 = .ok (.iload_n 1, 1) := by decide +kernel
theorem dX6_add_23 : decode cX6_add 23 = .ok (.iload 4, 2) := by decide +kernel
theorem dX6_add_25 : decode cX6_add 25 = .ok (.invokestatic 61, 3) := by decide +kernel
theorem dX6_add_28 : decode cX6_add 28 = .ok (.aload_n 0, 1) := by decide +kernel
theorem dX6_add_29 : decode cX6_add 29 = .ok (.iload_n 1, 1) := by decide +kernel
theorem dX6_add_30 : decode cX6_add 30 = .ok (.iconst 1, 1) := by decide +kernel
theorem dX6_add_31 : decode cX6_add 31 = .ok (.invokevirtual 57, 3) := by decide +kernel
theorem dX6_add_34 : decode cX6_add 34 = .ok (.aload_n 0, 1) := by decide +kernel
theorem dX6_add_35 : decode cX6_add 35 = .ok (.dup, 1) := by decide +kernel
theorem dX6_add_36 : decode cX6_add 36 = .ok (.getfield 42, 3) := by decide +kernel
theorem dX6_add_39 : decode cX6_add 39 = .ok (.iconst 1, 1) := by decide +kernel
theorem dX6_add_40 : decode cX6_add 40 = .ok (.iadd, 1) := by decide +kernel
theorem dX6_add_41 : decode cX6_add 41 = .ok (.putfield 42, 3) := by decide +kernel
theorem dX6_add_44 : decode cX6_add 44 = .ok (.return_, 1) := by decide +kernel
theorem dX6_force_0 : decode cX6_force 0 = .ok (.aload_n 0, 1) := by decide +kernel
theorem dX6_force_1 : decode cX6_force 1 = .ok (.getfield 45, 3) := by decide +kernel
theorem dX6_force_4 : decode cX6_force 4 = .ok (.ifCond .le 19, 3) := by decide +kernel
theorem dX6_force_7 : decode cX6_force 7 = .ok (.aload_n 0, 1) := by decide +kernel
theorem dX6_force_8 : decode cX6_force 8 = .ok (.getfield 25, 3) := by decide +kernel
theorem dX6_force_11 : decode cX6_force 11 = .ok (.iconst 0, 1) := by decide +kernel
theorem dX6_force_12 : decode cX6_force 12 = .ok (.invokestatic 65, 3) := by decide +kernel
theorem dX6_force_15 : decode cX6_force 15 = .ok (.iload_n 1, 1) := by decide +kernel
theorem dX6_force_16 : decode cX6_force 16 = .ok (.if_icmp .ne 7, 3) := by decide +kernel
theorem dX6_force_19 : decode cX6_force 19 = .ok (.iconst 1, 1) := by decide +kernel
theorem dX6_force_20 : decode cX6_force 20 = .ok (.goto 4, 3) := by decide +kernel
theorem dX6_force_23 : decode cX6_force 23 = .ok (.iconst 0, 1) := by decide +kernel
theorem dX6_force_24 : decode cX6_force 24 = .ok (.istore_n 2, 1) := by decide +kernel
theorem dX6_force_25 : decode cX6_force 25 = .ok (.aload_n 0, 1) := by decide +kernel
theorem dX6_force_26 : decode cX6_force 26 = .ok (.iload_n 1, 1) := by decide +kernel
theorem dX6_force_27 : decode cX6_force 27 = .ok (.invokevirtual 69, 3) := by decide +kernel
theorem dX6_force_30 : decode cX6_force 30 = .ok (.ifCond .eq 29, 3) := by decide +kernel
theorem dX6_force_33 : decode cX6_force 33 = .ok (.iload_n 2, 1) := by decide +kernel
theorem dX6_force_34 : decode cX6_force 34 = .ok (.ifCond .ne 25, 3) := by decide +kernel
theorem dX6_force_37 : decode cX6_force 37 = .ok (.aload_n 0, 1) := by decide +kernel
theorem dX6_force_38 : decode cX6_force 38 = .ok (.getfield 25, 3) := by decide +kernel
theorem dX6_force_41 : decode cX6_force 41 = .ok (.aload_n 0, 1) := by decide +kernel
theorem dX6_force_42 : decode cX6_force 42 = .ok (.getfield 45, 3) := by decide +kernel
theorem dX6_force_45 : decode cX6_force 45 = .ok (.iload_n 1, 1) := by decide +kernel
theorem dX6_force_46 : decode cX6_force 46 = .ok (.invokestatic 61, 3) := by decide +kernel
theorem dX6_force_49 : decode cX6_force 49 = .ok (.aload_n 0, 1) := by decide +kernel
theorem dX6_force_50 : decode cX6_force 50 = .ok (.dup, 1) := by decide +kernel
theorem dX6_force_51 : decode cX6_force 51 = .ok (.getfield 45, 3) := by decide +kernel
theorem dX6_force_54 : decode cX6_force 54 = .ok (.iconst 1, 1) := by decide +kernel
theorem dX6_force_55 : decode cX6_force 55 = .ok (.iadd, 1) := by decide +kernel
theorem dX6_force_56 : decode cX6_force 56 = .ok (.putfield 45, 3) := by decide +kernel
theorem dX6_force_59 : decode cX6_force 59 = .ok (.return_, 1) := by decide +kernel
theorem dX6_find_0 : decode cX6_find 0 = .ok (.aload_n 0, 1) := by decide +kernel
theorem dX6_find_1 : decode cX6_find 1 = .ok (.getfield 42, 3) := by decide +kernel
theorem dX6_find_4 : decode cX6_find 4 = .ok (.ifCond .le 12, 3) := by decide +kernel
theorem dX6_find_7 : decode cX6_find 7 = .ok (.aload_n 0, 1) := by decide +kernel
theorem dX6_find_8 : decode cX6_find 8 = .ok (.aload_n 1, 1) := by decide +kernel
theorem dX6_find_9 : decode cX6_find 9 = .ok (.iconst 0, 1) := by decide +kernel
theorem dX6_find_10 : decode cX6_find 10 = .ok (.iload_n 2, 1) := by decide +kernel
theorem dX6_find_11 : decode cX6_find 11 = .ok (.iload_n 3, 1) := by decide +kernel
theorem dX6_find_12 : decode cX6_find 12 = .ok (.iconst 0, 1) := by decide +kernel
theorem dX6_find_13 : decode cX6_find 13 = .ok (.invokestatic 73, 3) := by decide +kernel
theorem dX6_find_16 : decode cX6_find 16 = .ok (.aload_n 0, 1) := by decide +kernel
theorem dX6_find_17 : decode cX6_find 17 = .ok (.getfield 54, 3) := by decide +kernel
theorem dX6_find_20 : decode cX6_find 20 = .ok (.ldc 50, 2) := by decide +kernel
theorem dX6_find_22 : decode cX6_find 22 = .ok (.if_icmp .eq 7, 3) := by decide +kernel
theorem dX6_find_25 : decode cX6_find 25 = .ok (.iconst 1, 1) := by decide +kernel
theorem dX6_find_26 : decode cX6_find 26 = .ok (.goto 4, 3) := by decide +kernel
theorem dX6_find_29 : decode cX6_find 29 = .ok (.iconst 0, 1) := by decide +kernel
theorem dX6_find_30 : decode cX6_find 30 = .ok (.ireturn, 1) := by decide +kernel
theorem dX6_extend_0 : decode cX6_extend 0 = .ok (.iload_n 2, 1) := by decide +kernel
theorem dX6_extend_1 : decode cX6_extend 1 = .ok (.aload_n 0, 1) := by decide +kernel
theorem dX6_extend_2 : decode cX6_extend 2 = .ok (.getfield 42, 3) := by decide +kernel
theorem dX6_extend_5 : decode cX6_extend 5 = .ok (.if_icmp .ge 9, 3) := by decide +kernel
theorem dX6_extend_8 : decode cX6_extend 8 = .ok (.iload_n 2, 1) := by decide +kernel
theorem dX6_extend_9 : decode cX6_extend 9 = .ok (.bipush 7, 2) := by decide +kernel
theorem dX6_extend_11 : decode cX6_extend 11 = .ok (.if_icmp .lt 12, 3) := by decide +kernel
theorem dX6_extend_14 : decode cX6_extend 14 = .ok (.aload_n 0, 1) := by decide +kernel
theorem dX6_extend_15 : decode cX6_extend 15 = .ok (.iload 4, 2) := by decide +kernel
theorem dX6_extend_17 : decode cX6_extend 17 = .ok (.iload 5, 2) := by decide +kernel
theorem dX6_extend_19 : decode cX6_extend 19 = .ok (.invokevirtual 77, 3) := by decide +kernel
theorem dX6_extend_22 : decode cX6_extend 22 = .ok (.return_, 1) := by decide +kernel
theorem dX6_extend_23 : decode cX6_extend 23 = .ok (.iconst 1, 1) := by decide +kernel
theorem dX6_extend_24 : decode cX6_extend 24 = .ok (.istore 6, 2) := by decide +kernel
theorem dX6_extend_26 : decode cX6_extend 26 = .ok (.iload 6, 2) := by decide +kernel
theorem dX6_extend_28 : decode cX6_extend 28 = .ok (.bipush 7, 2) := by decide +kernel
theorem dX6_extend_30 : decode cX6_extend 30 = .ok (.if_icmp .gt 109, 3) := by decide +kernel
theorem dX6_extend_33 : decode cX6_extend 33 = .ok (.aload_n 1, 1) := by decide +kernel
theorem dX6_extend_34 : decode cX6_extend 34 = .ok (.iload_n 3, 1) := by decide +kernel
theorem dX6_extend_35 : decode cX6_extend 35 = .ok (.iload 6, 2) := by decide +kernel
theorem dX6_extend_37 : decode cX6_extend 37 = .ok (.invokevirtual 81, 3) := by decide +kernel
theorem dX6_extend_40 : decode cX6_extend 40 = .ok (.istore 7, 2) := by decide +kernel
theorem dX6_extend_42 : decode cX6_extend 42 = .ok (.iload 7, 2) := by decide +kernel
theorem dX6_extend_44 : decode cX6_extend 44 = .ok (.iconst (-1), 1) := by decide +kernel
theorem dX6_extend_45 : decode cX6_extend 45 = .ok (.if_icmp .eq 88, 3) := by decide +kernel
theorem dX6_extend_48 : decode cX6_extend 48 = .ok (.aload_n 0, 1) := by decide +kernel
theorem dX6_extend_49 : decode cX6_extend 49 = .ok (.iload 6, 2) := by decide +kernel
theorem dX6_extend_51 : decode cX6_extend 51 = .ok (.iload_n 2, 1) := by decide +kernel
theorem dX6_extend_52 : decode cX6_extend 52 = .ok (.invokevirtual 87, 3) := by decide +kernel
theorem dX6_extend_55 : decode cX6_extend 55 = .ok (.ifCond .eq 78, 3) := by decide +kernel
theorem dX6_extend_58 : decode cX6_extend 58 = .ok (.aload_n 0, 1) := by decide +kernel
theorem dX6_extend_59 : decode cX6_extend 59 = .ok (.iload 6, 2) := by decide +kernel
theorem dX6_extend_61 : decode cX6_extend 61 = .ok (.iload 4, 2) := by decide +kernel
theorem dX6_extend_63 : decode cX6_extend 63 = .ok (.iload 7, 2) := by decide +kernel
theorem dX6_extend_65 : decode cX6_extend 65 = .ok (.iadd, 1) := by decide +kernel
theorem dX6_extend_66 : decode cX6_extend 66 = .ok (.invokevirtual 91, 3) := by decide +kernel
theorem dX6_extend_69 : decode cX6_extend 69 = .ok (.istore 8, 2) := by decide +kernel
theorem dX6_extend_71 : decode cX6_extend 71 = .ok (.iload 5, 2) := by decide +kernel
theorem dX6_extend_73 : decode cX6_extend 73 = .ok (.aload_n 0, 1) := by decide +kernel
theorem dX6_extend_74 : decode cX6_extend 74 = .ok (.iload 6, 2) := by decide +kernel
theorem dX6_extend_76 : decode cX6_extend 76 = .ok (.iload 8, 2) := by decide +kernel
theorem dX6_extend_78 : decode cX6_extend 78 = .ok (.invokevirtual 94, 3) := by decide +kernel
theorem dX6_extend_81 : decode cX6_extend 81 = .ok (.iadd, 1) := by decide +kernel
theorem dX6_extend_82 : decode cX6_extend 82 = .ok (.istore 9, 2) := by decide +kernel
theorem dX6_extend_84 : decode cX6_extend 84 = .ok (.aload_n 0, 1) := by decide +kernel
theorem dX6_extend_85 : decode cX6_extend 85 = .ok (.iload 8, 2) := by decide +kernel
theorem dX6_extend_87 : decode cX6_extend 87 = .ok (.iload 9, 2) := by decide +kernel
theorem dX6_extend_89 : decode cX6_extend 89 = .ok (.invokevirtual 97, 3) := by decide +kernel
theorem dX6_extend_92 : decode cX6_extend 92 = .ok (.ifCond .eq 41, 3) := by decide +kernel
theorem dX6_extend_95 : decode cX6_extend 95 = .ok (.aload_n 0, 1) := by decide +kernel
theorem dX6_extend_96 : decode cX6_extend 96 = .ok (.getfield 28, 3) := by decide +kernel
theorem dX6_extend_99 : decode cX6_extend 99 = .ok (.iload_n 2, 1) := by decide +kernel
theorem dX6_extend_100 : decode cX6_extend 100 = .ok (.iload 6, 2) := by decide +kernel
theorem dX6_extend_102 : decode cX6_extend 102 = .ok (.invokestatic 61, 3) := by decide +kernel
theorem dX6_extend_105 : decode cX6_extend 105 = .ok (.aload_n 0, 1) := by decide +kernel
theorem dX6_extend_106 : decode cX6_extend 106 = .ok (.iload 6, 2) := by decide +kernel
theorem dX6_extend_108 : decode cX6_extend 108 = .ok (.iconst 0, 1) := by decide +kernel
theorem dX6_extend_109 : decode cX6_extend 109 = .ok (.invokevirtual 57, 3) := by decide +kernel
theorem dX6_extend_112 : decode cX6_extend 112 = .ok (.aload_n 0, 1) := by decide +kernel
theorem dX6_extend_113 : decode cX6_extend 113 = .ok (.aload_n 1, 1) := by decide +kernel
theorem dX6_extend_114 : decode cX6_extend 114 = .ok (.iload_n 2, 1) := by decide +kernel
theorem dX6_extend_115 : decode cX6_extend 115 = .ok (.iconst 1, 1) := by decide +kernel
theorem dX6_extend_116 : decode cX6_extend 116 = .ok (.iadd, 1) := by decide +kernel
theorem dX6_extend_117 : decode cX6_extend 117 = .ok (.iload 6, 2) := by decide +kernel
theorem dX6_extend_119 : decode cX6_extend 119 = .ok (.iload 8, 2) := by decide +kernel
theorem dX6_extend_121 : decode cX6_extend 121 = .ok (.iload 9, 2) := by decide +kernel
theorem dX6_extend_123 : decode cX6_extend 123 = .ok (.invokestatic 73, 3) := by decide +kernel
theorem dX6_extend_126 : decode cX6_extend 126 = .ok (.aload_n 0, 1) := by decide +kernel
theorem dX6_extend_127 : decode cX6_extend 127 = .ok (.iload 6, 2) := by decide +kernel
theorem dX6_extend_129 : decode cX6_extend 129 = .ok (.iconst 1, 1) := by decide +kernel
theorem dX6_extend_130 : decode cX6_extend 130 = .ok (.invokevirtual 57, 3) := by decide +kernel
theorem dX6_extend_133 : decode cX6_extend 133 = .ok (.iinc 6 1, 3) := by decide +kernel
theorem dX6_extend_136 : decode cX6_extend 136 = .ok (.goto (-110), 3) := by decide +kernel
theorem dX6_extend_139 : decode cX6_extend 139 = .ok (.return_, 1) := by decide +kernel
theorem dX6_mayCome_0 : decode cX6_mayCome 0 = .ok (.aload_n 0, 1) := by decide +kernel
theorem dX6_mayCome_1 : decode cX6_mayCome 1 = .ok (.iload_n 1, 1) := by decide +kernel
theorem dX6_mayCome_2 : decode cX6_mayCome 2 = .ok (.invokevirtual 69, 3) := by decide +kernel
theorem dX6_mayCome_5 : decode cX6_mayCome 5 = .ok (.ifCond .eq 27, 3) := by decide +kernel
theorem dX6_mayCome_8 : decode cX6_mayCome 8 = .ok (.iload_n 2, 1) := by decide +kernel
theorem dX6_mayCome_9 : decode cX6_mayCome 9 = .ok (.aload_n 0, 1) := by decide +kernel
theorem dX6_mayCome_10 : decode cX6_mayCome 10 = .ok (.getfield 45, 3) := by decide +kernel
theorem dX6_mayCome_13 : decode cX6_mayCome 13 = .ok (.if_icmp .ge 15, 3) := by decide +kernel
theorem dX6_mayCome_16 : decode cX6_mayCome 16 = .ok (.aload_n 0, 1) := by decide +kernel
theorem dX6_mayCome_17 : decode cX6_mayCome 17 = .ok (.getfield 25, 3) := by decide +kernel
theorem dX6_mayCome_20 : decode cX6_mayCome 20 = .ok (.iload_n 2, 1) := by decide +kernel
theorem dX6_mayCome_21 : decode cX6_mayCome 21 = .ok (.invokestatic 65, 3) := by decide +kernel
theorem dX6_mayCome_24 : decode cX6_mayCome 24 = .ok (.iload_n 1, 1) := by decide +kernel
theorem dX6_mayCome_25 : decode cX6_mayCome 25 = .ok (.if_icmp .ne 7, 3) := by decide +kernel
theorem dX6_mayCome_28 : decode cX6_mayCome 28 = .ok (.iconst 1, 1) := by decide +kernel
theorem dX6_mayCome_29 : decode cX6_mayCome 29 = .ok (.goto 4, 3) := by decide +kernel
theorem dX6_mayCome_32 : decode cX6_mayCome 32 = .ok (.iconst 0, 1) := by decide +kernel
theorem dX6_mayCome_33 : decode cX6_mayCome 33 = .ok (.ireturn, 1) := by decide +kernel
theorem dX6_begins_0 : decode cX6_begins 0 = .ok (.iload_n 2, 1) := by decide +kernel
theorem dX6_begins_1 : decode cX6_begins 1 = .ok (.aload_n 0, 1) := by decide +kernel
theorem dX6_begins_2 : decode cX6_begins 2 = .ok (.getfield 15, 3) := by decide +kernel
theorem dX6_begins_5 : decode cX6_begins 5 = .ok (.iload_n 1, 1) := by decide +kernel
theorem dX6_begins_6 : decode cX6_begins 6 = .ok (.invokestatic 65, 3) := by decide +kernel
theorem dX6_begins_9 : decode cX6_begins 9 = .ok (.invokestatic 100, 3) := by decide +kernel
theorem dX6_begins_12 : decode cX6_begins 12 = .ok (.ireturn, 1) := by decide +kernel
theorem dX6_leaves_0 : decode cX6_leaves 0 = .ok (.aload_n 0, 1) := by decide +kernel
theorem dX6_leaves_1 : decode cX6_leaves 1 = .ok (.iload_n 1, 1) := by decide +kernel
theorem dX6_leaves_2 : decode cX6_leaves 2 = .ok (.iload_n 2, 1) := by decide +kernel
theorem dX6_leaves_3 : decode cX6_leaves 3 = .ok (.invokevirtual 105, 3) := by decide +kernel
theorem dX6_leaves_6 : decode cX6_leaves 6 = .ok (.aload_n 0, 1) := by decide +kernel
theorem dX6_leaves_7 : decode cX6_leaves 7 = .ok (.getfield 9, 3) := by decide +kernel
theorem dX6_leaves_10 : decode cX6_leaves 10 = .ok (.iload_n 1, 1) := by decide +kernel
theorem dX6_leaves_11 : decode cX6_leaves 11 = .ok (.invokestatic 65, 3) := by decide +kernel
theorem dX6_leaves_14 : decode cX6_leaves 14 = .ok (.iadd, 1) := by decide +kernel
theorem dX6_leaves_15 : decode cX6_leaves 15 = .ok (.ireturn, 1) := by decide +kernel
theorem dX6_lossOf_0 : decode cX6_lossOf 0 = .ok (.aload_n 0, 1) := by decide +kernel
theorem dX6_lossOf_1 : decode cX6_lossOf 1 = .ok (.getfield 38, 3) := by decide +kernel
theorem dX6_lossOf_4 : decode cX6_lossOf 4 = .ok (.iload_n 2, 1) := by decide +kernel
theorem dX6_lossOf_5 : decode cX6_lossOf 5 = .ok (.aload_n 0, 1) := by decide +kernel
theorem dX6_lossOf_6 : decode cX6_lossOf 6 = .ok (.getfield 18, 3) := by decide +kernel
theorem dX6_lossOf_9 : decode cX6_lossOf 9 = .ok (.iload_n 1, 1) := by decide +kernel
theorem dX6_lossOf_10 : decode cX6_lossOf 10 = .ok (.invokestatic 65, 3) := by decide +kernel
theorem dX6_lossOf_13 : decode cX6_lossOf 13 = .ok (.isub, 1) := by decide +kernel
theorem dX6_lossOf_14 : decode cX6_lossOf 14 = .ok (.iconst 1, 1) := by decide +kernel
theorem dX6_lossOf_15 : decode cX6_lossOf 15 = .ok (.isub, 1) := by decide +kernel
theorem dX6_lossOf_16 : decode cX6_lossOf 16 = .ok (.iconst 0, 1) := by decide +kernel
theorem dX6_lossOf_17 : decode cX6_lossOf 17 = .ok (.invokestatic 100, 3) := by decide +kernel
theorem dX6_lossOf_20 : decode cX6_lossOf 20 = .ok (.imul, 1) := by decide +kernel
theorem dX6_lossOf_21 : decode cX6_lossOf 21 = .ok (.ireturn, 1) := by decide +kernel
theorem dX6_beatsBest_0 : decode cX6_beatsBest 0 = .ok (.iload_n 2, 1) := by decide +kernel
theorem dX6_beatsBest_1 : decode cX6_beatsBest 1 = .ok (.aload_n 0, 1) := by decide +kernel
theorem dX6_beatsBest_2 : decode cX6_beatsBest 2 = .ok (.getfield 51, 3) := by decide +kernel
theorem dX6_beatsBest_5 : decode cX6_beatsBest 5 = .ok (.if_icmp .lt 19, 3) := by decide +kernel
theorem dX6_beatsBest_8 : decode cX6_beatsBest 8 = .ok (.iload_n 2, 1) := by decide +kernel
theorem dX6_beatsBest_9 : decode cX6_beatsBest 9 = .ok (.aload_n 0, 1) := by decide +kernel
theorem dX6_beatsBest_10 : decode cX6_beatsBest 10 = .ok (.getfield 51, 3) := by decide +kernel
theorem dX6_beatsBest_13 : decode cX6_beatsBest 13 = .ok (.if_icmp .ne 15, 3) := by decide +kernel
theorem dX6_beatsBest_16 : decode cX6_beatsBest 16 = .ok (.iload_n 1, 1) := by decide +kernel
theorem dX6_beatsBest_17 : decode cX6_beatsBest 17 = .ok (.aload_n 0, 1) := by decide +kernel
theorem dX6_beatsBest_18 : decode cX6_beatsBest 18 = .ok (.getfield 54, 3) := by decide +kernel
theorem dX6_beatsBest_21 : decode cX6_beatsBest 21 = .ok (.if_icmp .ge 7, 3) := by decide +kernel
theorem dX6_beatsBest_24 : decode cX6_beatsBest 24 = .ok (.iconst 1, 1) := by decide +kernel
theorem dX6_beatsBest_25 : decode cX6_beatsBest 25 = .ok (.goto 4, 3) := by decide +kernel
theorem dX6_beatsBest_28 : decode cX6_beatsBest 28 = .ok (.iconst 0, 1) := by decide +kernel
theorem dX6_beatsBest_29 : decode cX6_beatsBest 29 = .ok (.ireturn, 1) := by decide +kernel
theorem dX6_keepAsBest_0 : decode cX6_keepAsBest 0 = .ok (.aload_n 0, 1) := by decide +kernel
theorem dX6_keepAsBest_1 : decode cX6_keepAsBest 1 = .ok (.iload_n 1, 1) := by decide +kernel
theorem dX6_keepAsBest_2 : decode cX6_keepAsBest 2 = .ok (.putfield 54, 3) := by decide +kernel
theorem dX6_keepAsBest_5 : decode cX6_keepAsBest 5 = .ok (.aload_n 0, 1) := by decide +kernel
theorem dX6_keepAsBest_6 : decode cX6_keepAsBest 6 = .ok (.iload_n 2, 1) := by decide +kernel
theorem dX6_keepAsBest_7 : decode cX6_keepAsBest 7 = .ok (.putfield 51, 3) := by decide +kernel
theorem dX6_keepAsBest_10 : decode cX6_keepAsBest 10 = .ok (.iconst 0, 1) := by decide +kernel
theorem dX6_keepAsBest_11 : decode cX6_keepAsBest 11 = .ok (.istore_n 3, 1) := by decide +kernel
theorem dX6_keepAsBest_12 : decode cX6_keepAsBest 12 = .ok (.iload_n 3, 1) := by decide +kernel
theorem dX6_keepAsBest_13 : decode cX6_keepAsBest 13 = .ok (.bipush 7, 2) := by decide +kernel
theorem dX6_keepAsBest_15 : decode cX6_keepAsBest 15 = .ok (.if_icmp .ge 25, 3) := by decide +kernel
theorem dX6_keepAsBest_18 : decode cX6_keepAsBest 18 = .ok (.aload_n 0, 1) := by decide +kernel
theorem dX6_keepAsBest_19 : decode cX6_keepAsBest 19 = .ok (.getfield 31, 3) := by decide +kernel
theorem dX6_keepAsBest_22 : decode cX6_keepAsBest 22 = .ok (.iload_n 3, 1) := by decide +kernel
theorem dX6_keepAsBest_23 : decode cX6_keepAsBest 23 = .ok (.aload_n 0, 1) := by decide +kernel
theorem dX6_keepAsBest_24 : decode cX6_keepAsBest 24 = .ok (.getfield 28, 3) := by decide +kernel
theorem dX6_keepAsBest_27 : decode cX6_keepAsBest 27 = .ok (.iload_n 3, 1) := by decide +kernel
theorem dX6_keepAsBest_28 : decode cX6_keepAsBest 28 = .ok (.invokestatic 65, 3) := by decide +kernel
theorem dX6_keepAsBest_31 : decode cX6_keepAsBest 31 = .ok (.invokestatic 61, 3) := by decide +kernel
theorem dX6_keepAsBest_34 : decode cX6_keepAsBest 34 = .ok (.iinc 3 1, 3) := by decide +kernel
theorem dX6_keepAsBest_37 : decode cX6_keepAsBest 37 = .ok (.goto (-25), 3) := by decide +kernel
theorem dX6_keepAsBest_40 : decode cX6_keepAsBest 40 = .ok (.return_, 1) := by decide +kernel
theorem dX6_isWaiting_0 : decode cX6_isWaiting 0 = .ok (.iload_n 1, 1) := by decide +kernel
theorem dX6_isWaiting_1 : decode cX6_isWaiting 1 = .ok (.ifCond .lt 25, 3) := by decide +kernel
theorem dX6_isWaiting_4 : decode cX6_isWaiting 4 = .ok (.iload_n 1, 1) := by decide +kernel
theorem dX6_isWaiting_5 : decode cX6_isWaiting 5 = .ok (.aload_n 0, 1) := by decide +kernel
theorem dX6_isWaiting_6 : decode cX6_isWaiting 6 = .ok (.getfield 21, 3) := by decide +kernel
theorem dX6_isWaiting_9 : decode cX6_isWaiting 9 = .ok (.arraylength, 1) := by decide +kernel
theorem dX6_isWaiting_10 : decode cX6_isWaiting 10 = .ok (.if_icmp .ge 16, 3) := by decide +kernel
theorem dX6_isWaiting_13 : decode cX6_isWaiting 13 = .ok (.aload_n 0, 1) := by decide +kernel
theorem dX6_isWaiting_14 : decode cX6_isWaiting 14 = .ok (.getfield 21, 3) := by decide +kernel
theorem dX6_isWaiting_17 : decode cX6_isWaiting 17 = .ok (.iload_n 1, 1) := by decide +kernel
theorem dX6_isWaiting_18 : decode cX6_isWaiting 18 = .ok (.baload, 1) := by decide +kernel
theorem dX6_isWaiting_19 : decode cX6_isWaiting 19 = .ok (.ifCond .eq 7, 3) := by decide +kernel
theorem dX6_isWaiting_22 : decode cX6_isWaiting 22 = .ok (.iconst 1, 1) := by decide +kernel
theorem dX6_isWaiting_23 : decode cX6_isWaiting 23 = .ok (.goto 4, 3) := by decide +kernel
theorem dX6_isWaiting_26 : decode cX6_isWaiting 26 = .ok (.iconst 0, 1) := by decide +kernel
theorem dX6_isWaiting_27 : decode cX6_isWaiting 27 = .ok (.ireturn, 1) := by decide +kernel
theorem dX6_setWaits_0 : decode cX6_setWaits 0 = .ok (.iload_n 1, 1) := by decide +kernel
theorem dX6_setWaits_1 : decode cX6_setWaits 1 = .ok (.ifCond .lt 19, 3) := by decide +kernel
theorem dX6_setWaits_4 : decode cX6_setWaits 4 = .ok (.iload_n 1, 1) := by decide +kernel
theorem dX6_setWaits_5 : decode cX6_setWaits 5 = .ok (.aload_n 0, 1) := by decide +kernel
theorem dX6_setWaits_6 : decode cX6_setWaits 6 = .ok (.getfield 21, 3) := by decide +kernel
theorem dX6_setWaits_9 : decode cX6_setWaits 9 = .ok (.arraylength, 1) := by decide +kernel
theorem dX6_setWaits_10 : decode cX6_setWaits 10 = .ok (.if_icmp .ge 10, 3) := by decide +kernel
theorem dX6_setWaits_13 : decode cX6_setWaits 13 = .ok (.aload_n 0, 1) := by decide +kernel
theorem dX6_setWaits_14 : decode cX6_setWaits 14 = .ok (.getfield 21, 3) := by decide +kernel
theorem dX6_setWaits_17 : decode cX6_setWaits 17 = .ok (.iload_n 1, 1) := by decide +kernel
theorem dX6_setWaits_18 : decode cX6_setWaits 18 = .ok (.iload_n 2, 1) := by decide +kernel
theorem dX6_setWaits_19 : decode cX6_setWaits 19 = .ok (.bastore, 1) := by decide +kernel
theorem dX6_setWaits_20 : decode cX6_setWaits 20 = .ok (.return_, 1) := by decide +kernel
theorem dX7_init_0 : decode cX7_init 0 = .ok (.aload_n 0, 1) := by decide +kernel
theorem dX7_init_1 : decode cX7_init 1 = .ok (.invokespecial 3, 3) := by decide +kernel
theorem dX7_init_4 : decode cX7_init 4 = .ok (.aload_n 0, 1) := by decide +kernel
theorem dX7_init_5 : decode cX7_init 5 = .ok (.sipush 300, 3) := by decide +kernel
theorem dX7_init_8 : decode cX7_init 8 = .ok (.newarray .int, 2) := by decide +kernel
theorem dX7_init_10 : decode cX7_init 10 = .ok (.putfield 11, 3) := by decide +kernel
theorem dX7_init_13 : decode cX7_init 13 = .ok (.aload_n 0, 1) := by decide +kernel
theorem dX7_init_14 : decode cX7_init 14 = .ok (.iconst 0, 1) := by decide +kernel
theorem dX7_init_15 : decode cX7_init 15 = .ok (.putfield 15, 3) := by decide +kernel
theorem dX7_init_18 : decode cX7_init 18 = .ok (.aload_n 0, 1) := by decide +kernel
theorem dX7_init_19 : decode cX7_init 19 = .ok (.iconst 0, 1) := by decide +kernel
theorem dX7_init_20 : decode cX7_init 20 = .ok (.putfield 19, 3) := by decide +kernel
theorem dX7_init_23 : decode cX7_init 23 = .ok (.aload_n 0, 1) := by decide +kernel
theorem dX7_init_24 : decode cX7_init 24 = .ok (.iconst 0, 1) := by decide +kernel
theorem dX7_init_25 : decode cX7_init 25 = .ok (.putfield 22, 3) := by decide +kernel
theorem dX7_init_28 : decode cX7_init 28 = .ok (.return_, 1) := by decide +kernel
theorem dX7_hasRoomFor_0 : decode cX7_hasRoomFor 0 = .ok (.aload_n 0, 1) := by decide +kernel
theorem dX7_hasRoomFor_1 : decode cX7_hasRoomFor 1 = .ok (.getfield 15, 3) := by decide +kernel
theorem dX7_hasRoomFor_4 : decode cX7_hasRoomFor 4 = .ok (.iload_n 1, 1) := by decide +kernel
theorem dX7_hasRoomFor_5 : decode cX7_hasRoomFor 5 = .ok (.iadd, 1) := by decide +kernel
theorem dX7_hasRoomFor_6 : decode cX7_hasRoomFor 6 = .ok (.sipush 300, 3) := by decide +kernel
theorem dX7_hasRoomFor_9 : decode cX7_hasRoomFor 9 = .ok (.if_icmp .gt 7, 3) := by decide +kernel
theorem dX7_hasRoomFor_12 : decode cX7_hasRoomFor 12 = .ok (.iconst 1, 1) := by decide +kernel
theorem dX7_hasRoomFor_13 : decode cX7_hasRoomFor 13 = .ok (.goto 4, 3) := by decide +kernel
theorem dX7_hasRoomFor_16 : decode cX7_hasRoomFor 16 = .ok (.iconst 0, 1) := by decide +kernel
theorem dX7_hasRoomFor_17 : decode cX7_hasRoomFor 17 = .ok (.ireturn, 1) := by decide +kernel
theorem dX7_append_0 : decode cX7_append 0 = .ok (.bipush 24, 2) := by decide +kernel
theorem dX7_append_2 : decode cX7_append 2 = .ok (.istore_n 2, 1) := by decide +kernel
theorem dX7_append_3 : decode cX7_append 3 = .ok (.iload_n 2, 1) := by decide +kernel
theorem dX7_append_4 : decode cX7_append 4 = .ok (.ifCond .lt 37, 3) := by decide +kernel
theorem dX7_append_7 : decode cX7_append 7 = .ok (.aload_n 0, 1) := by decide +kernel
theorem dX7_append_8 : decode cX7_append 8 = .ok (.getfield 11, 3) := by decide +kernel
theorem dX7_append_11 : decode cX7_append 11 = .ok (.aload_n 0, 1) := by decide +kernel
theorem dX7_append_12 : decode cX7_append 12 = .ok (.getfield 15, 3) := by decide +kernel
theorem dX7_append_15 : decode cX7_append 15 = .ok (.iload_n 1, 1) := by decide +kernel
theorem dX7_append_16 : decode cX7_append 16 = .ok (.iload_n 2, 1) := by decide +kernel
theorem dX7_append_17 : decode cX7_append 17 = .ok (.iushr, 1) := by decide +kernel
theorem dX7_append_18 : decode cX7_append 18 = .ok (.sipush 255, 3) := by decide +kernel
theorem dX7_append_21 : decode cX7_append 21 = .ok (.iand, 1) := by decide +kernel
theorem dX7_append_22 : decode cX7_append 22 = .ok (.invokestatic 25, 3) := by decide +kernel
theorem dX7_append_25 : decode cX7_append 25 = .ok (.aload_n 0, 1) := by decide +kernel
theorem dX7_append_26 : decode cX7_append 26 = .ok (.dup, 1) := by decide +kernel
theorem dX7_append_27 : decode cX7_append 27 = .ok (.getfield 15, 3) := by decide +kernel
theorem dX7_append_30 : decode cX7_append 30 = .ok (.iconst 1, 1) := by decide +kernel
theorem dX7_append_31 : decode cX7_append 31 = .ok (.iadd, 1) := by decide +kernel
theorem dX7_append_32 : decode cX7_append 32 = .ok (.putfield 15, 3) := by decide +kernel
theorem dX7_append_35 : decode cX7_append 35 = .ok (.iinc 2 (-8), 3) := by decide +kernel
theorem dX7_append_38 : decode cX7_append 38 = .ok (.goto (-35), 3) := by decide +kernel
theorem dX7_append_41 : decode cX7_append 41 = .ok (.return_, 1) := by decide +kernel
theorem dX7_readFirst_0 : decode cX7_readFirst 0 = .ok (.aload_n 0, 1) := by decide +kernel
theorem dX7_readFirst_1 : decode cX7_readFirst 1 = .ok (.iconst 0, 1) := by decide +kernel
theorem dX7_readFirst_2 : decode cX7_readFirst 2 = .ok (.putfield 19, 3) := by decide +kernel
theorem dX7_readFirst_5 : decode cX7_readFirst 5 = .ok (.aload_n 0, 1) := by decide +kernel
theorem dX7_readFirst_6 : decode cX7_readFirst 6 = .ok (.iload_n 1, 1) := by decide +kernel
theorem dX7_readFirst_7 : decode cX7_readFirst 7 = .ok (.putfield 22, 3) := by decide +kernel
theorem dX7_readFirst_10 : decode cX7_readFirst 10 = .ok (.return_, 1) := by decide +kernel
theorem dX7_isAtEnd_0 : decode cX7_isAtEnd 0 = .ok (.aload_n 0, 1) := by decide +kernel
theorem dX7_isAtEnd_1 : decode cX7_isAtEnd 1 = .ok (.getfield 19, 3) := by decide +kernel
theorem dX7_isAtEnd_4 : decode cX7_isAtEnd 4 = .ok (.aload_n 0, 1) := by decide +kernel
theorem dX7_isAtEnd_5 : decode cX7_isAtEnd 5 = .ok (.getfield 22, 3) := by decide +kernel
theorem dX7_isAtEnd_8 : decode cX7_isAtEnd 8 = .ok (.if_icmp .lt 7, 3) := by decide +kernel
theorem dX7_isAtEnd_11 : decode cX7_isAtEnd 11 = .ok (.iconst 1, 1) := by decide +kernel
theorem dX7_isAtEnd_12 : decode cX7_isAtEnd 12 = .ok (.goto 4, 3) := by decide +kernel
theorem dX7_isAtEnd_15 : decode cX7_isAtEnd 15 = .ok (.iconst 0, 1) := by decide +kernel
theorem dX7_isAtEnd_16 : decode cX7_isAtEnd 16 = .ok (.ireturn, 1) := by decide +kernel
theorem dX7_byteAt_0 : decode cX7_byteAt 0 = .ok (.iload_n 1, 1) := by decide +kernel
theorem dX7_byteAt_1 : decode cX7_byteAt 1 = .ok (.aload_n 0, 1) := by decide +kernel
theorem dX7_byteAt_2 : decode cX7_byteAt 2 = .ok (.getfield 22, 3) := by decide +kernel
theorem dX7_byteAt_5 : decode cX7_byteAt 5 = .ok (.if_icmp .ge 14, 3) := by decide +kernel
theorem dX7_byteAt_8 : decode cX7_byteAt 8 = .ok (.aload_n 0, 1) := by decide +kernel
theorem dX7_byteAt_9 : decode cX7_byteAt 9 = .ok (.getfield 11, 3) := by decide +kernel
theorem dX7_byteAt_12 : decode cX7_byteAt 12 = .ok (.iload_n 1, 1) := by decide +kernel
theorem dX7_byteAt_13 : decode cX7_byteAt 13 = .ok (.invokestatic 29, 3) := by decide +kernel
theorem dX7_byteAt_16 : decode cX7_byteAt 16 = .ok (.goto 4, 3) := by decide +kernel
theorem dX7_byteAt_19 : decode cX7_byteAt 19 = .ok (.iconst (-1), 1) := by decide +kernel
theorem dX7_byteAt_20 : decode cX7_byteAt 20 = .ok (.ireturn, 1) := by decide +kernel
theorem dX7_skipBlanks_0 : decode cX7_skipBlanks 0 = .ok (.aload_n 0, 1) := by decide +kernel
theorem dX7_skipBlanks_1 : decode cX7_skipBlanks 1 = .ok (.getfield 19, 3) := by decide +kernel
theorem dX7_skipBlanks_4 : decode cX7_skipBlanks 4 = .ok (.aload_n 0, 1) := by decide +kernel
theorem dX7_skipBlanks_5 : decode cX7_skipBlanks 5 = .ok (.getfield 22, 3) := by decide +kernel
theorem dX7_skipBlanks_8 : decode cX7_skipBlanks 8 = .ok (.if_icmp .ge 42, 3) := by decide +kernel
theorem dX7_skipBlanks_11 : decode cX7_skipBlanks 11 = .ok (.aload_n 0, 1) := by decide +kernel
theorem dX7_skipBlanks_12 : decode cX7_skipBlanks 12 = .ok (.aload_n 0, 1) := by decide +kernel
theorem dX7_skipBlanks_13 : decode cX7_skipBlanks 13 = .ok (.getfield 19, 3) := by decide +kernel
theorem dX7_skipBlanks_16 : decode cX7_skipBlanks 16 = .ok (.invokevirtual 33, 3) := by decide +kernel
theorem dX7_skipBlanks_19 : decode cX7_skipBlanks 19 = .ok (.bipush 32, 2) := by decide +kernel
theorem dX7_skipBlanks_21 : decode cX7_skipBlanks 21 = .ok (.if_icmp .eq 16, 3) := by decide +kernel
theorem dX7_skipBlanks_24 : decode cX7_skipBlanks 24 = .ok (.aload_n 0, 1) := by decide +kernel
theorem dX7_skipBlanks_25 : decode cX7_skipBlanks 25 = .ok (.aload_n 0, 1) := by decide +kernel
theorem dX7_skipBlanks_26 : decode cX7_skipBlanks 26 = .ok (.getfield 19, 3) := by decide +kernel
theorem dX7_skipBlanks_29 : decode cX7_skipBlanks 29 = .ok (.invokevirtual 33, 3) := by decide +kernel
theorem dX7_skipBlanks_32 : decode cX7_skipBlanks 32 = .ok (.bipush 10, 2) := by decide +kernel
theorem dX7_skipBlanks_34 : decode cX7_skipBlanks 34 = .ok (.if_icmp .ne 16, 3) := by decide +kernel
theorem dX7_skipBlanks_37 : decode cX7_skipBlanks 37 = .ok (.aload_n 0, 1) := by decide +kernel
theorem dX7_skipBlanks_38 : decode cX7_skipBlanks 38 = .ok (.dup, 1) := by decide +kernel
theorem dX7_skipBlanks_39 : decode cX7_skipBlanks 39 = .ok (.getfield 19, 3) := by decide +kernel
theorem dX7_skipBlanks_42 : decode cX7_skipBlanks 42 = .ok (.iconst 1, 1) := by decide +kernel
theorem dX7_skipBlanks_43 : decode cX7_skipBlanks 43 = .ok (.iadd, 1) := by decide +kernel
theorem dX7_skipBlanks_44 : decode cX7_skipBlanks 44 = .ok (.putfield 19, 3) := by decide +kernel
theorem dX7_skipBlanks_47 : decode cX7_skipBlanks 47 = .ok (.goto (-47), 3) := by decide +kernel
theorem dX7_skipBlanks_50 : decode cX7_skipBlanks 50 = .ok (.return_, 1) := by decide +kernel
theorem dX7_endOfRow_0 : decode cX7_endOfRow 0 = .ok (.aload_n 0, 1) := by decide +kernel
theorem dX7_endOfRow_1 : decode cX7_endOfRow 1 = .ok (.getfield 19, 3) := by decide +kernel
theorem dX7_endOfRow_4 : decode cX7_endOfRow 4 = .ok (.istore_n 3, 1) := by decide +kernel
theorem dX7_endOfRow_5 : decode cX7_endOfRow 5 = .ok (.iload_n 3, 1) := by decide +kernel
theorem dX7_endOfRow_6 : decode cX7_endOfRow 6 = .ok (.aload_n 0, 1) := by decide +kernel
theorem dX7_endOfRow_7 : decode cX7_endOfRow 7 = .ok (.getfield 22, 3) := by decide +kernel
theorem dX7_endOfRow_10 : decode cX7_endOfRow 10 = .ok (.if_icmp .ge 22, 3) := by decide +kernel
theorem dX7_endOfRow_13 : decode cX7_endOfRow 13 = .ok (.aload_n 0, 1) := by decide +kernel
theorem dX7_endOfRow_14 : decode cX7_endOfRow 14 = .ok (.iload_n 3, 1) := by decide +kernel
theorem dX7_endOfRow_15 : decode cX7_endOfRow 15 = .ok (.invokevirtual 33, 3) := by decide +kernel
theorem dX7_endOfRow_18 : decode cX7_endOfRow 18 = .ok (.iload_n 1, 1) := by decide +kernel
theorem dX7_endOfRow_19 : decode cX7_endOfRow 19 = .ok (.iload_n 2, 1) := by decide +kernel
theorem dX7_endOfRow_20 : decode cX7_endOfRow 20 = .ok (.invokestatic 37, 3) := by decide +kernel
theorem dX7_endOfRow_23 : decode cX7_endOfRow 23 = .ok (.ifCond .eq 9, 3) := by decide +kernel
theorem dX7_endOfRow_26 : decode cX7_endOfRow 26 = .ok (.iinc 3 1, 3) := by decide +kernel
theorem dX7_endOfRow_29 : decode cX7_endOfRow 29 = .ok (.goto (-24), 3) := by decide +kernel
theorem dX7_endOfRow_32 : decode cX7_endOfRow 32 = .ok (.iload_n 3, 1) := by decide +kernel
theorem dX7_endOfRow_33 : decode cX7_endOfRow 33 = .ok (.ireturn, 1) := by decide +kernel
theorem dX7_numberUpTo_0 : decode cX7_numberUpTo 0 = .ok (.iconst 0, 1) := by decide +kernel
theorem dX7_numberUpTo_1 : decode cX7_numberUpTo 1 = .ok (.istore_n 2, 1) := by decide +kernel
theorem dX7_numberUpTo_2 : decode cX7_numberUpTo 2 = .ok (.aload_n 0, 1) := by decide +kernel
theorem dX7_numberUpTo_3 : decode cX7_numberUpTo 3 = .ok (.getfield 19, 3) := by decide +kernel
theorem dX7_numberUpTo_6 : decode cX7_numberUpTo 6 = .ok (.istore_n 3, 1) := by decide +kernel
theorem dX7_numberUpTo_7 : decode cX7_numberUpTo 7 = .ok (.iload_n 3, 1) := by decide +kernel
theorem dX7_numberUpTo_8 : decode cX7_numberUpTo 8 = .ok (.iload_n 1, 1) := by decide +kernel
theorem dX7_numberUpTo_9 : decode cX7_numberUpTo 9 = .ok (.if_icmp .ge 29, 3) := by decide +kernel
theorem dX7_numberUpTo_12 : decode cX7_numberUpTo 12 = .ok (.iload_n 2, 1) := by decide +kernel
theorem dX7_numberUpTo_13 : decode cX7_numberUpTo 13 = .ok (.bipush 10, 2) := by decide +kernel
theorem dX7_numberUpTo_15 : decode cX7_numberUpTo 15 = .ok (.imul, 1) := by decide +kernel
theorem dX7_numberUpTo_16 : decode cX7_numberUpTo 16 = .ok (.aload_n 0, 1) := by decide +kernel
theorem dX7_numberUpTo_17 : decode cX7_numberUpTo 17 = .ok (.iload_n 3, 1) := by decide +kernel
theorem dX7_numberUpTo_18 : decode cX7_numberUpTo 18 = .ok (.invokevirtual 33, 3) := by decide +kernel
theorem dX7_numberUpTo_21 : decode cX7_numberUpTo 21 = .ok (.iadd, 1) := by decide +kernel
theorem dX7_numberUpTo_22 : decode cX7_numberUpTo 22 = .ok (.bipush 48, 2) := by decide +kernel
theorem dX7_numberUpTo_24 : decode cX7_numberUpTo 24 = .ok (.isub, 1) := by decide +kernel
theorem dX7_numberUpTo_25 : decode cX7_numberUpTo 25 = .ok (.sipush 1000, 3) := by decide +kernel
theorem dX7_numberUpTo_28 : decode cX7_numberUpTo 28 = .ok (.invokestatic 41, 3) := by decide +kernel
theorem dX7_numberUpTo_31 : decode cX7_numberUpTo 31 = .ok (.istore_n 2, 1) := by decide +kernel
theorem dX7_numberUpTo_32 : decode cX7_numberUpTo 32 = .ok (.iinc 3 1, 3) := by decide +kernel
theorem dX7_numberUpTo_35 : decode cX7_numberUpTo 35 = .ok (.goto (-28), 3) := by decide +kernel
theorem dX7_numberUpTo_38 : decode cX7_numberUpTo 38 = .ok (.iload_n 2, 1) := by decide +kernel
theorem dX7_numberUpTo_39 : decode cX7_numberUpTo 39 = .ok (.ireturn, 1) := by decide +kernel
theorem dX7_isWordUpTo_0 : decode cX7_isWordUpTo 0 = .ok (.iload_n 1, 1) := by decide +kernel
theorem dX7_isWordUpTo_1 : decode cX7_isWordUpTo 1 = .ok (.aload_n 0, 1) := by decide +kernel
theorem dX7_isWordUpTo_2 : decode cX7_isWordUpTo 2 = .ok (.getfield 19, 3) := by decide +kernel
theorem dX7_isWordUpTo_5 : decode cX7_isWordUpTo 5 = .ok (.isub, 1) := by decide +kernel
theorem dX7_isWordUpTo_6 : decode cX7_isWordUpTo 6 = .ok (.aload_n 2, 1) := by decide +kernel
theorem dX7_isWordUpTo_7 : decode cX7_isWordUpTo 7 = .ok (.invokevirtual 47, 3) := by decide +kernel
theorem dX7_isWordUpTo_10 : decode cX7_isWordUpTo 10 = .ok (.if_icmp .eq 5, 3) := by decide +kernel
theorem dX7_isWordUpTo_13 : decode cX7_isWordUpTo 13 = .ok (.iconst 0, 1) := by decide +kernel
theorem dX7_isWordUpTo_14 : decode cX7_isWordUpTo 14 = .ok (.ireturn, 1) := by decide +kernel
theorem dX7_isWordUpTo_15 : decode cX7_isWordUpTo 15 = .ok (.iconst 0, 1) := by decide +kernel
theorem dX7_isWordUpTo_16 : decode cX7_isWordUpTo 16 = .ok (.istore_n 3, 1) := by decide +kernel
theorem dX7_isWordUpTo_17 : decode cX7_isWordUpTo 17 = .ok (.iload_n 3, 1) := by decide +kernel
theorem dX7_isWordUpTo_18 : decode cX7_isWordUpTo 18 = .ok (.aload_n 2, 1) := by decide +kernel
theorem dX7_isWordUpTo_19 : decode cX7_isWordUpTo 19 = .ok (.invokevirtual 47, 3) := by decide +kernel
theorem dX7_isWordUpTo_22 : decode cX7_isWordUpTo 22 = .ok (.if_icmp .ge 29, 3) := by decide +kernel
theorem dX7_isWordUpTo_25 : decode cX7_isWordUpTo 25 = .ok (.aload_n 0, 1) := by decide +kernel
theorem dX7_isWordUpTo_26 : decode cX7_isWordUpTo 26 = .ok (.aload_n 0, 1) := by decide +kernel
theorem dX7_isWordUpTo_27 : decode cX7_isWordUpTo 27 = .ok (.getfield 19, 3) := by decide +kernel
theorem dX7_isWordUpTo_30 : decode cX7_isWordUpTo 30 = .ok (.iload_n 3, 1) := by decide +kernel
theorem dX7_isWordUpTo_31 : decode cX7_isWordUpTo 31 = .ok (.iadd, 1) := by decide +kernel
theorem dX7_isWordUpTo_32 : decode cX7_isWordUpTo 32 = .ok (.invokevirtual 33, 3) := by decide +kernel
theorem dX7_isWordUpTo_35 : decode cX7_isWordUpTo 35 = .ok (.aload_n 2, 1) := by decide +kernel
theorem dX7_isWordUpTo_36 : decode cX7_isWordUpTo 36 = .ok (.iload_n 3, 1) := by decide +kernel
theorem dX7_isWordUpTo_37 : decode cX7_isWordUpTo 37 = .ok (.invokevirtual 52, 3) := by decide +kernel
theorem dX7_isWordUpTo_40 : decode cX7_isWordUpTo 40 = .ok (.if_icmp .eq 5, 3) := by decide +kernel
theorem dX7_isWordUpTo_43 : decode cX7_isWordUpTo 43 = .ok (.iconst 0, 1) := by decide +kernel
theorem dX7_isWordUpTo_44 : decode cX7_isWordUpTo 44 = .ok (.ireturn, 1) := by decide +kernel
theorem dX7_isWordUpTo_45 : decode cX7_isWordUpTo 45 = .ok (.iinc 3 1, 3) := by decide +kernel
theorem dX7_isWordUpTo_48 : decode cX7_isWordUpTo 48 = .ok (.goto (-31), 3) := by decide +kernel
theorem dX7_isWordUpTo_51 : decode cX7_isWordUpTo 51 = .ok (.iconst 1, 1) := by decide +kernel
theorem dX7_isWordUpTo_52 : decode cX7_isWordUpTo 52 = .ok (.ireturn, 1) := by decide +kernel
theorem dJ0_length_8abf5_0 : decode cJ0_length_8abf5 0 = .ok (.aload_n 0, 1) := by decide +kernel
theorem dJ0_length_8abf5_1 : decode cJ0_length_8abf5 1 = .ok (.getfield 9, 3) := by decide +kernel
theorem dJ0_length_8abf5_4 : decode cJ0_length_8abf5 4 = .ok (.arraylength, 1) := by decide +kernel
theorem dJ0_length_8abf5_5 : decode cJ0_length_8abf5 5 = .ok (.aload_n 0, 1) := by decide +kernel
theorem dJ0_length_8abf5_6 : decode cJ0_length_8abf5 6 = .ok (.invokevirtual 335, 3) := by decide +kernel
theorem dJ0_length_8abf5_9 : decode cJ0_length_8abf5 9 = .ok (.ishr, 1) := by decide +kernel
theorem dJ0_length_8abf5_10 : decode cJ0_length_8abf5 10 = .ok (.ireturn, 1) := by decide +kernel
theorem dJ0_charAt_5068e_0 : decode cJ0_charAt_5068e 0 = .ok (.aload_n 0, 1) := by decide +kernel
theorem dJ0_charAt_5068e_1 : decode cJ0_charAt_5068e 1 = .ok (.invokevirtual 492, 3) := by decide +kernel
theorem dJ0_charAt_5068e_4 : decode cJ0_charAt_5068e 4 = .ok (.ifCond .eq 12, 3) := by decide +kernel
theorem dJ0_charAt_5068e_7 : decode cJ0_charAt_5068e 7 = .ok (.aload_n 0, 1) := by decide +kernel
theorem dJ0_charAt_5068e_8 : decode cJ0_charAt_5068e 8 = .ok (.getfield 9, 3) := by decide +kernel
theorem dJ0_charAt_5068e_11 : decode cJ0_charAt_5068e 11 = .ok (.iload_n 1, 1) := by decide +kernel
theorem dJ0_charAt_5068e_12 : decode cJ0_charAt_5068e 12 = .ok (.invokestatic 495, 3) := by decide +kernel
theorem dJ0_charAt_5068e_15 : decode cJ0_charAt_5068e 15 = .ok (.ireturn, 1) := by decide +kernel
theorem dJ0_charAt_5068e_16 : decode cJ0_charAt_5068e 16 = .ok (.aload_n 0, 1) := by decide +kernel
theorem dJ0_charAt_5068e_17 : decode cJ0_charAt_5068e 17 = .ok (.getfield 9, 3) := by decide +kernel
theorem dJ0_charAt_5068e_20 : decode cJ0_charAt_5068e 20 = .ok (.iload_n 1, 1) := by decide +kernel
theorem dJ0_charAt_5068e_21 : decode cJ0_charAt_5068e 21 = .ok (.invokestatic 498, 3) := by decide +kernel
theorem dJ0_charAt_5068e_24 : decode cJ0_charAt_5068e 24 = .ok (.ireturn, 1) := by decide +kernel
theorem dJ0_coder_7d493_0 : decode cJ0_coder_7d493 0 = .ok (.getstatic 38, 3) := by decide +kernel
theorem dJ0_coder_7d493_3 : decode cJ0_coder_7d493 3 = .ok (.ifCond .eq 10, 3) := by decide +kernel
theorem dJ0_coder_7d493_6 : decode cJ0_coder_7d493 6 = .ok (.aload_n 0, 1) := by decide +kernel
theorem dJ0_coder_7d493_7 : decode cJ0_coder_7d493 7 = .ok (.getfield 15, 3) := by decide +kernel
theorem dJ0_coder_7d493_10 : decode cJ0_coder_7d493 10 = .ok (.goto 4, 3) := by decide +kernel
theorem dJ0_coder_7d493_13 : decode cJ0_coder_7d493 13 = .ok (.iconst 1, 1) := by decide +kernel
theorem dJ0_coder_7d493_14 : decode cJ0_coder_7d493 14 = .ok (.ireturn, 1) := by decide +kernel
theorem dJ0_isLatin1_aae02_0 : decode cJ0_isLatin1_aae02 0 = .ok (.getstatic 38, 3) := by decide +kernel
theorem dJ0_isLatin1_aae02_3 : decode cJ0_isLatin1_aae02 3 = .ok (.ifCond .eq 14, 3) := by decide +kernel
theorem dJ0_isLatin1_aae02_6 : decode cJ0_isLatin1_aae02 6 = .ok (.aload_n 0, 1) := by decide +kernel
theorem dJ0_isLatin1_aae02_7 : decode cJ0_isLatin1_aae02 7 = .ok (.getfield 15, 3) := by decide +kernel
theorem dJ0_isLatin1_aae02_10 : decode cJ0_isLatin1_aae02 10 = .ok (.ifCond .ne 7, 3) := by decide +kernel
theorem dJ0_isLatin1_aae02_13 : decode cJ0_isLatin1_aae02 13 = .ok (.iconst 1, 1) := by decide +kernel
theorem dJ0_isLatin1_aae02_14 : decode cJ0_isLatin1_aae02 14 = .ok (.goto 4, 3) := by decide +kernel
theorem dJ0_isLatin1_aae02_17 : decode cJ0_isLatin1_aae02 17 = .ok (.iconst 0, 1) := by decide +kernel
theorem dJ0_isLatin1_aae02_18 : decode cJ0_isLatin1_aae02 18 = .ok (.ireturn, 1) := by decide +kernel
theorem dJ0_checkIndex_df160_0 : decode cJ0_checkIndex_df160 0 = .ok (.iload_n 0, 1) := by decide +kernel
theorem dJ0_checkIndex_df160_1 : decode cJ0_checkIndex_df160 1 = .ok (.iload_n 1, 1) := by decide +kernel
theorem dJ0_checkIndex_df160_2 : decode cJ0_checkIndex_df160 2 = .ok (.getstatic 1053, 3) := by decide +kernel
theorem dJ0_checkIndex_df160_5 : decode cJ0_checkIndex_df160 5 = .ok (.invokestatic 1059, 3) := by decide +kernel
theorem dJ0_checkIndex_df160_8 : decode cJ0_checkIndex_df160 8 = .ok (.pop, 1) := by decide +kernel
theorem dJ0_checkIndex_df160_9 : decode cJ0_checkIndex_df160 9 = .ok (.return_, 1) := by decide +kernel
theorem dJ1_charAt_3b067_0 : decode cJ1_charAt_3b067 0 = .ok (.iload_n 1, 1) := by decide +kernel
theorem dJ1_charAt_3b067_1 : decode cJ1_charAt_3b067 1 = .ok (.aload_n 0, 1) := by decide +kernel
theorem dJ1_charAt_3b067_2 : decode cJ1_charAt_3b067 2 = .ok (.arraylength, 1) := by decide +kernel
theorem dJ1_charAt_3b067_3 : decode cJ1_charAt_3b067 3 = .ok (.invokestatic 9, 3) := by decide +kernel
theorem dJ1_charAt_3b067_6 : decode cJ1_charAt_3b067 6 = .ok (.aload_n 0, 1) := by decide +kernel
theorem dJ1_charAt_3b067_7 : decode cJ1_charAt_3b067 7 = .ok (.iload_n 1, 1) := by decide +kernel
theorem dJ1_charAt_3b067_8 : decode cJ1_charAt_3b067 8 = .ok (.baload, 1) := by decide +kernel
theorem dJ1_charAt_3b067_9 : decode cJ1_charAt_3b067 9 = .ok (.sipush 255, 3) := by decide +kernel
theorem dJ1_charAt_3b067_12 : decode cJ1_charAt_3b067 12 = .ok (.iand, 1) := by decide +kernel
theorem dJ1_charAt_3b067_13 : decode cJ1_charAt_3b067 13 = .ok (.i2c, 1) := by decide +kernel
theorem dJ1_charAt_3b067_14 : decode cJ1_charAt_3b067 14 = .ok (.ireturn, 1) := by decide +kernel
theorem dJ2_getChar_3b067_0 : decode cJ2_getChar_3b067 0 = .ok (.getstatic 44, 3) := by decide +kernel
theorem dJ2_getChar_3b067_3 : decode cJ2_getChar_3b067 3 = .ok (.ifCond .ne 25, 3) := by decide +kernel
theorem dJ2_getChar_3b067_6 : decode cJ2_getChar_3b067 6 = .ok (.iload_n 1, 1) := by decide +kernel
theorem dJ2_getChar_3b067_7 : decode cJ2_getChar_3b067 7 = .ok (.ifCond .lt 11, 3) := by decide +kernel
theorem dJ2_getChar_3b067_10 : decode cJ2_getChar_3b067 10 = .ok (.iload_n 1, 1) := by decide +kernel
theorem dJ2_getChar_3b067_11 : decode cJ2_getChar_3b067 11 = .ok (.aload_n 0, 1) := by decide +kernel
theorem dJ2_getChar_3b067_12 : decode cJ2_getChar_3b067 12 = .ok (.invokestatic 48, 3) := by decide +kernel
theorem dJ2_getChar_3b067_15 : decode cJ2_getChar_3b067 15 = .ok (.if_icmp .lt 13, 3) := by decide +kernel
theorem dJ2_getChar_3b067_18 : decode cJ2_getChar_3b067 18 = .ok (.new 52, 3) := by decide +kernel
theorem dJ2_getChar_3b067_21 : decode cJ2_getChar_3b067 21 = .ok (.dup, 1) := by decide +kernel
theorem dJ2_getChar_3b067_22 : decode cJ2_getChar_3b067 22 = .ok (.ldc 54, 2) := by decide +kernel
theorem dJ2_getChar_3b067_24 : decode cJ2_getChar_3b067 24 = .ok (.invokespecial 56, 3) := by decide +kernel
theorem dJ2_getChar_3b067_27 : decode cJ2_getChar_3b067 27 = .ok (.athrow, 1) := by decide +kernel
theorem dJ2_getChar_3b067_28 : decode cJ2_getChar_3b067 28 = .ok (.iload_n 1, 1) := by decide +kernel
theorem dJ2_getChar_3b067_29 : decode cJ2_getChar_3b067 29 = .ok (.iconst 1, 1) := by decide +kernel
theorem dJ2_getChar_3b067_30 : decode cJ2_getChar_3b067 30 = .ok (.ishl, 1) := by decide +kernel
theorem dJ2_getChar_3b067_31 : decode cJ2_getChar_3b067 31 = .ok (.istore_n 1, 1) := by decide +kernel
theorem dJ2_getChar_3b067_32 : decode cJ2_getChar_3b067 32 = .ok (.aload_n 0, 1) := by decide +kernel
theorem dJ2_getChar_3b067_33 : decode cJ2_getChar_3b067 33 = .ok (.iload_n 1, 1) := by decide +kernel
theorem dJ2_getChar_3b067_34 : decode cJ2_getChar_3b067 34 = .ok (.iinc 1 1, 3) := by decide +kernel
theorem dJ2_getChar_3b067_37 : decode cJ2_getChar_3b067 37 = .ok (.baload, 1) := by decide +kernel
theorem dJ2_getChar_3b067_38 : decode cJ2_getChar_3b067 38 = .ok (.sipush 255, 3) := by decide +kernel
theorem dJ2_getChar_3b067_41 : decode cJ2_getChar_3b067 41 = .ok (.iand, 1) := by decide +kernel
theorem dJ2_getChar_3b067_42 : decode cJ2_getChar_3b067 42 = .ok (.getstatic 59, 3) := by decide +kernel
theorem dJ2_getChar_3b067_45 : decode cJ2_getChar_3b067 45 = .ok (.ishl, 1) := by decide +kernel
theorem dJ2_getChar_3b067_46 : decode cJ2_getChar_3b067 46 = .ok (.aload_n 0, 1) := by decide +kernel
theorem dJ2_getChar_3b067_47 : decode cJ2_getChar_3b067 47 = .ok (.iload_n 1, 1) := by decide +kernel
theorem dJ2_getChar_3b067_48 : decode cJ2_getChar_3b067 48 = .ok (.baload, 1) := by decide +kernel
theorem dJ2_getChar_3b067_49 : decode cJ2_getChar_3b067 49 = .ok (.sipush 255, 3) := by decide +kernel
theorem dJ2_getChar_3b067_52 : decode cJ2_getChar_3b067 52 = .ok (.iand, 1) := by decide +kernel
theorem dJ2_getChar_3b067_53 : decode cJ2_getChar_3b067 53 = .ok (.getstatic 63, 3) := by decide +kernel
theorem dJ2_getChar_3b067_56 : decode cJ2_getChar_3b067 56 = .ok (.ishl, 1) := by decide +kernel
theorem dJ2_getChar_3b067_57 : decode cJ2_getChar_3b067 57 = .ok (.ior, 1) := by decide +kernel
theorem dJ2_getChar_3b067_58 : decode cJ2_getChar_3b067 58 = .ok (.i2c, 1) := by decide +kernel
theorem dJ2_getChar_3b067_59 : decode cJ2_getChar_3b067 59 = .ok (.ireturn, 1) := by decide +kernel
theorem dJ2_length_9d52b_0 : decode cJ2_length_9d52b 0 = .ok (.aload_n 0, 1) := by decide +kernel
theorem dJ2_length_9d52b_1 : decode cJ2_length_9d52b 1 = .ok (.arraylength, 1) := by decide +kernel
theorem dJ2_length_9d52b_2 : decode cJ2_length_9d52b 2 = .ok (.iconst 1, 1) := by decide +kernel
theorem dJ2_length_9d52b_3 : decode cJ2_length_9d52b 3 = .ok (.ishr, 1) := by decide +kernel
theorem dJ2_length_9d52b_4 : decode cJ2_length_9d52b 4 = .ok (.ireturn, 1) := by decide +kernel
theorem dJ2_charAt_3b067_0 : decode cJ2_charAt_3b067 0 = .ok (.iload_n 1, 1) := by decide +kernel
theorem dJ2_charAt_3b067_1 : decode cJ2_charAt_3b067 1 = .ok (.aload_n 0, 1) := by decide +kernel
theorem dJ2_charAt_3b067_2 : decode cJ2_charAt_3b067 2 = .ok (.invokestatic 67, 3) := by decide +kernel
theorem dJ2_charAt_3b067_5 : decode cJ2_charAt_3b067 5 = .ok (.aload_n 0, 1) := by decide +kernel
theorem dJ2_charAt_3b067_6 : decode cJ2_charAt_3b067 6 = .ok (.iload_n 1, 1) := by decide +kernel
theorem dJ2_charAt_3b067_7 : decode cJ2_charAt_3b067 7 = .ok (.invokestatic 71, 3) := by decide +kernel
theorem dJ2_charAt_3b067_10 : decode cJ2_charAt_3b067 10 = .ok (.ireturn, 1) := by decide +kernel
theorem dJ2_checkIndex_2214a_0 : decode cJ2_checkIndex_2214a 0 = .ok (.iload_n 0, 1) := by decide +kernel
theorem dJ2_checkIndex_2214a_1 : decode cJ2_checkIndex_2214a 1 = .ok (.aload_n 1, 1) := by decide +kernel
theorem dJ2_checkIndex_2214a_2 : decode cJ2_checkIndex_2214a 2 = .ok (.invokestatic 48, 3) := by decide +kernel
theorem dJ2_checkIndex_2214a_5 : decode cJ2_checkIndex_2214a 5 = .ok (.invokestatic 414, 3) := by decide +kernel
theorem dJ2_checkIndex_2214a_8 : decode cJ2_checkIndex_2214a 8 = .ok (.return_, 1) := by decide +kernel
theorem dJ3_checkIndex_8e157_0 : decode cJ3_checkIndex_8e157 0 = .ok (.iload_n 0, 1) := by decide +kernel
theorem dJ3_checkIndex_8e157_1 : decode cJ3_checkIndex_8e157 1 = .ok (.ifCond .lt 8, 3) := by decide +kernel
theorem dJ3_checkIndex_8e157_4 : decode cJ3_checkIndex_8e157 4 = .ok (.iload_n 0, 1) := by decide +kernel
theorem dJ3_checkIndex_8e157_5 : decode cJ3_checkIndex_8e157 5 = .ok (.iload_n 1, 1) := by decide +kernel
theorem dJ3_checkIndex_8e157_6 : decode cJ3_checkIndex_8e157 6 = .ok (.if_icmp .lt 10, 3) := by decide +kernel
theorem dJ3_checkIndex_8e157_9 : decode cJ3_checkIndex_8e157 9 = .ok (.aload_n 2, 1) := by decide +kernel
theorem dJ3_checkIndex_8e157_10 : decode cJ3_checkIndex_8e157 10 = .ok (.iload_n 0, 1) := by decide +kernel
theorem dJ3_checkIndex_8e157_11 : decode cJ3_checkIndex_8e157 11 = .ok (.iload_n 1, 1) := by decide +kernel
theorem dJ3_checkIndex_8e157_12 : decode cJ3_checkIndex_8e157 12 = .ok (.invokestatic 95, 3) := by decide +kernel
theorem dJ3_checkIndex_8e157_15 : decode cJ3_checkIndex_8e157 15 = .ok (.athrow, 1) := by decide +kernel
theorem dJ3_checkIndex_8e157_16 : decode cJ3_checkIndex_8e157 16 = .ok (.iload_n 0, 1) := by decide +kernel
theorem dJ3_checkIndex_8e157_17 : decode cJ3_checkIndex_8e157 17 = .ok (.ireturn, 1) := by decide +kernel
theorem dJ9_max_7cf53_0 : decode cJ9_max_7cf53 0 = .ok (.iload_n 0, 1) := by decide +kernel
theorem dJ9_max_7cf53_1 : decode cJ9_max_7cf53 1 = .ok (.iload_n 1, 1) := by decide +kernel
theorem dJ9_max_7cf53_2 : decode cJ9_max_7cf53 2 = .ok (.if_icmp .lt 7, 3) := by decide +kernel
theorem dJ9_max_7cf53_5 : decode cJ9_max_7cf53 5 = .ok (.iload_n 0, 1) := by decide +kernel
theorem dJ9_max_7cf53_6 : decode cJ9_max_7cf53 6 = .ok (.goto 4, 3) := by decide +kernel
theorem dJ9_max_7cf53_9 : decode cJ9_max_7cf53 9 = .ok (.iload_n 1, 1) := by decide +kernel
theorem dJ9_max_7cf53_10 : decode cJ9_max_7cf53 10 = .ok (.ireturn, 1) := by decide +kernel
theorem dJ9_min_7cf53_0 : decode cJ9_min_7cf53 0 = .ok (.iload_n 0, 1) := by decide +kernel
theorem dJ9_min_7cf53_1 : decode cJ9_min_7cf53 1 = .ok (.iload_n 1, 1) := by decide +kernel
theorem dJ9_min_7cf53_2 : decode cJ9_min_7cf53 2 = .ok (.if_icmp .gt 7, 3) := by decide +kernel
theorem dJ9_min_7cf53_5 : decode cJ9_min_7cf53 5 = .ok (.iload_n 0, 1) := by decide +kernel
theorem dJ9_min_7cf53_6 : decode cJ9_min_7cf53 6 = .ok (.goto 4, 3) := by decide +kernel
theorem dJ9_min_7cf53_9 : decode cJ9_min_7cf53 9 = .ok (.iload_n 1, 1) := by decide +kernel
theorem dJ9_min_7cf53_10 : decode cJ9_min_7cf53 10 = .ok (.ireturn, 1) := by decide +kernel
end
section
theorem dX8_init_0 : decode cX8_init 0 = .ok (.aload_n 0, 1) := by decide +kernel
theorem dX8_init_1 : decode cX8_init 1 = .ok (.invokespecial 3, 3) := by decide +kernel
theorem dX8_init_4 : decode cX8_init 4 = .ok (.aload_n 0, 1) := by decide +kernel
theorem dX8_init_5 : decode cX8_init 5 = .ok (.new 9, 3) := by decide +kernel
theorem dX8_init_8 : decode cX8_init 8 = .ok (.dup, 1) := by decide +kernel
theorem dX8_init_9 : decode cX8_init 9 = .ok (.invokespecial 11, 3) := by decide +kernel
theorem dX8_init_12 : decode cX8_init 12 = .ok (.putfield 12, 3) := by decide +kernel
theorem dX8_init_15 : decode cX8_init 15 = .ok (.aload_n 0, 1) := by decide +kernel
theorem dX8_init_16 : decode cX8_init 16 = .ok (.new 16, 3) := by decide +kernel
theorem dX8_init_19 : decode cX8_init 19 = .ok (.dup, 1) := by decide +kernel
theorem dX8_init_20 : decode cX8_init 20 = .ok (.invokespecial 18, 3) := by decide +kernel
theorem dX8_init_23 : decode cX8_init 23 = .ok (.putfield 19, 3) := by decide +kernel
theorem dX8_init_26 : decode cX8_init 26 = .ok (.aload_n 0, 1) := by decide +kernel
theorem dX8_init_27 : decode cX8_init 27 = .ok (.new 23, 3) := by decide +kernel
theorem dX8_init_30 : decode cX8_init 30 = .ok (.dup, 1) := by decide +kernel
theorem dX8_init_31 : decode cX8_init 31 = .ok (.invokespecial 25, 3) := by decide +kernel
theorem dX8_init_34 : decode cX8_init 34 = .ok (.putfield 26, 3) := by decide +kernel
theorem dX8_init_37 : decode cX8_init 37 = .ok (.aload_n 0, 1) := by decide +kernel
theorem dX8_init_38 : decode cX8_init 38 = .ok (.new 30, 3) := by decide +kernel
theorem dX8_init_41 : decode cX8_init 41 = .ok (.dup, 1) := by decide +kernel
theorem dX8_init_42 : decode cX8_init 42 = .ok (.invokespecial 32, 3) := by decide +kernel
theorem dX8_init_45 : decode cX8_init 45 = .ok (.putfield 33, 3) := by decide +kernel
theorem dX8_init_48 : decode cX8_init 48 = .ok (.aload_n 0, 1) := by decide +kernel
theorem dX8_init_49 : decode cX8_init 49 = .ok (.new 37, 3) := by decide +kernel
theorem dX8_init_52 : decode cX8_init 52 = .ok (.dup, 1) := by decide +kernel
theorem dX8_init_53 : decode cX8_init 53 = .ok (.invokespecial 39, 3) := by decide +kernel
theorem dX8_init_56 : decode cX8_init 56 = .ok (.putfield 40, 3) := by decide +kernel
theorem dX8_init_59 : decode cX8_init 59 = .ok (.aload_n 0, 1) := by decide +kernel
theorem dX8_init_60 : decode cX8_init 60 = .ok (.new 44, 3) := by decide +kernel
theorem dX8_init_63 : decode cX8_init 63 = .ok (.dup, 1) := by decide +kernel
theorem dX8_init_64 : decode cX8_init 64 = .ok (.invokespecial 46, 3) := by decide +kernel
theorem dX8_init_67 : decode cX8_init 67 = .ok (.putfield 47, 3) := by decide +kernel
theorem dX8_init_70 : decode cX8_init 70 = .ok (.aload_n 0, 1) := by decide +kernel
theorem dX8_init_71 : decode cX8_init 71 = .ok (.new 51, 3) := by decide +kernel
theorem dX8_init_74 : decode cX8_init 74 = .ok (.dup, 1) := by decide +kernel
theorem dX8_init_75 : decode cX8_init 75 = .ok (.invokespecial 53, 3) := by decide +kernel
theorem dX8_init_78 : decode cX8_init 78 = .ok (.putfield 54, 3) := by decide +kernel
theorem dX8_init_81 : decode cX8_init 81 = .ok (.aload_n 0, 1) := by decide +kernel
theorem dX8_init_82 : decode cX8_init 82 = .ok (.new 58, 3) := by decide +kernel
theorem dX8_init_85 : decode cX8_init 85 = .ok (.dup, 1) := by decide +kernel
theorem dX8_init_86 : decode cX8_init 86 = .ok (.invokespecial 60, 3) := by decide +kernel
theorem dX8_init_89 : decode cX8_init 89 = .ok (.putfield 61, 3) := by decide +kernel
theorem dX8_init_92 : decode cX8_init 92 = .ok (.return_, 1) := by decide +kernel
theorem dX8_feed_0 : decode cX8_feed 0 = .ok (.aload_n 0, 1) := by decide +kernel
theorem dX8_feed_1 : decode cX8_feed 1 = .ok (.getfield 12, 3) := by decide +kernel
theorem dX8_feed_4 : decode cX8_feed 4 = .ok (.bipush 20, 2) := by decide +kernel
theorem dX8_feed_6 : decode cX8_feed 6 = .ok (.invokevirtual 65, 3) := by decide +kernel
theorem dX8_feed_9 : decode cX8_feed 9 = .ok (.ifCond .ne 5, 3) := by decide +kernel
theorem dX8_feed_12 : decode cX8_feed 12 = .ok (.iconst (-1), 1) := by decide +kernel
theorem dX8_feed_13 : decode cX8_feed 13 = .ok (.ireturn, 1) := by decide +kernel
theorem dX8_feed_14 : decode cX8_feed 14 = .ok (.aload_n 0, 1) := by decide +kernel
theorem dX8_feed_15 : decode cX8_feed 15 = .ok (.getfield 12, 3) := by decide +kernel
theorem dX8_feed_18 : decode cX8_feed 18 = .ok (.iload_n 1, 1) := by decide +kernel
theorem dX8_feed_19 : decode cX8_feed 19 = .ok (.invokevirtual 69, 3) := by decide +kernel
theorem dX8_feed_22 : decode cX8_feed 22 = .ok (.aload_n 0, 1) := by decide +kernel
theorem dX8_feed_23 : decode cX8_feed 23 = .ok (.getfield 12, 3) := by decide +kernel
theorem dX8_feed_26 : decode cX8_feed 26 = .ok (.iload_n 2, 1) := by decide +kernel
theorem dX8_feed_27 : decode cX8_feed 27 = .ok (.invokevirtual 69, 3) := by decide +kernel
theorem dX8_feed_30 : decode cX8_feed 30 = .ok (.aload_n 0, 1) := by decide +kernel
theorem dX8_feed_31 : decode cX8_feed 31 = .ok (.getfield 12, 3) := by decide +kernel
theorem dX8_feed_34 : decode cX8_feed 34 = .ok (.iload_n 3, 1) := by decide +kernel
theorem dX8_feed_35 : decode cX8_feed 35 = .ok (.invokevirtual 69, 3) := by decide +kernel
theorem dX8_feed_38 : decode cX8_feed 38 = .ok (.aload_n 0, 1) := by decide +kernel
theorem dX8_feed_39 : decode cX8_feed 39 = .ok (.getfield 12, 3) := by decide +kernel
theorem dX8_feed_42 : decode cX8_feed 42 = .ok (.iload 4, 2) := by decide +kernel
theorem dX8_feed_44 : decode cX8_feed 44 = .ok (.invokevirtual 69, 3) := by decide +kernel
theorem dX8_feed_47 : decode cX8_feed 47 = .ok (.aload_n 0, 1) := by decide +kernel
theorem dX8_feed_48 : decode cX8_feed 48 = .ok (.getfield 12, 3) := by decide +kernel
theorem dX8_feed_51 : decode cX8_feed 51 = .ok (.iload 5, 2) := by decide +kernel
theorem dX8_feed_53 : decode cX8_feed 53 = .ok (.invokevirtual 69, 3) := by decide +kernel
theorem dX8_feed_56 : decode cX8_feed 56 = .ok (.aload_n 0, 1) := by decide +kernel
theorem dX8_feed_57 : decode cX8_feed 57 = .ok (.getfield 12, 3) := by decide +kernel
theorem dX8_feed_60 : decode cX8_feed 60 = .ok (.getfield 73, 3) := by decide +kernel
theorem dX8_feed_63 : decode cX8_feed 63 = .ok (.ireturn, 1) := by decide +kernel
theorem dX8_customs_0 : decode cX8_customs 0 = .ok (.iload_n 1, 1) := by decide +kernel
theorem dX8_customs_1 : decode cX8_customs 1 = .ok (.ifCond .lt 14, 3) := by decide +kernel
theorem dX8_customs_4 : decode cX8_customs 4 = .ok (.iload_n 1, 1) := by decide +kernel
theorem dX8_customs_5 : decode cX8_customs 5 = .ok (.aload_n 0, 1) := by decide +kernel
theorem dX8_customs_6 : decode cX8_customs 6 = .ok (.getfield 12, 3) := by decide +kernel
theorem dX8_customs_9 : decode cX8_customs 9 = .ok (.getfield 73, 3) := by decide +kernel
theorem dX8_customs_12 : decode cX8_customs 12 = .ok (.if_icmp .le 6, 3) := by decide +kernel
theorem dX8_customs_15 : decode cX8_customs 15 = .ok (.bipush (-2), 2) := by decide +kernel
theorem dX8_customs_17 : decode cX8_customs 17 = .ok (.ireturn, 1) := by decide +kernel
theorem dX8_customs_18 : decode cX8_customs 18 = .ok (.aload_n 0, 1) := by decide +kernel
theorem dX8_customs_19 : decode cX8_customs 19 = .ok (.getfield 19, 3) := by decide +kernel
theorem dX8_customs_22 : decode cX8_customs 22 = .ok (.aload_n 0, 1) := by decide +kernel
theorem dX8_customs_23 : decode cX8_customs 23 = .ok (.getfield 12, 3) := by decide +kernel
theorem dX8_customs_26 : decode cX8_customs 26 = .ok (.iload_n 1, 1) := by decide +kernel
theorem dX8_customs_27 : decode cX8_customs 27 = .ok (.invokevirtual 77, 3) := by decide +kernel
theorem dX8_customs_30 : decode cX8_customs 30 = .ok (.istore_n 2, 1) := by decide +kernel
theorem dX8_customs_31 : decode cX8_customs 31 = .ok (.aload_n 0, 1) := by decide +kernel
theorem dX8_customs_32 : decode cX8_customs 32 = .ok (.getfield 12, 3) := by decide +kernel
theorem dX8_customs_35 : decode cX8_customs 35 = .ok (.iconst 0, 1) := by decide +kernel
theorem dX8_customs_36 : decode cX8_customs 36 = .ok (.putfield 73, 3) := by decide +kernel
theorem dX8_customs_39 : decode cX8_customs 39 = .ok (.iload_n 2, 1) := by decide +kernel
theorem dX8_customs_40 : decode cX8_customs 40 = .ok (.ireturn, 1) := by decide +kernel
theorem dX8_fault_0 : decode cX8_fault 0 = .ok (.iload_n 1, 1) := by decide +kernel
theorem dX8_fault_1 : decode cX8_fault 1 = .ok (.lookupswitch 43 #[(0, 27), (1, 35)], 27) := by decide +kernel
theorem dX8_fault_28 : decode cX8_fault 28 = .ok (.aload_n 0, 1) := by decide +kernel
theorem dX8_fault_29 : decode cX8_fault 29 = .ok (.getfield 19, 3) := by decide +kernel
theorem dX8_fault_32 : decode cX8_fault 32 = .ok (.getfield 81, 3) := by decide +kernel
theorem dX8_fault_35 : decode cX8_fault 35 = .ok (.ireturn, 1) := by decide +kernel
theorem dX8_fault_36 : decode cX8_fault 36 = .ok (.aload_n 0, 1) := by decide +kernel
theorem dX8_fault_37 : decode cX8_fault 37 = .ok (.getfield 19, 3) := by decide +kernel
theorem dX8_fault_40 : decode cX8_fault 40 = .ok (.getfield 84, 3) := by decide +kernel
theorem dX8_fault_43 : decode cX8_fault 43 = .ok (.ireturn, 1) := by decide +kernel
theorem dX8_fault_44 : decode cX8_fault 44 = .ok (.iconst (-1), 1) := by decide +kernel
theorem dX8_fault_45 : decode cX8_fault 45 = .ok (.ireturn, 1) := by decide +kernel
theorem dX8_farm_0 : decode cX8_farm 0 = .ok (.iload_n 1, 1) := by decide +kernel
theorem dX8_farm_1 : decode cX8_farm 1 = .ok (.iconst 1, 1) := by decide +kernel
theorem dX8_farm_2 : decode cX8_farm 2 = .ok (.sipush 300, 3) := by decide +kernel
theorem dX8_farm_5 : decode cX8_farm 5 = .ok (.invokestatic 87, 3) := by decide +kernel
theorem dX8_farm_8 : decode cX8_farm 8 = .ok (.ifCond .eq 61, 3) := by decide +kernel
theorem dX8_farm_11 : decode cX8_farm 11 = .ok (.iload_n 2, 1) := by decide +kernel
theorem dX8_farm_12 : decode cX8_farm 12 = .ok (.iconst 0, 1) := by decide +kernel
theorem dX8_farm_13 : decode cX8_farm 13 = .ok (.bipush 9, 2) := by decide +kernel
theorem dX8_farm_15 : decode cX8_farm 15 = .ok (.invokestatic 87, 3) := by decide +kernel
theorem dX8_farm_18 : decode cX8_farm 18 = .ok (.ifCond .eq 51, 3) := by decide +kernel
theorem dX8_farm_21 : decode cX8_farm 21 = .ok (.iload_n 3, 1) := by decide +kernel
theorem dX8_farm_22 : decode cX8_farm 22 = .ok (.iconst 0, 1) := by decide +kernel
theorem dX8_farm_23 : decode cX8_farm 23 = .ok (.bipush 12, 2) := by decide +kernel
theorem dX8_farm_25 : decode cX8_farm 25 = .ok (.invokestatic 87, 3) := by decide +kernel
theorem dX8_farm_28 : decode cX8_farm 28 = .ok (.ifCond .eq 41, 3) := by decide +kernel
theorem dX8_farm_31 : decode cX8_farm 31 = .ok (.iload 4, 2) := by decide +kernel
theorem dX8_farm_33 : decode cX8_farm 33 = .ok (.iconst 0, 1) := by decide +kernel
theorem dX8_farm_34 : decode cX8_farm 34 = .ok (.bipush 12, 2) := by decide +kernel
theorem dX8_farm_36 : decode cX8_farm 36 = .ok (.invokestatic 87, 3) := by decide +kernel
theorem dX8_farm_39 : decode cX8_farm 39 = .ok (.ifCond .eq 30, 3) := by decide +kernel
theorem dX8_farm_42 : decode cX8_farm 42 = .ok (.iload 5, 2) := by decide +kernel
theorem dX8_farm_44 : decode cX8_farm 44 = .ok (.iconst 0, 1) := by decide +kernel
theorem dX8_farm_45 : decode cX8_farm 45 = .ok (.bipush 99, 2) := by decide +kernel
theorem dX8_farm_47 : decode cX8_farm 47 = .ok (.invokestatic 87, 3) := by decide +kernel
theorem dX8_farm_50 : decode cX8_farm 50 = .ok (.ifCond .eq 19, 3) := by decide +kernel
theorem dX8_farm_53 : decode cX8_farm 53 = .ok (.iload 6, 2) := by decide +kernel
theorem dX8_farm_55 : decode cX8_farm 55 = .ok (.iload 5, 2) := by decide +kernel
theorem dX8_farm_57 : decode cX8_farm 57 = .ok (.bipush 99, 2) := by decide +kernel
theorem dX8_farm_59 : decode cX8_farm 59 = .ok (.invokestatic 87, 3) := by decide +kernel
theorem dX8_farm_62 : decode cX8_farm 62 = .ok (.ifCond .eq 7, 3) := by decide +kernel
theorem dX8_farm_65 : decode cX8_farm 65 = .ok (.iconst 1, 1) := by decide +kernel
theorem dX8_farm_66 : decode cX8_farm 66 = .ok (.goto 4, 3) := by decide +kernel
theorem dX8_farm_69 : decode cX8_farm 69 = .ok (.iconst 0, 1) := by decide +kernel
theorem dX8_farm_70 : decode cX8_farm 70 = .ok (.istore 7, 2) := by decide +kernel
theorem dX8_farm_72 : decode cX8_farm 72 = .ok (.iload 7, 2) := by decide +kernel
theorem dX8_farm_74 : decode cX8_farm 74 = .ok (.ifCond .eq 15, 3) := by decide +kernel
theorem dX8_farm_77 : decode cX8_farm 77 = .ok (.aload_n 0, 1) := by decide +kernel
theorem dX8_farm_78 : decode cX8_farm 78 = .ok (.getfield 26, 3) := by decide +kernel
theorem dX8_farm_81 : decode cX8_farm 81 = .ok (.getfield 91, 3) := by decide +kernel
theorem dX8_farm_84 : decode cX8_farm 84 = .ok (.bipush 7, 2) := by decide +kernel
theorem dX8_farm_86 : decode cX8_farm 86 = .ok (.if_icmp .lt 5, 3) := by decide +kernel
theorem dX8_farm_89 : decode cX8_farm 89 = .ok (.iconst (-1), 1) := by decide +kernel
theorem dX8_farm_90 : decode cX8_farm 90 = .ok (.ireturn, 1) := by decide +kernel
theorem dX8_farm_91 : decode cX8_farm 91 = .ok (.aload_n 0, 1) := by decide +kernel
theorem dX8_farm_92 : decode cX8_farm 92 = .ok (.getfield 26, 3) := by decide +kernel
theorem dX8_farm_95 : decode cX8_farm 95 = .ok (.invokevirtual 94, 3) := by decide +kernel
theorem dX8_farm_98 : decode cX8_farm 98 = .ok (.istore 8, 2) := by decide +kernel
theorem dX8_farm_100 : decode cX8_farm 100 = .ok (.aload_n 0, 1) := by decide +kernel
theorem dX8_farm_101 : decode cX8_farm 101 = .ok (.getfield 26, 3) := by decide +kernel
theorem dX8_farm_104 : decode cX8_farm 104 = .ok (.getfield 98, 3) := by decide +kernel
theorem dX8_farm_107 : decode cX8_farm 107 = .ok (.iload 8, 2) := by decide +kernel
theorem dX8_farm_109 : decode cX8_farm 109 = .ok (.iload_n 1, 1) := by decide +kernel
theorem dX8_farm_110 : decode cX8_farm 110 = .ok (.invokestatic 102, 3) := by decide +kernel
theorem dX8_farm_113 : decode cX8_farm 113 = .ok (.aload_n 0, 1) := by decide +kernel
theorem dX8_farm_114 : decode cX8_farm 114 = .ok (.getfield 26, 3) := by decide +kernel
theorem dX8_farm_117 : decode cX8_farm 117 = .ok (.getfield 106, 3) := by decide +kernel
theorem dX8_farm_120 : decode cX8_farm 120 = .ok (.iload 8, 2) := by decide +kernel
theorem dX8_farm_122 : decode cX8_farm 122 = .ok (.iload_n 1, 1) := by decide +kernel
theorem dX8_farm_123 : decode cX8_farm 123 = .ok (.invokestatic 102, 3) := by decide +kernel
theorem dX8_farm_126 : decode cX8_farm 126 = .ok (.aload_n 0, 1) := by decide +kernel
theorem dX8_farm_127 : decode cX8_farm 127 = .ok (.getfield 26, 3) := by decide +kernel
theorem dX8_farm_130 : decode cX8_farm 130 = .ok (.getfield 109, 3) := by decide +kernel
theorem dX8_farm_133 : decode cX8_farm 133 = .ok (.iload 8, 2) := by decide +kernel
theorem dX8_farm_135 : decode cX8_farm 135 = .ok (.iload_n 2, 1) := by decide +kernel
theorem dX8_farm_136 : decode cX8_farm 136 = .ok (.invokestatic 102, 3) := by decide +kernel
theorem dX8_farm_139 : decode cX8_farm 139 = .ok (.aload_n 0, 1) := by decide +kernel
theorem dX8_farm_140 : decode cX8_farm 140 = .ok (.getfield 26, 3) := by decide +kernel
theorem dX8_farm_143 : decode cX8_farm 143 = .ok (.getfield 112, 3) := by decide +kernel
theorem dX8_farm_146 : decode cX8_farm 146 = .ok (.iload 8, 2) := by decide +kernel
theorem dX8_farm_148 : decode cX8_farm 148 = .ok (.iload_n 3, 1) := by decide +kernel
theorem dX8_farm_149 : decode cX8_farm 149 = .ok (.invokestatic 102, 3) := by decide +kernel
theorem dX8_farm_152 : decode cX8_farm 152 = .ok (.aload_n 0, 1) := by decide +kernel
theorem dX8_farm_153 : decode cX8_farm 153 = .ok (.getfield 26, 3) := by decide +kernel
theorem dX8_farm_156 : decode cX8_farm 156 = .ok (.getfield 115, 3) := by decide +kernel
theorem dX8_farm_159 : decode cX8_farm 159 = .ok (.iload 8, 2) := by decide +kernel
theorem dX8_farm_161 : decode cX8_farm 161 = .ok (.iload 4, 2) := by decide +kernel
theorem dX8_farm_163 : decode cX8_farm 163 = .ok (.invokestatic 102, 3) := by decide +kernel
theorem dX8_farm_166 : decode cX8_farm 166 = .ok (.aload_n 0, 1) := by decide +kernel
theorem dX8_farm_167 : decode cX8_farm 167 = .ok (.getfield 26, 3) := by decide +kernel
theorem dX8_farm_170 : decode cX8_farm 170 = .ok (.getfield 118, 3) := by decide +kernel
theorem dX8_farm_173 : decode cX8_farm 173 = .ok (.iload 8, 2) := by decide +kernel
theorem dX8_farm_175 : decode cX8_farm 175 = .ok (.iload 5, 2) := by decide +kernel
theorem dX8_farm_177 : decode cX8_farm 177 = .ok (.invokestatic 102, 3) := by decide +kernel
theorem dX8_farm_180 : decode cX8_farm 180 = .ok (.aload_n 0, 1) := by decide +kernel
theorem dX8_farm_181 : decode cX8_farm 181 = .ok (.getfield 26, 3) := by decide +kernel
theorem dX8_farm_184 : decode cX8_farm 184 = .ok (.getfield 121, 3) := by decide +kernel
theorem dX8_farm_187 : decode cX8_farm 187 = .ok (.iload 8, 2) := by decide +kernel
theorem dX8_farm_189 : decode cX8_farm 189 = .ok (.iload 6, 2) := by decide +kernel
theorem dX8_farm_191 : decode cX8_farm 191 = .ok (.invokestatic 102, 3) := by decide +kernel
theorem dX8_farm_194 : decode cX8_farm 194 = .ok (.iload 8, 2) := by decide +kernel
theorem dX8_farm_196 : decode cX8_farm 196 = .ok (.ireturn, 1) := by decide +kernel
theorem dX8_way_0 : decode cX8_way 0 = .ok (.aload_n 0, 1) := by decide +kernel
theorem dX8_way_1 : decode cX8_way 1 = .ok (.iload_n 1, 1) := by decide +kernel
theorem dX8_way_2 : decode cX8_way 2 = .ok (.invokevirtual 124, 3) := by decide +kernel
theorem dX8_way_5 : decode cX8_way 5 = .ok (.ifCond .eq 26, 3) := by decide +kernel
theorem dX8_way_8 : decode cX8_way 8 = .ok (.aload_n 0, 1) := by decide +kernel
theorem dX8_way_9 : decode cX8_way 9 = .ok (.iload_n 2, 1) := by decide +kernel
theorem dX8_way_10 : decode cX8_way 10 = .ok (.invokevirtual 124, 3) := by decide +kernel
theorem dX8_way_13 : decode cX8_way 13 = .ok (.ifCond .eq 18, 3) := by decide +kernel
theorem dX8_way_16 : decode cX8_way 16 = .ok (.iload_n 1, 1) := by decide +kernel
theorem dX8_way_17 : decode cX8_way 17 = .ok (.iload_n 2, 1) := by decide +kernel
theorem dX8_way_18 : decode cX8_way 18 = .ok (.if_icmp .eq 13, 3) := by decide +kernel
theorem dX8_way_21 : decode cX8_way 21 = .ok (.iload_n 3, 1) := by decide +kernel
theorem dX8_way_22 : decode cX8_way 22 = .ok (.iconst (-1), 1) := by decide +kernel
theorem dX8_way_23 : decode cX8_way 23 = .ok (.bipush 9, 2) := by decide +kernel
theorem dX8_way_25 : decode cX8_way 25 = .ok (.invokestatic 87, 3) := by decide +kernel
theorem dX8_way_28 : decode cX8_way 28 = .ok (.ifCond .ne 5, 3) := by decide +kernel
theorem dX8_way_31 : decode cX8_way 31 = .ok (.iconst 0, 1) := by decide +kernel
theorem dX8_way_32 : decode cX8_way 32 = .ok (.ireturn, 1) := by decide +kernel
theorem dX8_way_33 : decode cX8_way 33 = .ok (.aload_n 0, 1) := by decide +kernel
theorem dX8_way_34 : decode cX8_way 34 = .ok (.getfield 33, 3) := by decide +kernel
theorem dX8_way_37 : decode cX8_way 37 = .ok (.getfield 127, 3) := by decide +kernel
theorem dX8_way_40 : decode cX8_way 40 = .ok (.iload_n 1, 1) := by decide +kernel
theorem dX8_way_41 : decode cX8_way 41 = .ok (.iload_n 2, 1) := by decide +kernel
theorem dX8_way_42 : decode cX8_way 42 = .ok (.iload_n 3, 1) := by decide +kernel
theorem dX8_way_43 : decode cX8_way 43 = .ok (.invokestatic 131, 3) := by decide +kernel
theorem dX8_way_46 : decode cX8_way 46 = .ok (.aload_n 0, 1) := by decide +kernel
theorem dX8_way_47 : decode cX8_way 47 = .ok (.getfield 33, 3) := by decide +kernel
theorem dX8_way_50 : decode cX8_way 50 = .ok (.getfield 127, 3) := by decide +kernel
theorem dX8_way_53 : decode cX8_way 53 = .ok (.iload_n 2, 1) := by decide +kernel
theorem dX8_way_54 : decode cX8_way 54 = .ok (.iload_n 1, 1) := by decide +kernel
theorem dX8_way_55 : decode cX8_way 55 = .ok (.iload_n 3, 1) := by decide +kernel
theorem dX8_way_56 : decode cX8_way 56 = .ok (.invokestatic 131, 3) := by decide +kernel
theorem dX8_way_59 : decode cX8_way 59 = .ok (.iconst 1, 1) := by decide +kernel
theorem dX8_way_60 : decode cX8_way 60 = .ok (.ireturn, 1) := by decide +kernel
theorem dX8_bargain_0 : decode cX8_bargain 0 = .ok (.aload_n 0, 1) := by decide +kernel
theorem dX8_bargain_1 : decode cX8_bargain 1 = .ok (.getfield 26, 3) := by decide +kernel
theorem dX8_bargain_4 : decode cX8_bargain 4 = .ok (.iload_n 1, 1) := by decide +kernel
theorem dX8_bargain_5 : decode cX8_bargain 5 = .ok (.invokevirtual 134, 3) := by decide +kernel
theorem dX8_bargain_8 : decode cX8_bargain 8 = .ok (.ifCond .eq 23, 3) := by decide +kernel
theorem dX8_bargain_11 : decode cX8_bargain 11 = .ok (.iload_n 2, 1) := by decide +kernel
theorem dX8_bargain_12 : decode cX8_bargain 12 = .ok (.iconst 0, 1) := by decide +kernel
theorem dX8_bargain_13 : decode cX8_bargain 13 = .ok (.iconst 1, 1) := by decide +kernel
theorem dX8_bargain_14 : decode cX8_bargain 14 = .ok (.invokestatic 87, 3) := by decide +kernel
theorem dX8_bargain_17 : decode cX8_bargain 17 = .ok (.ifCond .eq 14, 3) := by decide +kernel
theorem dX8_bargain_20 : decode cX8_bargain 20 = .ok (.iload_n 3, 1) := by decide +kernel
theorem dX8_bargain_21 : decode cX8_bargain 21 = .ok (.iconst 0, 1) := by decide +kernel
theorem dX8_bargain_22 : decode cX8_bargain 22 = .ok (.sipush 999, 3) := by decide +kernel
theorem dX8_bargain_25 : decode cX8_bargain 25 = .ok (.invokestatic 87, 3) := by decide +kernel
theorem dX8_bargain_28 : decode cX8_bargain 28 = .ok (.ifCond .ne 5, 3) := by decide +kernel
theorem dX8_bargain_31 : decode cX8_bargain 31 = .ok (.iconst 0, 1) := by decide +kernel
theorem dX8_bargain_32 : decode cX8_bargain 32 = .ok (.ireturn, 1) := by decide +kernel
theorem dX8_bargain_33 : decode cX8_bargain 33 = .ok (.aload_n 0, 1) := by decide +kernel
theorem dX8_bargain_34 : decode cX8_bargain 34 = .ok (.getfield 26, 3) := by decide +kernel
theorem dX8_bargain_37 : decode cX8_bargain 37 = .ok (.getfield 137, 3) := by decide +kernel
theorem dX8_bargain_40 : decode cX8_bargain 40 = .ok (.iload_n 1, 1) := by decide +kernel
theorem dX8_bargain_41 : decode cX8_bargain 41 = .ok (.iload_n 2, 1) := by decide +kernel
theorem dX8_bargain_42 : decode cX8_bargain 42 = .ok (.invokestatic 102, 3) := by decide +kernel
theorem dX8_bargain_45 : decode cX8_bargain 45 = .ok (.aload_n 0, 1) := by decide +kernel
theorem dX8_bargain_46 : decode cX8_bargain 46 = .ok (.getfield 26, 3) := by decide +kernel
theorem dX8_bargain_49 : decode cX8_bargain 49 = .ok (.getfield 140, 3) := by decide +kernel
theorem dX8_bargain_52 : decode cX8_bargain 52 = .ok (.iload_n 1, 1) := by decide +kernel
theorem dX8_bargain_53 : decode cX8_bargain 53 = .ok (.iload_n 3, 1) := by decide +kernel
theorem dX8_bargain_54 : decode cX8_bargain 54 = .ok (.invokestatic 102, 3) := by decide +kernel
theorem dX8_bargain_57 : decode cX8_bargain 57 = .ok (.iconst 1, 1) := by decide +kernel
theorem dX8_bargain_58 : decode cX8_bargain 58 = .ok (.ireturn, 1) := by decide +kernel
theorem dX8_plan_0 : decode cX8_plan 0 = .ok (.aload_n 0, 1) := by decide +kernel
theorem dX8_plan_1 : decode cX8_plan 1 = .ok (.getfield 61, 3) := by decide +kernel
theorem dX8_plan_4 : decode cX8_plan 4 = .ok (.getfield 143, 3) := by decide +kernel
theorem dX8_plan_7 : decode cX8_plan 7 = .ok (.ifCond .le 5, 3) := by decide +kernel
theorem dX8_plan_10 : decode cX8_plan 10 = .ok (.iconst (-1), 1) := by decide +kernel
theorem dX8_plan_11 : decode cX8_plan 11 = .ok (.ireturn, 1) := by decide +kernel
theorem dX8_plan_12 : decode cX8_plan 12 = .ok (.aload_n 0, 1) := by decide +kernel
theorem dX8_plan_13 : decode cX8_plan 13 = .ok (.invokevirtual 146, 3) := by decide +kernel
theorem dX8_plan_16 : decode cX8_plan 16 = .ok (.aload_n 0, 1) := by decide +kernel
theorem dX8_plan_17 : decode cX8_plan 17 = .ok (.getfield 47, 3) := by decide +kernel
theorem dX8_plan_20 : decode cX8_plan 20 = .ok (.aload_n 0, 1) := by decide +kernel
theorem dX8_plan_21 : decode cX8_plan 21 = .ok (.getfield 33, 3) := by decide +kernel
theorem dX8_plan_24 : decode cX8_plan 24 = .ok (.aload_n 0, 1) := by decide +kernel
theorem dX8_plan_25 : decode cX8_plan 25 = .ok (.getfield 61, 3) := by decide +kernel
theorem dX8_plan_28 : decode cX8_plan 28 = .ok (.getfield 149, 3) := by decide +kernel
theorem dX8_plan_31 : decode cX8_plan 31 = .ok (.aload_n 0, 1) := by decide +kernel
theorem dX8_plan_32 : decode cX8_plan 32 = .ok (.getfield 61, 3) := by decide +kernel
theorem dX8_plan_35 : decode cX8_plan 35 = .ok (.getfield 152, 3) := by decide +kernel
theorem dX8_plan_38 : decode cX8_plan 38 = .ok (.invokevirtual 155, 3) := by decide +kernel
theorem dX8_plan_41 : decode cX8_plan 41 = .ok (.ifCond .ne 5, 3) := by decide +kernel
theorem dX8_plan_44 : decode cX8_plan 44 = .ok (.iconst (-1), 1) := by decide +kernel
theorem dX8_plan_45 : decode cX8_plan 45 = .ok (.ireturn, 1) := by decide +kernel
theorem dX8_plan_46 : decode cX8_plan 46 = .ok (.aload_n 0, 1) := by decide +kernel
theorem dX8_plan_47 : decode cX8_plan 47 = .ok (.getfield 54, 3) := by decide +kernel
theorem dX8_plan_50 : decode cX8_plan 50 = .ok (.aload_n 0, 1) := by decide +kernel
theorem dX8_plan_51 : decode cX8_plan 51 = .ok (.getfield 47, 3) := by decide +kernel
theorem dX8_plan_54 : decode cX8_plan 54 = .ok (.aload_n 0, 1) := by decide +kernel
theorem dX8_plan_55 : decode cX8_plan 55 = .ok (.getfield 33, 3) := by decide +kernel
theorem dX8_plan_58 : decode cX8_plan 58 = .ok (.aload_n 0, 1) := by decide +kernel
theorem dX8_plan_59 : decode cX8_plan 59 = .ok (.getfield 61, 3) := by decide +kernel
theorem dX8_plan_62 : decode cX8_plan 62 = .ok (.getfield 149, 3) := by decide +kernel
theorem dX8_plan_65 : decode cX8_plan 65 = .ok (.aload_n 0, 1) := by decide +kernel
theorem dX8_plan_66 : decode cX8_plan 66 = .ok (.getfield 61, 3) := by decide +kernel
theorem dX8_plan_69 : decode cX8_plan 69 = .ok (.getfield 152, 3) := by decide +kernel
theorem dX8_plan_72 : decode cX8_plan 72 = .ok (.invokevirtual 159, 3) := by decide +kernel
theorem dX8_plan_75 : decode cX8_plan 75 = .ok (.aload_n 0, 1) := by decide +kernel
theorem dX8_plan_76 : decode cX8_plan 76 = .ok (.getfield 61, 3) := by decide +kernel
theorem dX8_plan_79 : decode cX8_plan 79 = .ok (.iconst 0, 1) := by decide +kernel
theorem dX8_plan_80 : decode cX8_plan 80 = .ok (.putfield 163, 3) := by decide +kernel
theorem dX8_plan_83 : decode cX8_plan 83 = .ok (.aload_n 0, 1) := by decide +kernel
theorem dX8_plan_84 : decode cX8_plan 84 = .ok (.getfield 47, 3) := by decide +kernel
theorem dX8_plan_87 : decode cX8_plan 87 = .ok (.getfield 167, 3) := by decide +kernel
theorem dX8_plan_90 : decode cX8_plan 90 = .ok (.ireturn, 1) := by decide +kernel
theorem dX8_planned_0 : decode cX8_planned 0 = .ok (.iload_n 1, 1) := by decide +kernel
theorem dX8_planned_1 : decode cX8_planned 1 = .ok (.iconst 0, 1) := by decide +kernel
theorem dX8_planned_2 : decode cX8_planned 2 = .ok (.aload_n 0, 1) := by decide +kernel
theorem dX8_planned_3 : decode cX8_planned 3 = .ok (.getfield 54, 3) := by decide +kernel
theorem dX8_planned_6 : decode cX8_planned 6 = .ok (.getfield 170, 3) := by decide +kernel
theorem dX8_planned_9 : decode cX8_planned 9 = .ok (.iconst 1, 1) := by decide +kernel
theorem dX8_planned_10 : decode cX8_planned 10 = .ok (.isub, 1) := by decide +kernel
theorem dX8_planned_11 : decode cX8_planned 11 = .ok (.invokestatic 87, 3) := by decide +kernel
theorem dX8_planned_14 : decode cX8_planned 14 = .ok (.ifCond .ne 5, 3) := by decide +kernel
theorem dX8_planned_17 : decode cX8_planned 17 = .ok (.iconst (-1), 1) := by decide +kernel
theorem dX8_planned_18 : decode cX8_planned 18 = .ok (.ireturn, 1) := by decide +kernel
theorem dX8_planned_19 : decode cX8_planned 19 = .ok (.iload_n 2, 1) := by decide +kernel
theorem dX8_planned_20 : decode cX8_planned 20 = .ok (.tableswitch 96 0 4 #[36, 48, 60, 72, 84], 36) := by decide +kernel
theorem dX8_planned_56 : decode cX8_planned 56 = .ok (.aload_n 0, 1) := by decide +kernel
theorem dX8_planned_57 : decode cX8_planned 57 = .ok (.getfield 54, 3) := by decide +kernel
theorem dX8_planned_60 : decode cX8_planned 60 = .ok (.getfield 171, 3) := by decide +kernel
theorem dX8_planned_63 : decode cX8_planned 63 = .ok (.iload_n 1, 1) := by decide +kernel
theorem dX8_planned_64 : decode cX8_planned 64 = .ok (.invokestatic 174, 3) := by decide +kernel
theorem dX8_planned_67 : decode cX8_planned 67 = .ok (.ireturn, 1) := by decide +kernel
theorem dX8_planned_68 : decode cX8_planned 68 = .ok (.aload_n 0, 1) := by decide +kernel
theorem dX8_planned_69 : decode cX8_planned 69 = .ok (.getfield 54, 3) := by decide +kernel
theorem dX8_planned_72 : decode cX8_planned 72 = .ok (.getfield 178, 3) := by decide +kernel
theorem dX8_planned_75 : decode cX8_planned 75 = .ok (.iload_n 1, 1) := by decide +kernel
theorem dX8_planned_76 : decode cX8_planned 76 = .ok (.invokestatic 174, 3) := by decide +kernel
theorem dX8_planned_79 : decode cX8_planned 79 = .ok (.ireturn, 1) := by decide +kernel
theorem dX8_planned_80 : decode cX8_planned 80 = .ok (.aload_n 0, 1) := by decide +kernel
theorem dX8_planned_81 : decode cX8_planned 81 = .ok (.getfield 54, 3) := by decide +kernel
theorem dX8_planned_84 : decode cX8_planned 84 = .ok (.getfield 181, 3) := by decide +kernel
theorem dX8_planned_87 : decode cX8_planned 87 = .ok (.iload_n 1, 1) := by decide +kernel
theorem dX8_planned_88 : decode cX8_planned 88 = .ok (.invokestatic 174, 3) := by decide +kernel
theorem dX8_planned_91 : decode cX8_planned 91 = .ok (.ireturn, 1) := by decide +kernel
theorem dX8_planned_92 : decode cX8_planned 92 = .ok (.aload_n 0, 1) := by decide +kernel
theorem dX8_planned_93 : decode cX8_planned 93 = .ok (.getfield 54, 3) := by decide +kernel
theorem dX8_planned_96 : decode cX8_planned 96 = .ok (.getfield 184, 3) := by decide +kernel
theorem dX8_planned_99 : decode cX8_planned 99 = .ok (.iload_n 1, 1) := by decide +kernel
theorem dX8_planned_100 : decode cX8_planned 100 = .ok (.invokestatic 174, 3) := by decide +kernel
theorem dX8_planned_103 : decode cX8_planned 103 = .ok (.ireturn, 1) := by decide +kernel
theorem dX8_planned_104 : decode cX8_planned 104 = .ok (.aload_n 0, 1) := by decide +kernel
theorem dX8_planned_105 : decode cX8_planned 105 = .ok (.getfield 54, 3) := by decide +kernel
theorem dX8_planned_108 : decode cX8_planned 108 = .ok (.getfield 187, 3) := by decide +kernel
theorem dX8_planned_111 : decode cX8_planned 111 = .ok (.iload_n 1, 1) := by decide +kernel
theorem dX8_planned_112 : decode cX8_planned 112 = .ok (.invokestatic 174, 3) := by decide +kernel
theorem dX8_planned_115 : decode cX8_planned 115 = .ok (.ireturn, 1) := by decide +kernel
theorem dX8_planned_116 : decode cX8_planned 116 = .ok (.iconst (-1), 1) := by decide +kernel
theorem dX8_planned_117 : decode cX8_planned 117 = .ok (.ireturn, 1) := by decide +kernel
theorem dX8_out_0 : decode cX8_out 0 = .ok (.aload_n 0, 1) := by decide +kernel
theorem dX8_out_1 : decode cX8_out 1 = .ok (.getfield 54, 3) := by decide +kernel
theorem dX8_out_4 : decode cX8_out 4 = .ok (.getfield 170, 3) := by decide +kernel
theorem dX8_out_7 : decode cX8_out 7 = .ok (.ifCond .eq 30, 3) := by decide +kernel
theorem dX8_out_10 : decode cX8_out 10 = .ok (.aload_n 0, 1) := by decide +kernel
theorem dX8_out_11 : decode cX8_out 11 = .ok (.getfield 54, 3) := by decide +kernel
theorem dX8_out_14 : decode cX8_out 14 = .ok (.getfield 190, 3) := by decide +kernel
theorem dX8_out_17 : decode cX8_out 17 = .ok (.ifCond .ne 20, 3) := by decide +kernel
theorem dX8_out_20 : decode cX8_out 20 = .ok (.aload_n 0, 1) := by decide +kernel
theorem dX8_out_21 : decode cX8_out 21 = .ok (.getfield 54, 3) := by decide +kernel
theorem dX8_out_24 : decode cX8_out 24 = .ok (.getfield 193, 3) := by decide +kernel
theorem dX8_out_27 : decode cX8_out 27 = .ok (.aload_n 0, 1) := by decide +kernel
theorem dX8_out_28 : decode cX8_out 28 = .ok (.getfield 61, 3) := by decide +kernel
theorem dX8_out_31 : decode cX8_out 31 = .ok (.getfield 152, 3) := by decide +kernel
theorem dX8_out_34 : decode cX8_out 34 = .ok (.if_icmp .eq 5, 3) := by decide +kernel
theorem dX8_out_37 : decode cX8_out 37 = .ok (.iconst 0, 1) := by decide +kernel
theorem dX8_out_38 : decode cX8_out 38 = .ok (.ireturn, 1) := by decide +kernel
theorem dX8_out_39 : decode cX8_out 39 = .ok (.aload_n 0, 1) := by decide +kernel
theorem dX8_out_40 : decode cX8_out 40 = .ok (.getfield 54, 3) := by decide +kernel
theorem dX8_out_43 : decode cX8_out 43 = .ok (.getfield 171, 3) := by decide +kernel
theorem dX8_out_46 : decode cX8_out 46 = .ok (.iconst 0, 1) := by decide +kernel
theorem dX8_out_47 : decode cX8_out 47 = .ok (.invokestatic 174, 3) := by decide +kernel
theorem dX8_out_50 : decode cX8_out 50 = .ok (.istore_n 1, 1) := by decide +kernel
theorem dX8_out_51 : decode cX8_out 51 = .ok (.aload_n 0, 1) := by decide +kernel
theorem dX8_out_52 : decode cX8_out 52 = .ok (.getfield 33, 3) := by decide +kernel
theorem dX8_out_55 : decode cX8_out 55 = .ok (.aload_n 0, 1) := by decide +kernel
theorem dX8_out_56 : decode cX8_out 56 = .ok (.getfield 61, 3) := by decide +kernel
theorem dX8_out_59 : decode cX8_out 59 = .ok (.getfield 149, 3) := by decide +kernel
theorem dX8_out_62 : decode cX8_out 62 = .ok (.iload_n 1, 1) := by decide +kernel
theorem dX8_out_63 : decode cX8_out 63 = .ok (.invokevirtual 196, 3) := by decide +kernel
theorem dX8_out_66 : decode cX8_out 66 = .ok (.iconst (-1), 1) := by decide +kernel
theorem dX8_out_67 : decode cX8_out 67 = .ok (.if_icmp .ne 5, 3) := by decide +kernel
theorem dX8_out_70 : decode cX8_out 70 = .ok (.iconst 0, 1) := by decide +kernel
theorem dX8_out_71 : decode cX8_out 71 = .ok (.ireturn, 1) := by decide +kernel
theorem dX8_out_72 : decode cX8_out 72 = .ok (.aload_n 0, 1) := by decide +kernel
theorem dX8_out_73 : decode cX8_out 73 = .ok (.getfield 54, 3) := by decide +kernel
theorem dX8_out_76 : decode cX8_out 76 = .ok (.iconst 1, 1) := by decide +kernel
theorem dX8_out_77 : decode cX8_out 77 = .ok (.putfield 190, 3) := by decide +kernel
theorem dX8_out_80 : decode cX8_out 80 = .ok (.aload_n 0, 1) := by decide +kernel
theorem dX8_out_81 : decode cX8_out 81 = .ok (.getfield 61, 3) := by decide +kernel
theorem dX8_out_84 : decode cX8_out 84 = .ok (.iconst 1, 1) := by decide +kernel
theorem dX8_out_85 : decode cX8_out 85 = .ok (.putfield 163, 3) := by decide +kernel
theorem dX8_out_88 : decode cX8_out 88 = .ok (.aload_n 0, 1) := by decide +kernel
theorem dX8_out_89 : decode cX8_out 89 = .ok (.getfield 61, 3) := by decide +kernel
theorem dX8_out_92 : decode cX8_out 92 = .ok (.iconst 0, 1) := by decide +kernel
theorem dX8_out_93 : decode cX8_out 93 = .ok (.putfield 200, 3) := by decide +kernel
theorem dX8_out_96 : decode cX8_out 96 = .ok (.aload_n 0, 1) := by decide +kernel
theorem dX8_out_97 : decode cX8_out 97 = .ok (.iload_n 1, 1) := by decide +kernel
theorem dX8_out_98 : decode cX8_out 98 = .ok (.invokevirtual 203, 3) := by decide +kernel
theorem dX8_out_101 : decode cX8_out 101 = .ok (.iconst 1, 1) := by decide +kernel
theorem dX8_out_102 : decode cX8_out 102 = .ok (.ireturn, 1) := by decide +kernel
theorem dX8_breaks_0 : decode cX8_breaks 0 = .ok (.iload_n 1, 1) := by decide +kernel
theorem dX8_breaks_1 : decode cX8_breaks 1 = .ok (.iconst 1, 1) := by decide +kernel
theorem dX8_breaks_2 : decode cX8_breaks 2 = .ok (.bipush 9, 2) := by decide +kernel
theorem dX8_breaks_4 : decode cX8_breaks 4 = .ok (.invokestatic 87, 3) := by decide +kernel
theorem dX8_breaks_7 : decode cX8_breaks 7 = .ok (.ifCond .ne 5, 3) := by decide +kernel
theorem dX8_breaks_10 : decode cX8_breaks 10 = .ok (.iconst 0, 1) := by decide +kernel
theorem dX8_breaks_11 : decode cX8_breaks 11 = .ok (.ireturn, 1) := by decide +kernel
theorem dX8_breaks_12 : decode cX8_breaks 12 = .ok (.aload_n 0, 1) := by decide +kernel
theorem dX8_breaks_13 : decode cX8_breaks 13 = .ok (.getfield 61, 3) := by decide +kernel
theorem dX8_breaks_16 : decode cX8_breaks 16 = .ok (.iload_n 1, 1) := by decide +kernel
theorem dX8_breaks_17 : decode cX8_breaks 17 = .ok (.putfield 206, 3) := by decide +kernel
theorem dX8_breaks_20 : decode cX8_breaks 20 = .ok (.iconst 1, 1) := by decide +kernel
theorem dX8_breaks_21 : decode cX8_breaks 21 = .ok (.ireturn, 1) := by decide +kernel
theorem dX8_day_0 : decode cX8_day 0 = .ok (.iload_n 1, 1) := by decide +kernel
theorem dX8_day_1 : decode cX8_day 1 = .ok (.iconst 1, 1) := by decide +kernel
theorem dX8_day_2 : decode cX8_day 2 = .ok (.bipush 99, 2) := by decide +kernel
theorem dX8_day_4 : decode cX8_day 4 = .ok (.invokestatic 87, 3) := by decide +kernel
theorem dX8_day_7 : decode cX8_day 7 = .ok (.ifCond .eq 18, 3) := by decide +kernel
theorem dX8_day_10 : decode cX8_day 10 = .ok (.aload_n 0, 1) := by decide +kernel
theorem dX8_day_11 : decode cX8_day 11 = .ok (.getfield 61, 3) := by decide +kernel
theorem dX8_day_14 : decode cX8_day 14 = .ok (.getfield 152, 3) := by decide +kernel
theorem dX8_day_17 : decode cX8_day 17 = .ok (.iload_n 1, 1) := by decide +kernel
theorem dX8_day_18 : decode cX8_day 18 = .ok (.iadd, 1) := by decide +kernel
theorem dX8_day_19 : decode cX8_day 19 = .ok (.sipush 999, 3) := by decide +kernel
theorem dX8_day_22 : decode cX8_day 22 = .ok (.if_icmp .le 5, 3) := by decide +kernel
theorem dX8_day_25 : decode cX8_day 25 = .ok (.iconst (-1), 1) := by decide +kernel
theorem dX8_day_26 : decode cX8_day 26 = .ok (.ireturn, 1) := by decide +kernel
theorem dX8_day_27 : decode cX8_day 27 = .ok (.iconst 0, 1) := by decide +kernel
theorem dX8_day_28 : decode cX8_day 28 = .ok (.istore_n 2, 1) := by decide +kernel
theorem dX8_day_29 : decode cX8_day 29 = .ok (.iload_n 2, 1) := by decide +kernel
theorem dX8_day_30 : decode cX8_day 30 = .ok (.iload_n 1, 1) := by decide +kernel
theorem dX8_day_31 : decode cX8_day 31 = .ok (.if_icmp .ge 13, 3) := by decide +kernel
theorem dX8_day_34 : decode cX8_day 34 = .ok (.aload_n 0, 1) := by decide +kernel
theorem dX8_day_35 : decode cX8_day 35 = .ok (.invokevirtual 209, 3) := by decide +kernel
theorem dX8_day_38 : decode cX8_day 38 = .ok (.iinc 2 1, 3) := by decide +kernel
theorem dX8_day_41 : decode cX8_day 41 = .ok (.goto (-12), 3) := by decide +kernel
theorem dX8_day_44 : decode cX8_day 44 = .ok (.aload_n 0, 1) := by decide +kernel
theorem dX8_day_45 : decode cX8_day 45 = .ok (.getfield 61, 3) := by decide +kernel
theorem dX8_day_48 : decode cX8_day 48 = .ok (.getfield 152, 3) := by decide +kernel
theorem dX8_day_51 : decode cX8_day 51 = .ok (.ireturn, 1) := by decide +kernel
theorem dX8_look_0 : decode cX8_look 0 = .ok (.aload_n 0, 1) := by decide +kernel
theorem dX8_look_1 : decode cX8_look 1 = .ok (.getfield 26, 3) := by decide +kernel
theorem dX8_look_4 : decode cX8_look 4 = .ok (.iload_n 1, 1) := by decide +kernel
theorem dX8_look_5 : decode cX8_look 5 = .ok (.invokevirtual 134, 3) := by decide +kernel
theorem dX8_look_8 : decode cX8_look 8 = .ok (.ifCond .ne 5, 3) := by decide +kernel
theorem dX8_look_11 : decode cX8_look 11 = .ok (.iconst (-1), 1) := by decide +kernel
theorem dX8_look_12 : decode cX8_look 12 = .ok (.ireturn, 1) := by decide +kernel
theorem dX8_look_13 : decode cX8_look 13 = .ok (.iload_n 2, 1) := by decide +kernel
theorem dX8_look_14 : decode cX8_look 14 = .ok (.tableswitch 112 0 7 #[46, 58, 64, 76, 88, 94, 100, 106], 46) := by decide +kernel
theorem dX8_look_60 : decode cX8_look 60 = .ok (.aload_n 0, 1) := by decide +kernel
theorem dX8_look_61 : decode cX8_look 61 = .ok (.getfield 26, 3) := by decide +kernel
theorem dX8_look_64 : decode cX8_look 64 = .ok (.getfield 106, 3) := by decide +kernel
theorem dX8_look_67 : decode cX8_look 67 = .ok (.iload_n 1, 1) := by decide +kernel
theorem dX8_look_68 : decode cX8_look 68 = .ok (.invokestatic 174, 3) := by decide +kernel
theorem dX8_look_71 : decode cX8_look 71 = .ok (.ireturn, 1) := by decide +kernel
theorem dX8_look_72 : decode cX8_look 72 = .ok (.aload_n 0, 1) := by decide +kernel
theorem dX8_look_73 : decode cX8_look 73 = .ok (.iload_n 1, 1) := by decide +kernel
theorem dX8_look_74 : decode cX8_look 74 = .ok (.invokevirtual 212, 3) := by decide +kernel
theorem dX8_look_77 : decode cX8_look 77 = .ok (.ireturn, 1) := by decide +kernel
theorem dX8_look_78 : decode cX8_look 78 = .ok (.aload_n 0, 1) := by decide +kernel
theorem dX8_look_79 : decode cX8_look 79 = .ok (.getfield 26, 3) := by decide +kernel
theorem dX8_look_82 : decode cX8_look 82 = .ok (.getfield 216, 3) := by decide +kernel
theorem dX8_look_85 : decode cX8_look 85 = .ok (.iload_n 1, 1) := by decide +kernel
theorem dX8_look_86 : decode cX8_look 86 = .ok (.invokestatic 174, 3) := by decide +kernel
theorem dX8_look_89 : decode cX8_look 89 = .ok (.ireturn, 1) := by decide +kernel
theorem dX8_look_90 : decode cX8_look 90 = .ok (.aload_n 0, 1) := by decide +kernel
theorem dX8_look_91 : decode cX8_look 91 = .ok (.getfield 26, 3) := by decide +kernel
theorem dX8_look_94 : decode cX8_look 94 = .ok (.getfield 218, 3) := by decide +kernel
theorem dX8_look_97 : decode cX8_look 97 = .ok (.iload_n 1, 1) := by decide +kernel
theorem dX8_look_98 : decode cX8_look 98 = .ok (.invokestatic 174, 3) := by decide +kernel
theorem dX8_look_101 : decode cX8_look 101 = .ok (.ireturn, 1) := by decide +kernel
theorem dX8_look_102 : decode cX8_look 102 = .ok (.aload_n 0, 1) := by decide +kernel
theorem dX8_look_103 : decode cX8_look 103 = .ok (.iload_n 1, 1) := by decide +kernel
theorem dX8_look_104 : decode cX8_look 104 = .ok (.invokevirtual 221, 3) := by decide +kernel
theorem dX8_look_107 : decode cX8_look 107 = .ok (.ireturn, 1) := by decide +kernel
theorem dX8_look_108 : decode cX8_look 108 = .ok (.aload_n 0, 1) := by decide +kernel
theorem dX8_look_109 : decode cX8_look 109 = .ok (.iload_n 1, 1) := by decide +kernel
theorem dX8_look_110 : decode cX8_look 110 = .ok (.invokevirtual 224, 3) := by decide +kernel
theorem dX8_look_113 : decode cX8_look 113 = .ok (.ireturn, 1) := by decide +kernel
theorem dX8_look_114 : decode cX8_look 114 = .ok (.aload_n 0, 1) := by decide +kernel
theorem dX8_look_115 : decode cX8_look 115 = .ok (.iload_n 1, 1) := by decide +kernel
theorem dX8_look_116 : decode cX8_look 116 = .ok (.invokevirtual 227, 3) := by decide +kernel
theorem dX8_look_119 : decode cX8_look 119 = .ok (.ireturn, 1) := by decide +kernel
theorem dX8_look_120 : decode cX8_look 120 = .ok (.aload_n 0, 1) := by decide +kernel
theorem dX8_look_121 : decode cX8_look 121 = .ok (.iload_n 1, 1) := by decide +kernel
theorem dX8_look_122 : decode cX8_look 122 = .ok (.invokevirtual 230, 3) := by decide +kernel
theorem dX8_look_125 : decode cX8_look 125 = .ok (.ireturn, 1) := by decide +kernel
theorem dX8_look_126 : decode cX8_look 126 = .ok (.iconst (-1), 1) := by decide +kernel
theorem dX8_look_127 : decode cX8_look 127 = .ok (.ireturn, 1) := by decide +kernel
theorem dX8_owed_0 : decode cX8_owed 0 = .ok (.aload_n 0, 1) := by decide +kernel
theorem dX8_owed_1 : decode cX8_owed 1 = .ok (.iload_n 1, 1) := by decide +kernel
theorem dX8_owed_2 : decode cX8_owed 2 = .ok (.iload_n 2, 1) := by decide +kernel
theorem dX8_owed_3 : decode cX8_owed 3 = .ok (.invokevirtual 233, 3) := by decide +kernel
theorem dX8_owed_6 : decode cX8_owed 6 = .ok (.ifCond .eq 18, 3) := by decide +kernel
theorem dX8_owed_9 : decode cX8_owed 9 = .ok (.aload_n 0, 1) := by decide +kernel
theorem dX8_owed_10 : decode cX8_owed 10 = .ok (.getfield 40, 3) := by decide +kernel
theorem dX8_owed_13 : decode cX8_owed 13 = .ok (.getfield 237, 3) := by decide +kernel
theorem dX8_owed_16 : decode cX8_owed 16 = .ok (.iload_n 1, 1) := by decide +kernel
theorem dX8_owed_17 : decode cX8_owed 17 = .ok (.iload_n 2, 1) := by decide +kernel
theorem dX8_owed_18 : decode cX8_owed 18 = .ok (.invokestatic 240, 3) := by decide +kernel
theorem dX8_owed_21 : decode cX8_owed 21 = .ok (.goto 5, 3) := by decide +kernel
theorem dX8_owed_24 : decode cX8_owed 24 = .ok (.ldc 245, 2) := by decide +kernel
theorem dX8_owed_26 : decode cX8_owed 26 = .ok (.ireturn, 1) := by decide +kernel
theorem dX8_lent_0 : decode cX8_lent 0 = .ok (.aload_n 0, 1) := by decide +kernel
theorem dX8_lent_1 : decode cX8_lent 1 = .ok (.iload_n 1, 1) := by decide +kernel
theorem dX8_lent_2 : decode cX8_lent 2 = .ok (.iload_n 2, 1) := by decide +kernel
theorem dX8_lent_3 : decode cX8_lent 3 = .ok (.invokevirtual 233, 3) := by decide +kernel
theorem dX8_lent_6 : decode cX8_lent 6 = .ok (.ifCond .ne 5, 3) := by decide +kernel
theorem dX8_lent_9 : decode cX8_lent 9 = .ok (.iconst (-1), 1) := by decide +kernel
theorem dX8_lent_10 : decode cX8_lent 10 = .ok (.ireturn, 1) := by decide +kernel
theorem dX8_lent_11 : decode cX8_lent 11 = .ok (.aload_n 0, 1) := by decide +kernel
theorem dX8_lent_12 : decode cX8_lent 12 = .ok (.iload_n 1, 1) := by decide +kernel
theorem dX8_lent_13 : decode cX8_lent 13 = .ok (.invokevirtual 224, 3) := by decide +kernel
theorem dX8_lent_16 : decode cX8_lent 16 = .ok (.pop, 1) := by decide +kernel
theorem dX8_lent_17 : decode cX8_lent 17 = .ok (.aload_n 0, 1) := by decide +kernel
theorem dX8_lent_18 : decode cX8_lent 18 = .ok (.getfield 40, 3) := by decide +kernel
theorem dX8_lent_21 : decode cX8_lent 21 = .ok (.getfield 246, 3) := by decide +kernel
theorem dX8_lent_24 : decode cX8_lent 24 = .ok (.iload_n 2, 1) := by decide +kernel
theorem dX8_lent_25 : decode cX8_lent 25 = .ok (.invokestatic 174, 3) := by decide +kernel
theorem dX8_lent_28 : decode cX8_lent 28 = .ok (.ireturn, 1) := by decide +kernel
theorem dX8_count_0 : decode cX8_count 0 = .ok (.iload_n 1, 1) := by decide +kernel
theorem dX8_count_1 : decode cX8_count 1 = .ok (.tableswitch 104 0 6 #[43, 51, 59, 67, 75, 83, 99], 43) := by decide +kernel
theorem dX8_count_44 : decode cX8_count 44 = .ok (.aload_n 0, 1) := by decide +kernel
theorem dX8_count_45 : decode cX8_count 45 = .ok (.getfield 61, 3) := by decide +kernel
theorem dX8_count_48 : decode cX8_count 48 = .ok (.getfield 152, 3) := by decide +kernel
theorem dX8_count_51 : decode cX8_count 51 = .ok (.ireturn, 1) := by decide +kernel
theorem dX8_count_52 : decode cX8_count 52 = .ok (.aload_n 0, 1) := by decide +kernel
theorem dX8_count_53 : decode cX8_count 53 = .ok (.getfield 61, 3) := by decide +kernel
theorem dX8_count_56 : decode cX8_count 56 = .ok (.getfield 149, 3) := by decide +kernel
theorem dX8_count_59 : decode cX8_count 59 = .ok (.ireturn, 1) := by decide +kernel
theorem dX8_count_60 : decode cX8_count 60 = .ok (.aload_n 0, 1) := by decide +kernel
theorem dX8_count_61 : decode cX8_count 61 = .ok (.getfield 61, 3) := by decide +kernel
theorem dX8_count_64 : decode cX8_count 64 = .ok (.getfield 143, 3) := by decide +kernel
theorem dX8_count_67 : decode cX8_count 67 = .ok (.ireturn, 1) := by decide +kernel
theorem dX8_count_68 : decode cX8_count 68 = .ok (.aload_n 0, 1) := by decide +kernel
theorem dX8_count_69 : decode cX8_count 69 = .ok (.getfield 61, 3) := by decide +kernel
theorem dX8_count_72 : decode cX8_count 72 = .ok (.getfield 206, 3) := by decide +kernel
end
section
theorem dX8_count_75 : decode cX8_count 75 = .ok (.ireturn, 1) := by decide +kernel
theorem dX8_count_76 : decode cX8_count 76 = .ok (.aload_n 0, 1) := by decide +kernel
theorem dX8_count_77 : decode cX8_count 77 = .ok (.getfield 26, 3) := by decide +kernel
theorem dX8_count_80 : decode cX8_count 80 = .ok (.getfield 91, 3) := by decide +kernel
theorem dX8_count_83 : decode cX8_count 83 = .ok (.ireturn, 1) := by decide +kernel
theorem dX8_count_84 : decode cX8_count 84 = .ok (.aload_n 0, 1) := by decide +kernel
theorem dX8_count_85 : decode cX8_count 85 = .ok (.getfield 26, 3) := by decide +kernel
theorem dX8_count_88 : decode cX8_count 88 = .ok (.getfield 91, 3) := by decide +kernel
theorem dX8_count_91 : decode cX8_count 91 = .ok (.aload_n 0, 1) := by decide +kernel
theorem dX8_count_92 : decode cX8_count 92 = .ok (.getfield 26, 3) := by decide +kernel
theorem dX8_count_95 : decode cX8_count 95 = .ok (.invokevirtual 249, 3) := by decide +kernel
theorem dX8_count_98 : decode cX8_count 98 = .ok (.isub, 1) := by decide +kernel
theorem dX8_count_99 : decode cX8_count 99 = .ok (.ireturn, 1) := by decide +kernel
theorem dX8_count_100 : decode cX8_count 100 = .ok (.aload_n 0, 1) := by decide +kernel
theorem dX8_count_101 : decode cX8_count 101 = .ok (.invokevirtual 252, 3) := by decide +kernel
theorem dX8_count_104 : decode cX8_count 104 = .ok (.ireturn, 1) := by decide +kernel
theorem dX8_count_105 : decode cX8_count 105 = .ok (.iconst (-1), 1) := by decide +kernel
theorem dX8_count_106 : decode cX8_count 106 = .ok (.ireturn, 1) := by decide +kernel
theorem dX8_isPlace_0 : decode cX8_isPlace 0 = .ok (.iload_n 1, 1) := by decide +kernel
theorem dX8_isPlace_1 : decode cX8_isPlace 1 = .ok (.ifCond .eq 14, 3) := by decide +kernel
theorem dX8_isPlace_4 : decode cX8_isPlace 4 = .ok (.aload_n 0, 1) := by decide +kernel
theorem dX8_isPlace_5 : decode cX8_isPlace 5 = .ok (.getfield 26, 3) := by decide +kernel
theorem dX8_isPlace_8 : decode cX8_isPlace 8 = .ok (.iload_n 1, 1) := by decide +kernel
theorem dX8_isPlace_9 : decode cX8_isPlace 9 = .ok (.invokevirtual 134, 3) := by decide +kernel
theorem dX8_isPlace_12 : decode cX8_isPlace 12 = .ok (.ifCond .eq 7, 3) := by decide +kernel
theorem dX8_isPlace_15 : decode cX8_isPlace 15 = .ok (.iconst 1, 1) := by decide +kernel
theorem dX8_isPlace_16 : decode cX8_isPlace 16 = .ok (.goto 4, 3) := by decide +kernel
theorem dX8_isPlace_19 : decode cX8_isPlace 19 = .ok (.iconst 0, 1) := by decide +kernel
theorem dX8_isPlace_20 : decode cX8_isPlace 20 = .ok (.ireturn, 1) := by decide +kernel
theorem dX8_areTwoFarms_0 : decode cX8_areTwoFarms 0 = .ok (.aload_n 0, 1) := by decide +kernel
theorem dX8_areTwoFarms_1 : decode cX8_areTwoFarms 1 = .ok (.getfield 26, 3) := by decide +kernel
theorem dX8_areTwoFarms_4 : decode cX8_areTwoFarms 4 = .ok (.iload_n 1, 1) := by decide +kernel
theorem dX8_areTwoFarms_5 : decode cX8_areTwoFarms 5 = .ok (.invokevirtual 134, 3) := by decide +kernel
theorem dX8_areTwoFarms_8 : decode cX8_areTwoFarms 8 = .ok (.ifCond .eq 23, 3) := by decide +kernel
theorem dX8_areTwoFarms_11 : decode cX8_areTwoFarms 11 = .ok (.aload_n 0, 1) := by decide +kernel
theorem dX8_areTwoFarms_12 : decode cX8_areTwoFarms 12 = .ok (.getfield 26, 3) := by decide +kernel
theorem dX8_areTwoFarms_15 : decode cX8_areTwoFarms 15 = .ok (.iload_n 2, 1) := by decide +kernel
theorem dX8_areTwoFarms_16 : decode cX8_areTwoFarms 16 = .ok (.invokevirtual 134, 3) := by decide +kernel
theorem dX8_areTwoFarms_19 : decode cX8_areTwoFarms 19 = .ok (.ifCond .eq 12, 3) := by decide +kernel
theorem dX8_areTwoFarms_22 : decode cX8_areTwoFarms 22 = .ok (.iload_n 1, 1) := by decide +kernel
theorem dX8_areTwoFarms_23 : decode cX8_areTwoFarms 23 = .ok (.iload_n 2, 1) := by decide +kernel
theorem dX8_areTwoFarms_24 : decode cX8_areTwoFarms 24 = .ok (.if_icmp .eq 7, 3) := by decide +kernel
theorem dX8_areTwoFarms_27 : decode cX8_areTwoFarms 27 = .ok (.iconst 1, 1) := by decide +kernel
theorem dX8_areTwoFarms_28 : decode cX8_areTwoFarms 28 = .ok (.goto 4, 3) := by decide +kernel
theorem dX8_areTwoFarms_31 : decode cX8_areTwoFarms 31 = .ok (.iconst 0, 1) := by decide +kernel
theorem dX8_areTwoFarms_32 : decode cX8_areTwoFarms 32 = .ok (.ireturn, 1) := by decide +kernel
theorem dX8_prepareSearch_0 : decode cX8_prepareSearch 0 = .ok (.aload_n 0, 1) := by decide +kernel
theorem dX8_prepareSearch_1 : decode cX8_prepareSearch 1 = .ok (.getfield 47, 3) := by decide +kernel
theorem dX8_prepareSearch_4 : decode cX8_prepareSearch 4 = .ok (.aload_n 0, 1) := by decide +kernel
theorem dX8_prepareSearch_5 : decode cX8_prepareSearch 5 = .ok (.getfield 19, 3) := by decide +kernel
theorem dX8_prepareSearch_8 : decode cX8_prepareSearch 8 = .ok (.iconst 3, 1) := by decide +kernel
theorem dX8_prepareSearch_9 : decode cX8_prepareSearch 9 = .ok (.invokevirtual 255, 3) := by decide +kernel
theorem dX8_prepareSearch_12 : decode cX8_prepareSearch 12 = .ok (.invokevirtual 258, 3) := by decide +kernel
theorem dX8_prepareSearch_15 : decode cX8_prepareSearch 15 = .ok (.iconst 1, 1) := by decide +kernel
theorem dX8_prepareSearch_16 : decode cX8_prepareSearch 16 = .ok (.istore_n 1, 1) := by decide +kernel
theorem dX8_prepareSearch_17 : decode cX8_prepareSearch 17 = .ok (.iload_n 1, 1) := by decide +kernel
theorem dX8_prepareSearch_18 : decode cX8_prepareSearch 18 = .ok (.aload_n 0, 1) := by decide +kernel
theorem dX8_prepareSearch_19 : decode cX8_prepareSearch 19 = .ok (.getfield 26, 3) := by decide +kernel
theorem dX8_prepareSearch_22 : decode cX8_prepareSearch 22 = .ok (.getfield 91, 3) := by decide +kernel
theorem dX8_prepareSearch_25 : decode cX8_prepareSearch 25 = .ok (.if_icmp .gt 71, 3) := by decide +kernel
theorem dX8_prepareSearch_28 : decode cX8_prepareSearch 28 = .ok (.aload_n 0, 1) := by decide +kernel
theorem dX8_prepareSearch_29 : decode cX8_prepareSearch 29 = .ok (.getfield 26, 3) := by decide +kernel
theorem dX8_prepareSearch_32 : decode cX8_prepareSearch 32 = .ok (.iload_n 1, 1) := by decide +kernel
theorem dX8_prepareSearch_33 : decode cX8_prepareSearch 33 = .ok (.invokevirtual 261, 3) := by decide +kernel
theorem dX8_prepareSearch_36 : decode cX8_prepareSearch 36 = .ok (.ifCond .eq 54, 3) := by decide +kernel
theorem dX8_prepareSearch_39 : decode cX8_prepareSearch 39 = .ok (.aload_n 0, 1) := by decide +kernel
theorem dX8_prepareSearch_40 : decode cX8_prepareSearch 40 = .ok (.getfield 26, 3) := by decide +kernel
theorem dX8_prepareSearch_43 : decode cX8_prepareSearch 43 = .ok (.getfield 106, 3) := by decide +kernel
theorem dX8_prepareSearch_46 : decode cX8_prepareSearch 46 = .ok (.iload_n 1, 1) := by decide +kernel
theorem dX8_prepareSearch_47 : decode cX8_prepareSearch 47 = .ok (.invokestatic 174, 3) := by decide +kernel
theorem dX8_prepareSearch_50 : decode cX8_prepareSearch 50 = .ok (.aload_n 0, 1) := by decide +kernel
theorem dX8_prepareSearch_51 : decode cX8_prepareSearch 51 = .ok (.iload_n 1, 1) := by decide +kernel
theorem dX8_prepareSearch_52 : decode cX8_prepareSearch 52 = .ok (.invokevirtual 227, 3) := by decide +kernel
theorem dX8_prepareSearch_55 : decode cX8_prepareSearch 55 = .ok (.invokestatic 264, 3) := by decide +kernel
theorem dX8_prepareSearch_58 : decode cX8_prepareSearch 58 = .ok (.istore_n 2, 1) := by decide +kernel
theorem dX8_prepareSearch_59 : decode cX8_prepareSearch 59 = .ok (.aload_n 0, 1) := by decide +kernel
theorem dX8_prepareSearch_60 : decode cX8_prepareSearch 60 = .ok (.getfield 47, 3) := by decide +kernel
theorem dX8_prepareSearch_63 : decode cX8_prepareSearch 63 = .ok (.iload_n 1, 1) := by decide +kernel
theorem dX8_prepareSearch_64 : decode cX8_prepareSearch 64 = .ok (.aload_n 0, 1) := by decide +kernel
theorem dX8_prepareSearch_65 : decode cX8_prepareSearch 65 = .ok (.getfield 26, 3) := by decide +kernel
theorem dX8_prepareSearch_68 : decode cX8_prepareSearch 68 = .ok (.getfield 118, 3) := by decide +kernel
theorem dX8_prepareSearch_71 : decode cX8_prepareSearch 71 = .ok (.iload_n 1, 1) := by decide +kernel
theorem dX8_prepareSearch_72 : decode cX8_prepareSearch 72 = .ok (.invokestatic 174, 3) := by decide +kernel
theorem dX8_prepareSearch_75 : decode cX8_prepareSearch 75 = .ok (.aload_n 0, 1) := by decide +kernel
theorem dX8_prepareSearch_76 : decode cX8_prepareSearch 76 = .ok (.getfield 26, 3) := by decide +kernel
theorem dX8_prepareSearch_79 : decode cX8_prepareSearch 79 = .ok (.getfield 121, 3) := by decide +kernel
theorem dX8_prepareSearch_82 : decode cX8_prepareSearch 82 = .ok (.iload_n 1, 1) := by decide +kernel
theorem dX8_prepareSearch_83 : decode cX8_prepareSearch 83 = .ok (.invokestatic 174, 3) := by decide +kernel
theorem dX8_prepareSearch_86 : decode cX8_prepareSearch 86 = .ok (.iload_n 2, 1) := by decide +kernel
theorem dX8_prepareSearch_87 : decode cX8_prepareSearch 87 = .ok (.invokevirtual 267, 3) := by decide +kernel
theorem dX8_prepareSearch_90 : decode cX8_prepareSearch 90 = .ok (.iinc 1 1, 3) := by decide +kernel
theorem dX8_prepareSearch_93 : decode cX8_prepareSearch 93 = .ok (.goto (-76), 3) := by decide +kernel
theorem dX8_prepareSearch_96 : decode cX8_prepareSearch 96 = .ok (.aload_n 0, 1) := by decide +kernel
theorem dX8_prepareSearch_97 : decode cX8_prepareSearch 97 = .ok (.getfield 47, 3) := by decide +kernel
theorem dX8_prepareSearch_100 : decode cX8_prepareSearch 100 = .ok (.aload_n 0, 1) := by decide +kernel
theorem dX8_prepareSearch_101 : decode cX8_prepareSearch 101 = .ok (.getfield 61, 3) := by decide +kernel
theorem dX8_prepareSearch_104 : decode cX8_prepareSearch 104 = .ok (.getfield 149, 3) := by decide +kernel
theorem dX8_prepareSearch_107 : decode cX8_prepareSearch 107 = .ok (.invokevirtual 270, 3) := by decide +kernel
theorem dX8_prepareSearch_110 : decode cX8_prepareSearch 110 = .ok (.aload_n 0, 1) := by decide +kernel
theorem dX8_prepareSearch_111 : decode cX8_prepareSearch 111 = .ok (.getfield 47, 3) := by decide +kernel
theorem dX8_prepareSearch_114 : decode cX8_prepareSearch 114 = .ok (.aload_n 0, 1) := by decide +kernel
theorem dX8_prepareSearch_115 : decode cX8_prepareSearch 115 = .ok (.getfield 19, 3) := by decide +kernel
theorem dX8_prepareSearch_118 : decode cX8_prepareSearch 118 = .ok (.iconst 4, 1) := by decide +kernel
theorem dX8_prepareSearch_119 : decode cX8_prepareSearch 119 = .ok (.invokevirtual 255, 3) := by decide +kernel
theorem dX8_prepareSearch_122 : decode cX8_prepareSearch 122 = .ok (.invokevirtual 270, 3) := by decide +kernel
theorem dX8_prepareSearch_125 : decode cX8_prepareSearch 125 = .ok (.return_, 1) := by decide +kernel
theorem dX8_gangOf_0 : decode cX8_gangOf 0 = .ok (.aload_n 0, 1) := by decide +kernel
theorem dX8_gangOf_1 : decode cX8_gangOf 1 = .ok (.getfield 40, 3) := by decide +kernel
theorem dX8_gangOf_4 : decode cX8_gangOf 4 = .ok (.aload_n 0, 1) := by decide +kernel
theorem dX8_gangOf_5 : decode cX8_gangOf 5 = .ok (.getfield 26, 3) := by decide +kernel
theorem dX8_gangOf_8 : decode cX8_gangOf 8 = .ok (.iload_n 1, 1) := by decide +kernel
theorem dX8_gangOf_9 : decode cX8_gangOf 9 = .ok (.aload_n 0, 1) := by decide +kernel
theorem dX8_gangOf_10 : decode cX8_gangOf 10 = .ok (.getfield 19, 3) := by decide +kernel
theorem dX8_gangOf_13 : decode cX8_gangOf 13 = .ok (.iconst 0, 1) := by decide +kernel
theorem dX8_gangOf_14 : decode cX8_gangOf 14 = .ok (.invokevirtual 255, 3) := by decide +kernel
theorem dX8_gangOf_17 : decode cX8_gangOf 17 = .ok (.invokevirtual 273, 3) := by decide +kernel
theorem dX8_gangOf_20 : decode cX8_gangOf 20 = .ok (.ireturn, 1) := by decide +kernel
theorem dX8_speedOf_0 : decode cX8_speedOf 0 = .ok (.aload_n 0, 1) := by decide +kernel
theorem dX8_speedOf_1 : decode cX8_speedOf 1 = .ok (.getfield 19, 3) := by decide +kernel
theorem dX8_speedOf_4 : decode cX8_speedOf 4 = .ok (.iconst 0, 1) := by decide +kernel
theorem dX8_speedOf_5 : decode cX8_speedOf 5 = .ok (.invokevirtual 255, 3) := by decide +kernel
theorem dX8_speedOf_8 : decode cX8_speedOf 8 = .ok (.istore_n 2, 1) := by decide +kernel
theorem dX8_speedOf_9 : decode cX8_speedOf 9 = .ok (.aload_n 0, 1) := by decide +kernel
theorem dX8_speedOf_10 : decode cX8_speedOf 10 = .ok (.getfield 40, 3) := by decide +kernel
theorem dX8_speedOf_13 : decode cX8_speedOf 13 = .ok (.aload_n 0, 1) := by decide +kernel
theorem dX8_speedOf_14 : decode cX8_speedOf 14 = .ok (.getfield 26, 3) := by decide +kernel
theorem dX8_speedOf_17 : decode cX8_speedOf 17 = .ok (.iload_n 1, 1) := by decide +kernel
theorem dX8_speedOf_18 : decode cX8_speedOf 18 = .ok (.iload_n 2, 1) := by decide +kernel
theorem dX8_speedOf_19 : decode cX8_speedOf 19 = .ok (.invokevirtual 273, 3) := by decide +kernel
theorem dX8_speedOf_22 : decode cX8_speedOf 22 = .ok (.istore_n 3, 1) := by decide +kernel
theorem dX8_speedOf_23 : decode cX8_speedOf 23 = .ok (.aload_n 0, 1) := by decide +kernel
theorem dX8_speedOf_24 : decode cX8_speedOf 24 = .ok (.getfield 19, 3) := by decide +kernel
theorem dX8_speedOf_27 : decode cX8_speedOf 27 = .ok (.iconst 1, 1) := by decide +kernel
theorem dX8_speedOf_28 : decode cX8_speedOf 28 = .ok (.invokevirtual 255, 3) := by decide +kernel
theorem dX8_speedOf_31 : decode cX8_speedOf 31 = .ok (.iload_n 3, 1) := by decide +kernel
theorem dX8_speedOf_32 : decode cX8_speedOf 32 = .ok (.imul, 1) := by decide +kernel
theorem dX8_speedOf_33 : decode cX8_speedOf 33 = .ok (.iload_n 2, 1) := by decide +kernel
theorem dX8_speedOf_34 : decode cX8_speedOf 34 = .ok (.invokestatic 277, 3) := by decide +kernel
theorem dX8_speedOf_37 : decode cX8_speedOf 37 = .ok (.iconst 1, 1) := by decide +kernel
theorem dX8_speedOf_38 : decode cX8_speedOf 38 = .ok (.invokestatic 280, 3) := by decide +kernel
theorem dX8_speedOf_41 : decode cX8_speedOf 41 = .ok (.ireturn, 1) := by decide +kernel
theorem dX8_sacksOf_0 : decode cX8_sacksOf 0 = .ok (.aload_n 0, 1) := by decide +kernel
theorem dX8_sacksOf_1 : decode cX8_sacksOf 1 = .ok (.getfield 26, 3) := by decide +kernel
theorem dX8_sacksOf_4 : decode cX8_sacksOf 4 = .ok (.getfield 98, 3) := by decide +kernel
theorem dX8_sacksOf_7 : decode cX8_sacksOf 7 = .ok (.iload_n 1, 1) := by decide +kernel
theorem dX8_sacksOf_8 : decode cX8_sacksOf 8 = .ok (.invokestatic 174, 3) := by decide +kernel
theorem dX8_sacksOf_11 : decode cX8_sacksOf 11 = .ok (.aload_n 0, 1) := by decide +kernel
theorem dX8_sacksOf_12 : decode cX8_sacksOf 12 = .ok (.getfield 26, 3) := by decide +kernel
theorem dX8_sacksOf_15 : decode cX8_sacksOf 15 = .ok (.getfield 106, 3) := by decide +kernel
theorem dX8_sacksOf_18 : decode cX8_sacksOf 18 = .ok (.iload_n 1, 1) := by decide +kernel
theorem dX8_sacksOf_19 : decode cX8_sacksOf 19 = .ok (.invokestatic 174, 3) := by decide +kernel
theorem dX8_sacksOf_22 : decode cX8_sacksOf 22 = .ok (.isub, 1) := by decide +kernel
theorem dX8_sacksOf_23 : decode cX8_sacksOf 23 = .ok (.istore_n 2, 1) := by decide +kernel
theorem dX8_sacksOf_24 : decode cX8_sacksOf 24 = .ok (.bipush 100, 2) := by decide +kernel
theorem dX8_sacksOf_26 : decode cX8_sacksOf 26 = .ok (.aload_n 0, 1) := by decide +kernel
theorem dX8_sacksOf_27 : decode cX8_sacksOf 27 = .ok (.getfield 19, 3) := by decide +kernel
theorem dX8_sacksOf_30 : decode cX8_sacksOf 30 = .ok (.iconst 5, 1) := by decide +kernel
theorem dX8_sacksOf_31 : decode cX8_sacksOf 31 = .ok (.invokevirtual 255, 3) := by decide +kernel
theorem dX8_sacksOf_34 : decode cX8_sacksOf 34 = .ok (.aload_n 0, 1) := by decide +kernel
theorem dX8_sacksOf_35 : decode cX8_sacksOf 35 = .ok (.getfield 26, 3) := by decide +kernel
theorem dX8_sacksOf_38 : decode cX8_sacksOf 38 = .ok (.getfield 109, 3) := by decide +kernel
theorem dX8_sacksOf_41 : decode cX8_sacksOf 41 = .ok (.iload_n 1, 1) := by decide +kernel
theorem dX8_sacksOf_42 : decode cX8_sacksOf 42 = .ok (.invokestatic 174, 3) := by decide +kernel
theorem dX8_sacksOf_45 : decode cX8_sacksOf 45 = .ok (.imul, 1) := by decide +kernel
theorem dX8_sacksOf_46 : decode cX8_sacksOf 46 = .ok (.isub, 1) := by decide +kernel
theorem dX8_sacksOf_47 : decode cX8_sacksOf 47 = .ok (.istore_n 3, 1) := by decide +kernel
theorem dX8_sacksOf_48 : decode cX8_sacksOf 48 = .ok (.iload_n 2, 1) := by decide +kernel
theorem dX8_sacksOf_49 : decode cX8_sacksOf 49 = .ok (.iload_n 3, 1) := by decide +kernel
theorem dX8_sacksOf_50 : decode cX8_sacksOf 50 = .ok (.imul, 1) := by decide +kernel
theorem dX8_sacksOf_51 : decode cX8_sacksOf 51 = .ok (.bipush 100, 2) := by decide +kernel
theorem dX8_sacksOf_53 : decode cX8_sacksOf 53 = .ok (.aload_n 0, 1) := by decide +kernel
theorem dX8_sacksOf_54 : decode cX8_sacksOf 54 = .ok (.getfield 19, 3) := by decide +kernel
theorem dX8_sacksOf_57 : decode cX8_sacksOf 57 = .ok (.iconst 2, 1) := by decide +kernel
theorem dX8_sacksOf_58 : decode cX8_sacksOf 58 = .ok (.invokevirtual 255, 3) := by decide +kernel
theorem dX8_sacksOf_61 : decode cX8_sacksOf 61 = .ok (.imul, 1) := by decide +kernel
theorem dX8_sacksOf_62 : decode cX8_sacksOf 62 = .ok (.invokestatic 277, 3) := by decide +kernel
theorem dX8_sacksOf_65 : decode cX8_sacksOf 65 = .ok (.ireturn, 1) := by decide +kernel
theorem dX8_priceOf_0 : decode cX8_priceOf 0 = .ok (.aload_n 0, 1) := by decide +kernel
theorem dX8_priceOf_1 : decode cX8_priceOf 1 = .ok (.getfield 26, 3) := by decide +kernel
theorem dX8_priceOf_4 : decode cX8_priceOf 4 = .ok (.getfield 137, 3) := by decide +kernel
theorem dX8_priceOf_7 : decode cX8_priceOf 7 = .ok (.iload_n 1, 1) := by decide +kernel
theorem dX8_priceOf_8 : decode cX8_priceOf 8 = .ok (.invokestatic 174, 3) := by decide +kernel
theorem dX8_priceOf_11 : decode cX8_priceOf 11 = .ok (.iconst 1, 1) := by decide +kernel
theorem dX8_priceOf_12 : decode cX8_priceOf 12 = .ok (.if_icmp .ne 11, 3) := by decide +kernel
theorem dX8_priceOf_15 : decode cX8_priceOf 15 = .ok (.aload_n 0, 1) := by decide +kernel
theorem dX8_priceOf_16 : decode cX8_priceOf 16 = .ok (.iload_n 1, 1) := by decide +kernel
theorem dX8_priceOf_17 : decode cX8_priceOf 17 = .ok (.invokevirtual 212, 3) := by decide +kernel
theorem dX8_priceOf_20 : decode cX8_priceOf 20 = .ok (.goto 14, 3) := by decide +kernel
theorem dX8_priceOf_23 : decode cX8_priceOf 23 = .ok (.aload_n 0, 1) := by decide +kernel
theorem dX8_priceOf_24 : decode cX8_priceOf 24 = .ok (.getfield 26, 3) := by decide +kernel
theorem dX8_priceOf_27 : decode cX8_priceOf 27 = .ok (.getfield 216, 3) := by decide +kernel
theorem dX8_priceOf_30 : decode cX8_priceOf 30 = .ok (.iload_n 1, 1) := by decide +kernel
theorem dX8_priceOf_31 : decode cX8_priceOf 31 = .ok (.invokestatic 174, 3) := by decide +kernel
theorem dX8_priceOf_34 : decode cX8_priceOf 34 = .ok (.istore_n 2, 1) := by decide +kernel
theorem dX8_priceOf_35 : decode cX8_priceOf 35 = .ok (.iload_n 2, 1) := by decide +kernel
theorem dX8_priceOf_36 : decode cX8_priceOf 36 = .ok (.aload_n 0, 1) := by decide +kernel
theorem dX8_priceOf_37 : decode cX8_priceOf 37 = .ok (.getfield 26, 3) := by decide +kernel
theorem dX8_priceOf_40 : decode cX8_priceOf 40 = .ok (.getfield 140, 3) := by decide +kernel
theorem dX8_priceOf_43 : decode cX8_priceOf 43 = .ok (.iload_n 1, 1) := by decide +kernel
theorem dX8_priceOf_44 : decode cX8_priceOf 44 = .ok (.invokestatic 174, 3) := by decide +kernel
theorem dX8_priceOf_47 : decode cX8_priceOf 47 = .ok (.imul, 1) := by decide +kernel
theorem dX8_priceOf_48 : decode cX8_priceOf 48 = .ok (.ireturn, 1) := by decide +kernel
theorem dX8_lossOf_0 : decode cX8_lossOf 0 = .ok (.aload_n 0, 1) := by decide +kernel
theorem dX8_lossOf_1 : decode cX8_lossOf 1 = .ok (.getfield 26, 3) := by decide +kernel
theorem dX8_lossOf_4 : decode cX8_lossOf 4 = .ok (.iload_n 1, 1) := by decide +kernel
theorem dX8_lossOf_5 : decode cX8_lossOf 5 = .ok (.invokevirtual 261, 3) := by decide +kernel
theorem dX8_lossOf_8 : decode cX8_lossOf 8 = .ok (.ifCond .eq 5, 3) := by decide +kernel
theorem dX8_lossOf_11 : decode cX8_lossOf 11 = .ok (.iconst 0, 1) := by decide +kernel
theorem dX8_lossOf_12 : decode cX8_lossOf 12 = .ok (.ireturn, 1) := by decide +kernel
theorem dX8_lossOf_13 : decode cX8_lossOf 13 = .ok (.aload_n 0, 1) := by decide +kernel
theorem dX8_lossOf_14 : decode cX8_lossOf 14 = .ok (.getfield 26, 3) := by decide +kernel
theorem dX8_lossOf_17 : decode cX8_lossOf 17 = .ok (.getfield 218, 3) := by decide +kernel
theorem dX8_lossOf_20 : decode cX8_lossOf 20 = .ok (.iload_n 1, 1) := by decide +kernel
theorem dX8_lossOf_21 : decode cX8_lossOf 21 = .ok (.invokestatic 174, 3) := by decide +kernel
theorem dX8_lossOf_24 : decode cX8_lossOf 24 = .ok (.aload_n 0, 1) := by decide +kernel
theorem dX8_lossOf_25 : decode cX8_lossOf 25 = .ok (.getfield 26, 3) := by decide +kernel
theorem dX8_lossOf_28 : decode cX8_lossOf 28 = .ok (.getfield 121, 3) := by decide +kernel
theorem dX8_lossOf_31 : decode cX8_lossOf 31 = .ok (.iload_n 1, 1) := by decide +kernel
theorem dX8_lossOf_32 : decode cX8_lossOf 32 = .ok (.invokestatic 174, 3) := by decide +kernel
theorem dX8_lossOf_35 : decode cX8_lossOf 35 = .ok (.isub, 1) := by decide +kernel
theorem dX8_lossOf_36 : decode cX8_lossOf 36 = .ok (.istore_n 2, 1) := by decide +kernel
theorem dX8_lossOf_37 : decode cX8_lossOf 37 = .ok (.aload_n 0, 1) := by decide +kernel
theorem dX8_lossOf_38 : decode cX8_lossOf 38 = .ok (.getfield 19, 3) := by decide +kernel
theorem dX8_lossOf_41 : decode cX8_lossOf 41 = .ok (.iconst 3, 1) := by decide +kernel
theorem dX8_lossOf_42 : decode cX8_lossOf 42 = .ok (.invokevirtual 255, 3) := by decide +kernel
theorem dX8_lossOf_45 : decode cX8_lossOf 45 = .ok (.iload_n 2, 1) := by decide +kernel
theorem dX8_lossOf_46 : decode cX8_lossOf 46 = .ok (.iconst 0, 1) := by decide +kernel
theorem dX8_lossOf_47 : decode cX8_lossOf 47 = .ok (.invokestatic 280, 3) := by decide +kernel
theorem dX8_lossOf_50 : decode cX8_lossOf 50 = .ok (.imul, 1) := by decide +kernel
theorem dX8_lossOf_51 : decode cX8_lossOf 51 = .ok (.ireturn, 1) := by decide +kernel
theorem dX8_howItIs_0 : decode cX8_howItIs 0 = .ok (.aload_n 0, 1) := by decide +kernel
theorem dX8_howItIs_1 : decode cX8_howItIs 1 = .ok (.getfield 61, 3) := by decide +kernel
theorem dX8_howItIs_4 : decode cX8_howItIs 4 = .ok (.getfield 163, 3) := by decide +kernel
theorem dX8_howItIs_7 : decode cX8_howItIs 7 = .ok (.ifCond .ne 5, 3) := by decide +kernel
theorem dX8_howItIs_10 : decode cX8_howItIs 10 = .ok (.iconst 0, 1) := by decide +kernel
theorem dX8_howItIs_11 : decode cX8_howItIs 11 = .ok (.ireturn, 1) := by decide +kernel
theorem dX8_howItIs_12 : decode cX8_howItIs 12 = .ok (.aload_n 0, 1) := by decide +kernel
theorem dX8_howItIs_13 : decode cX8_howItIs 13 = .ok (.getfield 61, 3) := by decide +kernel
theorem dX8_howItIs_16 : decode cX8_howItIs 16 = .ok (.getfield 143, 3) := by decide +kernel
theorem dX8_howItIs_19 : decode cX8_howItIs 19 = .ok (.ifCond .le 5, 3) := by decide +kernel
theorem dX8_howItIs_22 : decode cX8_howItIs 22 = .ok (.iconst 1, 1) := by decide +kernel
theorem dX8_howItIs_23 : decode cX8_howItIs 23 = .ok (.ireturn, 1) := by decide +kernel
theorem dX8_howItIs_24 : decode cX8_howItIs 24 = .ok (.aload_n 0, 1) := by decide +kernel
theorem dX8_howItIs_25 : decode cX8_howItIs 25 = .ok (.invokevirtual 285, 3) := by decide +kernel
theorem dX8_howItIs_28 : decode cX8_howItIs 28 = .ok (.ifCond .eq 7, 3) := by decide +kernel
theorem dX8_howItIs_31 : decode cX8_howItIs 31 = .ok (.iconst 2, 1) := by decide +kernel
theorem dX8_howItIs_32 : decode cX8_howItIs 32 = .ok (.goto 4, 3) := by decide +kernel
theorem dX8_howItIs_35 : decode cX8_howItIs 35 = .ok (.iconst 3, 1) := by decide +kernel
theorem dX8_howItIs_36 : decode cX8_howItIs 36 = .ok (.ireturn, 1) := by decide +kernel
theorem dX8_isAheadOfFrom_0 : decode cX8_isAheadOfFrom 0 = .ok (.aload_n 0, 1) := by decide +kernel
theorem dX8_isAheadOfFrom_1 : decode cX8_isAheadOfFrom 1 = .ok (.getfield 61, 3) := by decide +kernel
theorem dX8_isAheadOfFrom_4 : decode cX8_isAheadOfFrom 4 = .ok (.getfield 152, 3) := by decide +kernel
theorem dX8_isAheadOfFrom_7 : decode cX8_isAheadOfFrom 7 = .ok (.aload_n 0, 1) := by decide +kernel
theorem dX8_isAheadOfFrom_8 : decode cX8_isAheadOfFrom 8 = .ok (.getfield 26, 3) := by decide +kernel
theorem dX8_isAheadOfFrom_11 : decode cX8_isAheadOfFrom 11 = .ok (.getfield 118, 3) := by decide +kernel
theorem dX8_isAheadOfFrom_14 : decode cX8_isAheadOfFrom 14 = .ok (.aload_n 0, 1) := by decide +kernel
theorem dX8_isAheadOfFrom_15 : decode cX8_isAheadOfFrom 15 = .ok (.getfield 61, 3) := by decide +kernel
theorem dX8_isAheadOfFrom_18 : decode cX8_isAheadOfFrom 18 = .ok (.getfield 149, 3) := by decide +kernel
theorem dX8_isAheadOfFrom_21 : decode cX8_isAheadOfFrom 21 = .ok (.invokestatic 174, 3) := by decide +kernel
theorem dX8_isAheadOfFrom_24 : decode cX8_isAheadOfFrom 24 = .ok (.if_icmp .ge 7, 3) := by decide +kernel
theorem dX8_isAheadOfFrom_27 : decode cX8_isAheadOfFrom 27 = .ok (.iconst 1, 1) := by decide +kernel
theorem dX8_isAheadOfFrom_28 : decode cX8_isAheadOfFrom 28 = .ok (.goto 4, 3) := by decide +kernel
theorem dX8_isAheadOfFrom_31 : decode cX8_isAheadOfFrom 31 = .ok (.iconst 0, 1) := by decide +kernel
theorem dX8_isAheadOfFrom_32 : decode cX8_isAheadOfFrom 32 = .ok (.ireturn, 1) := by decide +kernel
theorem dX8_passDay_0 : decode cX8_passDay 0 = .ok (.aload_n 0, 1) := by decide +kernel
theorem dX8_passDay_1 : decode cX8_passDay 1 = .ok (.getfield 61, 3) := by decide +kernel
theorem dX8_passDay_4 : decode cX8_passDay 4 = .ok (.getfield 206, 3) := by decide +kernel
theorem dX8_passDay_7 : decode cX8_passDay 7 = .ok (.ifCond .le 19, 3) := by decide +kernel
theorem dX8_passDay_10 : decode cX8_passDay 10 = .ok (.aload_n 0, 1) := by decide +kernel
theorem dX8_passDay_11 : decode cX8_passDay 11 = .ok (.getfield 61, 3) := by decide +kernel
theorem dX8_passDay_14 : decode cX8_passDay 14 = .ok (.dup, 1) := by decide +kernel
theorem dX8_passDay_15 : decode cX8_passDay 15 = .ok (.getfield 206, 3) := by decide +kernel
theorem dX8_passDay_18 : decode cX8_passDay 18 = .ok (.iconst 1, 1) := by decide +kernel
theorem dX8_passDay_19 : decode cX8_passDay 19 = .ok (.isub, 1) := by decide +kernel
theorem dX8_passDay_20 : decode cX8_passDay 20 = .ok (.putfield 206, 3) := by decide +kernel
theorem dX8_passDay_23 : decode cX8_passDay 23 = .ok (.goto 67, 3) := by decide +kernel
theorem dX8_passDay_26 : decode cX8_passDay 26 = .ok (.aload_n 0, 1) := by decide +kernel
theorem dX8_passDay_27 : decode cX8_passDay 27 = .ok (.getfield 61, 3) := by decide +kernel
theorem dX8_passDay_30 : decode cX8_passDay 30 = .ok (.getfield 163, 3) := by decide +kernel
theorem dX8_passDay_33 : decode cX8_passDay 33 = .ok (.ifCond .eq 29, 3) := by decide +kernel
theorem dX8_passDay_36 : decode cX8_passDay 36 = .ok (.aload_n 0, 1) := by decide +kernel
theorem dX8_passDay_37 : decode cX8_passDay 37 = .ok (.getfield 61, 3) := by decide +kernel
theorem dX8_passDay_40 : decode cX8_passDay 40 = .ok (.getfield 143, 3) := by decide +kernel
theorem dX8_passDay_43 : decode cX8_passDay 43 = .ok (.ifCond .le 19, 3) := by decide +kernel
theorem dX8_passDay_46 : decode cX8_passDay 46 = .ok (.aload_n 0, 1) := by decide +kernel
theorem dX8_passDay_47 : decode cX8_passDay 47 = .ok (.getfield 61, 3) := by decide +kernel
theorem dX8_passDay_50 : decode cX8_passDay 50 = .ok (.dup, 1) := by decide +kernel
theorem dX8_passDay_51 : decode cX8_passDay 51 = .ok (.getfield 143, 3) := by decide +kernel
theorem dX8_passDay_54 : decode cX8_passDay 54 = .ok (.iconst 1, 1) := by decide +kernel
theorem dX8_passDay_55 : decode cX8_passDay 55 = .ok (.isub, 1) := by decide +kernel
theorem dX8_passDay_56 : decode cX8_passDay 56 = .ok (.putfield 143, 3) := by decide +kernel
theorem dX8_passDay_59 : decode cX8_passDay 59 = .ok (.goto 31, 3) := by decide +kernel
theorem dX8_passDay_62 : decode cX8_passDay 62 = .ok (.aload_n 0, 1) := by decide +kernel
theorem dX8_passDay_63 : decode cX8_passDay 63 = .ok (.getfield 61, 3) := by decide +kernel
theorem dX8_passDay_66 : decode cX8_passDay 66 = .ok (.getfield 163, 3) := by decide +kernel
theorem dX8_passDay_69 : decode cX8_passDay 69 = .ok (.ifCond .eq 21, 3) := by decide +kernel
theorem dX8_passDay_72 : decode cX8_passDay 72 = .ok (.aload_n 0, 1) := by decide +kernel
theorem dX8_passDay_73 : decode cX8_passDay 73 = .ok (.invokevirtual 285, 3) := by decide +kernel
theorem dX8_passDay_76 : decode cX8_passDay 76 = .ok (.ifCond .ne 14, 3) := by decide +kernel
theorem dX8_passDay_79 : decode cX8_passDay 79 = .ok (.aload_n 0, 1) := by decide +kernel
theorem dX8_passDay_80 : decode cX8_passDay 80 = .ok (.aload_n 0, 1) := by decide +kernel
theorem dX8_passDay_81 : decode cX8_passDay 81 = .ok (.getfield 61, 3) := by decide +kernel
theorem dX8_passDay_84 : decode cX8_passDay 84 = .ok (.getfield 149, 3) := by decide +kernel
theorem dX8_passDay_87 : decode cX8_passDay 87 = .ok (.invokevirtual 289, 3) := by decide +kernel
theorem dX8_passDay_90 : decode cX8_passDay 90 = .ok (.aload_n 0, 1) := by decide +kernel
theorem dX8_passDay_91 : decode cX8_passDay 91 = .ok (.getfield 61, 3) := by decide +kernel
theorem dX8_passDay_94 : decode cX8_passDay 94 = .ok (.dup, 1) := by decide +kernel
theorem dX8_passDay_95 : decode cX8_passDay 95 = .ok (.getfield 152, 3) := by decide +kernel
theorem dX8_passDay_98 : decode cX8_passDay 98 = .ok (.iconst 1, 1) := by decide +kernel
theorem dX8_passDay_99 : decode cX8_passDay 99 = .ok (.iadd, 1) := by decide +kernel
theorem dX8_passDay_100 : decode cX8_passDay 100 = .ok (.putfield 152, 3) := by decide +kernel
theorem dX8_passDay_103 : decode cX8_passDay 103 = .ok (.return_, 1) := by decide +kernel
theorem dX8_thresh_0 : decode cX8_thresh 0 = .ok (.aload_n 0, 1) := by decide +kernel
theorem dX8_thresh_1 : decode cX8_thresh 1 = .ok (.iload_n 1, 1) := by decide +kernel
theorem dX8_thresh_2 : decode cX8_thresh 2 = .ok (.invokevirtual 227, 3) := by decide +kernel
theorem dX8_thresh_5 : decode cX8_thresh 5 = .ok (.aload_n 0, 1) := by decide +kernel
theorem dX8_thresh_6 : decode cX8_thresh 6 = .ok (.getfield 26, 3) := by decide +kernel
theorem dX8_thresh_9 : decode cX8_thresh 9 = .ok (.getfield 106, 3) := by decide +kernel
theorem dX8_thresh_12 : decode cX8_thresh 12 = .ok (.iload_n 1, 1) := by decide +kernel
theorem dX8_thresh_13 : decode cX8_thresh 13 = .ok (.invokestatic 174, 3) := by decide +kernel
theorem dX8_thresh_16 : decode cX8_thresh 16 = .ok (.invokestatic 292, 3) := by decide +kernel
theorem dX8_thresh_19 : decode cX8_thresh 19 = .ok (.istore_n 2, 1) := by decide +kernel
theorem dX8_thresh_20 : decode cX8_thresh 20 = .ok (.aload_n 0, 1) := by decide +kernel
theorem dX8_thresh_21 : decode cX8_thresh 21 = .ok (.getfield 26, 3) := by decide +kernel
theorem dX8_thresh_24 : decode cX8_thresh 24 = .ok (.getfield 106, 3) := by decide +kernel
theorem dX8_thresh_27 : decode cX8_thresh 27 = .ok (.iload_n 1, 1) := by decide +kernel
theorem dX8_thresh_28 : decode cX8_thresh 28 = .ok (.aload_n 0, 1) := by decide +kernel
theorem dX8_thresh_29 : decode cX8_thresh 29 = .ok (.getfield 26, 3) := by decide +kernel
theorem dX8_thresh_32 : decode cX8_thresh 32 = .ok (.getfield 106, 3) := by decide +kernel
theorem dX8_thresh_35 : decode cX8_thresh 35 = .ok (.iload_n 1, 1) := by decide +kernel
theorem dX8_thresh_36 : decode cX8_thresh 36 = .ok (.invokestatic 174, 3) := by decide +kernel
theorem dX8_thresh_39 : decode cX8_thresh 39 = .ok (.iload_n 2, 1) := by decide +kernel
theorem dX8_thresh_40 : decode cX8_thresh 40 = .ok (.isub, 1) := by decide +kernel
theorem dX8_thresh_41 : decode cX8_thresh 41 = .ok (.invokestatic 102, 3) := by decide +kernel
theorem dX8_thresh_44 : decode cX8_thresh 44 = .ok (.aload_n 0, 1) := by decide +kernel
theorem dX8_thresh_45 : decode cX8_thresh 45 = .ok (.getfield 26, 3) := by decide +kernel
theorem dX8_thresh_48 : decode cX8_thresh 48 = .ok (.getfield 216, 3) := by decide +kernel
theorem dX8_thresh_51 : decode cX8_thresh 51 = .ok (.iload_n 1, 1) := by decide +kernel
theorem dX8_thresh_52 : decode cX8_thresh 52 = .ok (.aload_n 0, 1) := by decide +kernel
theorem dX8_thresh_53 : decode cX8_thresh 53 = .ok (.getfield 26, 3) := by decide +kernel
theorem dX8_thresh_56 : decode cX8_thresh 56 = .ok (.getfield 216, 3) := by decide +kernel
theorem dX8_thresh_59 : decode cX8_thresh 59 = .ok (.iload_n 1, 1) := by decide +kernel
theorem dX8_thresh_60 : decode cX8_thresh 60 = .ok (.invokestatic 174, 3) := by decide +kernel
theorem dX8_thresh_63 : decode cX8_thresh 63 = .ok (.iconst 1, 1) := by decide +kernel
theorem dX8_thresh_64 : decode cX8_thresh 64 = .ok (.iadd, 1) := by decide +kernel
theorem dX8_thresh_65 : decode cX8_thresh 65 = .ok (.invokestatic 102, 3) := by decide +kernel
theorem dX8_thresh_68 : decode cX8_thresh 68 = .ok (.aload_n 0, 1) := by decide +kernel
theorem dX8_thresh_69 : decode cX8_thresh 69 = .ok (.getfield 40, 3) := by decide +kernel
theorem dX8_thresh_72 : decode cX8_thresh 72 = .ok (.aload_n 0, 1) := by decide +kernel
theorem dX8_thresh_73 : decode cX8_thresh 73 = .ok (.getfield 26, 3) := by decide +kernel
theorem dX8_thresh_76 : decode cX8_thresh 76 = .ok (.getfield 91, 3) := by decide +kernel
theorem dX8_thresh_79 : decode cX8_thresh 79 = .ok (.iload_n 1, 1) := by decide +kernel
theorem dX8_thresh_80 : decode cX8_thresh 80 = .ok (.invokevirtual 295, 3) := by decide +kernel
theorem dX8_thresh_83 : decode cX8_thresh 83 = .ok (.aload_n 0, 1) := by decide +kernel
theorem dX8_thresh_84 : decode cX8_thresh 84 = .ok (.getfield 26, 3) := by decide +kernel
theorem dX8_thresh_87 : decode cX8_thresh 87 = .ok (.iload_n 1, 1) := by decide +kernel
theorem dX8_thresh_88 : decode cX8_thresh 88 = .ok (.invokevirtual 261, 3) := by decide +kernel
theorem dX8_thresh_91 : decode cX8_thresh 91 = .ok (.ifCond .ne 25, 3) := by decide +kernel
theorem dX8_thresh_94 : decode cX8_thresh 94 = .ok (.aload_n 0, 1) := by decide +kernel
theorem dX8_thresh_95 : decode cX8_thresh 95 = .ok (.getfield 26, 3) := by decide +kernel
theorem dX8_thresh_98 : decode cX8_thresh 98 = .ok (.getfield 218, 3) := by decide +kernel
theorem dX8_thresh_101 : decode cX8_thresh 101 = .ok (.iload_n 1, 1) := by decide +kernel
theorem dX8_thresh_102 : decode cX8_thresh 102 = .ok (.aload_n 0, 1) := by decide +kernel
theorem dX8_thresh_103 : decode cX8_thresh 103 = .ok (.getfield 61, 3) := by decide +kernel
theorem dX8_thresh_106 : decode cX8_thresh 106 = .ok (.getfield 152, 3) := by decide +kernel
theorem dX8_thresh_109 : decode cX8_thresh 109 = .ok (.invokestatic 102, 3) := by decide +kernel
theorem dX8_thresh_112 : decode cX8_thresh 112 = .ok (.aload_n 0, 1) := by decide +kernel
theorem dX8_thresh_113 : decode cX8_thresh 113 = .ok (.invokevirtual 299, 3) := by decide +kernel
theorem dX8_thresh_116 : decode cX8_thresh 116 = .ok (.return_, 1) := by decide +kernel
theorem dX8_goOn_0 : decode cX8_goOn 0 = .ok (.aload_n 0, 1) := by decide +kernel
theorem dX8_goOn_1 : decode cX8_goOn 1 = .ok (.getfield 61, 3) := by decide +kernel
theorem dX8_goOn_4 : decode cX8_goOn 4 = .ok (.dup, 1) := by decide +kernel
theorem dX8_goOn_5 : decode cX8_goOn 5 = .ok (.getfield 200, 3) := by decide +kernel
theorem dX8_goOn_8 : decode cX8_goOn 8 = .ok (.iconst 1, 1) := by decide +kernel
theorem dX8_goOn_9 : decode cX8_goOn 9 = .ok (.iadd, 1) := by decide +kernel
theorem dX8_goOn_10 : decode cX8_goOn 10 = .ok (.putfield 200, 3) := by decide +kernel
theorem dX8_goOn_13 : decode cX8_goOn 13 = .ok (.aload_n 0, 1) := by decide +kernel
theorem dX8_goOn_14 : decode cX8_goOn 14 = .ok (.getfield 61, 3) := by decide +kernel
theorem dX8_goOn_17 : decode cX8_goOn 17 = .ok (.getfield 200, 3) := by decide +kernel
theorem dX8_goOn_20 : decode cX8_goOn 20 = .ok (.aload_n 0, 1) := by decide +kernel
theorem dX8_goOn_21 : decode cX8_goOn 21 = .ok (.getfield 54, 3) := by decide +kernel
theorem dX8_goOn_24 : decode cX8_goOn 24 = .ok (.getfield 170, 3) := by decide +kernel
theorem dX8_goOn_27 : decode cX8_goOn 27 = .ok (.if_icmp .ge 7, 3) := by decide +kernel
theorem dX8_goOn_30 : decode cX8_goOn 30 = .ok (.iconst 1, 1) := by decide +kernel
theorem dX8_goOn_31 : decode cX8_goOn 31 = .ok (.goto 4, 3) := by decide +kernel
theorem dX8_goOn_34 : decode cX8_goOn 34 = .ok (.iconst 0, 1) := by decide +kernel
theorem dX8_goOn_35 : decode cX8_goOn 35 = .ok (.istore_n 1, 1) := by decide +kernel
theorem dX8_goOn_36 : decode cX8_goOn 36 = .ok (.iload_n 1, 1) := by decide +kernel
theorem dX8_goOn_37 : decode cX8_goOn 37 = .ok (.ifCond .eq 23, 3) := by decide +kernel
theorem dX8_goOn_40 : decode cX8_goOn 40 = .ok (.aload_n 0, 1) := by decide +kernel
theorem dX8_goOn_41 : decode cX8_goOn 41 = .ok (.getfield 54, 3) := by decide +kernel
theorem dX8_goOn_44 : decode cX8_goOn 44 = .ok (.getfield 171, 3) := by decide +kernel
theorem dX8_goOn_47 : decode cX8_goOn 47 = .ok (.aload_n 0, 1) := by decide +kernel
theorem dX8_goOn_48 : decode cX8_goOn 48 = .ok (.getfield 61, 3) := by decide +kernel
theorem dX8_goOn_51 : decode cX8_goOn 51 = .ok (.getfield 200, 3) := by decide +kernel
theorem dX8_goOn_54 : decode cX8_goOn 54 = .ok (.invokestatic 174, 3) := by decide +kernel
theorem dX8_goOn_57 : decode cX8_goOn 57 = .ok (.goto 10, 3) := by decide +kernel
theorem dX8_goOn_60 : decode cX8_goOn 60 = .ok (.aload_n 0, 1) := by decide +kernel
theorem dX8_goOn_61 : decode cX8_goOn 61 = .ok (.getfield 61, 3) := by decide +kernel
theorem dX8_goOn_64 : decode cX8_goOn 64 = .ok (.getfield 149, 3) := by decide +kernel
theorem dX8_goOn_67 : decode cX8_goOn 67 = .ok (.istore_n 2, 1) := by decide +kernel
theorem dX8_goOn_68 : decode cX8_goOn 68 = .ok (.iload_n 1, 1) := by decide +kernel
theorem dX8_goOn_69 : decode cX8_goOn 69 = .ok (.ifCond .eq 30, 3) := by decide +kernel
theorem dX8_goOn_72 : decode cX8_goOn 72 = .ok (.aload_n 0, 1) := by decide +kernel
theorem dX8_goOn_73 : decode cX8_goOn 73 = .ok (.getfield 33, 3) := by decide +kernel
theorem dX8_goOn_76 : decode cX8_goOn 76 = .ok (.aload_n 0, 1) := by decide +kernel
theorem dX8_goOn_77 : decode cX8_goOn 77 = .ok (.getfield 61, 3) := by decide +kernel
theorem dX8_goOn_80 : decode cX8_goOn 80 = .ok (.getfield 149, 3) := by decide +kernel
theorem dX8_goOn_83 : decode cX8_goOn 83 = .ok (.iload_n 2, 1) := by decide +kernel
theorem dX8_goOn_84 : decode cX8_goOn 84 = .ok (.invokevirtual 196, 3) := by decide +kernel
theorem dX8_goOn_87 : decode cX8_goOn 87 = .ok (.iconst (-1), 1) := by decide +kernel
theorem dX8_goOn_88 : decode cX8_goOn 88 = .ok (.if_icmp .eq 11, 3) := by decide +kernel
theorem dX8_goOn_91 : decode cX8_goOn 91 = .ok (.aload_n 0, 1) := by decide +kernel
theorem dX8_goOn_92 : decode cX8_goOn 92 = .ok (.iload_n 2, 1) := by decide +kernel
theorem dX8_goOn_93 : decode cX8_goOn 93 = .ok (.invokevirtual 203, 3) := by decide +kernel
theorem dX8_goOn_96 : decode cX8_goOn 96 = .ok (.goto 11, 3) := by decide +kernel
theorem dX8_goOn_99 : decode cX8_goOn 99 = .ok (.aload_n 0, 1) := by decide +kernel
theorem dX8_goOn_100 : decode cX8_goOn 100 = .ok (.getfield 61, 3) := by decide +kernel
theorem dX8_goOn_103 : decode cX8_goOn 103 = .ok (.iconst 0, 1) := by decide +kernel
theorem dX8_goOn_104 : decode cX8_goOn 104 = .ok (.putfield 163, 3) := by decide +kernel
theorem dX8_goOn_107 : decode cX8_goOn 107 = .ok (.return_, 1) := by decide +kernel
theorem dX8_setOutFor_0 : decode cX8_setOutFor 0 = .ok (.aload_n 0, 1) := by decide +kernel
theorem dX8_setOutFor_1 : decode cX8_setOutFor 1 = .ok (.getfield 61, 3) := by decide +kernel
theorem dX8_setOutFor_4 : decode cX8_setOutFor 4 = .ok (.aload_n 0, 1) := by decide +kernel
theorem dX8_setOutFor_5 : decode cX8_setOutFor 5 = .ok (.getfield 33, 3) := by decide +kernel
theorem dX8_setOutFor_8 : decode cX8_setOutFor 8 = .ok (.aload_n 0, 1) := by decide +kernel
theorem dX8_setOutFor_9 : decode cX8_setOutFor 9 = .ok (.getfield 61, 3) := by decide +kernel
theorem dX8_setOutFor_12 : decode cX8_setOutFor 12 = .ok (.getfield 149, 3) := by decide +kernel
theorem dX8_setOutFor_15 : decode cX8_setOutFor 15 = .ok (.iload_n 1, 1) := by decide +kernel
theorem dX8_setOutFor_16 : decode cX8_setOutFor 16 = .ok (.invokevirtual 196, 3) := by decide +kernel
theorem dX8_setOutFor_19 : decode cX8_setOutFor 19 = .ok (.putfield 143, 3) := by decide +kernel
theorem dX8_setOutFor_22 : decode cX8_setOutFor 22 = .ok (.aload_n 0, 1) := by decide +kernel
theorem dX8_setOutFor_23 : decode cX8_setOutFor 23 = .ok (.getfield 61, 3) := by decide +kernel
theorem dX8_setOutFor_26 : decode cX8_setOutFor 26 = .ok (.iload_n 1, 1) := by decide +kernel
theorem dX8_setOutFor_27 : decode cX8_setOutFor 27 = .ok (.putfield 149, 3) := by decide +kernel
theorem dX8_setOutFor_30 : decode cX8_setOutFor 30 = .ok (.return_, 1) := by decide +kernel
theorem dX8_within_0 : decode cX8_within 0 = .ok (.iload_n 0, 1) := by decide +kernel
theorem dX8_within_1 : decode cX8_within 1 = .ok (.iload_n 1, 1) := by decide +kernel
theorem dX8_within_2 : decode cX8_within 2 = .ok (.if_icmp .lt 12, 3) := by decide +kernel
theorem dX8_within_5 : decode cX8_within 5 = .ok (.iload_n 0, 1) := by decide +kernel
theorem dX8_within_6 : decode cX8_within 6 = .ok (.iload_n 2, 1) := by decide +kernel
theorem dX8_within_7 : decode cX8_within 7 = .ok (.if_icmp .gt 7, 3) := by decide +kernel
theorem dX8_within_10 : decode cX8_within 10 = .ok (.iconst 1, 1) := by decide +kernel
theorem dX8_within_11 : decode cX8_within 11 = .ok (.goto 4, 3) := by decide +kernel
theorem dX8_within_14 : decode cX8_within 14 = .ok (.iconst 0, 1) := by decide +kernel
theorem dX8_within_15 : decode cX8_within 15 = .ok (.ireturn, 1) := by decide +kernel
theorem dX8_at_0 : decode cX8_at 0 = .ok (.iload_n 1, 1) := by decide +kernel
theorem dX8_at_1 : decode cX8_at 1 = .ok (.ifCond .lt 15, 3) := by decide +kernel
theorem dX8_at_4 : decode cX8_at 4 = .ok (.iload_n 1, 1) := by decide +kernel
theorem dX8_at_5 : decode cX8_at 5 = .ok (.aload_n 0, 1) := by decide +kernel
theorem dX8_at_6 : decode cX8_at 6 = .ok (.arraylength, 1) := by decide +kernel
theorem dX8_at_7 : decode cX8_at 7 = .ok (.if_icmp .ge 9, 3) := by decide +kernel
theorem dX8_at_10 : decode cX8_at 10 = .ok (.aload_n 0, 1) := by decide +kernel
theorem dX8_at_11 : decode cX8_at 11 = .ok (.iload_n 1, 1) := by decide +kernel
theorem dX8_at_12 : decode cX8_at 12 = .ok (.iaload, 1) := by decide +kernel
theorem dX8_at_13 : decode cX8_at 13 = .ok (.goto 4, 3) := by decide +kernel
theorem dX8_at_16 : decode cX8_at 16 = .ok (.iconst (-1), 1) := by decide +kernel
theorem dX8_at_17 : decode cX8_at 17 = .ok (.ireturn, 1) := by decide +kernel
theorem dX8_put_0 : decode cX8_put 0 = .ok (.iload_n 1, 1) := by decide +kernel
theorem dX8_put_1 : decode cX8_put 1 = .ok (.ifCond .lt 13, 3) := by decide +kernel
theorem dX8_put_4 : decode cX8_put 4 = .ok (.iload_n 1, 1) := by decide +kernel
theorem dX8_put_5 : decode cX8_put 5 = .ok (.aload_n 0, 1) := by decide +kernel
theorem dX8_put_6 : decode cX8_put 6 = .ok (.arraylength, 1) := by decide +kernel
theorem dX8_put_7 : decode cX8_put 7 = .ok (.if_icmp .ge 7, 3) := by decide +kernel
theorem dX8_put_10 : decode cX8_put 10 = .ok (.aload_n 0, 1) := by decide +kernel
theorem dX8_put_11 : decode cX8_put 11 = .ok (.iload_n 1, 1) := by decide +kernel
theorem dX8_put_12 : decode cX8_put 12 = .ok (.iload_n 2, 1) := by decide +kernel
theorem dX8_put_13 : decode cX8_put 13 = .ok (.iastore, 1) := by decide +kernel
theorem dX8_put_14 : decode cX8_put 14 = .ok (.return_, 1) := by decide +kernel
theorem dX8_at__0 : decode cX8_at_ 0 = .ok (.iload_n 1, 1) := by decide +kernel
theorem dX8_at__1 : decode cX8_at_ 1 = .ok (.ifCond .lt 29, 3) := by decide +kernel
theorem dX8_at__4 : decode cX8_at_ 4 = .ok (.iload_n 1, 1) := by decide +kernel
theorem dX8_at__5 : decode cX8_at_ 5 = .ok (.aload_n 0, 1) := by decide +kernel
theorem dX8_at__6 : decode cX8_at_ 6 = .ok (.arraylength, 1) := by decide +kernel
theorem dX8_at__7 : decode cX8_at_ 7 = .ok (.if_icmp .ge 23, 3) := by decide +kernel
theorem dX8_at__10 : decode cX8_at_ 10 = .ok (.iload_n 2, 1) := by decide +kernel
theorem dX8_at__11 : decode cX8_at_ 11 = .ok (.ifCond .lt 19, 3) := by decide +kernel
theorem dX8_at__14 : decode cX8_at_ 14 = .ok (.iload_n 2, 1) := by decide +kernel
theorem dX8_at__15 : decode cX8_at_ 15 = .ok (.aload_n 0, 1) := by decide +kernel
theorem dX8_at__16 : decode cX8_at_ 16 = .ok (.iload_n 1, 1) := by decide +kernel
theorem dX8_at__17 : decode cX8_at_ 17 = .ok (.aaload, 1) := by decide +kernel
theorem dX8_at__18 : decode cX8_at_ 18 = .ok (.arraylength, 1) := by decide +kernel
theorem dX8_at__19 : decode cX8_at_ 19 = .ok (.if_icmp .ge 11, 3) := by decide +kernel
theorem dX8_at__22 : decode cX8_at_ 22 = .ok (.aload_n 0, 1) := by decide +kernel
theorem dX8_at__23 : decode cX8_at_ 23 = .ok (.iload_n 1, 1) := by decide +kernel
theorem dX8_at__24 : decode cX8_at_ 24 = .ok (.aaload, 1) := by decide +kernel
theorem dX8_at__25 : decode cX8_at_ 25 = .ok (.iload_n 2, 1) := by decide +kernel
theorem dX8_at__26 : decode cX8_at_ 26 = .ok (.iaload, 1) := by decide +kernel
theorem dX8_at__27 : decode cX8_at_ 27 = .ok (.goto 4, 3) := by decide +kernel
theorem dX8_at__30 : decode cX8_at_ 30 = .ok (.iconst (-1), 1) := by decide +kernel
theorem dX8_at__31 : decode cX8_at_ 31 = .ok (.ireturn, 1) := by decide +kernel
theorem dX8_put__0 : decode cX8_put_ 0 = .ok (.iload_n 1, 1) := by decide +kernel
theorem dX8_put__1 : decode cX8_put_ 1 = .ok (.ifCond .lt 27, 3) := by decide +kernel
theorem dX8_put__4 : decode cX8_put_ 4 = .ok (.iload_n 1, 1) := by decide +kernel
theorem dX8_put__5 : decode cX8_put_ 5 = .ok (.aload_n 0, 1) := by decide +kernel
theorem dX8_put__6 : decode cX8_put_ 6 = .ok (.arraylength, 1) := by decide +kernel
theorem dX8_put__7 : decode cX8_put_ 7 = .ok (.if_icmp .ge 21, 3) := by decide +kernel
theorem dX8_put__10 : decode cX8_put_ 10 = .ok (.iload_n 2, 1) := by decide +kernel
theorem dX8_put__11 : decode cX8_put_ 11 = .ok (.ifCond .lt 17, 3) := by decide +kernel
theorem dX8_put__14 : decode cX8_put_ 14 = .ok (.iload_n 2, 1) := by decide +kernel
theorem dX8_put__15 : decode cX8_put_ 15 = .ok (.aload_n 0, 1) := by decide +kernel
theorem dX8_put__16 : decode cX8_put_ 16 = .ok (.iload_n 1, 1) := by decide +kernel
theorem dX8_put__17 : decode cX8_put_ 17 = .ok (.aaload, 1) := by decide +kernel
theorem dX8_put__18 : decode cX8_put_ 18 = .ok (.arraylength, 1) := by decide +kernel
theorem dX8_put__19 : decode cX8_put_ 19 = .ok (.if_icmp .ge 9, 3) := by decide +kernel
theorem dX8_put__22 : decode cX8_put_ 22 = .ok (.aload_n 0, 1) := by decide +kernel
theorem dX8_put__23 : decode cX8_put_ 23 = .ok (.iload_n 1, 1) := by decide +kernel
theorem dX8_put__24 : decode cX8_put_ 24 = .ok (.aaload, 1) := by decide +kernel
theorem dX8_put__25 : decode cX8_put_ 25 = .ok (.iload_n 2, 1) := by decide +kernel
theorem dX8_put__26 : decode cX8_put_ 26 = .ok (.iload_n 3, 1) := by decide +kernel
theorem dX8_put__27 : decode cX8_put_ 27 = .ok (.iastore, 1) := by decide +kernel
theorem dX8_put__28 : decode cX8_put_ 28 = .ok (.return_, 1) := by decide +kernel
theorem dX8_cut_0 : decode cX8_cut 0 = .ok (.iload_n 1, 1) := by decide +kernel
theorem dX8_cut_1 : decode cX8_cut 1 = .ok (.ifCond .le 9, 3) := by decide +kernel
theorem dX8_cut_4 : decode cX8_cut 4 = .ok (.iload_n 0, 1) := by decide +kernel
theorem dX8_cut_5 : decode cX8_cut 5 = .ok (.iload_n 1, 1) := by decide +kernel
theorem dX8_cut_6 : decode cX8_cut 6 = .ok (.idiv, 1) := by decide +kernel
theorem dX8_cut_7 : decode cX8_cut 7 = .ok (.goto 4, 3) := by decide +kernel
theorem dX8_cut_10 : decode cX8_cut 10 = .ok (.iconst 0, 1) := by decide +kernel
theorem dX8_cut_11 : decode cX8_cut 11 = .ok (.ireturn, 1) := by decide +kernel
theorem dX8_upwards_0 : decode cX8_upwards 0 = .ok (.iload_n 1, 1) := by decide +kernel
theorem dX8_upwards_1 : decode cX8_upwards 1 = .ok (.ifCond .le 13, 3) := by decide +kernel
theorem dX8_upwards_4 : decode cX8_upwards 4 = .ok (.iload_n 0, 1) := by decide +kernel
theorem dX8_upwards_5 : decode cX8_upwards 5 = .ok (.iload_n 1, 1) := by decide +kernel
theorem dX8_upwards_6 : decode cX8_upwards 6 = .ok (.iadd, 1) := by decide +kernel
theorem dX8_upwards_7 : decode cX8_upwards 7 = .ok (.iconst 1, 1) := by decide +kernel
theorem dX8_upwards_8 : decode cX8_upwards 8 = .ok (.isub, 1) := by decide +kernel
theorem dX8_upwards_9 : decode cX8_upwards 9 = .ok (.iload_n 1, 1) := by decide +kernel
theorem dX8_upwards_10 : decode cX8_upwards 10 = .ok (.idiv, 1) := by decide +kernel
theorem dX8_upwards_11 : decode cX8_upwards 11 = .ok (.goto 4, 3) := by decide +kernel
theorem dX8_upwards_14 : decode cX8_upwards 14 = .ok (.iconst 0, 1) := by decide +kernel
theorem dX8_upwards_15 : decode cX8_upwards 15 = .ok (.ireturn, 1) := by decide +kernel
theorem dL_law_0 : decode cL_law 0 = .ok (.new 7, 3) := by decide +kernel
theorem dL_law_3 : decode cL_law 3 = .ok (.dup, 1) := by decide +kernel
theorem dL_law_4 : decode cL_law 4 = .ok (.invokespecial 9, 3) := by decide +kernel
theorem dL_law_7 : decode cL_law 7 = .ok (.astore_n 1, 1) := by decide +kernel
theorem dL_law_8 : decode cL_law 8 = .ok (.new 10, 3) := by decide +kernel
theorem dL_law_11 : decode cL_law 11 = .ok (.dup, 1) := by decide +kernel
theorem dL_law_12 : decode cL_law 12 = .ok (.invokespecial 12, 3) := by decide +kernel
theorem dL_law_15 : decode cL_law 15 = .ok (.astore_n 2, 1) := by decide +kernel
theorem dL_law_16 : decode cL_law 16 = .ok (.iconst 0, 1) := by decide +kernel
theorem dL_law_17 : decode cL_law 17 = .ok (.istore_n 3, 1) := by decide +kernel
theorem dL_law_18 : decode cL_law 18 = .ok (.iload_n 3, 1) := by decide +kernel
theorem dL_law_19 : decode cL_law 19 = .ok (.aload_n 0, 1) := by decide +kernel
theorem dL_law_20 : decode cL_law 20 = .ok (.arraylength, 1) := by decide +kernel
theorem dL_law_21 : decode cL_law 21 = .ok (.bipush 7, 2) := by decide +kernel
theorem dL_law_23 : decode cL_law 23 = .ok (.isub, 1) := by decide +kernel
theorem dL_law_24 : decode cL_law 24 = .ok (.if_icmp .gt 587, 3) := by decide +kernel
theorem dL_law_27 : decode cL_law 27 = .ok (.aload_n 0, 1) := by decide +kernel
theorem dL_law_28 : decode cL_law 28 = .ok (.iload_n 3, 1) := by decide +kernel
theorem dL_law_29 : decode cL_law 29 = .ok (.iaload, 1) := by decide +kernel
theorem dL_law_30 : decode cL_law 30 = .ok (.bipush 15, 2) := by decide +kernel
theorem dL_law_32 : decode cL_law 32 = .ok (.iand, 1) := by decide +kernel
theorem dL_law_33 : decode cL_law 33 = .ok (.tableswitch 572 0 14 #[75, 138, 161, 184, 259, 302, 345, 358, 391, 404, 427, 450, 483, 516, 549], 75) := by decide +kernel
theorem dL_law_108 : decode cL_law 108 = .ok (.aload_n 1, 1) := by decide +kernel
theorem dL_law_109 : decode cL_law 109 = .ok (.aload_n 0, 1) := by decide +kernel
theorem dL_law_110 : decode cL_law 110 = .ok (.iload_n 3, 1) := by decide +kernel
theorem dL_law_111 : decode cL_law 111 = .ok (.iconst 1, 1) := by decide +kernel
theorem dL_law_112 : decode cL_law 112 = .ok (.iadd, 1) := by decide +kernel
theorem dL_law_113 : decode cL_law 113 = .ok (.iaload, 1) := by decide +kernel
theorem dL_law_114 : decode cL_law 114 = .ok (.aload_n 0, 1) := by decide +kernel
theorem dL_law_115 : decode cL_law 115 = .ok (.iload_n 3, 1) := by decide +kernel
theorem dL_law_116 : decode cL_law 116 = .ok (.iconst 2, 1) := by decide +kernel
theorem dL_law_117 : decode cL_law 117 = .ok (.iadd, 1) := by decide +kernel
theorem dL_law_118 : decode cL_law 118 = .ok (.iaload, 1) := by decide +kernel
theorem dL_law_119 : decode cL_law 119 = .ok (.aload_n 0, 1) := by decide +kernel
theorem dL_law_120 : decode cL_law 120 = .ok (.iload_n 3, 1) := by decide +kernel
theorem dL_law_121 : decode cL_law 121 = .ok (.iconst 3, 1) := by decide +kernel
theorem dL_law_122 : decode cL_law 122 = .ok (.iadd, 1) := by decide +kernel
theorem dL_law_123 : decode cL_law 123 = .ok (.iaload, 1) := by decide +kernel
theorem dL_law_124 : decode cL_law 124 = .ok (.aload_n 0, 1) := by decide +kernel
theorem dL_law_125 : decode cL_law 125 = .ok (.iload_n 3, 1) := by decide +kernel
theorem dL_law_126 : decode cL_law 126 = .ok (.iconst 4, 1) := by decide +kernel
theorem dL_law_127 : decode cL_law 127 = .ok (.iadd, 1) := by decide +kernel
theorem dL_law_128 : decode cL_law 128 = .ok (.iaload, 1) := by decide +kernel
theorem dL_law_129 : decode cL_law 129 = .ok (.aload_n 0, 1) := by decide +kernel
theorem dL_law_130 : decode cL_law 130 = .ok (.iload_n 3, 1) := by decide +kernel
theorem dL_law_131 : decode cL_law 131 = .ok (.iconst 5, 1) := by decide +kernel
theorem dL_law_132 : decode cL_law 132 = .ok (.iadd, 1) := by decide +kernel
theorem dL_law_133 : decode cL_law 133 = .ok (.iaload, 1) := by decide +kernel
theorem dL_law_134 : decode cL_law 134 = .ok (.invokevirtual 13, 3) := by decide +kernel
theorem dL_law_137 : decode cL_law 137 = .ok (.aload_n 2, 1) := by decide +kernel
theorem dL_law_138 : decode cL_law 138 = .ok (.aload_n 0, 1) := by decide +kernel
theorem dL_law_139 : decode cL_law 139 = .ok (.iload_n 3, 1) := by decide +kernel
theorem dL_law_140 : decode cL_law 140 = .ok (.iconst 1, 1) := by decide +kernel
theorem dL_law_141 : decode cL_law 141 = .ok (.iadd, 1) := by decide +kernel
theorem dL_law_142 : decode cL_law 142 = .ok (.iaload, 1) := by decide +kernel
theorem dL_law_143 : decode cL_law 143 = .ok (.aload_n 0, 1) := by decide +kernel
theorem dL_law_144 : decode cL_law 144 = .ok (.iload_n 3, 1) := by decide +kernel
theorem dL_law_145 : decode cL_law 145 = .ok (.iconst 2, 1) := by decide +kernel
theorem dL_law_146 : decode cL_law 146 = .ok (.iadd, 1) := by decide +kernel
theorem dL_law_147 : decode cL_law 147 = .ok (.iaload, 1) := by decide +kernel
theorem dL_law_148 : decode cL_law 148 = .ok (.aload_n 0, 1) := by decide +kernel
theorem dL_law_149 : decode cL_law 149 = .ok (.iload_n 3, 1) := by decide +kernel
theorem dL_law_150 : decode cL_law 150 = .ok (.iconst 3, 1) := by decide +kernel
theorem dL_law_151 : decode cL_law 151 = .ok (.iadd, 1) := by decide +kernel
theorem dL_law_152 : decode cL_law 152 = .ok (.iaload, 1) := by decide +kernel
theorem dL_law_153 : decode cL_law 153 = .ok (.aload_n 0, 1) := by decide +kernel
theorem dL_law_154 : decode cL_law 154 = .ok (.iload_n 3, 1) := by decide +kernel
theorem dL_law_155 : decode cL_law 155 = .ok (.iconst 4, 1) := by decide +kernel
theorem dL_law_156 : decode cL_law 156 = .ok (.iadd, 1) := by decide +kernel
theorem dL_law_157 : decode cL_law 157 = .ok (.iaload, 1) := by decide +kernel
theorem dL_law_158 : decode cL_law 158 = .ok (.aload_n 0, 1) := by decide +kernel
theorem dL_law_159 : decode cL_law 159 = .ok (.iload_n 3, 1) := by decide +kernel
theorem dL_law_160 : decode cL_law 160 = .ok (.iconst 5, 1) := by decide +kernel
theorem dL_law_161 : decode cL_law 161 = .ok (.iadd, 1) := by decide +kernel
theorem dL_law_162 : decode cL_law 162 = .ok (.iaload, 1) := by decide +kernel
theorem dL_law_163 : decode cL_law 163 = .ok (.invokevirtual 17, 3) := by decide +kernel
theorem dL_law_166 : decode cL_law 166 = .ok (.if_icmp .eq 439, 3) := by decide +kernel
theorem dL_law_169 : decode cL_law 169 = .ok (.iconst 0, 1) := by decide +kernel
theorem dL_law_170 : decode cL_law 170 = .ok (.ireturn, 1) := by decide +kernel
theorem dL_law_171 : decode cL_law 171 = .ok (.aload_n 1, 1) := by decide +kernel
theorem dL_law_172 : decode cL_law 172 = .ok (.aload_n 0, 1) := by decide +kernel
theorem dL_law_173 : decode cL_law 173 = .ok (.iload_n 3, 1) := by decide +kernel
theorem dL_law_174 : decode cL_law 174 = .ok (.iconst 1, 1) := by decide +kernel
theorem dL_law_175 : decode cL_law 175 = .ok (.iadd, 1) := by decide +kernel
theorem dL_law_176 : decode cL_law 176 = .ok (.iaload, 1) := by decide +kernel
theorem dL_law_177 : decode cL_law 177 = .ok (.invokevirtual 18, 3) := by decide +kernel
theorem dL_law_180 : decode cL_law 180 = .ok (.aload_n 2, 1) := by decide +kernel
theorem dL_law_181 : decode cL_law 181 = .ok (.aload_n 0, 1) := by decide +kernel
theorem dL_law_182 : decode cL_law 182 = .ok (.iload_n 3, 1) := by decide +kernel
theorem dL_law_183 : decode cL_law 183 = .ok (.iconst 1, 1) := by decide +kernel
theorem dL_law_184 : decode cL_law 184 = .ok (.iadd, 1) := by decide +kernel
theorem dL_law_185 : decode cL_law 185 = .ok (.iaload, 1) := by decide +kernel
theorem dL_law_186 : decode cL_law 186 = .ok (.invokevirtual 22, 3) := by decide +kernel
theorem dL_law_189 : decode cL_law 189 = .ok (.if_icmp .eq 416, 3) := by decide +kernel
theorem dL_law_192 : decode cL_law 192 = .ok (.iconst 0, 1) := by decide +kernel
theorem dL_law_193 : decode cL_law 193 = .ok (.ireturn, 1) := by decide +kernel
theorem dL_law_194 : decode cL_law 194 = .ok (.aload_n 1, 1) := by decide +kernel
theorem dL_law_195 : decode cL_law 195 = .ok (.aload_n 0, 1) := by decide +kernel
theorem dL_law_196 : decode cL_law 196 = .ok (.iload_n 3, 1) := by decide +kernel
theorem dL_law_197 : decode cL_law 197 = .ok (.iconst 1, 1) := by decide +kernel
theorem dL_law_198 : decode cL_law 198 = .ok (.iadd, 1) := by decide +kernel
theorem dL_law_199 : decode cL_law 199 = .ok (.iaload, 1) := by decide +kernel
theorem dL_law_200 : decode cL_law 200 = .ok (.invokevirtual 23, 3) := by decide +kernel
theorem dL_law_203 : decode cL_law 203 = .ok (.aload_n 2, 1) := by decide +kernel
theorem dL_law_204 : decode cL_law 204 = .ok (.aload_n 0, 1) := by decide +kernel
theorem dL_law_205 : decode cL_law 205 = .ok (.iload_n 3, 1) := by decide +kernel
theorem dL_law_206 : decode cL_law 206 = .ok (.iconst 1, 1) := by decide +kernel
theorem dL_law_207 : decode cL_law 207 = .ok (.iadd, 1) := by decide +kernel
theorem dL_law_208 : decode cL_law 208 = .ok (.iaload, 1) := by decide +kernel
theorem dL_law_209 : decode cL_law 209 = .ok (.invokevirtual 26, 3) := by decide +kernel
theorem dL_law_212 : decode cL_law 212 = .ok (.if_icmp .eq 393, 3) := by decide +kernel
theorem dL_law_215 : decode cL_law 215 = .ok (.iconst 0, 1) := by decide +kernel
theorem dL_law_216 : decode cL_law 216 = .ok (.ireturn, 1) := by decide +kernel
theorem dL_law_217 : decode cL_law 217 = .ok (.aload_n 1, 1) := by decide +kernel
theorem dL_law_218 : decode cL_law 218 = .ok (.aload_n 0, 1) := by decide +kernel
theorem dL_law_219 : decode cL_law 219 = .ok (.iload_n 3, 1) := by decide +kernel
theorem dL_law_220 : decode cL_law 220 = .ok (.iconst 1, 1) := by decide +kernel
theorem dL_law_221 : decode cL_law 221 = .ok (.iadd, 1) := by decide +kernel
theorem dL_law_222 : decode cL_law 222 = .ok (.iaload, 1) := by decide +kernel
theorem dL_law_223 : decode cL_law 223 = .ok (.aload_n 0, 1) := by decide +kernel
theorem dL_law_224 : decode cL_law 224 = .ok (.iload_n 3, 1) := by decide +kernel
theorem dL_law_225 : decode cL_law 225 = .ok (.iconst 2, 1) := by decide +kernel
theorem dL_law_226 : decode cL_law 226 = .ok (.iadd, 1) := by decide +kernel
theorem dL_law_227 : decode cL_law 227 = .ok (.iaload, 1) := by decide +kernel
theorem dL_law_228 : decode cL_law 228 = .ok (.aload_n 0, 1) := by decide +kernel
theorem dL_law_229 : decode cL_law 229 = .ok (.iload_n 3, 1) := by decide +kernel
theorem dL_law_230 : decode cL_law 230 = .ok (.iconst 3, 1) := by decide +kernel
theorem dL_law_231 : decode cL_law 231 = .ok (.iadd, 1) := by decide +kernel
theorem dL_law_232 : decode cL_law 232 = .ok (.iaload, 1) := by decide +kernel
theorem dL_law_233 : decode cL_law 233 = .ok (.aload_n 0, 1) := by decide +kernel
theorem dL_law_234 : decode cL_law 234 = .ok (.iload_n 3, 1) := by decide +kernel
theorem dL_law_235 : decode cL_law 235 = .ok (.iconst 4, 1) := by decide +kernel
theorem dL_law_236 : decode cL_law 236 = .ok (.iadd, 1) := by decide +kernel
theorem dL_law_237 : decode cL_law 237 = .ok (.iaload, 1) := by decide +kernel
theorem dL_law_238 : decode cL_law 238 = .ok (.aload_n 0, 1) := by decide +kernel
theorem dL_law_239 : decode cL_law 239 = .ok (.iload_n 3, 1) := by decide +kernel
theorem dL_law_240 : decode cL_law 240 = .ok (.iconst 5, 1) := by decide +kernel
theorem dL_law_241 : decode cL_law 241 = .ok (.iadd, 1) := by decide +kernel
theorem dL_law_242 : decode cL_law 242 = .ok (.iaload, 1) := by decide +kernel
theorem dL_law_243 : decode cL_law 243 = .ok (.aload_n 0, 1) := by decide +kernel
theorem dL_law_244 : decode cL_law 244 = .ok (.iload_n 3, 1) := by decide +kernel
theorem dL_law_245 : decode cL_law 245 = .ok (.bipush 6, 2) := by decide +kernel
theorem dL_law_247 : decode cL_law 247 = .ok (.iadd, 1) := by decide +kernel
theorem dL_law_248 : decode cL_law 248 = .ok (.iaload, 1) := by decide +kernel
theorem dL_law_249 : decode cL_law 249 = .ok (.invokevirtual 27, 3) := by decide +kernel
theorem dL_law_252 : decode cL_law 252 = .ok (.aload_n 2, 1) := by decide +kernel
theorem dL_law_253 : decode cL_law 253 = .ok (.aload_n 0, 1) := by decide +kernel
theorem dL_law_254 : decode cL_law 254 = .ok (.iload_n 3, 1) := by decide +kernel
theorem dL_law_255 : decode cL_law 255 = .ok (.iconst 1, 1) := by decide +kernel
theorem dL_law_256 : decode cL_law 256 = .ok (.iadd, 1) := by decide +kernel
theorem dL_law_257 : decode cL_law 257 = .ok (.iaload, 1) := by decide +kernel
theorem dL_law_258 : decode cL_law 258 = .ok (.aload_n 0, 1) := by decide +kernel
theorem dL_law_259 : decode cL_law 259 = .ok (.iload_n 3, 1) := by decide +kernel
theorem dL_law_260 : decode cL_law 260 = .ok (.iconst 2, 1) := by decide +kernel
theorem dL_law_261 : decode cL_law 261 = .ok (.iadd, 1) := by decide +kernel
theorem dL_law_262 : decode cL_law 262 = .ok (.iaload, 1) := by decide +kernel
theorem dL_law_263 : decode cL_law 263 = .ok (.aload_n 0, 1) := by decide +kernel
theorem dL_law_264 : decode cL_law 264 = .ok (.iload_n 3, 1) := by decide +kernel
theorem dL_law_265 : decode cL_law 265 = .ok (.iconst 3, 1) := by decide +kernel
theorem dL_law_266 : decode cL_law 266 = .ok (.iadd, 1) := by decide +kernel
theorem dL_law_267 : decode cL_law 267 = .ok (.iaload, 1) := by decide +kernel
theorem dL_law_268 : decode cL_law 268 = .ok (.aload_n 0, 1) := by decide +kernel
theorem dL_law_269 : decode cL_law 269 = .ok (.iload_n 3, 1) := by decide +kernel
theorem dL_law_270 : decode cL_law 270 = .ok (.iconst 4, 1) := by decide +kernel
theorem dL_law_271 : decode cL_law 271 = .ok (.iadd, 1) := by decide +kernel
theorem dL_law_272 : decode cL_law 272 = .ok (.iaload, 1) := by decide +kernel
theorem dL_law_273 : decode cL_law 273 = .ok (.aload_n 0, 1) := by decide +kernel
theorem dL_law_274 : decode cL_law 274 = .ok (.iload_n 3, 1) := by decide +kernel
theorem dL_law_275 : decode cL_law 275 = .ok (.iconst 5, 1) := by decide +kernel
theorem dL_law_276 : decode cL_law 276 = .ok (.iadd, 1) := by decide +kernel
theorem dL_law_277 : decode cL_law 277 = .ok (.iaload, 1) := by decide +kernel
theorem dL_law_278 : decode cL_law 278 = .ok (.aload_n 0, 1) := by decide +kernel
theorem dL_law_279 : decode cL_law 279 = .ok (.iload_n 3, 1) := by decide +kernel
theorem dL_law_280 : decode cL_law 280 = .ok (.bipush 6, 2) := by decide +kernel
theorem dL_law_282 : decode cL_law 282 = .ok (.iadd, 1) := by decide +kernel
theorem dL_law_283 : decode cL_law 283 = .ok (.iaload, 1) := by decide +kernel
theorem dL_law_284 : decode cL_law 284 = .ok (.invokevirtual 31, 3) := by decide +kernel
theorem dL_law_287 : decode cL_law 287 = .ok (.if_icmp .eq 318, 3) := by decide +kernel
theorem dL_law_290 : decode cL_law 290 = .ok (.iconst 0, 1) := by decide +kernel
theorem dL_law_291 : decode cL_law 291 = .ok (.ireturn, 1) := by decide +kernel
theorem dL_law_292 : decode cL_law 292 = .ok (.aload_n 1, 1) := by decide +kernel
theorem dL_law_293 : decode cL_law 293 = .ok (.aload_n 0, 1) := by decide +kernel
theorem dL_law_294 : decode cL_law 294 = .ok (.iload_n 3, 1) := by decide +kernel
theorem dL_law_295 : decode cL_law 295 = .ok (.iconst 1, 1) := by decide +kernel
theorem dL_law_296 : decode cL_law 296 = .ok (.iadd, 1) := by decide +kernel
theorem dL_law_297 : decode cL_law 297 = .ok (.iaload, 1) := by decide +kernel
theorem dL_law_298 : decode cL_law 298 = .ok (.aload_n 0, 1) := by decide +kernel
theorem dL_law_299 : decode cL_law 299 = .ok (.iload_n 3, 1) := by decide +kernel
theorem dL_law_300 : decode cL_law 300 = .ok (.iconst 2, 1) := by decide +kernel
theorem dL_law_301 : decode cL_law 301 = .ok (.iadd, 1) := by decide +kernel
theorem dL_law_302 : decode cL_law 302 = .ok (.iaload, 1) := by decide +kernel
theorem dL_law_303 : decode cL_law 303 = .ok (.aload_n 0, 1) := by decide +kernel
theorem dL_law_304 : decode cL_law 304 = .ok (.iload_n 3, 1) := by decide +kernel
theorem dL_law_305 : decode cL_law 305 = .ok (.iconst 3, 1) := by decide +kernel
theorem dL_law_306 : decode cL_law 306 = .ok (.iadd, 1) := by decide +kernel
theorem dL_law_307 : decode cL_law 307 = .ok (.iaload, 1) := by decide +kernel
theorem dL_law_308 : decode cL_law 308 = .ok (.invokevirtual 32, 3) := by decide +kernel
theorem dL_law_311 : decode cL_law 311 = .ok (.aload_n 2, 1) := by decide +kernel
theorem dL_law_312 : decode cL_law 312 = .ok (.aload_n 0, 1) := by decide +kernel
theorem dL_law_313 : decode cL_law 313 = .ok (.iload_n 3, 1) := by decide +kernel
theorem dL_law_314 : decode cL_law 314 = .ok (.iconst 1, 1) := by decide +kernel
theorem dL_law_315 : decode cL_law 315 = .ok (.iadd, 1) := by decide +kernel
theorem dL_law_316 : decode cL_law 316 = .ok (.iaload, 1) := by decide +kernel
theorem dL_law_317 : decode cL_law 317 = .ok (.aload_n 0, 1) := by decide +kernel
theorem dL_law_318 : decode cL_law 318 = .ok (.iload_n 3, 1) := by decide +kernel
theorem dL_law_319 : decode cL_law 319 = .ok (.iconst 2, 1) := by decide +kernel
theorem dL_law_320 : decode cL_law 320 = .ok (.iadd, 1) := by decide +kernel
theorem dL_law_321 : decode cL_law 321 = .ok (.iaload, 1) := by decide +kernel
theorem dL_law_322 : decode cL_law 322 = .ok (.aload_n 0, 1) := by decide +kernel
theorem dL_law_323 : decode cL_law 323 = .ok (.iload_n 3, 1) := by decide +kernel
theorem dL_law_324 : decode cL_law 324 = .ok (.iconst 3, 1) := by decide +kernel
theorem dL_law_325 : decode cL_law 325 = .ok (.iadd, 1) := by decide +kernel
theorem dL_law_326 : decode cL_law 326 = .ok (.iaload, 1) := by decide +kernel
theorem dL_law_327 : decode cL_law 327 = .ok (.invokevirtual 36, 3) := by decide +kernel
theorem dL_law_330 : decode cL_law 330 = .ok (.if_icmp .eq 275, 3) := by decide +kernel
theorem dL_law_333 : decode cL_law 333 = .ok (.iconst 0, 1) := by decide +kernel
theorem dL_law_334 : decode cL_law 334 = .ok (.ireturn, 1) := by decide +kernel
theorem dL_law_335 : decode cL_law 335 = .ok (.aload_n 1, 1) := by decide +kernel
theorem dL_law_336 : decode cL_law 336 = .ok (.aload_n 0, 1) := by decide +kernel
theorem dL_law_337 : decode cL_law 337 = .ok (.iload_n 3, 1) := by decide +kernel
theorem dL_law_338 : decode cL_law 338 = .ok (.iconst 1, 1) := by decide +kernel
theorem dL_law_339 : decode cL_law 339 = .ok (.iadd, 1) := by decide +kernel
theorem dL_law_340 : decode cL_law 340 = .ok (.iaload, 1) := by decide +kernel
theorem dL_law_341 : decode cL_law 341 = .ok (.aload_n 0, 1) := by decide +kernel
theorem dL_law_342 : decode cL_law 342 = .ok (.iload_n 3, 1) := by decide +kernel
theorem dL_law_343 : decode cL_law 343 = .ok (.iconst 2, 1) := by decide +kernel
theorem dL_law_344 : decode cL_law 344 = .ok (.iadd, 1) := by decide +kernel
theorem dL_law_345 : decode cL_law 345 = .ok (.iaload, 1) := by decide +kernel
theorem dL_law_346 : decode cL_law 346 = .ok (.aload_n 0, 1) := by decide +kernel
theorem dL_law_347 : decode cL_law 347 = .ok (.iload_n 3, 1) := by decide +kernel
theorem dL_law_348 : decode cL_law 348 = .ok (.iconst 3, 1) := by decide +kernel
theorem dL_law_349 : decode cL_law 349 = .ok (.iadd, 1) := by decide +kernel
theorem dL_law_350 : decode cL_law 350 = .ok (.iaload, 1) := by decide +kernel
theorem dL_law_351 : decode cL_law 351 = .ok (.invokevirtual 37, 3) := by decide +kernel
theorem dL_law_354 : decode cL_law 354 = .ok (.aload_n 2, 1) := by decide +kernel
theorem dL_law_355 : decode cL_law 355 = .ok (.aload_n 0, 1) := by decide +kernel
theorem dL_law_356 : decode cL_law 356 = .ok (.iload_n 3, 1) := by decide +kernel
theorem dL_law_357 : decode cL_law 357 = .ok (.iconst 1, 1) := by decide +kernel
theorem dL_law_358 : decode cL_law 358 = .ok (.iadd, 1) := by decide +kernel
theorem dL_law_359 : decode cL_law 359 = .ok (.iaload, 1) := by decide +kernel
theorem dL_law_360 : decode cL_law 360 = .ok (.aload_n 0, 1) := by decide +kernel
theorem dL_law_361 : decode cL_law 361 = .ok (.iload_n 3, 1) := by decide +kernel
theorem dL_law_362 : decode cL_law 362 = .ok (.iconst 2, 1) := by decide +kernel
theorem dL_law_363 : decode cL_law 363 = .ok (.iadd, 1) := by decide +kernel
theorem dL_law_364 : decode cL_law 364 = .ok (.iaload, 1) := by decide +kernel
theorem dL_law_365 : decode cL_law 365 = .ok (.aload_n 0, 1) := by decide +kernel
theorem dL_law_366 : decode cL_law 366 = .ok (.iload_n 3, 1) := by decide +kernel
theorem dL_law_367 : decode cL_law 367 = .ok (.iconst 3, 1) := by decide +kernel
theorem dL_law_368 : decode cL_law 368 = .ok (.iadd, 1) := by decide +kernel
theorem dL_law_369 : decode cL_law 369 = .ok (.iaload, 1) := by decide +kernel
theorem dL_law_370 : decode cL_law 370 = .ok (.invokevirtual 40, 3) := by decide +kernel
theorem dL_law_373 : decode cL_law 373 = .ok (.if_icmp .eq 232, 3) := by decide +kernel
theorem dL_law_376 : decode cL_law 376 = .ok (.iconst 0, 1) := by decide +kernel
theorem dL_law_377 : decode cL_law 377 = .ok (.ireturn, 1) := by decide +kernel
theorem dL_law_378 : decode cL_law 378 = .ok (.aload_n 1, 1) := by decide +kernel
theorem dL_law_379 : decode cL_law 379 = .ok (.invokevirtual 41, 3) := by decide +kernel
theorem dL_law_382 : decode cL_law 382 = .ok (.aload_n 2, 1) := by decide +kernel
theorem dL_law_383 : decode cL_law 383 = .ok (.invokevirtual 45, 3) := by decide +kernel
theorem dL_law_386 : decode cL_law 386 = .ok (.if_icmp .eq 219, 3) := by decide +kernel
theorem dL_law_389 : decode cL_law 389 = .ok (.iconst 0, 1) := by decide +kernel
theorem dL_law_390 : decode cL_law 390 = .ok (.ireturn, 1) := by decide +kernel
theorem dL_law_391 : decode cL_law 391 = .ok (.aload_n 1, 1) := by decide +kernel
theorem dL_law_392 : decode cL_law 392 = .ok (.aload_n 0, 1) := by decide +kernel
theorem dL_law_393 : decode cL_law 393 = .ok (.iload_n 3, 1) := by decide +kernel
theorem dL_law_394 : decode cL_law 394 = .ok (.iconst 1, 1) := by decide +kernel
theorem dL_law_395 : decode cL_law 395 = .ok (.iadd, 1) := by decide +kernel
theorem dL_law_396 : decode cL_law 396 = .ok (.iaload, 1) := by decide +kernel
theorem dL_law_397 : decode cL_law 397 = .ok (.aload_n 0, 1) := by decide +kernel
theorem dL_law_398 : decode cL_law 398 = .ok (.iload_n 3, 1) := by decide +kernel
theorem dL_law_399 : decode cL_law 399 = .ok (.iconst 2, 1) := by decide +kernel
theorem dL_law_400 : decode cL_law 400 = .ok (.iadd, 1) := by decide +kernel
theorem dL_law_401 : decode cL_law 401 = .ok (.iaload, 1) := by decide +kernel
theorem dL_law_402 : decode cL_law 402 = .ok (.invokevirtual 46, 3) := by decide +kernel
theorem dL_law_405 : decode cL_law 405 = .ok (.aload_n 2, 1) := by decide +kernel
theorem dL_law_406 : decode cL_law 406 = .ok (.aload_n 0, 1) := by decide +kernel
theorem dL_law_407 : decode cL_law 407 = .ok (.iload_n 3, 1) := by decide +kernel
theorem dL_law_408 : decode cL_law 408 = .ok (.iconst 1, 1) := by decide +kernel
theorem dL_law_409 : decode cL_law 409 = .ok (.iadd, 1) := by decide +kernel
theorem dL_law_410 : decode cL_law 410 = .ok (.iaload, 1) := by decide +kernel
theorem dL_law_411 : decode cL_law 411 = .ok (.aload_n 0, 1) := by decide +kernel
theorem dL_law_412 : decode cL_law 412 = .ok (.iload_n 3, 1) := by decide +kernel
theorem dL_law_413 : decode cL_law 413 = .ok (.iconst 2, 1) := by decide +kernel
theorem dL_law_414 : decode cL_law 414 = .ok (.iadd, 1) := by decide +kernel
theorem dL_law_415 : decode cL_law 415 = .ok (.iaload, 1) := by decide +kernel
theorem dL_law_416 : decode cL_law 416 = .ok (.invokevirtual 50, 3) := by decide +kernel
theorem dL_law_419 : decode cL_law 419 = .ok (.if_icmp .eq 186, 3) := by decide +kernel
theorem dL_law_422 : decode cL_law 422 = .ok (.iconst 0, 1) := by decide +kernel
theorem dL_law_423 : decode cL_law 423 = .ok (.ireturn, 1) := by decide +kernel
theorem dL_law_424 : decode cL_law 424 = .ok (.aload_n 1, 1) := by decide +kernel
theorem dL_law_425 : decode cL_law 425 = .ok (.invokevirtual 51, 3) := by decide +kernel
theorem dL_law_428 : decode cL_law 428 = .ok (.aload_n 2, 1) := by decide +kernel
theorem dL_law_429 : decode cL_law 429 = .ok (.invokevirtual 55, 3) := by decide +kernel
theorem dL_law_432 : decode cL_law 432 = .ok (.if_icmp .eq 173, 3) := by decide +kernel
theorem dL_law_435 : decode cL_law 435 = .ok (.iconst 0, 1) := by decide +kernel
theorem dL_law_436 : decode cL_law 436 = .ok (.ireturn, 1) := by decide +kernel
theorem dL_law_437 : decode cL_law 437 = .ok (.aload_n 1, 1) := by decide +kernel
theorem dL_law_438 : decode cL_law 438 = .ok (.aload_n 0, 1) := by decide +kernel
theorem dL_law_439 : decode cL_law 439 = .ok (.iload_n 3, 1) := by decide +kernel
theorem dL_law_440 : decode cL_law 440 = .ok (.iconst 1, 1) := by decide +kernel
theorem dL_law_441 : decode cL_law 441 = .ok (.iadd, 1) := by decide +kernel
theorem dL_law_442 : decode cL_law 442 = .ok (.iaload, 1) := by decide +kernel
theorem dL_law_443 : decode cL_law 443 = .ok (.invokevirtual 56, 3) := by decide +kernel
theorem dL_law_446 : decode cL_law 446 = .ok (.aload_n 2, 1) := by decide +kernel
theorem dL_law_447 : decode cL_law 447 = .ok (.aload_n 0, 1) := by decide +kernel
theorem dL_law_448 : decode cL_law 448 = .ok (.iload_n 3, 1) := by decide +kernel
theorem dL_law_449 : decode cL_law 449 = .ok (.iconst 1, 1) := by decide +kernel
theorem dL_law_450 : decode cL_law 450 = .ok (.iadd, 1) := by decide +kernel
theorem dL_law_451 : decode cL_law 451 = .ok (.iaload, 1) := by decide +kernel
theorem dL_law_452 : decode cL_law 452 = .ok (.invokevirtual 60, 3) := by decide +kernel
theorem dL_law_455 : decode cL_law 455 = .ok (.if_icmp .eq 150, 3) := by decide +kernel
theorem dL_law_458 : decode cL_law 458 = .ok (.iconst 0, 1) := by decide +kernel
theorem dL_law_459 : decode cL_law 459 = .ok (.ireturn, 1) := by decide +kernel
theorem dL_law_460 : decode cL_law 460 = .ok (.aload_n 1, 1) := by decide +kernel
theorem dL_law_461 : decode cL_law 461 = .ok (.aload_n 0, 1) := by decide +kernel
theorem dL_law_462 : decode cL_law 462 = .ok (.iload_n 3, 1) := by decide +kernel
theorem dL_law_463 : decode cL_law 463 = .ok (.iconst 1, 1) := by decide +kernel
theorem dL_law_464 : decode cL_law 464 = .ok (.iadd, 1) := by decide +kernel
theorem dL_law_465 : decode cL_law 465 = .ok (.iaload, 1) := by decide +kernel
theorem dL_law_466 : decode cL_law 466 = .ok (.invokevirtual 61, 3) := by decide +kernel
theorem dL_law_469 : decode cL_law 469 = .ok (.aload_n 2, 1) := by decide +kernel
theorem dL_law_470 : decode cL_law 470 = .ok (.aload_n 0, 1) := by decide +kernel
theorem dL_law_471 : decode cL_law 471 = .ok (.iload_n 3, 1) := by decide +kernel
theorem dL_law_472 : decode cL_law 472 = .ok (.iconst 1, 1) := by decide +kernel
theorem dL_law_473 : decode cL_law 473 = .ok (.iadd, 1) := by decide +kernel
theorem dL_law_474 : decode cL_law 474 = .ok (.iaload, 1) := by decide +kernel
theorem dL_law_475 : decode cL_law 475 = .ok (.invokevirtual 64, 3) := by decide +kernel
theorem dL_law_478 : decode cL_law 478 = .ok (.if_icmp .eq 127, 3) := by decide +kernel
theorem dL_law_481 : decode cL_law 481 = .ok (.iconst 0, 1) := by decide +kernel
theorem dL_law_482 : decode cL_law 482 = .ok (.ireturn, 1) := by decide +kernel
theorem dL_law_483 : decode cL_law 483 = .ok (.aload_n 1, 1) := by decide +kernel
theorem dL_law_484 : decode cL_law 484 = .ok (.aload_n 0, 1) := by decide +kernel
theorem dL_law_485 : decode cL_law 485 = .ok (.iload_n 3, 1) := by decide +kernel
theorem dL_law_486 : decode cL_law 486 = .ok (.iconst 1, 1) := by decide +kernel
theorem dL_law_487 : decode cL_law 487 = .ok (.iadd, 1) := by decide +kernel
theorem dL_law_488 : decode cL_law 488 = .ok (.iaload, 1) := by decide +kernel
theorem dL_law_489 : decode cL_law 489 = .ok (.aload_n 0, 1) := by decide +kernel
theorem dL_law_490 : decode cL_law 490 = .ok (.iload_n 3, 1) := by decide +kernel
theorem dL_law_491 : decode cL_law 491 = .ok (.iconst 2, 1) := by decide +kernel
theorem dL_law_492 : decode cL_law 492 = .ok (.iadd, 1) := by decide +kernel
theorem dL_law_493 : decode cL_law 493 = .ok (.iaload, 1) := by decide +kernel
theorem dL_law_494 : decode cL_law 494 = .ok (.invokevirtual 65, 3) := by decide +kernel
theorem dL_law_497 : decode cL_law 497 = .ok (.aload_n 2, 1) := by decide +kernel
theorem dL_law_498 : decode cL_law 498 = .ok (.aload_n 0, 1) := by decide +kernel
theorem dL_law_499 : decode cL_law 499 = .ok (.iload_n 3, 1) := by decide +kernel
theorem dL_law_500 : decode cL_law 500 = .ok (.iconst 1, 1) := by decide +kernel
theorem dL_law_501 : decode cL_law 501 = .ok (.iadd, 1) := by decide +kernel
theorem dL_law_502 : decode cL_law 502 = .ok (.iaload, 1) := by decide +kernel
theorem dL_law_503 : decode cL_law 503 = .ok (.aload_n 0, 1) := by decide +kernel
theorem dL_law_504 : decode cL_law 504 = .ok (.iload_n 3, 1) := by decide +kernel
theorem dL_law_505 : decode cL_law 505 = .ok (.iconst 2, 1) := by decide +kernel
theorem dL_law_506 : decode cL_law 506 = .ok (.iadd, 1) := by decide +kernel
theorem dL_law_507 : decode cL_law 507 = .ok (.iaload, 1) := by decide +kernel
theorem dL_law_508 : decode cL_law 508 = .ok (.invokevirtual 68, 3) := by decide +kernel
theorem dL_law_511 : decode cL_law 511 = .ok (.if_icmp .eq 94, 3) := by decide +kernel
theorem dL_law_514 : decode cL_law 514 = .ok (.iconst 0, 1) := by decide +kernel
theorem dL_law_515 : decode cL_law 515 = .ok (.ireturn, 1) := by decide +kernel
theorem dL_law_516 : decode cL_law 516 = .ok (.aload_n 1, 1) := by decide +kernel
theorem dL_law_517 : decode cL_law 517 = .ok (.aload_n 0, 1) := by decide +kernel
theorem dL_law_518 : decode cL_law 518 = .ok (.iload_n 3, 1) := by decide +kernel
theorem dL_law_519 : decode cL_law 519 = .ok (.iconst 1, 1) := by decide +kernel
theorem dL_law_520 : decode cL_law 520 = .ok (.iadd, 1) := by decide +kernel
theorem dL_law_521 : decode cL_law 521 = .ok (.iaload, 1) := by decide +kernel
theorem dL_law_522 : decode cL_law 522 = .ok (.aload_n 0, 1) := by decide +kernel
theorem dL_law_523 : decode cL_law 523 = .ok (.iload_n 3, 1) := by decide +kernel
theorem dL_law_524 : decode cL_law 524 = .ok (.iconst 2, 1) := by decide +kernel
theorem dL_law_525 : decode cL_law 525 = .ok (.iadd, 1) := by decide +kernel
theorem dL_law_526 : decode cL_law 526 = .ok (.iaload, 1) := by decide +kernel
theorem dL_law_527 : decode cL_law 527 = .ok (.invokevirtual 69, 3) := by decide +kernel
theorem dL_law_530 : decode cL_law 530 = .ok (.aload_n 2, 1) := by decide +kernel
theorem dL_law_531 : decode cL_law 531 = .ok (.aload_n 0, 1) := by decide +kernel
theorem dL_law_532 : decode cL_law 532 = .ok (.iload_n 3, 1) := by decide +kernel
theorem dL_law_533 : decode cL_law 533 = .ok (.iconst 1, 1) := by decide +kernel
theorem dL_law_534 : decode cL_law 534 = .ok (.iadd, 1) := by decide +kernel
theorem dL_law_535 : decode cL_law 535 = .ok (.iaload, 1) := by decide +kernel
theorem dL_law_536 : decode cL_law 536 = .ok (.aload_n 0, 1) := by decide +kernel
theorem dL_law_537 : decode cL_law 537 = .ok (.iload_n 3, 1) := by decide +kernel
theorem dL_law_538 : decode cL_law 538 = .ok (.iconst 2, 1) := by decide +kernel
theorem dL_law_539 : decode cL_law 539 = .ok (.iadd, 1) := by decide +kernel
theorem dL_law_540 : decode cL_law 540 = .ok (.iaload, 1) := by decide +kernel
theorem dL_law_541 : decode cL_law 541 = .ok (.invokevirtual 72, 3) := by decide +kernel
theorem dL_law_544 : decode cL_law 544 = .ok (.if_icmp .eq 61, 3) := by decide +kernel
theorem dL_law_547 : decode cL_law 547 = .ok (.iconst 0, 1) := by decide +kernel
theorem dL_law_548 : decode cL_law 548 = .ok (.ireturn, 1) := by decide +kernel
theorem dL_law_549 : decode cL_law 549 = .ok (.aload_n 1, 1) := by decide +kernel
theorem dL_law_550 : decode cL_law 550 = .ok (.aload_n 0, 1) := by decide +kernel
theorem dL_law_551 : decode cL_law 551 = .ok (.iload_n 3, 1) := by decide +kernel
theorem dL_law_552 : decode cL_law 552 = .ok (.iconst 1, 1) := by decide +kernel
theorem dL_law_553 : decode cL_law 553 = .ok (.iadd, 1) := by decide +kernel
theorem dL_law_554 : decode cL_law 554 = .ok (.iaload, 1) := by decide +kernel
theorem dL_law_555 : decode cL_law 555 = .ok (.aload_n 0, 1) := by decide +kernel
theorem dL_law_556 : decode cL_law 556 = .ok (.iload_n 3, 1) := by decide +kernel
theorem dL_law_557 : decode cL_law 557 = .ok (.iconst 2, 1) := by decide +kernel
theorem dL_law_558 : decode cL_law 558 = .ok (.iadd, 1) := by decide +kernel
theorem dL_law_559 : decode cL_law 559 = .ok (.iaload, 1) := by decide +kernel
theorem dL_law_560 : decode cL_law 560 = .ok (.invokevirtual 73, 3) := by decide +kernel
theorem dL_law_563 : decode cL_law 563 = .ok (.aload_n 2, 1) := by decide +kernel
theorem dL_law_564 : decode cL_law 564 = .ok (.aload_n 0, 1) := by decide +kernel
theorem dL_law_565 : decode cL_law 565 = .ok (.iload_n 3, 1) := by decide +kernel
theorem dL_law_566 : decode cL_law 566 = .ok (.iconst 1, 1) := by decide +kernel
theorem dL_law_567 : decode cL_law 567 = .ok (.iadd, 1) := by decide +kernel
theorem dL_law_568 : decode cL_law 568 = .ok (.iaload, 1) := by decide +kernel
theorem dL_law_569 : decode cL_law 569 = .ok (.aload_n 0, 1) := by decide +kernel
theorem dL_law_570 : decode cL_law 570 = .ok (.iload_n 3, 1) := by decide +kernel
theorem dL_law_571 : decode cL_law 571 = .ok (.iconst 2, 1) := by decide +kernel
theorem dL_law_572 : decode cL_law 572 = .ok (.iadd, 1) := by decide +kernel
theorem dL_law_573 : decode cL_law 573 = .ok (.iaload, 1) := by decide +kernel
theorem dL_law_574 : decode cL_law 574 = .ok (.invokevirtual 76, 3) := by decide +kernel
theorem dL_law_577 : decode cL_law 577 = .ok (.if_icmp .eq 28, 3) := by decide +kernel
theorem dL_law_580 : decode cL_law 580 = .ok (.iconst 0, 1) := by decide +kernel
theorem dL_law_581 : decode cL_law 581 = .ok (.ireturn, 1) := by decide +kernel
theorem dL_law_582 : decode cL_law 582 = .ok (.aload_n 1, 1) := by decide +kernel
theorem dL_law_583 : decode cL_law 583 = .ok (.aload_n 0, 1) := by decide +kernel
theorem dL_law_584 : decode cL_law 584 = .ok (.iload_n 3, 1) := by decide +kernel
theorem dL_law_585 : decode cL_law 585 = .ok (.iconst 1, 1) := by decide +kernel
theorem dL_law_586 : decode cL_law 586 = .ok (.iadd, 1) := by decide +kernel
theorem dL_law_587 : decode cL_law 587 = .ok (.iaload, 1) := by decide +kernel
theorem dL_law_588 : decode cL_law 588 = .ok (.invokevirtual 77, 3) := by decide +kernel
theorem dL_law_591 : decode cL_law 591 = .ok (.aload_n 2, 1) := by decide +kernel
theorem dL_law_592 : decode cL_law 592 = .ok (.aload_n 0, 1) := by decide +kernel
theorem dL_law_593 : decode cL_law 593 = .ok (.iload_n 3, 1) := by decide +kernel
theorem dL_law_594 : decode cL_law 594 = .ok (.iconst 1, 1) := by decide +kernel
theorem dL_law_595 : decode cL_law 595 = .ok (.iadd, 1) := by decide +kernel
theorem dL_law_596 : decode cL_law 596 = .ok (.iaload, 1) := by decide +kernel
theorem dL_law_597 : decode cL_law 597 = .ok (.invokevirtual 80, 3) := by decide +kernel
theorem dL_law_600 : decode cL_law 600 = .ok (.if_icmp .eq 5, 3) := by decide +kernel
theorem dL_law_603 : decode cL_law 603 = .ok (.iconst 0, 1) := by decide +kernel
theorem dL_law_604 : decode cL_law 604 = .ok (.ireturn, 1) := by decide +kernel
theorem dL_law_605 : decode cL_law 605 = .ok (.iinc 3 7, 3) := by decide +kernel
theorem dL_law_608 : decode cL_law 608 = .ok (.goto (-590), 3) := by decide +kernel
theorem dL_law_611 : decode cL_law 611 = .ok (.iconst 1, 1) := by decide +kernel
theorem dL_law_612 : decode cL_law 612 = .ok (.ireturn, 1) := by decide +kernel
end
section
theorem dX9_init_0 : decode cX9_init 0 = .ok (.aload_n 0, 1) := by decide +kernel
theorem dX9_init_1 : decode cX9_init 1 = .ok (.invokespecial 1, 3) := by decide +kernel
theorem dX9_init_4 : decode cX9_init 4 = .ok (.aload_n 0, 1) := by decide +kernel
theorem dX9_init_5 : decode cX9_init 5 = .ok (.sipush 300, 3) := by decide +kernel
theorem dX9_init_8 : decode cX9_init 8 = .ok (.newarray .int, 2) := by decide +kernel
theorem dX9_init_10 : decode cX9_init 10 = .ok (.putfield 7, 3) := by decide +kernel
theorem dX9_init_13 : decode cX9_init 13 = .ok (.aload_n 0, 1) := by decide +kernel
theorem dX9_init_14 : decode cX9_init 14 = .ok (.bipush 12, 2) := by decide +kernel
theorem dX9_init_16 : decode cX9_init 16 = .ok (.newarray .int, 2) := by decide +kernel
theorem dX9_init_18 : decode cX9_init 18 = .ok (.dup, 1) := by decide +kernel
theorem dX9_init_19 : decode cX9_init 19 = .ok (.iconst 0, 1) := by decide +kernel
theorem dX9_init_20 : decode cX9_init 20 = .ok (.bipush 8, 2) := by decide +kernel
theorem dX9_init_22 : decode cX9_init 22 = .ok (.iastore, 1) := by decide +kernel
theorem dX9_init_23 : decode cX9_init 23 = .ok (.dup, 1) := by decide +kernel
theorem dX9_init_24 : decode cX9_init 24 = .ok (.iconst 1, 1) := by decide +kernel
theorem dX9_init_25 : decode cX9_init 25 = .ok (.bipush 10, 2) := by decide +kernel
theorem dX9_init_27 : decode cX9_init 27 = .ok (.iastore, 1) := by decide +kernel
theorem dX9_init_28 : decode cX9_init 28 = .ok (.dup, 1) := by decide +kernel
theorem dX9_init_29 : decode cX9_init 29 = .ok (.iconst 2, 1) := by decide +kernel
theorem dX9_init_30 : decode cX9_init 30 = .ok (.iconst 4, 1) := by decide +kernel
theorem dX9_init_31 : decode cX9_init 31 = .ok (.iastore, 1) := by decide +kernel
theorem dX9_init_32 : decode cX9_init 32 = .ok (.dup, 1) := by decide +kernel
theorem dX9_init_33 : decode cX9_init 33 = .ok (.iconst 3, 1) := by decide +kernel
theorem dX9_init_34 : decode cX9_init 34 = .ok (.iconst 1, 1) := by decide +kernel
theorem dX9_init_35 : decode cX9_init 35 = .ok (.iastore, 1) := by decide +kernel
theorem dX9_init_36 : decode cX9_init 36 = .ok (.dup, 1) := by decide +kernel
theorem dX9_init_37 : decode cX9_init 37 = .ok (.iconst 4, 1) := by decide +kernel
theorem dX9_init_38 : decode cX9_init 38 = .ok (.iconst 0, 1) := by decide +kernel
theorem dX9_init_39 : decode cX9_init 39 = .ok (.iastore, 1) := by decide +kernel
theorem dX9_init_40 : decode cX9_init 40 = .ok (.dup, 1) := by decide +kernel
theorem dX9_init_41 : decode cX9_init 41 = .ok (.iconst 5, 1) := by decide +kernel
theorem dX9_init_42 : decode cX9_init 42 = .ok (.iconst 5, 1) := by decide +kernel
theorem dX9_init_43 : decode cX9_init 43 = .ok (.iastore, 1) := by decide +kernel
theorem dX9_init_44 : decode cX9_init 44 = .ok (.dup, 1) := by decide +kernel
theorem dX9_init_45 : decode cX9_init 45 = .ok (.bipush 6, 2) := by decide +kernel
theorem dX9_init_47 : decode cX9_init 47 = .ok (.iconst 0, 1) := by decide +kernel
theorem dX9_init_48 : decode cX9_init 48 = .ok (.iastore, 1) := by decide +kernel
theorem dX9_init_49 : decode cX9_init 49 = .ok (.dup, 1) := by decide +kernel
theorem dX9_init_50 : decode cX9_init 50 = .ok (.bipush 7, 2) := by decide +kernel
theorem dX9_init_52 : decode cX9_init 52 = .ok (.iconst 0, 1) := by decide +kernel
theorem dX9_init_53 : decode cX9_init 53 = .ok (.iastore, 1) := by decide +kernel
theorem dX9_init_54 : decode cX9_init 54 = .ok (.dup, 1) := by decide +kernel
theorem dX9_init_55 : decode cX9_init 55 = .ok (.bipush 8, 2) := by decide +kernel
theorem dX9_init_57 : decode cX9_init 57 = .ok (.iconst 0, 1) := by decide +kernel
theorem dX9_init_58 : decode cX9_init 58 = .ok (.iastore, 1) := by decide +kernel
theorem dX9_init_59 : decode cX9_init 59 = .ok (.dup, 1) := by decide +kernel
theorem dX9_init_60 : decode cX9_init 60 = .ok (.bipush 9, 2) := by decide +kernel
theorem dX9_init_62 : decode cX9_init 62 = .ok (.iconst 0, 1) := by decide +kernel
theorem dX9_init_63 : decode cX9_init 63 = .ok (.iastore, 1) := by decide +kernel
theorem dX9_init_64 : decode cX9_init 64 = .ok (.dup, 1) := by decide +kernel
theorem dX9_init_65 : decode cX9_init 65 = .ok (.bipush 10, 2) := by decide +kernel
theorem dX9_init_67 : decode cX9_init 67 = .ok (.iconst 0, 1) := by decide +kernel
theorem dX9_init_68 : decode cX9_init 68 = .ok (.iastore, 1) := by decide +kernel
theorem dX9_init_69 : decode cX9_init 69 = .ok (.dup, 1) := by decide +kernel
theorem dX9_init_70 : decode cX9_init 70 = .ok (.bipush 11, 2) := by decide +kernel
theorem dX9_init_72 : decode cX9_init 72 = .ok (.iconst 0, 1) := by decide +kernel
theorem dX9_init_73 : decode cX9_init 73 = .ok (.iastore, 1) := by decide +kernel
theorem dX9_init_74 : decode cX9_init 74 = .ok (.putfield 13, 3) := by decide +kernel
theorem dX9_init_77 : decode cX9_init 77 = .ok (.aload_n 0, 1) := by decide +kernel
theorem dX9_init_78 : decode cX9_init 78 = .ok (.bipush 6, 2) := by decide +kernel
theorem dX9_init_80 : decode cX9_init 80 = .ok (.newarray .int, 2) := by decide +kernel
theorem dX9_init_82 : decode cX9_init 82 = .ok (.dup, 1) := by decide +kernel
theorem dX9_init_83 : decode cX9_init 83 = .ok (.iconst 0, 1) := by decide +kernel
theorem dX9_init_84 : decode cX9_init 84 = .ok (.bipush 8, 2) := by decide +kernel
theorem dX9_init_86 : decode cX9_init 86 = .ok (.iastore, 1) := by decide +kernel
theorem dX9_init_87 : decode cX9_init 87 = .ok (.dup, 1) := by decide +kernel
theorem dX9_init_88 : decode cX9_init 88 = .ok (.iconst 1, 1) := by decide +kernel
theorem dX9_init_89 : decode cX9_init 89 = .ok (.bipush 10, 2) := by decide +kernel
theorem dX9_init_91 : decode cX9_init 91 = .ok (.iastore, 1) := by decide +kernel
theorem dX9_init_92 : decode cX9_init 92 = .ok (.dup, 1) := by decide +kernel
theorem dX9_init_93 : decode cX9_init 93 = .ok (.iconst 2, 1) := by decide +kernel
theorem dX9_init_94 : decode cX9_init 94 = .ok (.iconst 4, 1) := by decide +kernel
theorem dX9_init_95 : decode cX9_init 95 = .ok (.iastore, 1) := by decide +kernel
theorem dX9_init_96 : decode cX9_init 96 = .ok (.dup, 1) := by decide +kernel
theorem dX9_init_97 : decode cX9_init 97 = .ok (.iconst 3, 1) := by decide +kernel
theorem dX9_init_98 : decode cX9_init 98 = .ok (.iconst 1, 1) := by decide +kernel
theorem dX9_init_99 : decode cX9_init 99 = .ok (.iastore, 1) := by decide +kernel
theorem dX9_init_100 : decode cX9_init 100 = .ok (.dup, 1) := by decide +kernel
theorem dX9_init_101 : decode cX9_init 101 = .ok (.iconst 4, 1) := by decide +kernel
theorem dX9_init_102 : decode cX9_init 102 = .ok (.iconst 0, 1) := by decide +kernel
theorem dX9_init_103 : decode cX9_init 103 = .ok (.iastore, 1) := by decide +kernel
theorem dX9_init_104 : decode cX9_init 104 = .ok (.dup, 1) := by decide +kernel
theorem dX9_init_105 : decode cX9_init 105 = .ok (.iconst 5, 1) := by decide +kernel
theorem dX9_init_106 : decode cX9_init 106 = .ok (.iconst 5, 1) := by decide +kernel
theorem dX9_init_107 : decode cX9_init 107 = .ok (.iastore, 1) := by decide +kernel
theorem dX9_init_108 : decode cX9_init 108 = .ok (.putfield 16, 3) := by decide +kernel
theorem dX9_init_111 : decode cX9_init 111 = .ok (.aload_n 0, 1) := by decide +kernel
theorem dX9_init_112 : decode cX9_init 112 = .ok (.bipush 6, 2) := by decide +kernel
theorem dX9_init_114 : decode cX9_init 114 = .ok (.newarray .int, 2) := by decide +kernel
theorem dX9_init_116 : decode cX9_init 116 = .ok (.dup, 1) := by decide +kernel
theorem dX9_init_117 : decode cX9_init 117 = .ok (.iconst 0, 1) := by decide +kernel
theorem dX9_init_118 : decode cX9_init 118 = .ok (.iconst 1, 1) := by decide +kernel
theorem dX9_init_119 : decode cX9_init 119 = .ok (.iastore, 1) := by decide +kernel
theorem dX9_init_120 : decode cX9_init 120 = .ok (.dup, 1) := by decide +kernel
theorem dX9_init_121 : decode cX9_init 121 = .ok (.iconst 1, 1) := by decide +kernel
theorem dX9_init_122 : decode cX9_init 122 = .ok (.iconst 1, 1) := by decide +kernel
theorem dX9_init_123 : decode cX9_init 123 = .ok (.iastore, 1) := by decide +kernel
theorem dX9_init_124 : decode cX9_init 124 = .ok (.dup, 1) := by decide +kernel
theorem dX9_init_125 : decode cX9_init 125 = .ok (.iconst 2, 1) := by decide +kernel
theorem dX9_init_126 : decode cX9_init 126 = .ok (.iconst 1, 1) := by decide +kernel
theorem dX9_init_127 : decode cX9_init 127 = .ok (.iastore, 1) := by decide +kernel
theorem dX9_init_128 : decode cX9_init 128 = .ok (.dup, 1) := by decide +kernel
theorem dX9_init_129 : decode cX9_init 129 = .ok (.iconst 3, 1) := by decide +kernel
theorem dX9_init_130 : decode cX9_init 130 = .ok (.iconst 0, 1) := by decide +kernel
theorem dX9_init_131 : decode cX9_init 131 = .ok (.iastore, 1) := by decide +kernel
theorem dX9_init_132 : decode cX9_init 132 = .ok (.dup, 1) := by decide +kernel
theorem dX9_init_133 : decode cX9_init 133 = .ok (.iconst 4, 1) := by decide +kernel
theorem dX9_init_134 : decode cX9_init 134 = .ok (.iconst 1, 1) := by decide +kernel
theorem dX9_init_135 : decode cX9_init 135 = .ok (.iastore, 1) := by decide +kernel
theorem dX9_init_136 : decode cX9_init 136 = .ok (.dup, 1) := by decide +kernel
theorem dX9_init_137 : decode cX9_init 137 = .ok (.iconst 5, 1) := by decide +kernel
theorem dX9_init_138 : decode cX9_init 138 = .ok (.iconst 0, 1) := by decide +kernel
theorem dX9_init_139 : decode cX9_init 139 = .ok (.iastore, 1) := by decide +kernel
theorem dX9_init_140 : decode cX9_init 140 = .ok (.putfield 19, 3) := by decide +kernel
theorem dX9_init_143 : decode cX9_init 143 = .ok (.aload_n 0, 1) := by decide +kernel
theorem dX9_init_144 : decode cX9_init 144 = .ok (.bipush 6, 2) := by decide +kernel
theorem dX9_init_146 : decode cX9_init 146 = .ok (.newarray .int, 2) := by decide +kernel
theorem dX9_init_148 : decode cX9_init 148 = .ok (.dup, 1) := by decide +kernel
theorem dX9_init_149 : decode cX9_init 149 = .ok (.iconst 0, 1) := by decide +kernel
theorem dX9_init_150 : decode cX9_init 150 = .ok (.bipush 20, 2) := by decide +kernel
theorem dX9_init_152 : decode cX9_init 152 = .ok (.iastore, 1) := by decide +kernel
theorem dX9_init_153 : decode cX9_init 153 = .ok (.dup, 1) := by decide +kernel
theorem dX9_init_154 : decode cX9_init 154 = .ok (.iconst 1, 1) := by decide +kernel
theorem dX9_init_155 : decode cX9_init 155 = .ok (.bipush 99, 2) := by decide +kernel
theorem dX9_init_157 : decode cX9_init 157 = .ok (.iastore, 1) := by decide +kernel
theorem dX9_init_158 : decode cX9_init 158 = .ok (.dup, 1) := by decide +kernel
theorem dX9_init_159 : decode cX9_init 159 = .ok (.iconst 2, 1) := by decide +kernel
theorem dX9_init_160 : decode cX9_init 160 = .ok (.bipush 50, 2) := by decide +kernel
theorem dX9_init_162 : decode cX9_init 162 = .ok (.iastore, 1) := by decide +kernel
theorem dX9_init_163 : decode cX9_init 163 = .ok (.dup, 1) := by decide +kernel
theorem dX9_init_164 : decode cX9_init 164 = .ok (.iconst 3, 1) := by decide +kernel
theorem dX9_init_165 : decode cX9_init 165 = .ok (.bipush 99, 2) := by decide +kernel
theorem dX9_init_167 : decode cX9_init 167 = .ok (.iastore, 1) := by decide +kernel
theorem dX9_init_168 : decode cX9_init 168 = .ok (.dup, 1) := by decide +kernel
theorem dX9_init_169 : decode cX9_init 169 = .ok (.iconst 4, 1) := by decide +kernel
theorem dX9_init_170 : decode cX9_init 170 = .ok (.bipush 7, 2) := by decide +kernel
theorem dX9_init_172 : decode cX9_init 172 = .ok (.iastore, 1) := by decide +kernel
theorem dX9_init_173 : decode cX9_init 173 = .ok (.dup, 1) := by decide +kernel
theorem dX9_init_174 : decode cX9_init 174 = .ok (.iconst 5, 1) := by decide +kernel
theorem dX9_init_175 : decode cX9_init 175 = .ok (.bipush 10, 2) := by decide +kernel
theorem dX9_init_177 : decode cX9_init 177 = .ok (.iastore, 1) := by decide +kernel
theorem dX9_init_178 : decode cX9_init 178 = .ok (.putfield 22, 3) := by decide +kernel
theorem dX9_init_181 : decode cX9_init 181 = .ok (.aload_n 0, 1) := by decide +kernel
theorem dX9_init_182 : decode cX9_init 182 = .ok (.iconst (-1), 1) := by decide +kernel
theorem dX9_init_183 : decode cX9_init 183 = .ok (.putfield 25, 3) := by decide +kernel
theorem dX9_init_186 : decode cX9_init 186 = .ok (.aload_n 0, 1) := by decide +kernel
theorem dX9_init_187 : decode cX9_init 187 = .ok (.bipush 8, 2) := by decide +kernel
theorem dX9_init_189 : decode cX9_init 189 = .ok (.newarray .int, 2) := by decide +kernel
theorem dX9_init_191 : decode cX9_init 191 = .ok (.putfield 29, 3) := by decide +kernel
theorem dX9_init_194 : decode cX9_init 194 = .ok (.aload_n 0, 1) := by decide +kernel
theorem dX9_init_195 : decode cX9_init 195 = .ok (.bipush 8, 2) := by decide +kernel
theorem dX9_init_197 : decode cX9_init 197 = .ok (.newarray .int, 2) := by decide +kernel
theorem dX9_init_199 : decode cX9_init 199 = .ok (.putfield 32, 3) := by decide +kernel
theorem dX9_init_202 : decode cX9_init 202 = .ok (.aload_n 0, 1) := by decide +kernel
theorem dX9_init_203 : decode cX9_init 203 = .ok (.bipush 8, 2) := by decide +kernel
theorem dX9_init_205 : decode cX9_init 205 = .ok (.newarray .int, 2) := by decide +kernel
theorem dX9_init_207 : decode cX9_init 207 = .ok (.putfield 35, 3) := by decide +kernel
theorem dX9_init_210 : decode cX9_init 210 = .ok (.aload_n 0, 1) := by decide +kernel
theorem dX9_init_211 : decode cX9_init 211 = .ok (.bipush 8, 2) := by decide +kernel
theorem dX9_init_213 : decode cX9_init 213 = .ok (.newarray .int, 2) := by decide +kernel
theorem dX9_init_215 : decode cX9_init 215 = .ok (.putfield 38, 3) := by decide +kernel
theorem dX9_init_218 : decode cX9_init 218 = .ok (.aload_n 0, 1) := by decide +kernel
theorem dX9_init_219 : decode cX9_init 219 = .ok (.bipush 8, 2) := by decide +kernel
theorem dX9_init_221 : decode cX9_init 221 = .ok (.newarray .int, 2) := by decide +kernel
theorem dX9_init_223 : decode cX9_init 223 = .ok (.putfield 41, 3) := by decide +kernel
theorem dX9_init_226 : decode cX9_init 226 = .ok (.aload_n 0, 1) := by decide +kernel
theorem dX9_init_227 : decode cX9_init 227 = .ok (.bipush 8, 2) := by decide +kernel
theorem dX9_init_229 : decode cX9_init 229 = .ok (.newarray .int, 2) := by decide +kernel
theorem dX9_init_231 : decode cX9_init 231 = .ok (.putfield 44, 3) := by decide +kernel
theorem dX9_init_234 : decode cX9_init 234 = .ok (.aload_n 0, 1) := by decide +kernel
theorem dX9_init_235 : decode cX9_init 235 = .ok (.bipush 8, 2) := by decide +kernel
theorem dX9_init_237 : decode cX9_init 237 = .ok (.newarray .int, 2) := by decide +kernel
theorem dX9_init_239 : decode cX9_init 239 = .ok (.putfield 47, 3) := by decide +kernel
theorem dX9_init_242 : decode cX9_init 242 = .ok (.aload_n 0, 1) := by decide +kernel
theorem dX9_init_243 : decode cX9_init 243 = .ok (.bipush 8, 2) := by decide +kernel
theorem dX9_init_245 : decode cX9_init 245 = .ok (.newarray .int, 2) := by decide +kernel
theorem dX9_init_247 : decode cX9_init 247 = .ok (.putfield 50, 3) := by decide +kernel
theorem dX9_init_250 : decode cX9_init 250 = .ok (.aload_n 0, 1) := by decide +kernel
theorem dX9_init_251 : decode cX9_init 251 = .ok (.bipush 8, 2) := by decide +kernel
theorem dX9_init_253 : decode cX9_init 253 = .ok (.newarray .int, 2) := by decide +kernel
theorem dX9_init_255 : decode cX9_init 255 = .ok (.putfield 53, 3) := by decide +kernel
theorem dX9_init_258 : decode cX9_init 258 = .ok (.aload_n 0, 1) := by decide +kernel
theorem dX9_init_259 : decode cX9_init 259 = .ok (.bipush 8, 2) := by decide +kernel
theorem dX9_init_261 : decode cX9_init 261 = .ok (.newarray .int, 2) := by decide +kernel
theorem dX9_init_263 : decode cX9_init 263 = .ok (.putfield 56, 3) := by decide +kernel
theorem dX9_init_266 : decode cX9_init 266 = .ok (.aload_n 0, 1) := by decide +kernel
theorem dX9_init_267 : decode cX9_init 267 = .ok (.bipush 8, 2) := by decide +kernel
theorem dX9_init_269 : decode cX9_init 269 = .ok (.newarray .int, 2) := by decide +kernel
theorem dX9_init_271 : decode cX9_init 271 = .ok (.putfield 59, 3) := by decide +kernel
theorem dX9_init_274 : decode cX9_init 274 = .ok (.aload_n 0, 1) := by decide +kernel
theorem dX9_init_275 : decode cX9_init 275 = .ok (.bipush 64, 2) := by decide +kernel
theorem dX9_init_277 : decode cX9_init 277 = .ok (.newarray .int, 2) := by decide +kernel
theorem dX9_init_279 : decode cX9_init 279 = .ok (.putfield 62, 3) := by decide +kernel
theorem dX9_init_282 : decode cX9_init 282 = .ok (.aload_n 0, 1) := by decide +kernel
theorem dX9_init_283 : decode cX9_init 283 = .ok (.bipush 64, 2) := by decide +kernel
theorem dX9_init_285 : decode cX9_init 285 = .ok (.newarray .int, 2) := by decide +kernel
theorem dX9_init_287 : decode cX9_init 287 = .ok (.putfield 65, 3) := by decide +kernel
theorem dX9_init_290 : decode cX9_init 290 = .ok (.aload_n 0, 1) := by decide +kernel
theorem dX9_init_291 : decode cX9_init 291 = .ok (.bipush 8, 2) := by decide +kernel
theorem dX9_init_293 : decode cX9_init 293 = .ok (.newarray .int, 2) := by decide +kernel
theorem dX9_init_295 : decode cX9_init 295 = .ok (.putfield 68, 3) := by decide +kernel
theorem dX9_init_298 : decode cX9_init 298 = .ok (.aload_n 0, 1) := by decide +kernel
theorem dX9_init_299 : decode cX9_init 299 = .ok (.bipush 7, 2) := by decide +kernel
theorem dX9_init_301 : decode cX9_init 301 = .ok (.newarray .int, 2) := by decide +kernel
theorem dX9_init_303 : decode cX9_init 303 = .ok (.putfield 71, 3) := by decide +kernel
theorem dX9_init_306 : decode cX9_init 306 = .ok (.aload_n 0, 1) := by decide +kernel
theorem dX9_init_307 : decode cX9_init 307 = .ok (.bipush 7, 2) := by decide +kernel
theorem dX9_init_309 : decode cX9_init 309 = .ok (.newarray .int, 2) := by decide +kernel
theorem dX9_init_311 : decode cX9_init 311 = .ok (.putfield 74, 3) := by decide +kernel
theorem dX9_init_314 : decode cX9_init 314 = .ok (.aload_n 0, 1) := by decide +kernel
theorem dX9_init_315 : decode cX9_init 315 = .ok (.bipush 7, 2) := by decide +kernel
theorem dX9_init_317 : decode cX9_init 317 = .ok (.newarray .int, 2) := by decide +kernel
theorem dX9_init_319 : decode cX9_init 319 = .ok (.putfield 77, 3) := by decide +kernel
theorem dX9_init_322 : decode cX9_init 322 = .ok (.aload_n 0, 1) := by decide +kernel
theorem dX9_init_323 : decode cX9_init 323 = .ok (.bipush 7, 2) := by decide +kernel
theorem dX9_init_325 : decode cX9_init 325 = .ok (.newarray .int, 2) := by decide +kernel
theorem dX9_init_327 : decode cX9_init 327 = .ok (.putfield 80, 3) := by decide +kernel
theorem dX9_init_330 : decode cX9_init 330 = .ok (.aload_n 0, 1) := by decide +kernel
theorem dX9_init_331 : decode cX9_init 331 = .ok (.bipush 7, 2) := by decide +kernel
theorem dX9_init_333 : decode cX9_init 333 = .ok (.newarray .int, 2) := by decide +kernel
theorem dX9_init_335 : decode cX9_init 335 = .ok (.putfield 83, 3) := by decide +kernel
theorem dX9_init_338 : decode cX9_init 338 = .ok (.aload_n 0, 1) := by decide +kernel
theorem dX9_init_339 : decode cX9_init 339 = .ok (.bipush 7, 2) := by decide +kernel
theorem dX9_init_341 : decode cX9_init 341 = .ok (.newarray .int, 2) := by decide +kernel
theorem dX9_init_343 : decode cX9_init 343 = .ok (.putfield 86, 3) := by decide +kernel
theorem dX9_init_346 : decode cX9_init 346 = .ok (.aload_n 0, 1) := by decide +kernel
theorem dX9_init_347 : decode cX9_init 347 = .ok (.bipush 8, 2) := by decide +kernel
theorem dX9_init_349 : decode cX9_init 349 = .ok (.newarray .int, 2) := by decide +kernel
theorem dX9_init_351 : decode cX9_init 351 = .ok (.putfield 89, 3) := by decide +kernel
theorem dX9_init_354 : decode cX9_init 354 = .ok (.aload_n 0, 1) := by decide +kernel
theorem dX9_init_355 : decode cX9_init 355 = .ok (.bipush 7, 2) := by decide +kernel
theorem dX9_init_357 : decode cX9_init 357 = .ok (.newarray .int, 2) := by decide +kernel
theorem dX9_init_359 : decode cX9_init 359 = .ok (.putfield 92, 3) := by decide +kernel
theorem dX9_init_362 : decode cX9_init 362 = .ok (.return_, 1) := by decide +kernel
theorem dX9_feed_0 : decode cX9_feed 0 = .ok (.aload_n 0, 1) := by decide +kernel
theorem dX9_feed_1 : decode cX9_feed 1 = .ok (.iconst 0, 1) := by decide +kernel
theorem dX9_feed_2 : decode cX9_feed 2 = .ok (.putfield 95, 3) := by decide +kernel
theorem dX9_feed_5 : decode cX9_feed 5 = .ok (.aload_n 0, 1) := by decide +kernel
theorem dX9_feed_6 : decode cX9_feed 6 = .ok (.getfield 98, 3) := by decide +kernel
theorem dX9_feed_9 : decode cX9_feed 9 = .ok (.sipush 280, 3) := by decide +kernel
theorem dX9_feed_12 : decode cX9_feed 12 = .ok (.if_icmp .le 5, 3) := by decide +kernel
theorem dX9_feed_15 : decode cX9_feed 15 = .ok (.iconst (-1), 1) := by decide +kernel
theorem dX9_feed_16 : decode cX9_feed 16 = .ok (.ireturn, 1) := by decide +kernel
theorem dX9_feed_17 : decode cX9_feed 17 = .ok (.iconst 0, 1) := by decide +kernel
theorem dX9_feed_18 : decode cX9_feed 18 = .ok (.istore 6, 2) := by decide +kernel
theorem dX9_feed_20 : decode cX9_feed 20 = .ok (.iload 6, 2) := by decide +kernel
theorem dX9_feed_22 : decode cX9_feed 22 = .ok (.bipush 20, 2) := by decide +kernel
theorem dX9_feed_24 : decode cX9_feed 24 = .ok (.if_icmp .ge 86, 3) := by decide +kernel
theorem dX9_feed_27 : decode cX9_feed 27 = .ok (.iload 6, 2) := by decide +kernel
theorem dX9_feed_29 : decode cX9_feed 29 = .ok (.iconst 4, 1) := by decide +kernel
theorem dX9_feed_30 : decode cX9_feed 30 = .ok (.if_icmp .ge 7, 3) := by decide +kernel
theorem dX9_feed_33 : decode cX9_feed 33 = .ok (.iload_n 1, 1) := by decide +kernel
theorem dX9_feed_34 : decode cX9_feed 34 = .ok (.goto 39, 3) := by decide +kernel
theorem dX9_feed_37 : decode cX9_feed 37 = .ok (.iload 6, 2) := by decide +kernel
theorem dX9_feed_39 : decode cX9_feed 39 = .ok (.bipush 8, 2) := by decide +kernel
theorem dX9_feed_41 : decode cX9_feed 41 = .ok (.if_icmp .ge 7, 3) := by decide +kernel
theorem dX9_feed_44 : decode cX9_feed 44 = .ok (.iload_n 2, 1) := by decide +kernel
theorem dX9_feed_45 : decode cX9_feed 45 = .ok (.goto 28, 3) := by decide +kernel
theorem dX9_feed_48 : decode cX9_feed 48 = .ok (.iload 6, 2) := by decide +kernel
theorem dX9_feed_50 : decode cX9_feed 50 = .ok (.bipush 12, 2) := by decide +kernel
theorem dX9_feed_52 : decode cX9_feed 52 = .ok (.if_icmp .ge 7, 3) := by decide +kernel
theorem dX9_feed_55 : decode cX9_feed 55 = .ok (.iload_n 3, 1) := by decide +kernel
theorem dX9_feed_56 : decode cX9_feed 56 = .ok (.goto 17, 3) := by decide +kernel
theorem dX9_feed_59 : decode cX9_feed 59 = .ok (.iload 6, 2) := by decide +kernel
theorem dX9_feed_61 : decode cX9_feed 61 = .ok (.bipush 16, 2) := by decide +kernel
theorem dX9_feed_63 : decode cX9_feed 63 = .ok (.if_icmp .ge 8, 3) := by decide +kernel
theorem dX9_feed_66 : decode cX9_feed 66 = .ok (.iload 4, 2) := by decide +kernel
theorem dX9_feed_68 : decode cX9_feed 68 = .ok (.goto 5, 3) := by decide +kernel
theorem dX9_feed_71 : decode cX9_feed 71 = .ok (.iload 5, 2) := by decide +kernel
theorem dX9_feed_73 : decode cX9_feed 73 = .ok (.istore 7, 2) := by decide +kernel
theorem dX9_feed_75 : decode cX9_feed 75 = .ok (.aload_n 0, 1) := by decide +kernel
theorem dX9_feed_76 : decode cX9_feed 76 = .ok (.getfield 7, 3) := by decide +kernel
theorem dX9_feed_79 : decode cX9_feed 79 = .ok (.aload_n 0, 1) := by decide +kernel
theorem dX9_feed_80 : decode cX9_feed 80 = .ok (.getfield 98, 3) := by decide +kernel
theorem dX9_feed_83 : decode cX9_feed 83 = .ok (.iload 6, 2) := by decide +kernel
theorem dX9_feed_85 : decode cX9_feed 85 = .ok (.iadd, 1) := by decide +kernel
theorem dX9_feed_86 : decode cX9_feed 86 = .ok (.iload 7, 2) := by decide +kernel
theorem dX9_feed_88 : decode cX9_feed 88 = .ok (.bipush 24, 2) := by decide +kernel
theorem dX9_feed_90 : decode cX9_feed 90 = .ok (.bipush 8, 2) := by decide +kernel
theorem dX9_feed_92 : decode cX9_feed 92 = .ok (.iload 6, 2) := by decide +kernel
theorem dX9_feed_94 : decode cX9_feed 94 = .ok (.iconst 4, 1) := by decide +kernel
theorem dX9_feed_95 : decode cX9_feed 95 = .ok (.irem, 1) := by decide +kernel
theorem dX9_feed_96 : decode cX9_feed 96 = .ok (.imul, 1) := by decide +kernel
theorem dX9_feed_97 : decode cX9_feed 97 = .ok (.isub, 1) := by decide +kernel
theorem dX9_feed_98 : decode cX9_feed 98 = .ok (.ishr, 1) := by decide +kernel
theorem dX9_feed_99 : decode cX9_feed 99 = .ok (.sipush 255, 3) := by decide +kernel
theorem dX9_feed_102 : decode cX9_feed 102 = .ok (.iand, 1) := by decide +kernel
theorem dX9_feed_103 : decode cX9_feed 103 = .ok (.iastore, 1) := by decide +kernel
theorem dX9_feed_104 : decode cX9_feed 104 = .ok (.iinc 6 1, 3) := by decide +kernel
theorem dX9_feed_107 : decode cX9_feed 107 = .ok (.goto (-87), 3) := by decide +kernel
theorem dX9_feed_110 : decode cX9_feed 110 = .ok (.aload_n 0, 1) := by decide +kernel
theorem dX9_feed_111 : decode cX9_feed 111 = .ok (.dup, 1) := by decide +kernel
theorem dX9_feed_112 : decode cX9_feed 112 = .ok (.getfield 98, 3) := by decide +kernel
theorem dX9_feed_115 : decode cX9_feed 115 = .ok (.bipush 20, 2) := by decide +kernel
theorem dX9_feed_117 : decode cX9_feed 117 = .ok (.iadd, 1) := by decide +kernel
theorem dX9_feed_118 : decode cX9_feed 118 = .ok (.putfield 98, 3) := by decide +kernel
theorem dX9_feed_121 : decode cX9_feed 121 = .ok (.aload_n 0, 1) := by decide +kernel
theorem dX9_feed_122 : decode cX9_feed 122 = .ok (.getfield 98, 3) := by decide +kernel
theorem dX9_feed_125 : decode cX9_feed 125 = .ok (.ireturn, 1) := by decide +kernel
theorem dX9_here_0 : decode cX9_here 0 = .ok (.aload_n 0, 1) := by decide +kernel
theorem dX9_here_1 : decode cX9_here 1 = .ok (.getfield 101, 3) := by decide +kernel
theorem dX9_here_4 : decode cX9_here 4 = .ok (.aload_n 0, 1) := by decide +kernel
theorem dX9_here_5 : decode cX9_here 5 = .ok (.getfield 104, 3) := by decide +kernel
theorem dX9_here_8 : decode cX9_here 8 = .ok (.if_icmp .ge 15, 3) := by decide +kernel
theorem dX9_here_11 : decode cX9_here 11 = .ok (.aload_n 0, 1) := by decide +kernel
theorem dX9_here_12 : decode cX9_here 12 = .ok (.getfield 7, 3) := by decide +kernel
theorem dX9_here_15 : decode cX9_here 15 = .ok (.aload_n 0, 1) := by decide +kernel
theorem dX9_here_16 : decode cX9_here 16 = .ok (.getfield 101, 3) := by decide +kernel
theorem dX9_here_19 : decode cX9_here 19 = .ok (.iaload, 1) := by decide +kernel
theorem dX9_here_20 : decode cX9_here 20 = .ok (.goto 4, 3) := by decide +kernel
theorem dX9_here_23 : decode cX9_here 23 = .ok (.iconst (-1), 1) := by decide +kernel
theorem dX9_here_24 : decode cX9_here 24 = .ok (.ireturn, 1) := by decide +kernel
theorem dX9_isSmall_0 : decode cX9_isSmall 0 = .ok (.iload_n 0, 1) := by decide +kernel
theorem dX9_isSmall_1 : decode cX9_isSmall 1 = .ok (.bipush 97, 2) := by decide +kernel
theorem dX9_isSmall_3 : decode cX9_isSmall 3 = .ok (.if_icmp .lt 13, 3) := by decide +kernel
theorem dX9_isSmall_6 : decode cX9_isSmall 6 = .ok (.iload_n 0, 1) := by decide +kernel
theorem dX9_isSmall_7 : decode cX9_isSmall 7 = .ok (.bipush 122, 2) := by decide +kernel
theorem dX9_isSmall_9 : decode cX9_isSmall 9 = .ok (.if_icmp .gt 7, 3) := by decide +kernel
theorem dX9_isSmall_12 : decode cX9_isSmall 12 = .ok (.iconst 1, 1) := by decide +kernel
theorem dX9_isSmall_13 : decode cX9_isSmall 13 = .ok (.goto 4, 3) := by decide +kernel
theorem dX9_isSmall_16 : decode cX9_isSmall 16 = .ok (.iconst 0, 1) := by decide +kernel
theorem dX9_isSmall_17 : decode cX9_isSmall 17 = .ok (.ireturn, 1) := by decide +kernel
theorem dX9_isDigit_0 : decode cX9_isDigit 0 = .ok (.iload_n 0, 1) := by decide +kernel
theorem dX9_isDigit_1 : decode cX9_isDigit 1 = .ok (.bipush 48, 2) := by decide +kernel
theorem dX9_isDigit_3 : decode cX9_isDigit 3 = .ok (.if_icmp .lt 13, 3) := by decide +kernel
theorem dX9_isDigit_6 : decode cX9_isDigit 6 = .ok (.iload_n 0, 1) := by decide +kernel
theorem dX9_isDigit_7 : decode cX9_isDigit 7 = .ok (.bipush 57, 2) := by decide +kernel
theorem dX9_isDigit_9 : decode cX9_isDigit 9 = .ok (.if_icmp .gt 7, 3) := by decide +kernel
theorem dX9_isDigit_12 : decode cX9_isDigit 12 = .ok (.iconst 1, 1) := by decide +kernel
theorem dX9_isDigit_13 : decode cX9_isDigit 13 = .ok (.goto 4, 3) := by decide +kernel
theorem dX9_isDigit_16 : decode cX9_isDigit 16 = .ok (.iconst 0, 1) := by decide +kernel
theorem dX9_isDigit_17 : decode cX9_isDigit 17 = .ok (.ireturn, 1) := by decide +kernel
theorem dX9_next_0 : decode cX9_next 0 = .ok (.aload_n 0, 1) := by decide +kernel
theorem dX9_next_1 : decode cX9_next 1 = .ok (.invokevirtual 107, 3) := by decide +kernel
theorem dX9_next_4 : decode cX9_next 4 = .ok (.bipush 10, 2) := by decide +kernel
theorem dX9_next_6 : decode cX9_next 6 = .ok (.if_icmp .eq 12, 3) := by decide +kernel
theorem dX9_next_9 : decode cX9_next 9 = .ok (.aload_n 0, 1) := by decide +kernel
theorem dX9_next_10 : decode cX9_next 10 = .ok (.invokevirtual 107, 3) := by decide +kernel
theorem dX9_next_13 : decode cX9_next 13 = .ok (.bipush 32, 2) := by decide +kernel
theorem dX9_next_15 : decode cX9_next 15 = .ok (.if_icmp .ne 16, 3) := by decide +kernel
theorem dX9_next_18 : decode cX9_next 18 = .ok (.aload_n 0, 1) := by decide +kernel
theorem dX9_next_19 : decode cX9_next 19 = .ok (.dup, 1) := by decide +kernel
theorem dX9_next_20 : decode cX9_next 20 = .ok (.getfield 101, 3) := by decide +kernel
theorem dX9_next_23 : decode cX9_next 23 = .ok (.iconst 1, 1) := by decide +kernel
theorem dX9_next_24 : decode cX9_next 24 = .ok (.iadd, 1) := by decide +kernel
theorem dX9_next_25 : decode cX9_next 25 = .ok (.putfield 101, 3) := by decide +kernel
theorem dX9_next_28 : decode cX9_next 28 = .ok (.goto (-28), 3) := by decide +kernel
theorem dX9_next_31 : decode cX9_next 31 = .ok (.aload_n 0, 1) := by decide +kernel
theorem dX9_next_32 : decode cX9_next 32 = .ok (.aload_n 0, 1) := by decide +kernel
theorem dX9_next_33 : decode cX9_next 33 = .ok (.getfield 101, 3) := by decide +kernel
theorem dX9_next_36 : decode cX9_next 36 = .ok (.putfield 111, 3) := by decide +kernel
theorem dX9_next_39 : decode cX9_next 39 = .ok (.aload_n 0, 1) := by decide +kernel
theorem dX9_next_40 : decode cX9_next 40 = .ok (.invokevirtual 107, 3) := by decide +kernel
theorem dX9_next_43 : decode cX9_next 43 = .ok (.istore_n 1, 1) := by decide +kernel
theorem dX9_next_44 : decode cX9_next 44 = .ok (.iload_n 1, 1) := by decide +kernel
theorem dX9_next_45 : decode cX9_next 45 = .ok (.iconst (-1), 1) := by decide +kernel
theorem dX9_next_46 : decode cX9_next 46 = .ok (.if_icmp .ne 11, 3) := by decide +kernel
theorem dX9_next_49 : decode cX9_next 49 = .ok (.aload_n 0, 1) := by decide +kernel
theorem dX9_next_50 : decode cX9_next 50 = .ok (.iconst 3, 1) := by decide +kernel
theorem dX9_next_51 : decode cX9_next 51 = .ok (.putfield 114, 3) := by decide +kernel
theorem dX9_next_54 : decode cX9_next 54 = .ok (.goto 162, 3) := by decide +kernel
theorem dX9_next_57 : decode cX9_next 57 = .ok (.iload_n 1, 1) := by decide +kernel
theorem dX9_next_58 : decode cX9_next 58 = .ok (.invokestatic 117, 3) := by decide +kernel
theorem dX9_next_61 : decode cX9_next 61 = .ok (.ifCond .eq 54, 3) := by decide +kernel
theorem dX9_next_64 : decode cX9_next 64 = .ok (.aload_n 0, 1) := by decide +kernel
theorem dX9_next_65 : decode cX9_next 65 = .ok (.invokevirtual 107, 3) := by decide +kernel
theorem dX9_next_68 : decode cX9_next 68 = .ok (.invokestatic 117, 3) := by decide +kernel
theorem dX9_next_71 : decode cX9_next 71 = .ok (.ifCond .eq 16, 3) := by decide +kernel
theorem dX9_next_74 : decode cX9_next 74 = .ok (.aload_n 0, 1) := by decide +kernel
theorem dX9_next_75 : decode cX9_next 75 = .ok (.dup, 1) := by decide +kernel
theorem dX9_next_76 : decode cX9_next 76 = .ok (.getfield 101, 3) := by decide +kernel
theorem dX9_next_79 : decode cX9_next 79 = .ok (.iconst 1, 1) := by decide +kernel
theorem dX9_next_80 : decode cX9_next 80 = .ok (.iadd, 1) := by decide +kernel
theorem dX9_next_81 : decode cX9_next 81 = .ok (.putfield 101, 3) := by decide +kernel
theorem dX9_next_84 : decode cX9_next 84 = .ok (.goto (-20), 3) := by decide +kernel
theorem dX9_next_87 : decode cX9_next 87 = .ok (.aload_n 0, 1) := by decide +kernel
theorem dX9_next_88 : decode cX9_next 88 = .ok (.aload_n 0, 1) := by decide +kernel
theorem dX9_next_89 : decode cX9_next 89 = .ok (.invokevirtual 121, 3) := by decide +kernel
theorem dX9_next_92 : decode cX9_next 92 = .ok (.putfield 124, 3) := by decide +kernel
theorem dX9_next_95 : decode cX9_next 95 = .ok (.aload_n 0, 1) := by decide +kernel
theorem dX9_next_96 : decode cX9_next 96 = .ok (.aload_n 0, 1) := by decide +kernel
theorem dX9_next_97 : decode cX9_next 97 = .ok (.getfield 124, 3) := by decide +kernel
theorem dX9_next_100 : decode cX9_next 100 = .ok (.iconst (-1), 1) := by decide +kernel
theorem dX9_next_101 : decode cX9_next 101 = .ok (.if_icmp .ne 7, 3) := by decide +kernel
theorem dX9_next_104 : decode cX9_next 104 = .ok (.iconst 4, 1) := by decide +kernel
theorem dX9_next_105 : decode cX9_next 105 = .ok (.goto 4, 3) := by decide +kernel
theorem dX9_next_108 : decode cX9_next 108 = .ok (.iconst 0, 1) := by decide +kernel
theorem dX9_next_109 : decode cX9_next 109 = .ok (.putfield 114, 3) := by decide +kernel
theorem dX9_next_112 : decode cX9_next 112 = .ok (.goto 104, 3) := by decide +kernel
theorem dX9_next_115 : decode cX9_next 115 = .ok (.iload_n 1, 1) := by decide +kernel
theorem dX9_next_116 : decode cX9_next 116 = .ok (.invokestatic 127, 3) := by decide +kernel
theorem dX9_next_119 : decode cX9_next 119 = .ok (.ifCond .eq 72, 3) := by decide +kernel
theorem dX9_next_122 : decode cX9_next 122 = .ok (.aload_n 0, 1) := by decide +kernel
theorem dX9_next_123 : decode cX9_next 123 = .ok (.iconst 1, 1) := by decide +kernel
theorem dX9_next_124 : decode cX9_next 124 = .ok (.putfield 114, 3) := by decide +kernel
theorem dX9_next_127 : decode cX9_next 127 = .ok (.aload_n 0, 1) := by decide +kernel
theorem dX9_next_128 : decode cX9_next 128 = .ok (.iconst 0, 1) := by decide +kernel
theorem dX9_next_129 : decode cX9_next 129 = .ok (.putfield 124, 3) := by decide +kernel
theorem dX9_next_132 : decode cX9_next 132 = .ok (.aload_n 0, 1) := by decide +kernel
theorem dX9_next_133 : decode cX9_next 133 = .ok (.invokevirtual 107, 3) := by decide +kernel
theorem dX9_next_136 : decode cX9_next 136 = .ok (.invokestatic 127, 3) := by decide +kernel
theorem dX9_next_139 : decode cX9_next 139 = .ok (.ifCond .eq 77, 3) := by decide +kernel
theorem dX9_next_142 : decode cX9_next 142 = .ok (.aload_n 0, 1) := by decide +kernel
theorem dX9_next_143 : decode cX9_next 143 = .ok (.aload_n 0, 1) := by decide +kernel
theorem dX9_next_144 : decode cX9_next 144 = .ok (.getfield 124, 3) := by decide +kernel
theorem dX9_next_147 : decode cX9_next 147 = .ok (.sipush 9999, 3) := by decide +kernel
theorem dX9_next_150 : decode cX9_next 150 = .ok (.if_icmp .le 10, 3) := by decide +kernel
theorem dX9_next_153 : decode cX9_next 153 = .ok (.aload_n 0, 1) := by decide +kernel
theorem dX9_next_154 : decode cX9_next 154 = .ok (.getfield 124, 3) := by decide +kernel
theorem dX9_next_157 : decode cX9_next 157 = .ok (.goto 18, 3) := by decide +kernel
theorem dX9_next_160 : decode cX9_next 160 = .ok (.bipush 10, 2) := by decide +kernel
theorem dX9_next_162 : decode cX9_next 162 = .ok (.aload_n 0, 1) := by decide +kernel
theorem dX9_next_163 : decode cX9_next 163 = .ok (.getfield 124, 3) := by decide +kernel
theorem dX9_next_166 : decode cX9_next 166 = .ok (.imul, 1) := by decide +kernel
theorem dX9_next_167 : decode cX9_next 167 = .ok (.aload_n 0, 1) := by decide +kernel
theorem dX9_next_168 : decode cX9_next 168 = .ok (.invokevirtual 107, 3) := by decide +kernel
theorem dX9_next_171 : decode cX9_next 171 = .ok (.iadd, 1) := by decide +kernel
theorem dX9_next_172 : decode cX9_next 172 = .ok (.bipush 48, 2) := by decide +kernel
theorem dX9_next_174 : decode cX9_next 174 = .ok (.isub, 1) := by decide +kernel
theorem dX9_next_175 : decode cX9_next 175 = .ok (.putfield 124, 3) := by decide +kernel
theorem dX9_next_178 : decode cX9_next 178 = .ok (.aload_n 0, 1) := by decide +kernel
theorem dX9_next_179 : decode cX9_next 179 = .ok (.dup, 1) := by decide +kernel
theorem dX9_next_180 : decode cX9_next 180 = .ok (.getfield 101, 3) := by decide +kernel
theorem dX9_next_183 : decode cX9_next 183 = .ok (.iconst 1, 1) := by decide +kernel
theorem dX9_next_184 : decode cX9_next 184 = .ok (.iadd, 1) := by decide +kernel
theorem dX9_next_185 : decode cX9_next 185 = .ok (.putfield 101, 3) := by decide +kernel
theorem dX9_next_188 : decode cX9_next 188 = .ok (.goto (-56), 3) := by decide +kernel
theorem dX9_next_191 : decode cX9_next 191 = .ok (.aload_n 0, 1) := by decide +kernel
theorem dX9_next_192 : decode cX9_next 192 = .ok (.dup, 1) := by decide +kernel
theorem dX9_next_193 : decode cX9_next 193 = .ok (.getfield 101, 3) := by decide +kernel
theorem dX9_next_196 : decode cX9_next 196 = .ok (.iconst 1, 1) := by decide +kernel
theorem dX9_next_197 : decode cX9_next 197 = .ok (.iadd, 1) := by decide +kernel
theorem dX9_next_198 : decode cX9_next 198 = .ok (.putfield 101, 3) := by decide +kernel
theorem dX9_next_201 : decode cX9_next 201 = .ok (.aload_n 0, 1) := by decide +kernel
theorem dX9_next_202 : decode cX9_next 202 = .ok (.iload_n 1, 1) := by decide +kernel
theorem dX9_next_203 : decode cX9_next 203 = .ok (.bipush 59, 2) := by decide +kernel
theorem dX9_next_205 : decode cX9_next 205 = .ok (.if_icmp .ne 7, 3) := by decide +kernel
theorem dX9_next_208 : decode cX9_next 208 = .ok (.iconst 2, 1) := by decide +kernel
theorem dX9_next_209 : decode cX9_next 209 = .ok (.goto 4, 3) := by decide +kernel
theorem dX9_next_212 : decode cX9_next 212 = .ok (.iconst 4, 1) := by decide +kernel
theorem dX9_next_213 : decode cX9_next 213 = .ok (.putfield 114, 3) := by decide +kernel
theorem dX9_next_216 : decode cX9_next 216 = .ok (.return_, 1) := by decide +kernel
theorem dX9_wordOf_0 : decode cX9_wordOf 0 = .ok (.iconst 0, 1) := by decide +kernel
theorem dX9_wordOf_1 : decode cX9_wordOf 1 = .ok (.istore_n 1, 1) := by decide +kernel
theorem dX9_wordOf_2 : decode cX9_wordOf 2 = .ok (.iconst 0, 1) := by decide +kernel
theorem dX9_wordOf_3 : decode cX9_wordOf 3 = .ok (.istore_n 2, 1) := by decide +kernel
theorem dX9_wordOf_4 : decode cX9_wordOf 4 = .ok (.iload_n 2, 1) := by decide +kernel
theorem dX9_wordOf_5 : decode cX9_wordOf 5 = .ok (.ldc 130, 2) := by decide +kernel
theorem dX9_wordOf_7 : decode cX9_wordOf 7 = .ok (.invokevirtual 132, 3) := by decide +kernel
theorem dX9_wordOf_10 : decode cX9_wordOf 10 = .ok (.if_icmp .ge 113, 3) := by decide +kernel
theorem dX9_wordOf_13 : decode cX9_wordOf 13 = .ok (.iconst 0, 1) := by decide +kernel
theorem dX9_wordOf_14 : decode cX9_wordOf 14 = .ok (.istore_n 3, 1) := by decide +kernel
theorem dX9_wordOf_15 : decode cX9_wordOf 15 = .ok (.ldc 130, 2) := by decide +kernel
theorem dX9_wordOf_17 : decode cX9_wordOf 17 = .ok (.iload_n 2, 1) := by decide +kernel
theorem dX9_wordOf_18 : decode cX9_wordOf 18 = .ok (.iload_n 3, 1) := by decide +kernel
theorem dX9_wordOf_19 : decode cX9_wordOf 19 = .ok (.iadd, 1) := by decide +kernel
theorem dX9_wordOf_20 : decode cX9_wordOf 20 = .ok (.invokevirtual 137, 3) := by decide +kernel
theorem dX9_wordOf_23 : decode cX9_wordOf 23 = .ok (.bipush 32, 2) := by decide +kernel
theorem dX9_wordOf_25 : decode cX9_wordOf 25 = .ok (.if_icmp .eq 44, 3) := by decide +kernel
theorem dX9_wordOf_28 : decode cX9_wordOf 28 = .ok (.aload_n 0, 1) := by decide +kernel
theorem dX9_wordOf_29 : decode cX9_wordOf 29 = .ok (.getfield 111, 3) := by decide +kernel
theorem dX9_wordOf_32 : decode cX9_wordOf 32 = .ok (.iload_n 3, 1) := by decide +kernel
theorem dX9_wordOf_33 : decode cX9_wordOf 33 = .ok (.iadd, 1) := by decide +kernel
theorem dX9_wordOf_34 : decode cX9_wordOf 34 = .ok (.aload_n 0, 1) := by decide +kernel
theorem dX9_wordOf_35 : decode cX9_wordOf 35 = .ok (.getfield 101, 3) := by decide +kernel
theorem dX9_wordOf_38 : decode cX9_wordOf 38 = .ok (.if_icmp .ge 31, 3) := by decide +kernel
theorem dX9_wordOf_41 : decode cX9_wordOf 41 = .ok (.aload_n 0, 1) := by decide +kernel
theorem dX9_wordOf_42 : decode cX9_wordOf 42 = .ok (.getfield 7, 3) := by decide +kernel
theorem dX9_wordOf_45 : decode cX9_wordOf 45 = .ok (.aload_n 0, 1) := by decide +kernel
theorem dX9_wordOf_46 : decode cX9_wordOf 46 = .ok (.getfield 111, 3) := by decide +kernel
theorem dX9_wordOf_49 : decode cX9_wordOf 49 = .ok (.iload_n 3, 1) := by decide +kernel
theorem dX9_wordOf_50 : decode cX9_wordOf 50 = .ok (.iadd, 1) := by decide +kernel
theorem dX9_wordOf_51 : decode cX9_wordOf 51 = .ok (.iaload, 1) := by decide +kernel
theorem dX9_wordOf_52 : decode cX9_wordOf 52 = .ok (.ldc 130, 2) := by decide +kernel
theorem dX9_wordOf_54 : decode cX9_wordOf 54 = .ok (.iload_n 2, 1) := by decide +kernel
theorem dX9_wordOf_55 : decode cX9_wordOf 55 = .ok (.iload_n 3, 1) := by decide +kernel
theorem dX9_wordOf_56 : decode cX9_wordOf 56 = .ok (.iadd, 1) := by decide +kernel
theorem dX9_wordOf_57 : decode cX9_wordOf 57 = .ok (.invokevirtual 137, 3) := by decide +kernel
theorem dX9_wordOf_60 : decode cX9_wordOf 60 = .ok (.if_icmp .ne 9, 3) := by decide +kernel
theorem dX9_wordOf_63 : decode cX9_wordOf 63 = .ok (.iinc 3 1, 3) := by decide +kernel
theorem dX9_wordOf_66 : decode cX9_wordOf 66 = .ok (.goto (-51), 3) := by decide +kernel
theorem dX9_wordOf_69 : decode cX9_wordOf 69 = .ok (.ldc 130, 2) := by decide +kernel
theorem dX9_wordOf_71 : decode cX9_wordOf 71 = .ok (.iload_n 2, 1) := by decide +kernel
theorem dX9_wordOf_72 : decode cX9_wordOf 72 = .ok (.iload_n 3, 1) := by decide +kernel
theorem dX9_wordOf_73 : decode cX9_wordOf 73 = .ok (.iadd, 1) := by decide +kernel
theorem dX9_wordOf_74 : decode cX9_wordOf 74 = .ok (.invokevirtual 137, 3) := by decide +kernel
theorem dX9_wordOf_77 : decode cX9_wordOf 77 = .ok (.bipush 32, 2) := by decide +kernel
theorem dX9_wordOf_79 : decode cX9_wordOf 79 = .ok (.if_icmp .ne 18, 3) := by decide +kernel
theorem dX9_wordOf_82 : decode cX9_wordOf 82 = .ok (.aload_n 0, 1) := by decide +kernel
theorem dX9_wordOf_83 : decode cX9_wordOf 83 = .ok (.getfield 111, 3) := by decide +kernel
theorem dX9_wordOf_86 : decode cX9_wordOf 86 = .ok (.iload_n 3, 1) := by decide +kernel
theorem dX9_wordOf_87 : decode cX9_wordOf 87 = .ok (.iadd, 1) := by decide +kernel
theorem dX9_wordOf_88 : decode cX9_wordOf 88 = .ok (.aload_n 0, 1) := by decide +kernel
theorem dX9_wordOf_89 : decode cX9_wordOf 89 = .ok (.getfield 101, 3) := by decide +kernel
theorem dX9_wordOf_92 : decode cX9_wordOf 92 = .ok (.if_icmp .ne 5, 3) := by decide +kernel
theorem dX9_wordOf_95 : decode cX9_wordOf 95 = .ok (.iload_n 1, 1) := by decide +kernel
theorem dX9_wordOf_96 : decode cX9_wordOf 96 = .ok (.ireturn, 1) := by decide +kernel
theorem dX9_wordOf_97 : decode cX9_wordOf 97 = .ok (.ldc 130, 2) := by decide +kernel
theorem dX9_wordOf_99 : decode cX9_wordOf 99 = .ok (.iload_n 2, 1) := by decide +kernel
theorem dX9_wordOf_100 : decode cX9_wordOf 100 = .ok (.invokevirtual 137, 3) := by decide +kernel
theorem dX9_wordOf_103 : decode cX9_wordOf 103 = .ok (.bipush 32, 2) := by decide +kernel
theorem dX9_wordOf_105 : decode cX9_wordOf 105 = .ok (.if_icmp .eq 9, 3) := by decide +kernel
theorem dX9_wordOf_108 : decode cX9_wordOf 108 = .ok (.iinc 2 1, 3) := by decide +kernel
theorem dX9_wordOf_111 : decode cX9_wordOf 111 = .ok (.goto (-14), 3) := by decide +kernel
theorem dX9_wordOf_114 : decode cX9_wordOf 114 = .ok (.iinc 2 1, 3) := by decide +kernel
theorem dX9_wordOf_117 : decode cX9_wordOf 117 = .ok (.iinc 1 1, 3) := by decide +kernel
theorem dX9_wordOf_120 : decode cX9_wordOf 120 = .ok (.goto (-116), 3) := by decide +kernel
theorem dX9_wordOf_123 : decode cX9_wordOf 123 = .ok (.iconst (-1), 1) := by decide +kernel
theorem dX9_wordOf_124 : decode cX9_wordOf 124 = .ok (.ireturn, 1) := by decide +kernel
theorem dX9_wrong_0 : decode cX9_wrong 0 = .ok (.aload_n 0, 1) := by decide +kernel
theorem dX9_wrong_1 : decode cX9_wrong 1 = .ok (.getfield 141, 3) := by decide +kernel
theorem dX9_wrong_4 : decode cX9_wrong 4 = .ok (.ifCond .eq 4, 3) := by decide +kernel
theorem dX9_wrong_7 : decode cX9_wrong 7 = .ok (.return_, 1) := by decide +kernel
theorem dX9_wrong_8 : decode cX9_wrong 8 = .ok (.aload_n 0, 1) := by decide +kernel
theorem dX9_wrong_9 : decode cX9_wrong 9 = .ok (.iload_n 1, 1) := by decide +kernel
theorem dX9_wrong_10 : decode cX9_wrong 10 = .ok (.putfield 141, 3) := by decide +kernel
theorem dX9_wrong_13 : decode cX9_wrong 13 = .ok (.aload_n 0, 1) := by decide +kernel
theorem dX9_wrong_14 : decode cX9_wrong 14 = .ok (.aload_n 0, 1) := by decide +kernel
theorem dX9_wrong_15 : decode cX9_wrong 15 = .ok (.getfield 111, 3) := by decide +kernel
theorem dX9_wrong_18 : decode cX9_wrong 18 = .ok (.putfield 144, 3) := by decide +kernel
theorem dX9_wrong_21 : decode cX9_wrong 21 = .ok (.return_, 1) := by decide +kernel
theorem dX9_line_0 : decode cX9_line 0 = .ok (.aload_n 0, 1) := by decide +kernel
theorem dX9_line_1 : decode cX9_line 1 = .ok (.getfield 114, 3) := by decide +kernel
theorem dX9_line_4 : decode cX9_line 4 = .ok (.ifCond .eq 11, 3) := by decide +kernel
theorem dX9_line_7 : decode cX9_line 7 = .ok (.aload_n 0, 1) := by decide +kernel
theorem dX9_line_8 : decode cX9_line 8 = .ok (.iconst 1, 1) := by decide +kernel
theorem dX9_line_9 : decode cX9_line 9 = .ok (.invokevirtual 147, 3) := by decide +kernel
theorem dX9_line_12 : decode cX9_line 12 = .ok (.goto 23, 3) := by decide +kernel
theorem dX9_line_15 : decode cX9_line 15 = .ok (.aload_n 0, 1) := by decide +kernel
theorem dX9_line_16 : decode cX9_line 16 = .ok (.getfield 151, 3) := by decide +kernel
theorem dX9_line_19 : decode cX9_line 19 = .ok (.aload_n 0, 1) := by decide +kernel
theorem dX9_line_20 : decode cX9_line 20 = .ok (.getfield 124, 3) := by decide +kernel
theorem dX9_line_23 : decode cX9_line 23 = .ok (.ishr, 1) := by decide +kernel
theorem dX9_line_24 : decode cX9_line 24 = .ok (.iconst 1, 1) := by decide +kernel
theorem dX9_line_25 : decode cX9_line 25 = .ok (.iand, 1) := by decide +kernel
theorem dX9_line_26 : decode cX9_line 26 = .ok (.iconst 1, 1) := by decide +kernel
theorem dX9_line_27 : decode cX9_line 27 = .ok (.if_icmp .ne 8, 3) := by decide +kernel
theorem dX9_line_30 : decode cX9_line 30 = .ok (.aload_n 0, 1) := by decide +kernel
theorem dX9_line_31 : decode cX9_line 31 = .ok (.iconst 3, 1) := by decide +kernel
theorem dX9_line_32 : decode cX9_line 32 = .ok (.invokevirtual 147, 3) := by decide +kernel
theorem dX9_line_35 : decode cX9_line 35 = .ok (.aload_n 0, 1) := by decide +kernel
theorem dX9_line_36 : decode cX9_line 36 = .ok (.getfield 141, 3) := by decide +kernel
theorem dX9_line_39 : decode cX9_line 39 = .ok (.ifCond .eq 4, 3) := by decide +kernel
theorem dX9_line_42 : decode cX9_line 42 = .ok (.return_, 1) := by decide +kernel
theorem dX9_line_43 : decode cX9_line 43 = .ok (.aload_n 0, 1) := by decide +kernel
theorem dX9_line_44 : decode cX9_line 44 = .ok (.getfield 124, 3) := by decide +kernel
theorem dX9_line_47 : decode cX9_line 47 = .ok (.istore_n 1, 1) := by decide +kernel
theorem dX9_line_48 : decode cX9_line 48 = .ok (.aload_n 0, 1) := by decide +kernel
theorem dX9_line_49 : decode cX9_line 49 = .ok (.dup, 1) := by decide +kernel
theorem dX9_line_50 : decode cX9_line 50 = .ok (.getfield 151, 3) := by decide +kernel
theorem dX9_line_53 : decode cX9_line 53 = .ok (.iconst 1, 1) := by decide +kernel
theorem dX9_line_54 : decode cX9_line 54 = .ok (.iload_n 1, 1) := by decide +kernel
theorem dX9_line_55 : decode cX9_line 55 = .ok (.ishl, 1) := by decide +kernel
theorem dX9_line_56 : decode cX9_line 56 = .ok (.ior, 1) := by decide +kernel
theorem dX9_line_57 : decode cX9_line 57 = .ok (.putfield 151, 3) := by decide +kernel
theorem dX9_line_60 : decode cX9_line 60 = .ok (.aload_n 0, 1) := by decide +kernel
theorem dX9_line_61 : decode cX9_line 61 = .ok (.invokevirtual 154, 3) := by decide +kernel
theorem dX9_line_64 : decode cX9_line 64 = .ok (.aload_n 0, 1) := by decide +kernel
theorem dX9_line_65 : decode cX9_line 65 = .ok (.getfield 114, 3) := by decide +kernel
theorem dX9_line_68 : decode cX9_line 68 = .ok (.iconst 1, 1) := by decide +kernel
theorem dX9_line_69 : decode cX9_line 69 = .ok (.if_icmp .eq 11, 3) := by decide +kernel
theorem dX9_line_72 : decode cX9_line 72 = .ok (.aload_n 0, 1) := by decide +kernel
theorem dX9_line_73 : decode cX9_line 73 = .ok (.iconst 1, 1) := by decide +kernel
theorem dX9_line_74 : decode cX9_line 74 = .ok (.invokevirtual 147, 3) := by decide +kernel
theorem dX9_line_77 : decode cX9_line 77 = .ok (.goto 34, 3) := by decide +kernel
theorem dX9_line_80 : decode cX9_line 80 = .ok (.aload_n 0, 1) := by decide +kernel
theorem dX9_line_81 : decode cX9_line 81 = .ok (.getfield 124, 3) := by decide +kernel
theorem dX9_line_84 : decode cX9_line 84 = .ok (.aload_n 0, 1) := by decide +kernel
theorem dX9_line_85 : decode cX9_line 85 = .ok (.getfield 19, 3) := by decide +kernel
theorem dX9_line_88 : decode cX9_line 88 = .ok (.iload_n 1, 1) := by decide +kernel
theorem dX9_line_89 : decode cX9_line 89 = .ok (.iaload, 1) := by decide +kernel
theorem dX9_line_90 : decode cX9_line 90 = .ok (.if_icmp .lt 16, 3) := by decide +kernel
theorem dX9_line_93 : decode cX9_line 93 = .ok (.aload_n 0, 1) := by decide +kernel
theorem dX9_line_94 : decode cX9_line 94 = .ok (.getfield 124, 3) := by decide +kernel
theorem dX9_line_97 : decode cX9_line 97 = .ok (.aload_n 0, 1) := by decide +kernel
theorem dX9_line_98 : decode cX9_line 98 = .ok (.getfield 22, 3) := by decide +kernel
theorem dX9_line_101 : decode cX9_line 101 = .ok (.iload_n 1, 1) := by decide +kernel
theorem dX9_line_102 : decode cX9_line 102 = .ok (.iaload, 1) := by decide +kernel
theorem dX9_line_103 : decode cX9_line 103 = .ok (.if_icmp .le 8, 3) := by decide +kernel
theorem dX9_line_106 : decode cX9_line 106 = .ok (.aload_n 0, 1) := by decide +kernel
theorem dX9_line_107 : decode cX9_line 107 = .ok (.iconst 2, 1) := by decide +kernel
theorem dX9_line_108 : decode cX9_line 108 = .ok (.invokevirtual 147, 3) := by decide +kernel
theorem dX9_line_111 : decode cX9_line 111 = .ok (.aload_n 0, 1) := by decide +kernel
theorem dX9_line_112 : decode cX9_line 112 = .ok (.getfield 141, 3) := by decide +kernel
theorem dX9_line_115 : decode cX9_line 115 = .ok (.ifCond .eq 4, 3) := by decide +kernel
theorem dX9_line_118 : decode cX9_line 118 = .ok (.return_, 1) := by decide +kernel
theorem dX9_line_119 : decode cX9_line 119 = .ok (.aload_n 0, 1) := by decide +kernel
theorem dX9_line_120 : decode cX9_line 120 = .ok (.getfield 13, 3) := by decide +kernel
theorem dX9_line_123 : decode cX9_line 123 = .ok (.bipush 6, 2) := by decide +kernel
theorem dX9_line_125 : decode cX9_line 125 = .ok (.iload_n 1, 1) := by decide +kernel
theorem dX9_line_126 : decode cX9_line 126 = .ok (.iadd, 1) := by decide +kernel
theorem dX9_line_127 : decode cX9_line 127 = .ok (.aload_n 0, 1) := by decide +kernel
theorem dX9_line_128 : decode cX9_line 128 = .ok (.getfield 124, 3) := by decide +kernel
theorem dX9_line_131 : decode cX9_line 131 = .ok (.iastore, 1) := by decide +kernel
theorem dX9_line_132 : decode cX9_line 132 = .ok (.aload_n 0, 1) := by decide +kernel
theorem dX9_line_133 : decode cX9_line 133 = .ok (.invokevirtual 154, 3) := by decide +kernel
theorem dX9_line_136 : decode cX9_line 136 = .ok (.aload_n 0, 1) := by decide +kernel
theorem dX9_line_137 : decode cX9_line 137 = .ok (.getfield 114, 3) := by decide +kernel
theorem dX9_line_140 : decode cX9_line 140 = .ok (.iconst 2, 1) := by decide +kernel
theorem dX9_line_141 : decode cX9_line 141 = .ok (.if_icmp .eq 8, 3) := by decide +kernel
theorem dX9_line_144 : decode cX9_line 144 = .ok (.aload_n 0, 1) := by decide +kernel
theorem dX9_line_145 : decode cX9_line 145 = .ok (.iconst 1, 1) := by decide +kernel
theorem dX9_line_146 : decode cX9_line 146 = .ok (.invokevirtual 147, 3) := by decide +kernel
theorem dX9_line_149 : decode cX9_line 149 = .ok (.aload_n 0, 1) := by decide +kernel
theorem dX9_line_150 : decode cX9_line 150 = .ok (.getfield 141, 3) := by decide +kernel
theorem dX9_line_153 : decode cX9_line 153 = .ok (.ifCond .eq 4, 3) := by decide +kernel
theorem dX9_line_156 : decode cX9_line 156 = .ok (.return_, 1) := by decide +kernel
theorem dX9_line_157 : decode cX9_line 157 = .ok (.aload_n 0, 1) := by decide +kernel
theorem dX9_line_158 : decode cX9_line 158 = .ok (.dup, 1) := by decide +kernel
theorem dX9_line_159 : decode cX9_line 159 = .ok (.getfield 157, 3) := by decide +kernel
theorem dX9_line_162 : decode cX9_line 162 = .ok (.iconst 1, 1) := by decide +kernel
theorem dX9_line_163 : decode cX9_line 163 = .ok (.iadd, 1) := by decide +kernel
theorem dX9_line_164 : decode cX9_line 164 = .ok (.putfield 157, 3) := by decide +kernel
theorem dX9_line_167 : decode cX9_line 167 = .ok (.aload_n 0, 1) := by decide +kernel
theorem dX9_line_168 : decode cX9_line 168 = .ok (.invokevirtual 154, 3) := by decide +kernel
theorem dX9_line_171 : decode cX9_line 171 = .ok (.return_, 1) := by decide +kernel
theorem dX9_customs_0 : decode cX9_customs 0 = .ok (.aload_n 0, 1) := by decide +kernel
theorem dX9_customs_1 : decode cX9_customs 1 = .ok (.iconst 0, 1) := by decide +kernel
theorem dX9_customs_2 : decode cX9_customs 2 = .ok (.putfield 95, 3) := by decide +kernel
theorem dX9_customs_5 : decode cX9_customs 5 = .ok (.iload_n 1, 1) := by decide +kernel
theorem dX9_customs_6 : decode cX9_customs 6 = .ok (.ifCond .lt 11, 3) := by decide +kernel
theorem dX9_customs_9 : decode cX9_customs 9 = .ok (.iload_n 1, 1) := by decide +kernel
theorem dX9_customs_10 : decode cX9_customs 10 = .ok (.aload_n 0, 1) := by decide +kernel
theorem dX9_customs_11 : decode cX9_customs 11 = .ok (.getfield 98, 3) := by decide +kernel
theorem dX9_customs_14 : decode cX9_customs 14 = .ok (.if_icmp .le 6, 3) := by decide +kernel
theorem dX9_customs_17 : decode cX9_customs 17 = .ok (.bipush (-2), 2) := by decide +kernel
theorem dX9_customs_19 : decode cX9_customs 19 = .ok (.ireturn, 1) := by decide +kernel
theorem dX9_customs_20 : decode cX9_customs 20 = .ok (.aload_n 0, 1) := by decide +kernel
theorem dX9_customs_21 : decode cX9_customs 21 = .ok (.iload_n 1, 1) := by decide +kernel
theorem dX9_customs_22 : decode cX9_customs 22 = .ok (.putfield 104, 3) := by decide +kernel
theorem dX9_customs_25 : decode cX9_customs 25 = .ok (.aload_n 0, 1) := by decide +kernel
theorem dX9_customs_26 : decode cX9_customs 26 = .ok (.iconst 0, 1) := by decide +kernel
theorem dX9_customs_27 : decode cX9_customs 27 = .ok (.putfield 98, 3) := by decide +kernel
theorem dX9_customs_30 : decode cX9_customs 30 = .ok (.aload_n 0, 1) := by decide +kernel
theorem dX9_customs_31 : decode cX9_customs 31 = .ok (.iconst 0, 1) := by decide +kernel
theorem dX9_customs_32 : decode cX9_customs 32 = .ok (.putfield 101, 3) := by decide +kernel
theorem dX9_customs_35 : decode cX9_customs 35 = .ok (.aload_n 0, 1) := by decide +kernel
theorem dX9_customs_36 : decode cX9_customs 36 = .ok (.iconst 0, 1) := by decide +kernel
theorem dX9_customs_37 : decode cX9_customs 37 = .ok (.putfield 141, 3) := by decide +kernel
theorem dX9_customs_40 : decode cX9_customs 40 = .ok (.aload_n 0, 1) := by decide +kernel
theorem dX9_customs_41 : decode cX9_customs 41 = .ok (.iconst (-1), 1) := by decide +kernel
theorem dX9_customs_42 : decode cX9_customs 42 = .ok (.putfield 144, 3) := by decide +kernel
theorem dX9_customs_45 : decode cX9_customs 45 = .ok (.aload_n 0, 1) := by decide +kernel
theorem dX9_customs_46 : decode cX9_customs 46 = .ok (.iconst 0, 1) := by decide +kernel
theorem dX9_customs_47 : decode cX9_customs 47 = .ok (.putfield 151, 3) := by decide +kernel
theorem dX9_customs_50 : decode cX9_customs 50 = .ok (.aload_n 0, 1) := by decide +kernel
theorem dX9_customs_51 : decode cX9_customs 51 = .ok (.iconst 0, 1) := by decide +kernel
theorem dX9_customs_52 : decode cX9_customs 52 = .ok (.putfield 157, 3) := by decide +kernel
theorem dX9_customs_55 : decode cX9_customs 55 = .ok (.iconst 0, 1) := by decide +kernel
theorem dX9_customs_56 : decode cX9_customs 56 = .ok (.istore_n 2, 1) := by decide +kernel
theorem dX9_customs_57 : decode cX9_customs 57 = .ok (.iload_n 2, 1) := by decide +kernel
theorem dX9_customs_58 : decode cX9_customs 58 = .ok (.bipush 6, 2) := by decide +kernel
theorem dX9_customs_60 : decode cX9_customs 60 = .ok (.if_icmp .ge 24, 3) := by decide +kernel
theorem dX9_customs_63 : decode cX9_customs 63 = .ok (.aload_n 0, 1) := by decide +kernel
theorem dX9_customs_64 : decode cX9_customs 64 = .ok (.getfield 13, 3) := by decide +kernel
theorem dX9_customs_67 : decode cX9_customs 67 = .ok (.bipush 6, 2) := by decide +kernel
theorem dX9_customs_69 : decode cX9_customs 69 = .ok (.iload_n 2, 1) := by decide +kernel
theorem dX9_customs_70 : decode cX9_customs 70 = .ok (.iadd, 1) := by decide +kernel
theorem dX9_customs_71 : decode cX9_customs 71 = .ok (.aload_n 0, 1) := by decide +kernel
theorem dX9_customs_72 : decode cX9_customs 72 = .ok (.getfield 16, 3) := by decide +kernel
theorem dX9_customs_75 : decode cX9_customs 75 = .ok (.iload_n 2, 1) := by decide +kernel
theorem dX9_customs_76 : decode cX9_customs 76 = .ok (.iaload, 1) := by decide +kernel
theorem dX9_customs_77 : decode cX9_customs 77 = .ok (.iastore, 1) := by decide +kernel
theorem dX9_customs_78 : decode cX9_customs 78 = .ok (.iinc 2 1, 3) := by decide +kernel
theorem dX9_customs_81 : decode cX9_customs 81 = .ok (.goto (-24), 3) := by decide +kernel
theorem dX9_customs_84 : decode cX9_customs 84 = .ok (.aload_n 0, 1) := by decide +kernel
theorem dX9_customs_85 : decode cX9_customs 85 = .ok (.invokevirtual 154, 3) := by decide +kernel
theorem dX9_customs_88 : decode cX9_customs 88 = .ok (.aload_n 0, 1) := by decide +kernel
theorem dX9_customs_89 : decode cX9_customs 89 = .ok (.getfield 141, 3) := by decide +kernel
theorem dX9_customs_92 : decode cX9_customs 92 = .ok (.ifCond .ne 18, 3) := by decide +kernel
theorem dX9_customs_95 : decode cX9_customs 95 = .ok (.aload_n 0, 1) := by decide +kernel
theorem dX9_customs_96 : decode cX9_customs 96 = .ok (.getfield 114, 3) := by decide +kernel
theorem dX9_customs_99 : decode cX9_customs 99 = .ok (.iconst 3, 1) := by decide +kernel
theorem dX9_customs_100 : decode cX9_customs 100 = .ok (.if_icmp .eq 10, 3) := by decide +kernel
theorem dX9_customs_103 : decode cX9_customs 103 = .ok (.aload_n 0, 1) := by decide +kernel
theorem dX9_customs_104 : decode cX9_customs 104 = .ok (.invokevirtual 160, 3) := by decide +kernel
theorem dX9_customs_107 : decode cX9_customs 107 = .ok (.goto (-19), 3) := by decide +kernel
theorem dX9_customs_110 : decode cX9_customs 110 = .ok (.aload_n 0, 1) := by decide +kernel
theorem dX9_customs_111 : decode cX9_customs 111 = .ok (.aload_n 0, 1) := by decide +kernel
theorem dX9_customs_112 : decode cX9_customs 112 = .ok (.getfield 141, 3) := by decide +kernel
theorem dX9_customs_115 : decode cX9_customs 115 = .ok (.putfield 163, 3) := by decide +kernel
theorem dX9_customs_118 : decode cX9_customs 118 = .ok (.aload_n 0, 1) := by decide +kernel
theorem dX9_customs_119 : decode cX9_customs 119 = .ok (.aload_n 0, 1) := by decide +kernel
theorem dX9_customs_120 : decode cX9_customs 120 = .ok (.getfield 144, 3) := by decide +kernel
theorem dX9_customs_123 : decode cX9_customs 123 = .ok (.putfield 25, 3) := by decide +kernel
theorem dX9_customs_126 : decode cX9_customs 126 = .ok (.aload_n 0, 1) := by decide +kernel
theorem dX9_customs_127 : decode cX9_customs 127 = .ok (.getfield 141, 3) := by decide +kernel
theorem dX9_customs_130 : decode cX9_customs 130 = .ok (.ifCond .eq 5, 3) := by decide +kernel
theorem dX9_customs_133 : decode cX9_customs 133 = .ok (.iconst (-1), 1) := by decide +kernel
theorem dX9_customs_134 : decode cX9_customs 134 = .ok (.ireturn, 1) := by decide +kernel
theorem dX9_customs_135 : decode cX9_customs 135 = .ok (.iconst 0, 1) := by decide +kernel
theorem dX9_customs_136 : decode cX9_customs 136 = .ok (.istore_n 2, 1) := by decide +kernel
theorem dX9_customs_137 : decode cX9_customs 137 = .ok (.iload_n 2, 1) := by decide +kernel
theorem dX9_customs_138 : decode cX9_customs 138 = .ok (.bipush 6, 2) := by decide +kernel
theorem dX9_customs_140 : decode cX9_customs 140 = .ok (.if_icmp .ge 24, 3) := by decide +kernel
theorem dX9_customs_143 : decode cX9_customs 143 = .ok (.aload_n 0, 1) := by decide +kernel
theorem dX9_customs_144 : decode cX9_customs 144 = .ok (.getfield 13, 3) := by decide +kernel
theorem dX9_customs_147 : decode cX9_customs 147 = .ok (.iload_n 2, 1) := by decide +kernel
theorem dX9_customs_148 : decode cX9_customs 148 = .ok (.aload_n 0, 1) := by decide +kernel
theorem dX9_customs_149 : decode cX9_customs 149 = .ok (.getfield 13, 3) := by decide +kernel
end
section
theorem dX9_customs_152 : decode cX9_customs 152 = .ok (.bipush 6, 2) := by decide +kernel
theorem dX9_customs_154 : decode cX9_customs 154 = .ok (.iload_n 2, 1) := by decide +kernel
theorem dX9_customs_155 : decode cX9_customs 155 = .ok (.iadd, 1) := by decide +kernel
theorem dX9_customs_156 : decode cX9_customs 156 = .ok (.iaload, 1) := by decide +kernel
theorem dX9_customs_157 : decode cX9_customs 157 = .ok (.iastore, 1) := by decide +kernel
theorem dX9_customs_158 : decode cX9_customs 158 = .ok (.iinc 2 1, 3) := by decide +kernel
theorem dX9_customs_161 : decode cX9_customs 161 = .ok (.goto (-24), 3) := by decide +kernel
theorem dX9_customs_164 : decode cX9_customs 164 = .ok (.aload_n 0, 1) := by decide +kernel
theorem dX9_customs_165 : decode cX9_customs 165 = .ok (.getfield 157, 3) := by decide +kernel
theorem dX9_customs_168 : decode cX9_customs 168 = .ok (.ireturn, 1) := by decide +kernel
theorem dX9_fault_0 : decode cX9_fault 0 = .ok (.aload_n 0, 1) := by decide +kernel
theorem dX9_fault_1 : decode cX9_fault 1 = .ok (.iconst 0, 1) := by decide +kernel
theorem dX9_fault_2 : decode cX9_fault 2 = .ok (.putfield 95, 3) := by decide +kernel
theorem dX9_fault_5 : decode cX9_fault 5 = .ok (.iload_n 1, 1) := by decide +kernel
theorem dX9_fault_6 : decode cX9_fault 6 = .ok (.ifCond .ne 10, 3) := by decide +kernel
theorem dX9_fault_9 : decode cX9_fault 9 = .ok (.aload_n 0, 1) := by decide +kernel
theorem dX9_fault_10 : decode cX9_fault 10 = .ok (.getfield 163, 3) := by decide +kernel
theorem dX9_fault_13 : decode cX9_fault 13 = .ok (.goto 16, 3) := by decide +kernel
theorem dX9_fault_16 : decode cX9_fault 16 = .ok (.iload_n 1, 1) := by decide +kernel
theorem dX9_fault_17 : decode cX9_fault 17 = .ok (.iconst 1, 1) := by decide +kernel
theorem dX9_fault_18 : decode cX9_fault 18 = .ok (.if_icmp .ne 10, 3) := by decide +kernel
theorem dX9_fault_21 : decode cX9_fault 21 = .ok (.aload_n 0, 1) := by decide +kernel
theorem dX9_fault_22 : decode cX9_fault 22 = .ok (.getfield 25, 3) := by decide +kernel
theorem dX9_fault_25 : decode cX9_fault 25 = .ok (.goto 4, 3) := by decide +kernel
theorem dX9_fault_28 : decode cX9_fault 28 = .ok (.iconst (-1), 1) := by decide +kernel
theorem dX9_fault_29 : decode cX9_fault 29 = .ok (.ireturn, 1) := by decide +kernel
theorem dX9_isFarm_0 : decode cX9_isFarm 0 = .ok (.iload_n 1, 1) := by decide +kernel
theorem dX9_isFarm_1 : decode cX9_isFarm 1 = .ok (.iconst 1, 1) := by decide +kernel
theorem dX9_isFarm_2 : decode cX9_isFarm 2 = .ok (.if_icmp .lt 15, 3) := by decide +kernel
theorem dX9_isFarm_5 : decode cX9_isFarm 5 = .ok (.iload_n 1, 1) := by decide +kernel
theorem dX9_isFarm_6 : decode cX9_isFarm 6 = .ok (.aload_n 0, 1) := by decide +kernel
theorem dX9_isFarm_7 : decode cX9_isFarm 7 = .ok (.getfield 166, 3) := by decide +kernel
theorem dX9_isFarm_10 : decode cX9_isFarm 10 = .ok (.if_icmp .gt 7, 3) := by decide +kernel
theorem dX9_isFarm_13 : decode cX9_isFarm 13 = .ok (.iconst 1, 1) := by decide +kernel
theorem dX9_isFarm_14 : decode cX9_isFarm 14 = .ok (.goto 4, 3) := by decide +kernel
theorem dX9_isFarm_17 : decode cX9_isFarm 17 = .ok (.iconst 0, 1) := by decide +kernel
theorem dX9_isFarm_18 : decode cX9_isFarm 18 = .ok (.ireturn, 1) := by decide +kernel
theorem dX9_isTwelve_0 : decode cX9_isTwelve 0 = .ok (.iload_n 0, 1) := by decide +kernel
theorem dX9_isTwelve_1 : decode cX9_isTwelve 1 = .ok (.ifCond .lt 13, 3) := by decide +kernel
theorem dX9_isTwelve_4 : decode cX9_isTwelve 4 = .ok (.iload_n 0, 1) := by decide +kernel
theorem dX9_isTwelve_5 : decode cX9_isTwelve 5 = .ok (.bipush 12, 2) := by decide +kernel
theorem dX9_isTwelve_7 : decode cX9_isTwelve 7 = .ok (.if_icmp .gt 7, 3) := by decide +kernel
theorem dX9_isTwelve_10 : decode cX9_isTwelve 10 = .ok (.iconst 1, 1) := by decide +kernel
theorem dX9_isTwelve_11 : decode cX9_isTwelve 11 = .ok (.goto 4, 3) := by decide +kernel
theorem dX9_isTwelve_14 : decode cX9_isTwelve 14 = .ok (.iconst 0, 1) := by decide +kernel
theorem dX9_isTwelve_15 : decode cX9_isTwelve 15 = .ok (.ireturn, 1) := by decide +kernel
theorem dX9_farm_0 : decode cX9_farm 0 = .ok (.aload_n 0, 1) := by decide +kernel
theorem dX9_farm_1 : decode cX9_farm 1 = .ok (.iconst 0, 1) := by decide +kernel
theorem dX9_farm_2 : decode cX9_farm 2 = .ok (.putfield 95, 3) := by decide +kernel
theorem dX9_farm_5 : decode cX9_farm 5 = .ok (.iload_n 1, 1) := by decide +kernel
theorem dX9_farm_6 : decode cX9_farm 6 = .ok (.iconst 1, 1) := by decide +kernel
theorem dX9_farm_7 : decode cX9_farm 7 = .ok (.if_icmp .lt 63, 3) := by decide +kernel
theorem dX9_farm_10 : decode cX9_farm 10 = .ok (.iload_n 1, 1) := by decide +kernel
theorem dX9_farm_11 : decode cX9_farm 11 = .ok (.sipush 300, 3) := by decide +kernel
theorem dX9_farm_14 : decode cX9_farm 14 = .ok (.if_icmp .gt 56, 3) := by decide +kernel
theorem dX9_farm_17 : decode cX9_farm 17 = .ok (.iload_n 2, 1) := by decide +kernel
theorem dX9_farm_18 : decode cX9_farm 18 = .ok (.ifCond .lt 52, 3) := by decide +kernel
theorem dX9_farm_21 : decode cX9_farm 21 = .ok (.iload_n 2, 1) := by decide +kernel
theorem dX9_farm_22 : decode cX9_farm 22 = .ok (.bipush 9, 2) := by decide +kernel
theorem dX9_farm_24 : decode cX9_farm 24 = .ok (.if_icmp .gt 46, 3) := by decide +kernel
theorem dX9_farm_27 : decode cX9_farm 27 = .ok (.iload_n 3, 1) := by decide +kernel
theorem dX9_farm_28 : decode cX9_farm 28 = .ok (.invokestatic 169, 3) := by decide +kernel
theorem dX9_farm_31 : decode cX9_farm 31 = .ok (.ifCond .eq 39, 3) := by decide +kernel
theorem dX9_farm_34 : decode cX9_farm 34 = .ok (.iload 4, 2) := by decide +kernel
theorem dX9_farm_36 : decode cX9_farm 36 = .ok (.invokestatic 169, 3) := by decide +kernel
theorem dX9_farm_39 : decode cX9_farm 39 = .ok (.ifCond .eq 31, 3) := by decide +kernel
theorem dX9_farm_42 : decode cX9_farm 42 = .ok (.iload 5, 2) := by decide +kernel
theorem dX9_farm_44 : decode cX9_farm 44 = .ok (.ifCond .lt 26, 3) := by decide +kernel
theorem dX9_farm_47 : decode cX9_farm 47 = .ok (.iload 5, 2) := by decide +kernel
theorem dX9_farm_49 : decode cX9_farm 49 = .ok (.iload 6, 2) := by decide +kernel
theorem dX9_farm_51 : decode cX9_farm 51 = .ok (.if_icmp .gt 19, 3) := by decide +kernel
theorem dX9_farm_54 : decode cX9_farm 54 = .ok (.iload 6, 2) := by decide +kernel
theorem dX9_farm_56 : decode cX9_farm 56 = .ok (.bipush 99, 2) := by decide +kernel
theorem dX9_farm_58 : decode cX9_farm 58 = .ok (.if_icmp .gt 12, 3) := by decide +kernel
theorem dX9_farm_61 : decode cX9_farm 61 = .ok (.aload_n 0, 1) := by decide +kernel
theorem dX9_farm_62 : decode cX9_farm 62 = .ok (.getfield 166, 3) := by decide +kernel
theorem dX9_farm_65 : decode cX9_farm 65 = .ok (.bipush 7, 2) := by decide +kernel
theorem dX9_farm_67 : decode cX9_farm 67 = .ok (.if_icmp .ne 5, 3) := by decide +kernel
theorem dX9_farm_70 : decode cX9_farm 70 = .ok (.iconst (-1), 1) := by decide +kernel
theorem dX9_farm_71 : decode cX9_farm 71 = .ok (.ireturn, 1) := by decide +kernel
theorem dX9_farm_72 : decode cX9_farm 72 = .ok (.aload_n 0, 1) := by decide +kernel
theorem dX9_farm_73 : decode cX9_farm 73 = .ok (.dup, 1) := by decide +kernel
theorem dX9_farm_74 : decode cX9_farm 74 = .ok (.getfield 166, 3) := by decide +kernel
theorem dX9_farm_77 : decode cX9_farm 77 = .ok (.iconst 1, 1) := by decide +kernel
theorem dX9_farm_78 : decode cX9_farm 78 = .ok (.iadd, 1) := by decide +kernel
theorem dX9_farm_79 : decode cX9_farm 79 = .ok (.putfield 166, 3) := by decide +kernel
theorem dX9_farm_82 : decode cX9_farm 82 = .ok (.aload_n 0, 1) := by decide +kernel
theorem dX9_farm_83 : decode cX9_farm 83 = .ok (.getfield 29, 3) := by decide +kernel
theorem dX9_farm_86 : decode cX9_farm 86 = .ok (.aload_n 0, 1) := by decide +kernel
theorem dX9_farm_87 : decode cX9_farm 87 = .ok (.getfield 166, 3) := by decide +kernel
theorem dX9_farm_90 : decode cX9_farm 90 = .ok (.iload_n 1, 1) := by decide +kernel
theorem dX9_farm_91 : decode cX9_farm 91 = .ok (.iastore, 1) := by decide +kernel
theorem dX9_farm_92 : decode cX9_farm 92 = .ok (.aload_n 0, 1) := by decide +kernel
theorem dX9_farm_93 : decode cX9_farm 93 = .ok (.getfield 32, 3) := by decide +kernel
theorem dX9_farm_96 : decode cX9_farm 96 = .ok (.aload_n 0, 1) := by decide +kernel
theorem dX9_farm_97 : decode cX9_farm 97 = .ok (.getfield 166, 3) := by decide +kernel
theorem dX9_farm_100 : decode cX9_farm 100 = .ok (.iload_n 1, 1) := by decide +kernel
theorem dX9_farm_101 : decode cX9_farm 101 = .ok (.iastore, 1) := by decide +kernel
theorem dX9_farm_102 : decode cX9_farm 102 = .ok (.aload_n 0, 1) := by decide +kernel
theorem dX9_farm_103 : decode cX9_farm 103 = .ok (.getfield 35, 3) := by decide +kernel
theorem dX9_farm_106 : decode cX9_farm 106 = .ok (.aload_n 0, 1) := by decide +kernel
theorem dX9_farm_107 : decode cX9_farm 107 = .ok (.getfield 166, 3) := by decide +kernel
theorem dX9_farm_110 : decode cX9_farm 110 = .ok (.iload_n 2, 1) := by decide +kernel
theorem dX9_farm_111 : decode cX9_farm 111 = .ok (.iastore, 1) := by decide +kernel
theorem dX9_farm_112 : decode cX9_farm 112 = .ok (.aload_n 0, 1) := by decide +kernel
theorem dX9_farm_113 : decode cX9_farm 113 = .ok (.getfield 38, 3) := by decide +kernel
theorem dX9_farm_116 : decode cX9_farm 116 = .ok (.aload_n 0, 1) := by decide +kernel
theorem dX9_farm_117 : decode cX9_farm 117 = .ok (.getfield 166, 3) := by decide +kernel
theorem dX9_farm_120 : decode cX9_farm 120 = .ok (.iload_n 3, 1) := by decide +kernel
theorem dX9_farm_121 : decode cX9_farm 121 = .ok (.iastore, 1) := by decide +kernel
theorem dX9_farm_122 : decode cX9_farm 122 = .ok (.aload_n 0, 1) := by decide +kernel
theorem dX9_farm_123 : decode cX9_farm 123 = .ok (.getfield 41, 3) := by decide +kernel
theorem dX9_farm_126 : decode cX9_farm 126 = .ok (.aload_n 0, 1) := by decide +kernel
theorem dX9_farm_127 : decode cX9_farm 127 = .ok (.getfield 166, 3) := by decide +kernel
theorem dX9_farm_130 : decode cX9_farm 130 = .ok (.iload 4, 2) := by decide +kernel
theorem dX9_farm_132 : decode cX9_farm 132 = .ok (.iastore, 1) := by decide +kernel
theorem dX9_farm_133 : decode cX9_farm 133 = .ok (.aload_n 0, 1) := by decide +kernel
theorem dX9_farm_134 : decode cX9_farm 134 = .ok (.getfield 44, 3) := by decide +kernel
theorem dX9_farm_137 : decode cX9_farm 137 = .ok (.aload_n 0, 1) := by decide +kernel
theorem dX9_farm_138 : decode cX9_farm 138 = .ok (.getfield 166, 3) := by decide +kernel
theorem dX9_farm_141 : decode cX9_farm 141 = .ok (.iload 5, 2) := by decide +kernel
theorem dX9_farm_143 : decode cX9_farm 143 = .ok (.iastore, 1) := by decide +kernel
theorem dX9_farm_144 : decode cX9_farm 144 = .ok (.aload_n 0, 1) := by decide +kernel
theorem dX9_farm_145 : decode cX9_farm 145 = .ok (.getfield 47, 3) := by decide +kernel
theorem dX9_farm_148 : decode cX9_farm 148 = .ok (.aload_n 0, 1) := by decide +kernel
theorem dX9_farm_149 : decode cX9_farm 149 = .ok (.getfield 166, 3) := by decide +kernel
theorem dX9_farm_152 : decode cX9_farm 152 = .ok (.iload 6, 2) := by decide +kernel
theorem dX9_farm_154 : decode cX9_farm 154 = .ok (.iastore, 1) := by decide +kernel
theorem dX9_farm_155 : decode cX9_farm 155 = .ok (.aload_n 0, 1) := by decide +kernel
theorem dX9_farm_156 : decode cX9_farm 156 = .ok (.getfield 53, 3) := by decide +kernel
theorem dX9_farm_159 : decode cX9_farm 159 = .ok (.aload_n 0, 1) := by decide +kernel
theorem dX9_farm_160 : decode cX9_farm 160 = .ok (.getfield 166, 3) := by decide +kernel
theorem dX9_farm_163 : decode cX9_farm 163 = .ok (.iconst (-1), 1) := by decide +kernel
theorem dX9_farm_164 : decode cX9_farm 164 = .ok (.iastore, 1) := by decide +kernel
theorem dX9_farm_165 : decode cX9_farm 165 = .ok (.aload_n 0, 1) := by decide +kernel
theorem dX9_farm_166 : decode cX9_farm 166 = .ok (.getfield 166, 3) := by decide +kernel
theorem dX9_farm_169 : decode cX9_farm 169 = .ok (.ireturn, 1) := by decide +kernel
theorem dX9_way_0 : decode cX9_way 0 = .ok (.aload_n 0, 1) := by decide +kernel
theorem dX9_way_1 : decode cX9_way 1 = .ok (.iconst 0, 1) := by decide +kernel
theorem dX9_way_2 : decode cX9_way 2 = .ok (.putfield 95, 3) := by decide +kernel
theorem dX9_way_5 : decode cX9_way 5 = .ok (.iload_n 1, 1) := by decide +kernel
theorem dX9_way_6 : decode cX9_way 6 = .ok (.ifCond .lt 39, 3) := by decide +kernel
theorem dX9_way_9 : decode cX9_way 9 = .ok (.iload_n 1, 1) := by decide +kernel
theorem dX9_way_10 : decode cX9_way 10 = .ok (.aload_n 0, 1) := by decide +kernel
theorem dX9_way_11 : decode cX9_way 11 = .ok (.getfield 166, 3) := by decide +kernel
theorem dX9_way_14 : decode cX9_way 14 = .ok (.if_icmp .gt 31, 3) := by decide +kernel
theorem dX9_way_17 : decode cX9_way 17 = .ok (.iload_n 2, 1) := by decide +kernel
theorem dX9_way_18 : decode cX9_way 18 = .ok (.ifCond .lt 27, 3) := by decide +kernel
theorem dX9_way_21 : decode cX9_way 21 = .ok (.iload_n 2, 1) := by decide +kernel
theorem dX9_way_22 : decode cX9_way 22 = .ok (.aload_n 0, 1) := by decide +kernel
theorem dX9_way_23 : decode cX9_way 23 = .ok (.getfield 166, 3) := by decide +kernel
theorem dX9_way_26 : decode cX9_way 26 = .ok (.if_icmp .gt 19, 3) := by decide +kernel
theorem dX9_way_29 : decode cX9_way 29 = .ok (.iload_n 1, 1) := by decide +kernel
theorem dX9_way_30 : decode cX9_way 30 = .ok (.iload_n 2, 1) := by decide +kernel
theorem dX9_way_31 : decode cX9_way 31 = .ok (.if_icmp .eq 14, 3) := by decide +kernel
theorem dX9_way_34 : decode cX9_way 34 = .ok (.iload_n 3, 1) := by decide +kernel
theorem dX9_way_35 : decode cX9_way 35 = .ok (.iconst (-1), 1) := by decide +kernel
theorem dX9_way_36 : decode cX9_way 36 = .ok (.if_icmp .lt 9, 3) := by decide +kernel
theorem dX9_way_39 : decode cX9_way 39 = .ok (.iload_n 3, 1) := by decide +kernel
theorem dX9_way_40 : decode cX9_way 40 = .ok (.bipush 9, 2) := by decide +kernel
theorem dX9_way_42 : decode cX9_way 42 = .ok (.if_icmp .le 5, 3) := by decide +kernel
theorem dX9_way_45 : decode cX9_way 45 = .ok (.iconst 0, 1) := by decide +kernel
theorem dX9_way_46 : decode cX9_way 46 = .ok (.ireturn, 1) := by decide +kernel
theorem dX9_way_47 : decode cX9_way 47 = .ok (.aload_n 0, 1) := by decide +kernel
theorem dX9_way_48 : decode cX9_way 48 = .ok (.getfield 62, 3) := by decide +kernel
theorem dX9_way_51 : decode cX9_way 51 = .ok (.bipush 8, 2) := by decide +kernel
theorem dX9_way_53 : decode cX9_way 53 = .ok (.iload_n 1, 1) := by decide +kernel
theorem dX9_way_54 : decode cX9_way 54 = .ok (.imul, 1) := by decide +kernel
theorem dX9_way_55 : decode cX9_way 55 = .ok (.iload_n 2, 1) := by decide +kernel
theorem dX9_way_56 : decode cX9_way 56 = .ok (.iadd, 1) := by decide +kernel
theorem dX9_way_57 : decode cX9_way 57 = .ok (.iload_n 3, 1) := by decide +kernel
theorem dX9_way_58 : decode cX9_way 58 = .ok (.iconst 1, 1) := by decide +kernel
theorem dX9_way_59 : decode cX9_way 59 = .ok (.iadd, 1) := by decide +kernel
theorem dX9_way_60 : decode cX9_way 60 = .ok (.iastore, 1) := by decide +kernel
theorem dX9_way_61 : decode cX9_way 61 = .ok (.aload_n 0, 1) := by decide +kernel
theorem dX9_way_62 : decode cX9_way 62 = .ok (.getfield 62, 3) := by decide +kernel
theorem dX9_way_65 : decode cX9_way 65 = .ok (.bipush 8, 2) := by decide +kernel
theorem dX9_way_67 : decode cX9_way 67 = .ok (.iload_n 2, 1) := by decide +kernel
theorem dX9_way_68 : decode cX9_way 68 = .ok (.imul, 1) := by decide +kernel
theorem dX9_way_69 : decode cX9_way 69 = .ok (.iload_n 1, 1) := by decide +kernel
theorem dX9_way_70 : decode cX9_way 70 = .ok (.iadd, 1) := by decide +kernel
theorem dX9_way_71 : decode cX9_way 71 = .ok (.iload_n 3, 1) := by decide +kernel
theorem dX9_way_72 : decode cX9_way 72 = .ok (.iconst 1, 1) := by decide +kernel
theorem dX9_way_73 : decode cX9_way 73 = .ok (.iadd, 1) := by decide +kernel
theorem dX9_way_74 : decode cX9_way 74 = .ok (.iastore, 1) := by decide +kernel
theorem dX9_way_75 : decode cX9_way 75 = .ok (.iconst 1, 1) := by decide +kernel
theorem dX9_way_76 : decode cX9_way 76 = .ok (.ireturn, 1) := by decide +kernel
theorem dX9_bargain_0 : decode cX9_bargain 0 = .ok (.aload_n 0, 1) := by decide +kernel
theorem dX9_bargain_1 : decode cX9_bargain 1 = .ok (.iconst 0, 1) := by decide +kernel
theorem dX9_bargain_2 : decode cX9_bargain 2 = .ok (.putfield 95, 3) := by decide +kernel
theorem dX9_bargain_5 : decode cX9_bargain 5 = .ok (.aload_n 0, 1) := by decide +kernel
theorem dX9_bargain_6 : decode cX9_bargain 6 = .ok (.iload_n 1, 1) := by decide +kernel
theorem dX9_bargain_7 : decode cX9_bargain 7 = .ok (.invokevirtual 172, 3) := by decide +kernel
theorem dX9_bargain_10 : decode cX9_bargain 10 = .ok (.ifCond .eq 23, 3) := by decide +kernel
theorem dX9_bargain_13 : decode cX9_bargain 13 = .ok (.iload_n 2, 1) := by decide +kernel
theorem dX9_bargain_14 : decode cX9_bargain 14 = .ok (.ifCond .lt 19, 3) := by decide +kernel
theorem dX9_bargain_17 : decode cX9_bargain 17 = .ok (.iload_n 2, 1) := by decide +kernel
theorem dX9_bargain_18 : decode cX9_bargain 18 = .ok (.iconst 1, 1) := by decide +kernel
theorem dX9_bargain_19 : decode cX9_bargain 19 = .ok (.if_icmp .gt 14, 3) := by decide +kernel
theorem dX9_bargain_22 : decode cX9_bargain 22 = .ok (.iload_n 3, 1) := by decide +kernel
theorem dX9_bargain_23 : decode cX9_bargain 23 = .ok (.ifCond .lt 10, 3) := by decide +kernel
theorem dX9_bargain_26 : decode cX9_bargain 26 = .ok (.iload_n 3, 1) := by decide +kernel
theorem dX9_bargain_27 : decode cX9_bargain 27 = .ok (.sipush 999, 3) := by decide +kernel
theorem dX9_bargain_30 : decode cX9_bargain 30 = .ok (.if_icmp .le 5, 3) := by decide +kernel
theorem dX9_bargain_33 : decode cX9_bargain 33 = .ok (.iconst 0, 1) := by decide +kernel
theorem dX9_bargain_34 : decode cX9_bargain 34 = .ok (.ireturn, 1) := by decide +kernel
theorem dX9_bargain_35 : decode cX9_bargain 35 = .ok (.aload_n 0, 1) := by decide +kernel
theorem dX9_bargain_36 : decode cX9_bargain 36 = .ok (.getfield 56, 3) := by decide +kernel
theorem dX9_bargain_39 : decode cX9_bargain 39 = .ok (.iload_n 1, 1) := by decide +kernel
theorem dX9_bargain_40 : decode cX9_bargain 40 = .ok (.iload_n 2, 1) := by decide +kernel
theorem dX9_bargain_41 : decode cX9_bargain 41 = .ok (.iastore, 1) := by decide +kernel
theorem dX9_bargain_42 : decode cX9_bargain 42 = .ok (.aload_n 0, 1) := by decide +kernel
theorem dX9_bargain_43 : decode cX9_bargain 43 = .ok (.getfield 59, 3) := by decide +kernel
theorem dX9_bargain_46 : decode cX9_bargain 46 = .ok (.iload_n 1, 1) := by decide +kernel
theorem dX9_bargain_47 : decode cX9_bargain 47 = .ok (.iload_n 3, 1) := by decide +kernel
theorem dX9_bargain_48 : decode cX9_bargain 48 = .ok (.iastore, 1) := by decide +kernel
theorem dX9_bargain_49 : decode cX9_bargain 49 = .ok (.iconst 1, 1) := by decide +kernel
theorem dX9_bargain_50 : decode cX9_bargain 50 = .ok (.ireturn, 1) := by decide +kernel
theorem dX9_gangs_0 : decode cX9_gangs 0 = .ok (.aload_n 0, 1) := by decide +kernel
theorem dX9_gangs_1 : decode cX9_gangs 1 = .ok (.getfield 13, 3) := by decide +kernel
theorem dX9_gangs_4 : decode cX9_gangs 4 = .ok (.iconst 0, 1) := by decide +kernel
theorem dX9_gangs_5 : decode cX9_gangs 5 = .ok (.iaload, 1) := by decide +kernel
theorem dX9_gangs_6 : decode cX9_gangs 6 = .ok (.istore_n 2, 1) := by decide +kernel
theorem dX9_gangs_7 : decode cX9_gangs 7 = .ok (.iconst 1, 1) := by decide +kernel
theorem dX9_gangs_8 : decode cX9_gangs 8 = .ok (.istore_n 3, 1) := by decide +kernel
theorem dX9_gangs_9 : decode cX9_gangs 9 = .ok (.iload_n 3, 1) := by decide +kernel
theorem dX9_gangs_10 : decode cX9_gangs 10 = .ok (.bipush 7, 2) := by decide +kernel
theorem dX9_gangs_12 : decode cX9_gangs 12 = .ok (.if_icmp .gt 16, 3) := by decide +kernel
theorem dX9_gangs_15 : decode cX9_gangs 15 = .ok (.aload_n 0, 1) := by decide +kernel
theorem dX9_gangs_16 : decode cX9_gangs 16 = .ok (.getfield 68, 3) := by decide +kernel
theorem dX9_gangs_19 : decode cX9_gangs 19 = .ok (.iload_n 3, 1) := by decide +kernel
theorem dX9_gangs_20 : decode cX9_gangs 20 = .ok (.iconst 0, 1) := by decide +kernel
theorem dX9_gangs_21 : decode cX9_gangs 21 = .ok (.iastore, 1) := by decide +kernel
theorem dX9_gangs_22 : decode cX9_gangs 22 = .ok (.iinc 3 1, 3) := by decide +kernel
theorem dX9_gangs_25 : decode cX9_gangs 25 = .ok (.goto (-16), 3) := by decide +kernel
theorem dX9_gangs_28 : decode cX9_gangs 28 = .ok (.aload_n 0, 1) := by decide +kernel
theorem dX9_gangs_29 : decode cX9_gangs 29 = .ok (.iload_n 2, 1) := by decide +kernel
theorem dX9_gangs_30 : decode cX9_gangs 30 = .ok (.aload_n 0, 1) := by decide +kernel
theorem dX9_gangs_31 : decode cX9_gangs 31 = .ok (.getfield 38, 3) := by decide +kernel
theorem dX9_gangs_34 : decode cX9_gangs 34 = .ok (.iload_n 1, 1) := by decide +kernel
theorem dX9_gangs_35 : decode cX9_gangs 35 = .ok (.iaload, 1) := by decide +kernel
theorem dX9_gangs_36 : decode cX9_gangs 36 = .ok (.invokestatic 175, 3) := by decide +kernel
theorem dX9_gangs_39 : decode cX9_gangs 39 = .ok (.putfield 181, 3) := by decide +kernel
theorem dX9_gangs_42 : decode cX9_gangs 42 = .ok (.iconst 1, 1) := by decide +kernel
theorem dX9_gangs_43 : decode cX9_gangs 43 = .ok (.iload_n 1, 1) := by decide +kernel
theorem dX9_gangs_44 : decode cX9_gangs 44 = .ok (.ishl, 1) := by decide +kernel
theorem dX9_gangs_45 : decode cX9_gangs 45 = .ok (.istore_n 3, 1) := by decide +kernel
theorem dX9_gangs_46 : decode cX9_gangs 46 = .ok (.iconst 1, 1) := by decide +kernel
theorem dX9_gangs_47 : decode cX9_gangs 47 = .ok (.istore 4, 2) := by decide +kernel
theorem dX9_gangs_49 : decode cX9_gangs 49 = .ok (.iload 4, 2) := by decide +kernel
theorem dX9_gangs_51 : decode cX9_gangs 51 = .ok (.aload_n 0, 1) := by decide +kernel
theorem dX9_gangs_52 : decode cX9_gangs 52 = .ok (.getfield 166, 3) := by decide +kernel
theorem dX9_gangs_55 : decode cX9_gangs 55 = .ok (.if_icmp .ge 122, 3) := by decide +kernel
theorem dX9_gangs_58 : decode cX9_gangs 58 = .ok (.iconst (-1), 1) := by decide +kernel
theorem dX9_gangs_59 : decode cX9_gangs 59 = .ok (.istore 5, 2) := by decide +kernel
theorem dX9_gangs_61 : decode cX9_gangs 61 = .ok (.iconst 1, 1) := by decide +kernel
theorem dX9_gangs_62 : decode cX9_gangs 62 = .ok (.istore 6, 2) := by decide +kernel
theorem dX9_gangs_64 : decode cX9_gangs 64 = .ok (.iload 6, 2) := by decide +kernel
theorem dX9_gangs_66 : decode cX9_gangs 66 = .ok (.aload_n 0, 1) := by decide +kernel
theorem dX9_gangs_67 : decode cX9_gangs 67 = .ok (.getfield 166, 3) := by decide +kernel
theorem dX9_gangs_70 : decode cX9_gangs 70 = .ok (.if_icmp .gt 55, 3) := by decide +kernel
theorem dX9_gangs_73 : decode cX9_gangs 73 = .ok (.iload_n 3, 1) := by decide +kernel
theorem dX9_gangs_74 : decode cX9_gangs 74 = .ok (.iload 6, 2) := by decide +kernel
theorem dX9_gangs_76 : decode cX9_gangs 76 = .ok (.ishr, 1) := by decide +kernel
theorem dX9_gangs_77 : decode cX9_gangs 77 = .ok (.iconst 1, 1) := by decide +kernel
theorem dX9_gangs_78 : decode cX9_gangs 78 = .ok (.iand, 1) := by decide +kernel
theorem dX9_gangs_79 : decode cX9_gangs 79 = .ok (.ifCond .ne 40, 3) := by decide +kernel
theorem dX9_gangs_82 : decode cX9_gangs 82 = .ok (.iload 5, 2) := by decide +kernel
theorem dX9_gangs_84 : decode cX9_gangs 84 = .ok (.iconst (-1), 1) := by decide +kernel
theorem dX9_gangs_85 : decode cX9_gangs 85 = .ok (.if_icmp .eq 30, 3) := by decide +kernel
theorem dX9_gangs_88 : decode cX9_gangs 88 = .ok (.aload_n 0, 1) := by decide +kernel
theorem dX9_gangs_89 : decode cX9_gangs 89 = .ok (.getfield 65, 3) := by decide +kernel
theorem dX9_gangs_92 : decode cX9_gangs 92 = .ok (.bipush 8, 2) := by decide +kernel
theorem dX9_gangs_94 : decode cX9_gangs 94 = .ok (.iload 6, 2) := by decide +kernel
theorem dX9_gangs_96 : decode cX9_gangs 96 = .ok (.imul, 1) := by decide +kernel
theorem dX9_gangs_97 : decode cX9_gangs 97 = .ok (.iload_n 1, 1) := by decide +kernel
theorem dX9_gangs_98 : decode cX9_gangs 98 = .ok (.iadd, 1) := by decide +kernel
theorem dX9_gangs_99 : decode cX9_gangs 99 = .ok (.iaload, 1) := by decide +kernel
theorem dX9_gangs_100 : decode cX9_gangs 100 = .ok (.aload_n 0, 1) := by decide +kernel
theorem dX9_gangs_101 : decode cX9_gangs 101 = .ok (.getfield 65, 3) := by decide +kernel
theorem dX9_gangs_104 : decode cX9_gangs 104 = .ok (.bipush 8, 2) := by decide +kernel
theorem dX9_gangs_106 : decode cX9_gangs 106 = .ok (.iload 5, 2) := by decide +kernel
theorem dX9_gangs_108 : decode cX9_gangs 108 = .ok (.imul, 1) := by decide +kernel
theorem dX9_gangs_109 : decode cX9_gangs 109 = .ok (.iload_n 1, 1) := by decide +kernel
theorem dX9_gangs_110 : decode cX9_gangs 110 = .ok (.iadd, 1) := by decide +kernel
theorem dX9_gangs_111 : decode cX9_gangs 111 = .ok (.iaload, 1) := by decide +kernel
theorem dX9_gangs_112 : decode cX9_gangs 112 = .ok (.if_icmp .le 7, 3) := by decide +kernel
theorem dX9_gangs_115 : decode cX9_gangs 115 = .ok (.iload 6, 2) := by decide +kernel
theorem dX9_gangs_117 : decode cX9_gangs 117 = .ok (.istore 5, 2) := by decide +kernel
theorem dX9_gangs_119 : decode cX9_gangs 119 = .ok (.iinc 6 1, 3) := by decide +kernel
theorem dX9_gangs_122 : decode cX9_gangs 122 = .ok (.goto (-58), 3) := by decide +kernel
theorem dX9_gangs_125 : decode cX9_gangs 125 = .ok (.iload_n 3, 1) := by decide +kernel
theorem dX9_gangs_126 : decode cX9_gangs 126 = .ok (.iconst 1, 1) := by decide +kernel
theorem dX9_gangs_127 : decode cX9_gangs 127 = .ok (.iload 5, 2) := by decide +kernel
theorem dX9_gangs_129 : decode cX9_gangs 129 = .ok (.ishl, 1) := by decide +kernel
theorem dX9_gangs_130 : decode cX9_gangs 130 = .ok (.ior, 1) := by decide +kernel
theorem dX9_gangs_131 : decode cX9_gangs 131 = .ok (.istore_n 3, 1) := by decide +kernel
theorem dX9_gangs_132 : decode cX9_gangs 132 = .ok (.aload_n 0, 1) := by decide +kernel
theorem dX9_gangs_133 : decode cX9_gangs 133 = .ok (.getfield 68, 3) := by decide +kernel
theorem dX9_gangs_136 : decode cX9_gangs 136 = .ok (.iload 5, 2) := by decide +kernel
theorem dX9_gangs_138 : decode cX9_gangs 138 = .ok (.aload_n 0, 1) := by decide +kernel
theorem dX9_gangs_139 : decode cX9_gangs 139 = .ok (.getfield 41, 3) := by decide +kernel
theorem dX9_gangs_142 : decode cX9_gangs 142 = .ok (.iload 5, 2) := by decide +kernel
theorem dX9_gangs_144 : decode cX9_gangs 144 = .ok (.iaload, 1) := by decide +kernel
theorem dX9_gangs_145 : decode cX9_gangs 145 = .ok (.iload_n 2, 1) := by decide +kernel
theorem dX9_gangs_146 : decode cX9_gangs 146 = .ok (.aload_n 0, 1) := by decide +kernel
theorem dX9_gangs_147 : decode cX9_gangs 147 = .ok (.getfield 181, 3) := by decide +kernel
theorem dX9_gangs_150 : decode cX9_gangs 150 = .ok (.isub, 1) := by decide +kernel
theorem dX9_gangs_151 : decode cX9_gangs 151 = .ok (.invokestatic 175, 3) := by decide +kernel
theorem dX9_gangs_154 : decode cX9_gangs 154 = .ok (.iastore, 1) := by decide +kernel
theorem dX9_gangs_155 : decode cX9_gangs 155 = .ok (.aload_n 0, 1) := by decide +kernel
theorem dX9_gangs_156 : decode cX9_gangs 156 = .ok (.dup, 1) := by decide +kernel
theorem dX9_gangs_157 : decode cX9_gangs 157 = .ok (.getfield 181, 3) := by decide +kernel
theorem dX9_gangs_160 : decode cX9_gangs 160 = .ok (.aload_n 0, 1) := by decide +kernel
theorem dX9_gangs_161 : decode cX9_gangs 161 = .ok (.getfield 68, 3) := by decide +kernel
theorem dX9_gangs_164 : decode cX9_gangs 164 = .ok (.iload 5, 2) := by decide +kernel
theorem dX9_gangs_166 : decode cX9_gangs 166 = .ok (.iaload, 1) := by decide +kernel
theorem dX9_gangs_167 : decode cX9_gangs 167 = .ok (.iadd, 1) := by decide +kernel
theorem dX9_gangs_168 : decode cX9_gangs 168 = .ok (.putfield 181, 3) := by decide +kernel
theorem dX9_gangs_171 : decode cX9_gangs 171 = .ok (.iinc 4 1, 3) := by decide +kernel
theorem dX9_gangs_174 : decode cX9_gangs 174 = .ok (.goto (-125), 3) := by decide +kernel
theorem dX9_gangs_177 : decode cX9_gangs 177 = .ok (.return_, 1) := by decide +kernel
theorem dX9_speedOf_0 : decode cX9_speedOf 0 = .ok (.aload_n 0, 1) := by decide +kernel
theorem dX9_speedOf_1 : decode cX9_speedOf 1 = .ok (.iload_n 1, 1) := by decide +kernel
theorem dX9_speedOf_2 : decode cX9_speedOf 2 = .ok (.invokevirtual 184, 3) := by decide +kernel
theorem dX9_speedOf_5 : decode cX9_speedOf 5 = .ok (.iconst 1, 1) := by decide +kernel
theorem dX9_speedOf_6 : decode cX9_speedOf 6 = .ok (.aload_n 0, 1) := by decide +kernel
theorem dX9_speedOf_7 : decode cX9_speedOf 7 = .ok (.getfield 13, 3) := by decide +kernel
theorem dX9_speedOf_10 : decode cX9_speedOf 10 = .ok (.iconst 1, 1) := by decide +kernel
theorem dX9_speedOf_11 : decode cX9_speedOf 11 = .ok (.iaload, 1) := by decide +kernel
theorem dX9_speedOf_12 : decode cX9_speedOf 12 = .ok (.aload_n 0, 1) := by decide +kernel
theorem dX9_speedOf_13 : decode cX9_speedOf 13 = .ok (.getfield 181, 3) := by decide +kernel
theorem dX9_speedOf_16 : decode cX9_speedOf 16 = .ok (.imul, 1) := by decide +kernel
theorem dX9_speedOf_17 : decode cX9_speedOf 17 = .ok (.aload_n 0, 1) := by decide +kernel
theorem dX9_speedOf_18 : decode cX9_speedOf 18 = .ok (.getfield 13, 3) := by decide +kernel
theorem dX9_speedOf_21 : decode cX9_speedOf 21 = .ok (.iconst 0, 1) := by decide +kernel
theorem dX9_speedOf_22 : decode cX9_speedOf 22 = .ok (.iaload, 1) := by decide +kernel
theorem dX9_speedOf_23 : decode cX9_speedOf 23 = .ok (.idiv, 1) := by decide +kernel
theorem dX9_speedOf_24 : decode cX9_speedOf 24 = .ok (.invokestatic 187, 3) := by decide +kernel
theorem dX9_speedOf_27 : decode cX9_speedOf 27 = .ok (.ireturn, 1) := by decide +kernel
theorem dX9_isDone_0 : decode cX9_isDone 0 = .ok (.aload_n 0, 1) := by decide +kernel
theorem dX9_isDone_1 : decode cX9_isDone 1 = .ok (.getfield 32, 3) := by decide +kernel
theorem dX9_isDone_4 : decode cX9_isDone 4 = .ok (.iload_n 1, 1) := by decide +kernel
theorem dX9_isDone_5 : decode cX9_isDone 5 = .ok (.iaload, 1) := by decide +kernel
theorem dX9_isDone_6 : decode cX9_isDone 6 = .ok (.ifCond .ne 7, 3) := by decide +kernel
theorem dX9_isDone_9 : decode cX9_isDone 9 = .ok (.iconst 1, 1) := by decide +kernel
theorem dX9_isDone_10 : decode cX9_isDone 10 = .ok (.goto 4, 3) := by decide +kernel
theorem dX9_isDone_13 : decode cX9_isDone 13 = .ok (.iconst 0, 1) := by decide +kernel
theorem dX9_isDone_14 : decode cX9_isDone 14 = .ok (.ireturn, 1) := by decide +kernel
theorem dX9_goes_0 : decode cX9_goes 0 = .ok (.aload_n 0, 1) := by decide +kernel
theorem dX9_goes_1 : decode cX9_goes 1 = .ok (.getfield 190, 3) := by decide +kernel
theorem dX9_goes_4 : decode cX9_goes 4 = .ok (.istore_n 1, 1) := by decide +kernel
theorem dX9_goes_5 : decode cX9_goes 5 = .ok (.aload_n 0, 1) := by decide +kernel
theorem dX9_goes_6 : decode cX9_goes 6 = .ok (.getfield 193, 3) := by decide +kernel
theorem dX9_goes_9 : decode cX9_goes 9 = .ok (.istore_n 2, 1) := by decide +kernel
theorem dX9_goes_10 : decode cX9_goes 10 = .ok (.aload_n 0, 1) := by decide +kernel
theorem dX9_goes_11 : decode cX9_goes 11 = .ok (.iconst 0, 1) := by decide +kernel
theorem dX9_goes_12 : decode cX9_goes 12 = .ok (.putfield 196, 3) := by decide +kernel
theorem dX9_goes_15 : decode cX9_goes 15 = .ok (.iconst 0, 1) := by decide +kernel
theorem dX9_goes_16 : decode cX9_goes 16 = .ok (.istore_n 3, 1) := by decide +kernel
theorem dX9_goes_17 : decode cX9_goes 17 = .ok (.iload_n 3, 1) := by decide +kernel
theorem dX9_goes_18 : decode cX9_goes 18 = .ok (.aload_n 0, 1) := by decide +kernel
theorem dX9_goes_19 : decode cX9_goes 19 = .ok (.getfield 199, 3) := by decide +kernel
theorem dX9_goes_22 : decode cX9_goes 22 = .ok (.if_icmp .ge 112, 3) := by decide +kernel
theorem dX9_goes_25 : decode cX9_goes 25 = .ok (.aload_n 0, 1) := by decide +kernel
theorem dX9_goes_26 : decode cX9_goes 26 = .ok (.getfield 86, 3) := by decide +kernel
theorem dX9_goes_29 : decode cX9_goes 29 = .ok (.iload_n 3, 1) := by decide +kernel
theorem dX9_goes_30 : decode cX9_goes 30 = .ok (.iaload, 1) := by decide +kernel
theorem dX9_goes_31 : decode cX9_goes 31 = .ok (.istore 4, 2) := by decide +kernel
theorem dX9_goes_33 : decode cX9_goes 33 = .ok (.iload 4, 2) := by decide +kernel
theorem dX9_goes_35 : decode cX9_goes 35 = .ok (.iload_n 1, 1) := by decide +kernel
theorem dX9_goes_36 : decode cX9_goes 36 = .ok (.if_icmp .ne 7, 3) := by decide +kernel
theorem dX9_goes_39 : decode cX9_goes 39 = .ok (.iconst 1, 1) := by decide +kernel
theorem dX9_goes_40 : decode cX9_goes 40 = .ok (.goto 15, 3) := by decide +kernel
theorem dX9_goes_43 : decode cX9_goes 43 = .ok (.aload_n 0, 1) := by decide +kernel
theorem dX9_goes_44 : decode cX9_goes 44 = .ok (.getfield 62, 3) := by decide +kernel
theorem dX9_goes_47 : decode cX9_goes 47 = .ok (.bipush 8, 2) := by decide +kernel
theorem dX9_goes_49 : decode cX9_goes 49 = .ok (.iload_n 1, 1) := by decide +kernel
theorem dX9_goes_50 : decode cX9_goes 50 = .ok (.imul, 1) := by decide +kernel
theorem dX9_goes_51 : decode cX9_goes 51 = .ok (.iload 4, 2) := by decide +kernel
theorem dX9_goes_53 : decode cX9_goes 53 = .ok (.iadd, 1) := by decide +kernel
theorem dX9_goes_54 : decode cX9_goes 54 = .ok (.iaload, 1) := by decide +kernel
theorem dX9_goes_55 : decode cX9_goes 55 = .ok (.istore 5, 2) := by decide +kernel
theorem dX9_goes_57 : decode cX9_goes 57 = .ok (.iload 5, 2) := by decide +kernel
theorem dX9_goes_59 : decode cX9_goes 59 = .ok (.ifCond .ne 5, 3) := by decide +kernel
theorem dX9_goes_62 : decode cX9_goes 62 = .ok (.iconst 0, 1) := by decide +kernel
theorem dX9_goes_63 : decode cX9_goes 63 = .ok (.ireturn, 1) := by decide +kernel
theorem dX9_goes_64 : decode cX9_goes 64 = .ok (.iload_n 2, 1) := by decide +kernel
theorem dX9_goes_65 : decode cX9_goes 65 = .ok (.iload 5, 2) := by decide +kernel
theorem dX9_goes_67 : decode cX9_goes 67 = .ok (.iadd, 1) := by decide +kernel
theorem dX9_goes_68 : decode cX9_goes 68 = .ok (.iconst 1, 1) := by decide +kernel
theorem dX9_goes_69 : decode cX9_goes 69 = .ok (.isub, 1) := by decide +kernel
theorem dX9_goes_70 : decode cX9_goes 70 = .ok (.aload_n 0, 1) := by decide +kernel
theorem dX9_goes_71 : decode cX9_goes 71 = .ok (.getfield 44, 3) := by decide +kernel
theorem dX9_goes_74 : decode cX9_goes 74 = .ok (.iload 4, 2) := by decide +kernel
theorem dX9_goes_76 : decode cX9_goes 76 = .ok (.iaload, 1) := by decide +kernel
theorem dX9_goes_77 : decode cX9_goes 77 = .ok (.invokestatic 187, 3) := by decide +kernel
theorem dX9_goes_80 : decode cX9_goes 80 = .ok (.istore_n 2, 1) := by decide +kernel
theorem dX9_goes_81 : decode cX9_goes 81 = .ok (.iload_n 2, 1) := by decide +kernel
theorem dX9_goes_82 : decode cX9_goes 82 = .ok (.aload_n 0, 1) := by decide +kernel
theorem dX9_goes_83 : decode cX9_goes 83 = .ok (.getfield 32, 3) := by decide +kernel
theorem dX9_goes_86 : decode cX9_goes 86 = .ok (.iload 4, 2) := by decide +kernel
theorem dX9_goes_88 : decode cX9_goes 88 = .ok (.iaload, 1) := by decide +kernel
theorem dX9_goes_89 : decode cX9_goes 89 = .ok (.aload_n 0, 1) := by decide +kernel
theorem dX9_goes_90 : decode cX9_goes 90 = .ok (.getfield 89, 3) := by decide +kernel
theorem dX9_goes_93 : decode cX9_goes 93 = .ok (.iload 4, 2) := by decide +kernel
theorem dX9_goes_95 : decode cX9_goes 95 = .ok (.iaload, 1) := by decide +kernel
theorem dX9_goes_96 : decode cX9_goes 96 = .ok (.iadd, 1) := by decide +kernel
theorem dX9_goes_97 : decode cX9_goes 97 = .ok (.iconst 1, 1) := by decide +kernel
theorem dX9_goes_98 : decode cX9_goes 98 = .ok (.isub, 1) := by decide +kernel
theorem dX9_goes_99 : decode cX9_goes 99 = .ok (.aload_n 0, 1) := by decide +kernel
theorem dX9_goes_100 : decode cX9_goes 100 = .ok (.getfield 89, 3) := by decide +kernel
theorem dX9_goes_103 : decode cX9_goes 103 = .ok (.iload 4, 2) := by decide +kernel
theorem dX9_goes_105 : decode cX9_goes 105 = .ok (.iaload, 1) := by decide +kernel
theorem dX9_goes_106 : decode cX9_goes 106 = .ok (.idiv, 1) := by decide +kernel
theorem dX9_goes_107 : decode cX9_goes 107 = .ok (.iadd, 1) := by decide +kernel
theorem dX9_goes_108 : decode cX9_goes 108 = .ok (.istore_n 2, 1) := by decide +kernel
theorem dX9_goes_109 : decode cX9_goes 109 = .ok (.aload_n 0, 1) := by decide +kernel
theorem dX9_goes_110 : decode cX9_goes 110 = .ok (.dup, 1) := by decide +kernel
theorem dX9_goes_111 : decode cX9_goes 111 = .ok (.getfield 196, 3) := by decide +kernel
theorem dX9_goes_114 : decode cX9_goes 114 = .ok (.aload_n 0, 1) := by decide +kernel
theorem dX9_goes_115 : decode cX9_goes 115 = .ok (.iload_n 2, 1) := by decide +kernel
theorem dX9_goes_116 : decode cX9_goes 116 = .ok (.iload 4, 2) := by decide +kernel
theorem dX9_goes_118 : decode cX9_goes 118 = .ok (.invokevirtual 202, 3) := by decide +kernel
theorem dX9_goes_121 : decode cX9_goes 121 = .ok (.iadd, 1) := by decide +kernel
theorem dX9_goes_122 : decode cX9_goes 122 = .ok (.putfield 196, 3) := by decide +kernel
theorem dX9_goes_125 : decode cX9_goes 125 = .ok (.iload 4, 2) := by decide +kernel
theorem dX9_goes_127 : decode cX9_goes 127 = .ok (.istore_n 1, 1) := by decide +kernel
theorem dX9_goes_128 : decode cX9_goes 128 = .ok (.iinc 3 1, 3) := by decide +kernel
theorem dX9_goes_131 : decode cX9_goes 131 = .ok (.goto (-114), 3) := by decide +kernel
theorem dX9_goes_134 : decode cX9_goes 134 = .ok (.aload_n 0, 1) := by decide +kernel
theorem dX9_goes_135 : decode cX9_goes 135 = .ok (.iload_n 2, 1) := by decide +kernel
theorem dX9_goes_136 : decode cX9_goes 136 = .ok (.putfield 205, 3) := by decide +kernel
theorem dX9_goes_139 : decode cX9_goes 139 = .ok (.iconst 1, 1) := by decide +kernel
theorem dX9_goes_140 : decode cX9_goes 140 = .ok (.ireturn, 1) := by decide +kernel
theorem dX9_lossOf_0 : decode cX9_lossOf 0 = .ok (.aload_n 0, 1) := by decide +kernel
theorem dX9_lossOf_1 : decode cX9_lossOf 1 = .ok (.getfield 13, 3) := by decide +kernel
theorem dX9_lossOf_4 : decode cX9_lossOf 4 = .ok (.iconst 3, 1) := by decide +kernel
theorem dX9_lossOf_5 : decode cX9_lossOf 5 = .ok (.iaload, 1) := by decide +kernel
theorem dX9_lossOf_6 : decode cX9_lossOf 6 = .ok (.iconst 0, 1) := by decide +kernel
theorem dX9_lossOf_7 : decode cX9_lossOf 7 = .ok (.iload_n 1, 1) := by decide +kernel
theorem dX9_lossOf_8 : decode cX9_lossOf 8 = .ok (.aload_n 0, 1) := by decide +kernel
theorem dX9_lossOf_9 : decode cX9_lossOf 9 = .ok (.getfield 47, 3) := by decide +kernel
theorem dX9_lossOf_12 : decode cX9_lossOf 12 = .ok (.iload_n 2, 1) := by decide +kernel
theorem dX9_lossOf_13 : decode cX9_lossOf 13 = .ok (.iaload, 1) := by decide +kernel
theorem dX9_lossOf_14 : decode cX9_lossOf 14 = .ok (.isub, 1) := by decide +kernel
theorem dX9_lossOf_15 : decode cX9_lossOf 15 = .ok (.iconst 1, 1) := by decide +kernel
theorem dX9_lossOf_16 : decode cX9_lossOf 16 = .ok (.isub, 1) := by decide +kernel
theorem dX9_lossOf_17 : decode cX9_lossOf 17 = .ok (.invokestatic 187, 3) := by decide +kernel
theorem dX9_lossOf_20 : decode cX9_lossOf 20 = .ok (.imul, 1) := by decide +kernel
theorem dX9_lossOf_21 : decode cX9_lossOf 21 = .ok (.ireturn, 1) := by decide +kernel
theorem dX9_goesOn_0 : decode cX9_goesOn 0 = .ok (.aload_n 0, 1) := by decide +kernel
theorem dX9_goesOn_1 : decode cX9_goesOn 1 = .ok (.getfield 199, 3) := by decide +kernel
theorem dX9_goesOn_4 : decode cX9_goesOn 4 = .ok (.iconst 2, 1) := by decide +kernel
theorem dX9_goesOn_5 : decode cX9_goesOn 5 = .ok (.isub, 1) := by decide +kernel
theorem dX9_goesOn_6 : decode cX9_goesOn 6 = .ok (.istore_n 1, 1) := by decide +kernel
theorem dX9_goesOn_7 : decode cX9_goesOn 7 = .ok (.iload_n 1, 1) := by decide +kernel
theorem dX9_goesOn_8 : decode cX9_goesOn 8 = .ok (.aload_n 0, 1) := by decide +kernel
theorem dX9_goesOn_9 : decode cX9_goesOn 9 = .ok (.getfield 208, 3) := by decide +kernel
theorem dX9_goesOn_12 : decode cX9_goesOn 12 = .ok (.if_icmp .lt 26, 3) := by decide +kernel
theorem dX9_goesOn_15 : decode cX9_goesOn 15 = .ok (.aload_n 0, 1) := by decide +kernel
theorem dX9_goesOn_16 : decode cX9_goesOn 16 = .ok (.getfield 86, 3) := by decide +kernel
theorem dX9_goesOn_19 : decode cX9_goesOn 19 = .ok (.iload_n 1, 1) := by decide +kernel
theorem dX9_goesOn_20 : decode cX9_goesOn 20 = .ok (.iaload, 1) := by decide +kernel
theorem dX9_goesOn_21 : decode cX9_goesOn 21 = .ok (.aload_n 0, 1) := by decide +kernel
theorem dX9_goesOn_22 : decode cX9_goesOn 22 = .ok (.getfield 86, 3) := by decide +kernel
theorem dX9_goesOn_25 : decode cX9_goesOn 25 = .ok (.iload_n 1, 1) := by decide +kernel
theorem dX9_goesOn_26 : decode cX9_goesOn 26 = .ok (.iconst 1, 1) := by decide +kernel
theorem dX9_goesOn_27 : decode cX9_goesOn 27 = .ok (.iadd, 1) := by decide +kernel
theorem dX9_goesOn_28 : decode cX9_goesOn 28 = .ok (.iaload, 1) := by decide +kernel
theorem dX9_goesOn_29 : decode cX9_goesOn 29 = .ok (.if_icmp .le 9, 3) := by decide +kernel
theorem dX9_goesOn_32 : decode cX9_goesOn 32 = .ok (.iinc 1 (-1), 3) := by decide +kernel
theorem dX9_goesOn_35 : decode cX9_goesOn 35 = .ok (.goto (-28), 3) := by decide +kernel
theorem dX9_goesOn_38 : decode cX9_goesOn 38 = .ok (.iload_n 1, 1) := by decide +kernel
theorem dX9_goesOn_39 : decode cX9_goesOn 39 = .ok (.aload_n 0, 1) := by decide +kernel
theorem dX9_goesOn_40 : decode cX9_goesOn 40 = .ok (.getfield 208, 3) := by decide +kernel
theorem dX9_goesOn_43 : decode cX9_goesOn 43 = .ok (.if_icmp .ge 5, 3) := by decide +kernel
theorem dX9_goesOn_46 : decode cX9_goesOn 46 = .ok (.iconst 0, 1) := by decide +kernel
theorem dX9_goesOn_47 : decode cX9_goesOn 47 = .ok (.ireturn, 1) := by decide +kernel
theorem dX9_goesOn_48 : decode cX9_goesOn 48 = .ok (.aload_n 0, 1) := by decide +kernel
theorem dX9_goesOn_49 : decode cX9_goesOn 49 = .ok (.getfield 199, 3) := by decide +kernel
theorem dX9_goesOn_52 : decode cX9_goesOn 52 = .ok (.iconst 1, 1) := by decide +kernel
theorem dX9_goesOn_53 : decode cX9_goesOn 53 = .ok (.isub, 1) := by decide +kernel
theorem dX9_goesOn_54 : decode cX9_goesOn 54 = .ok (.istore_n 2, 1) := by decide +kernel
theorem dX9_goesOn_55 : decode cX9_goesOn 55 = .ok (.aload_n 0, 1) := by decide +kernel
theorem dX9_goesOn_56 : decode cX9_goesOn 56 = .ok (.getfield 86, 3) := by decide +kernel
theorem dX9_goesOn_59 : decode cX9_goesOn 59 = .ok (.iload_n 2, 1) := by decide +kernel
theorem dX9_goesOn_60 : decode cX9_goesOn 60 = .ok (.iaload, 1) := by decide +kernel
theorem dX9_goesOn_61 : decode cX9_goesOn 61 = .ok (.aload_n 0, 1) := by decide +kernel
theorem dX9_goesOn_62 : decode cX9_goesOn 62 = .ok (.getfield 86, 3) := by decide +kernel
theorem dX9_goesOn_65 : decode cX9_goesOn 65 = .ok (.iload_n 1, 1) := by decide +kernel
theorem dX9_goesOn_66 : decode cX9_goesOn 66 = .ok (.iaload, 1) := by decide +kernel
theorem dX9_goesOn_67 : decode cX9_goesOn 67 = .ok (.if_icmp .ge 9, 3) := by decide +kernel
theorem dX9_goesOn_70 : decode cX9_goesOn 70 = .ok (.iinc 2 (-1), 3) := by decide +kernel
theorem dX9_goesOn_73 : decode cX9_goesOn 73 = .ok (.goto (-18), 3) := by decide +kernel
theorem dX9_goesOn_76 : decode cX9_goesOn 76 = .ok (.aload_n 0, 1) := by decide +kernel
theorem dX9_goesOn_77 : decode cX9_goesOn 77 = .ok (.iload_n 1, 1) := by decide +kernel
theorem dX9_goesOn_78 : decode cX9_goesOn 78 = .ok (.iload_n 2, 1) := by decide +kernel
theorem dX9_goesOn_79 : decode cX9_goesOn 79 = .ok (.invokevirtual 211, 3) := by decide +kernel
theorem dX9_goesOn_82 : decode cX9_goesOn 82 = .ok (.iload_n 1, 1) := by decide +kernel
theorem dX9_goesOn_83 : decode cX9_goesOn 83 = .ok (.iconst 1, 1) := by decide +kernel
theorem dX9_goesOn_84 : decode cX9_goesOn 84 = .ok (.iadd, 1) := by decide +kernel
theorem dX9_goesOn_85 : decode cX9_goesOn 85 = .ok (.istore_n 3, 1) := by decide +kernel
theorem dX9_goesOn_86 : decode cX9_goesOn 86 = .ok (.aload_n 0, 1) := by decide +kernel
theorem dX9_goesOn_87 : decode cX9_goesOn 87 = .ok (.getfield 199, 3) := by decide +kernel
theorem dX9_goesOn_90 : decode cX9_goesOn 90 = .ok (.iconst 1, 1) := by decide +kernel
theorem dX9_goesOn_91 : decode cX9_goesOn 91 = .ok (.isub, 1) := by decide +kernel
theorem dX9_goesOn_92 : decode cX9_goesOn 92 = .ok (.istore 4, 2) := by decide +kernel
theorem dX9_goesOn_94 : decode cX9_goesOn 94 = .ok (.iload_n 3, 1) := by decide +kernel
theorem dX9_goesOn_95 : decode cX9_goesOn 95 = .ok (.iload 4, 2) := by decide +kernel
theorem dX9_goesOn_97 : decode cX9_goesOn 97 = .ok (.if_icmp .ge 19, 3) := by decide +kernel
theorem dX9_goesOn_100 : decode cX9_goesOn 100 = .ok (.aload_n 0, 1) := by decide +kernel
theorem dX9_goesOn_101 : decode cX9_goesOn 101 = .ok (.iload_n 3, 1) := by decide +kernel
theorem dX9_goesOn_102 : decode cX9_goesOn 102 = .ok (.iload 4, 2) := by decide +kernel
theorem dX9_goesOn_104 : decode cX9_goesOn 104 = .ok (.invokevirtual 211, 3) := by decide +kernel
theorem dX9_goesOn_107 : decode cX9_goesOn 107 = .ok (.iinc 3 1, 3) := by decide +kernel
theorem dX9_goesOn_110 : decode cX9_goesOn 110 = .ok (.iinc 4 (-1), 3) := by decide +kernel
theorem dX9_goesOn_113 : decode cX9_goesOn 113 = .ok (.goto (-19), 3) := by decide +kernel
theorem dX9_goesOn_116 : decode cX9_goesOn 116 = .ok (.iconst 1, 1) := by decide +kernel
theorem dX9_goesOn_117 : decode cX9_goesOn 117 = .ok (.ireturn, 1) := by decide +kernel
theorem dX9_swaps_0 : decode cX9_swaps 0 = .ok (.aload_n 0, 1) := by decide +kernel
theorem dX9_swaps_1 : decode cX9_swaps 1 = .ok (.getfield 86, 3) := by decide +kernel
theorem dX9_swaps_4 : decode cX9_swaps 4 = .ok (.iload_n 1, 1) := by decide +kernel
theorem dX9_swaps_5 : decode cX9_swaps 5 = .ok (.iaload, 1) := by decide +kernel
theorem dX9_swaps_6 : decode cX9_swaps 6 = .ok (.istore_n 3, 1) := by decide +kernel
theorem dX9_swaps_7 : decode cX9_swaps 7 = .ok (.aload_n 0, 1) := by decide +kernel
theorem dX9_swaps_8 : decode cX9_swaps 8 = .ok (.getfield 86, 3) := by decide +kernel
theorem dX9_swaps_11 : decode cX9_swaps 11 = .ok (.iload_n 1, 1) := by decide +kernel
theorem dX9_swaps_12 : decode cX9_swaps 12 = .ok (.aload_n 0, 1) := by decide +kernel
theorem dX9_swaps_13 : decode cX9_swaps 13 = .ok (.getfield 86, 3) := by decide +kernel
theorem dX9_swaps_16 : decode cX9_swaps 16 = .ok (.iload_n 2, 1) := by decide +kernel
theorem dX9_swaps_17 : decode cX9_swaps 17 = .ok (.iaload, 1) := by decide +kernel
theorem dX9_swaps_18 : decode cX9_swaps 18 = .ok (.iastore, 1) := by decide +kernel
theorem dX9_swaps_19 : decode cX9_swaps 19 = .ok (.aload_n 0, 1) := by decide +kernel
theorem dX9_swaps_20 : decode cX9_swaps 20 = .ok (.getfield 86, 3) := by decide +kernel
theorem dX9_swaps_23 : decode cX9_swaps 23 = .ok (.iload_n 2, 1) := by decide +kernel
theorem dX9_swaps_24 : decode cX9_swaps 24 = .ok (.iload_n 3, 1) := by decide +kernel
theorem dX9_swaps_25 : decode cX9_swaps 25 = .ok (.iastore, 1) := by decide +kernel
theorem dX9_swaps_26 : decode cX9_swaps 26 = .ok (.return_, 1) := by decide +kernel
theorem dX9_firstOrder_0 : decode cX9_firstOrder 0 = .ok (.aload_n 0, 1) := by decide +kernel
theorem dX9_firstOrder_1 : decode cX9_firstOrder 1 = .ok (.iconst 0, 1) := by decide +kernel
theorem dX9_firstOrder_2 : decode cX9_firstOrder 2 = .ok (.putfield 199, 3) := by decide +kernel
theorem dX9_firstOrder_5 : decode cX9_firstOrder 5 = .ok (.aload_n 0, 1) := by decide +kernel
theorem dX9_firstOrder_6 : decode cX9_firstOrder 6 = .ok (.iconst 0, 1) := by decide +kernel
theorem dX9_firstOrder_7 : decode cX9_firstOrder 7 = .ok (.putfield 208, 3) := by decide +kernel
theorem dX9_firstOrder_10 : decode cX9_firstOrder 10 = .ok (.iconst 0, 1) := by decide +kernel
theorem dX9_firstOrder_11 : decode cX9_firstOrder 11 = .ok (.istore_n 1, 1) := by decide +kernel
theorem dX9_firstOrder_12 : decode cX9_firstOrder 12 = .ok (.aload_n 0, 1) := by decide +kernel
theorem dX9_firstOrder_13 : decode cX9_firstOrder 13 = .ok (.getfield 190, 3) := by decide +kernel
theorem dX9_firstOrder_16 : decode cX9_firstOrder 16 = .ok (.ifCond .le 46, 3) := by decide +kernel
theorem dX9_firstOrder_19 : decode cX9_firstOrder 19 = .ok (.aload_n 0, 1) := by decide +kernel
theorem dX9_firstOrder_20 : decode cX9_firstOrder 20 = .ok (.aload_n 0, 1) := by decide +kernel
theorem dX9_firstOrder_21 : decode cX9_firstOrder 21 = .ok (.getfield 190, 3) := by decide +kernel
theorem dX9_firstOrder_24 : decode cX9_firstOrder 24 = .ok (.invokevirtual 215, 3) := by decide +kernel
theorem dX9_firstOrder_27 : decode cX9_firstOrder 27 = .ok (.ifCond .ne 35, 3) := by decide +kernel
theorem dX9_firstOrder_30 : decode cX9_firstOrder 30 = .ok (.aload_n 0, 1) := by decide +kernel
theorem dX9_firstOrder_31 : decode cX9_firstOrder 31 = .ok (.getfield 86, 3) := by decide +kernel
theorem dX9_firstOrder_34 : decode cX9_firstOrder 34 = .ok (.aload_n 0, 1) := by decide +kernel
theorem dX9_firstOrder_35 : decode cX9_firstOrder 35 = .ok (.getfield 199, 3) := by decide +kernel
theorem dX9_firstOrder_38 : decode cX9_firstOrder 38 = .ok (.aload_n 0, 1) := by decide +kernel
theorem dX9_firstOrder_39 : decode cX9_firstOrder 39 = .ok (.getfield 190, 3) := by decide +kernel
theorem dX9_firstOrder_42 : decode cX9_firstOrder 42 = .ok (.iastore, 1) := by decide +kernel
theorem dX9_firstOrder_43 : decode cX9_firstOrder 43 = .ok (.iload_n 1, 1) := by decide +kernel
theorem dX9_firstOrder_44 : decode cX9_firstOrder 44 = .ok (.iconst 1, 1) := by decide +kernel
theorem dX9_firstOrder_45 : decode cX9_firstOrder 45 = .ok (.aload_n 0, 1) := by decide +kernel
theorem dX9_firstOrder_46 : decode cX9_firstOrder 46 = .ok (.getfield 190, 3) := by decide +kernel
theorem dX9_firstOrder_49 : decode cX9_firstOrder 49 = .ok (.ishl, 1) := by decide +kernel
theorem dX9_firstOrder_50 : decode cX9_firstOrder 50 = .ok (.ior, 1) := by decide +kernel
theorem dX9_firstOrder_51 : decode cX9_firstOrder 51 = .ok (.istore_n 1, 1) := by decide +kernel
theorem dX9_firstOrder_52 : decode cX9_firstOrder 52 = .ok (.aload_n 0, 1) := by decide +kernel
theorem dX9_firstOrder_53 : decode cX9_firstOrder 53 = .ok (.dup, 1) := by decide +kernel
theorem dX9_firstOrder_54 : decode cX9_firstOrder 54 = .ok (.getfield 199, 3) := by decide +kernel
theorem dX9_firstOrder_57 : decode cX9_firstOrder 57 = .ok (.iconst 1, 1) := by decide +kernel
theorem dX9_firstOrder_58 : decode cX9_firstOrder 58 = .ok (.iadd, 1) := by decide +kernel
theorem dX9_firstOrder_59 : decode cX9_firstOrder 59 = .ok (.putfield 199, 3) := by decide +kernel
theorem dX9_firstOrder_62 : decode cX9_firstOrder 62 = .ok (.aload_n 0, 1) := by decide +kernel
theorem dX9_firstOrder_63 : decode cX9_firstOrder 63 = .ok (.getfield 13, 3) := by decide +kernel
theorem dX9_firstOrder_66 : decode cX9_firstOrder 66 = .ok (.iconst 4, 1) := by decide +kernel
theorem dX9_firstOrder_67 : decode cX9_firstOrder 67 = .ok (.iaload, 1) := by decide +kernel
theorem dX9_firstOrder_68 : decode cX9_firstOrder 68 = .ok (.istore_n 2, 1) := by decide +kernel
theorem dX9_firstOrder_69 : decode cX9_firstOrder 69 = .ok (.iload_n 2, 1) := by decide +kernel
theorem dX9_firstOrder_70 : decode cX9_firstOrder 70 = .ok (.iconst 1, 1) := by decide +kernel
theorem dX9_firstOrder_71 : decode cX9_firstOrder 71 = .ok (.if_icmp .lt 53, 3) := by decide +kernel
theorem dX9_firstOrder_74 : decode cX9_firstOrder 74 = .ok (.iload_n 2, 1) := by decide +kernel
theorem dX9_firstOrder_75 : decode cX9_firstOrder 75 = .ok (.aload_n 0, 1) := by decide +kernel
theorem dX9_firstOrder_76 : decode cX9_firstOrder 76 = .ok (.getfield 166, 3) := by decide +kernel
theorem dX9_firstOrder_79 : decode cX9_firstOrder 79 = .ok (.if_icmp .gt 45, 3) := by decide +kernel
theorem dX9_firstOrder_82 : decode cX9_firstOrder 82 = .ok (.aload_n 0, 1) := by decide +kernel
theorem dX9_firstOrder_83 : decode cX9_firstOrder 83 = .ok (.iload_n 2, 1) := by decide +kernel
theorem dX9_firstOrder_84 : decode cX9_firstOrder 84 = .ok (.invokevirtual 215, 3) := by decide +kernel
theorem dX9_firstOrder_87 : decode cX9_firstOrder 87 = .ok (.ifCond .ne 37, 3) := by decide +kernel
theorem dX9_firstOrder_90 : decode cX9_firstOrder 90 = .ok (.iload_n 1, 1) := by decide +kernel
theorem dX9_firstOrder_91 : decode cX9_firstOrder 91 = .ok (.iload_n 2, 1) := by decide +kernel
theorem dX9_firstOrder_92 : decode cX9_firstOrder 92 = .ok (.ishr, 1) := by decide +kernel
theorem dX9_firstOrder_93 : decode cX9_firstOrder 93 = .ok (.iconst 1, 1) := by decide +kernel
theorem dX9_firstOrder_94 : decode cX9_firstOrder 94 = .ok (.iand, 1) := by decide +kernel
theorem dX9_firstOrder_95 : decode cX9_firstOrder 95 = .ok (.ifCond .ne 29, 3) := by decide +kernel
theorem dX9_firstOrder_98 : decode cX9_firstOrder 98 = .ok (.aload_n 0, 1) := by decide +kernel
theorem dX9_firstOrder_99 : decode cX9_firstOrder 99 = .ok (.getfield 86, 3) := by decide +kernel
theorem dX9_firstOrder_102 : decode cX9_firstOrder 102 = .ok (.aload_n 0, 1) := by decide +kernel
theorem dX9_firstOrder_103 : decode cX9_firstOrder 103 = .ok (.getfield 199, 3) := by decide +kernel
theorem dX9_firstOrder_106 : decode cX9_firstOrder 106 = .ok (.iload_n 2, 1) := by decide +kernel
theorem dX9_firstOrder_107 : decode cX9_firstOrder 107 = .ok (.iastore, 1) := by decide +kernel
theorem dX9_firstOrder_108 : decode cX9_firstOrder 108 = .ok (.iload_n 1, 1) := by decide +kernel
theorem dX9_firstOrder_109 : decode cX9_firstOrder 109 = .ok (.iconst 1, 1) := by decide +kernel
theorem dX9_firstOrder_110 : decode cX9_firstOrder 110 = .ok (.iload_n 2, 1) := by decide +kernel
theorem dX9_firstOrder_111 : decode cX9_firstOrder 111 = .ok (.ishl, 1) := by decide +kernel
theorem dX9_firstOrder_112 : decode cX9_firstOrder 112 = .ok (.ior, 1) := by decide +kernel
theorem dX9_firstOrder_113 : decode cX9_firstOrder 113 = .ok (.istore_n 1, 1) := by decide +kernel
theorem dX9_firstOrder_114 : decode cX9_firstOrder 114 = .ok (.aload_n 0, 1) := by decide +kernel
theorem dX9_firstOrder_115 : decode cX9_firstOrder 115 = .ok (.dup, 1) := by decide +kernel
theorem dX9_firstOrder_116 : decode cX9_firstOrder 116 = .ok (.getfield 199, 3) := by decide +kernel
theorem dX9_firstOrder_119 : decode cX9_firstOrder 119 = .ok (.iconst 1, 1) := by decide +kernel
theorem dX9_firstOrder_120 : decode cX9_firstOrder 120 = .ok (.iadd, 1) := by decide +kernel
theorem dX9_firstOrder_121 : decode cX9_firstOrder 121 = .ok (.putfield 199, 3) := by decide +kernel
theorem dX9_firstOrder_124 : decode cX9_firstOrder 124 = .ok (.aload_n 0, 1) := by decide +kernel
theorem dX9_firstOrder_125 : decode cX9_firstOrder 125 = .ok (.aload_n 0, 1) := by decide +kernel
theorem dX9_firstOrder_126 : decode cX9_firstOrder 126 = .ok (.getfield 199, 3) := by decide +kernel
theorem dX9_firstOrder_129 : decode cX9_firstOrder 129 = .ok (.putfield 208, 3) := by decide +kernel
theorem dX9_firstOrder_132 : decode cX9_firstOrder 132 = .ok (.iconst 1, 1) := by decide +kernel
theorem dX9_firstOrder_133 : decode cX9_firstOrder 133 = .ok (.istore_n 3, 1) := by decide +kernel
theorem dX9_firstOrder_134 : decode cX9_firstOrder 134 = .ok (.iload_n 3, 1) := by decide +kernel
theorem dX9_firstOrder_135 : decode cX9_firstOrder 135 = .ok (.aload_n 0, 1) := by decide +kernel
theorem dX9_firstOrder_136 : decode cX9_firstOrder 136 = .ok (.getfield 166, 3) := by decide +kernel
theorem dX9_firstOrder_139 : decode cX9_firstOrder 139 = .ok (.if_icmp .gt 49, 3) := by decide +kernel
theorem dX9_firstOrder_142 : decode cX9_firstOrder 142 = .ok (.aload_n 0, 1) := by decide +kernel
theorem dX9_firstOrder_143 : decode cX9_firstOrder 143 = .ok (.iload_n 3, 1) := by decide +kernel
theorem dX9_firstOrder_144 : decode cX9_firstOrder 144 = .ok (.invokevirtual 215, 3) := by decide +kernel
theorem dX9_firstOrder_147 : decode cX9_firstOrder 147 = .ok (.ifCond .ne 35, 3) := by decide +kernel
theorem dX9_firstOrder_150 : decode cX9_firstOrder 150 = .ok (.iload_n 1, 1) := by decide +kernel
theorem dX9_firstOrder_151 : decode cX9_firstOrder 151 = .ok (.iload_n 3, 1) := by decide +kernel
theorem dX9_firstOrder_152 : decode cX9_firstOrder 152 = .ok (.ishr, 1) := by decide +kernel
theorem dX9_firstOrder_153 : decode cX9_firstOrder 153 = .ok (.iconst 1, 1) := by decide +kernel
theorem dX9_firstOrder_154 : decode cX9_firstOrder 154 = .ok (.iand, 1) := by decide +kernel
theorem dX9_firstOrder_155 : decode cX9_firstOrder 155 = .ok (.iconst 1, 1) := by decide +kernel
theorem dX9_firstOrder_156 : decode cX9_firstOrder 156 = .ok (.if_icmp .ne 6, 3) := by decide +kernel
theorem dX9_firstOrder_159 : decode cX9_firstOrder 159 = .ok (.goto 23, 3) := by decide +kernel
theorem dX9_firstOrder_162 : decode cX9_firstOrder 162 = .ok (.aload_n 0, 1) := by decide +kernel
theorem dX9_firstOrder_163 : decode cX9_firstOrder 163 = .ok (.getfield 86, 3) := by decide +kernel
theorem dX9_firstOrder_166 : decode cX9_firstOrder 166 = .ok (.aload_n 0, 1) := by decide +kernel
theorem dX9_firstOrder_167 : decode cX9_firstOrder 167 = .ok (.getfield 199, 3) := by decide +kernel
theorem dX9_firstOrder_170 : decode cX9_firstOrder 170 = .ok (.iload_n 3, 1) := by decide +kernel
theorem dX9_firstOrder_171 : decode cX9_firstOrder 171 = .ok (.iastore, 1) := by decide +kernel
theorem dX9_firstOrder_172 : decode cX9_firstOrder 172 = .ok (.aload_n 0, 1) := by decide +kernel
theorem dX9_firstOrder_173 : decode cX9_firstOrder 173 = .ok (.dup, 1) := by decide +kernel
theorem dX9_firstOrder_174 : decode cX9_firstOrder 174 = .ok (.getfield 199, 3) := by decide +kernel
theorem dX9_firstOrder_177 : decode cX9_firstOrder 177 = .ok (.iconst 1, 1) := by decide +kernel
theorem dX9_firstOrder_178 : decode cX9_firstOrder 178 = .ok (.iadd, 1) := by decide +kernel
theorem dX9_firstOrder_179 : decode cX9_firstOrder 179 = .ok (.putfield 199, 3) := by decide +kernel
theorem dX9_firstOrder_182 : decode cX9_firstOrder 182 = .ok (.iinc 3 1, 3) := by decide +kernel
theorem dX9_firstOrder_185 : decode cX9_firstOrder 185 = .ok (.goto (-51), 3) := by decide +kernel
theorem dX9_firstOrder_188 : decode cX9_firstOrder 188 = .ok (.return_, 1) := by decide +kernel
theorem dX9_plan_0 : decode cX9_plan 0 = .ok (.aload_n 0, 1) := by decide +kernel
theorem dX9_plan_1 : decode cX9_plan 1 = .ok (.iconst 0, 1) := by decide +kernel
theorem dX9_plan_2 : decode cX9_plan 2 = .ok (.putfield 95, 3) := by decide +kernel
theorem dX9_plan_5 : decode cX9_plan 5 = .ok (.aload_n 0, 1) := by decide +kernel
theorem dX9_plan_6 : decode cX9_plan 6 = .ok (.invokevirtual 218, 3) := by decide +kernel
theorem dX9_plan_9 : decode cX9_plan 9 = .ok (.aload_n 0, 1) := by decide +kernel
theorem dX9_plan_10 : decode cX9_plan 10 = .ok (.getfield 199, 3) := by decide +kernel
theorem dX9_plan_13 : decode cX9_plan 13 = .ok (.ifCond .eq 10, 3) := by decide +kernel
theorem dX9_plan_16 : decode cX9_plan 16 = .ok (.aload_n 0, 1) := by decide +kernel
theorem dX9_plan_17 : decode cX9_plan 17 = .ok (.getfield 221, 3) := by decide +kernel
theorem dX9_plan_20 : decode cX9_plan 20 = .ok (.ifCond .le 5, 3) := by decide +kernel
theorem dX9_plan_23 : decode cX9_plan 23 = .ok (.iconst (-1), 1) := by decide +kernel
theorem dX9_plan_24 : decode cX9_plan 24 = .ok (.ireturn, 1) := by decide +kernel
theorem dX9_plan_25 : decode cX9_plan 25 = .ok (.iconst 1, 1) := by decide +kernel
theorem dX9_plan_26 : decode cX9_plan 26 = .ok (.istore_n 1, 1) := by decide +kernel
theorem dX9_plan_27 : decode cX9_plan 27 = .ok (.iload_n 1, 1) := by decide +kernel
theorem dX9_plan_28 : decode cX9_plan 28 = .ok (.aload_n 0, 1) := by decide +kernel
theorem dX9_plan_29 : decode cX9_plan 29 = .ok (.getfield 166, 3) := by decide +kernel
theorem dX9_plan_32 : decode cX9_plan 32 = .ok (.if_icmp .gt 20, 3) := by decide +kernel
theorem dX9_plan_35 : decode cX9_plan 35 = .ok (.aload_n 0, 1) := by decide +kernel
theorem dX9_plan_36 : decode cX9_plan 36 = .ok (.getfield 89, 3) := by decide +kernel
theorem dX9_plan_39 : decode cX9_plan 39 = .ok (.iload_n 1, 1) := by decide +kernel
theorem dX9_plan_40 : decode cX9_plan 40 = .ok (.aload_n 0, 1) := by decide +kernel
theorem dX9_plan_41 : decode cX9_plan 41 = .ok (.iload_n 1, 1) := by decide +kernel
theorem dX9_plan_42 : decode cX9_plan 42 = .ok (.invokevirtual 224, 3) := by decide +kernel
theorem dX9_plan_45 : decode cX9_plan 45 = .ok (.iastore, 1) := by decide +kernel
theorem dX9_plan_46 : decode cX9_plan 46 = .ok (.iinc 1 1, 3) := by decide +kernel
theorem dX9_plan_49 : decode cX9_plan 49 = .ok (.goto (-22), 3) := by decide +kernel
theorem dX9_plan_52 : decode cX9_plan 52 = .ok (.iconst (-1), 1) := by decide +kernel
theorem dX9_plan_53 : decode cX9_plan 53 = .ok (.istore_n 1, 1) := by decide +kernel
theorem dX9_plan_54 : decode cX9_plan 54 = .ok (.iconst 0, 1) := by decide +kernel
theorem dX9_plan_55 : decode cX9_plan 55 = .ok (.istore_n 2, 1) := by decide +kernel
theorem dX9_plan_56 : decode cX9_plan 56 = .ok (.iconst 1, 1) := by decide +kernel
theorem dX9_plan_57 : decode cX9_plan 57 = .ok (.istore_n 3, 1) := by decide +kernel
theorem dX9_plan_58 : decode cX9_plan 58 = .ok (.iload_n 3, 1) := by decide +kernel
theorem dX9_plan_59 : decode cX9_plan 59 = .ok (.ifCond .eq 89, 3) := by decide +kernel
theorem dX9_plan_62 : decode cX9_plan 62 = .ok (.aload_n 0, 1) := by decide +kernel
theorem dX9_plan_63 : decode cX9_plan 63 = .ok (.invokevirtual 228, 3) := by decide +kernel
theorem dX9_plan_66 : decode cX9_plan 66 = .ok (.ifCond .eq 74, 3) := by decide +kernel
theorem dX9_plan_69 : decode cX9_plan 69 = .ok (.iload_n 1, 1) := by decide +kernel
theorem dX9_plan_70 : decode cX9_plan 70 = .ok (.iconst (-1), 1) := by decide +kernel
theorem dX9_plan_71 : decode cX9_plan 71 = .ok (.if_icmp .eq 27, 3) := by decide +kernel
theorem dX9_plan_74 : decode cX9_plan 74 = .ok (.aload_n 0, 1) := by decide +kernel
theorem dX9_plan_75 : decode cX9_plan 75 = .ok (.getfield 196, 3) := by decide +kernel
theorem dX9_plan_78 : decode cX9_plan 78 = .ok (.iload_n 1, 1) := by decide +kernel
theorem dX9_plan_79 : decode cX9_plan 79 = .ok (.if_icmp .lt 19, 3) := by decide +kernel
theorem dX9_plan_82 : decode cX9_plan 82 = .ok (.aload_n 0, 1) := by decide +kernel
theorem dX9_plan_83 : decode cX9_plan 83 = .ok (.getfield 196, 3) := by decide +kernel
end
section
theorem dX9_plan_86 : decode cX9_plan 86 = .ok (.iload_n 1, 1) := by decide +kernel
theorem dX9_plan_87 : decode cX9_plan 87 = .ok (.if_icmp .ne 53, 3) := by decide +kernel
theorem dX9_plan_90 : decode cX9_plan 90 = .ok (.aload_n 0, 1) := by decide +kernel
theorem dX9_plan_91 : decode cX9_plan 91 = .ok (.getfield 205, 3) := by decide +kernel
theorem dX9_plan_94 : decode cX9_plan 94 = .ok (.iload_n 2, 1) := by decide +kernel
theorem dX9_plan_95 : decode cX9_plan 95 = .ok (.if_icmp .ge 45, 3) := by decide +kernel
theorem dX9_plan_98 : decode cX9_plan 98 = .ok (.aload_n 0, 1) := by decide +kernel
theorem dX9_plan_99 : decode cX9_plan 99 = .ok (.getfield 196, 3) := by decide +kernel
theorem dX9_plan_102 : decode cX9_plan 102 = .ok (.istore_n 1, 1) := by decide +kernel
theorem dX9_plan_103 : decode cX9_plan 103 = .ok (.aload_n 0, 1) := by decide +kernel
theorem dX9_plan_104 : decode cX9_plan 104 = .ok (.getfield 205, 3) := by decide +kernel
theorem dX9_plan_107 : decode cX9_plan 107 = .ok (.istore_n 2, 1) := by decide +kernel
theorem dX9_plan_108 : decode cX9_plan 108 = .ok (.iconst 0, 1) := by decide +kernel
theorem dX9_plan_109 : decode cX9_plan 109 = .ok (.istore 4, 2) := by decide +kernel
theorem dX9_plan_111 : decode cX9_plan 111 = .ok (.iload 4, 2) := by decide +kernel
theorem dX9_plan_113 : decode cX9_plan 113 = .ok (.aload_n 0, 1) := by decide +kernel
theorem dX9_plan_114 : decode cX9_plan 114 = .ok (.getfield 199, 3) := by decide +kernel
theorem dX9_plan_117 : decode cX9_plan 117 = .ok (.if_icmp .ge 23, 3) := by decide +kernel
theorem dX9_plan_120 : decode cX9_plan 120 = .ok (.aload_n 0, 1) := by decide +kernel
theorem dX9_plan_121 : decode cX9_plan 121 = .ok (.getfield 92, 3) := by decide +kernel
theorem dX9_plan_124 : decode cX9_plan 124 = .ok (.iload 4, 2) := by decide +kernel
theorem dX9_plan_126 : decode cX9_plan 126 = .ok (.aload_n 0, 1) := by decide +kernel
theorem dX9_plan_127 : decode cX9_plan 127 = .ok (.getfield 86, 3) := by decide +kernel
theorem dX9_plan_130 : decode cX9_plan 130 = .ok (.iload 4, 2) := by decide +kernel
theorem dX9_plan_132 : decode cX9_plan 132 = .ok (.iaload, 1) := by decide +kernel
theorem dX9_plan_133 : decode cX9_plan 133 = .ok (.iastore, 1) := by decide +kernel
theorem dX9_plan_134 : decode cX9_plan 134 = .ok (.iinc 4 1, 3) := by decide +kernel
theorem dX9_plan_137 : decode cX9_plan 137 = .ok (.goto (-26), 3) := by decide +kernel
theorem dX9_plan_140 : decode cX9_plan 140 = .ok (.aload_n 0, 1) := by decide +kernel
theorem dX9_plan_141 : decode cX9_plan 141 = .ok (.invokevirtual 232, 3) := by decide +kernel
theorem dX9_plan_144 : decode cX9_plan 144 = .ok (.istore_n 3, 1) := by decide +kernel
theorem dX9_plan_145 : decode cX9_plan 145 = .ok (.goto (-87), 3) := by decide +kernel
theorem dX9_plan_148 : decode cX9_plan 148 = .ok (.iload_n 1, 1) := by decide +kernel
theorem dX9_plan_149 : decode cX9_plan 149 = .ok (.iconst (-1), 1) := by decide +kernel
theorem dX9_plan_150 : decode cX9_plan 150 = .ok (.if_icmp .ne 5, 3) := by decide +kernel
theorem dX9_plan_153 : decode cX9_plan 153 = .ok (.iconst (-1), 1) := by decide +kernel
theorem dX9_plan_154 : decode cX9_plan 154 = .ok (.ireturn, 1) := by decide +kernel
theorem dX9_plan_155 : decode cX9_plan 155 = .ok (.aload_n 0, 1) := by decide +kernel
theorem dX9_plan_156 : decode cX9_plan 156 = .ok (.invokevirtual 235, 3) := by decide +kernel
theorem dX9_plan_159 : decode cX9_plan 159 = .ok (.iload_n 1, 1) := by decide +kernel
theorem dX9_plan_160 : decode cX9_plan 160 = .ok (.ireturn, 1) := by decide +kernel
theorem dX9_comes_0 : decode cX9_comes 0 = .ok (.aload_n 0, 1) := by decide +kernel
theorem dX9_comes_1 : decode cX9_comes 1 = .ok (.iconst 1, 1) := by decide +kernel
theorem dX9_comes_2 : decode cX9_comes 2 = .ok (.putfield 238, 3) := by decide +kernel
theorem dX9_comes_5 : decode cX9_comes 5 = .ok (.aload_n 0, 1) := by decide +kernel
theorem dX9_comes_6 : decode cX9_comes 6 = .ok (.iconst 0, 1) := by decide +kernel
theorem dX9_comes_7 : decode cX9_comes 7 = .ok (.putfield 242, 3) := by decide +kernel
theorem dX9_comes_10 : decode cX9_comes 10 = .ok (.aload_n 0, 1) := by decide +kernel
theorem dX9_comes_11 : decode cX9_comes 11 = .ok (.aload_n 0, 1) := by decide +kernel
theorem dX9_comes_12 : decode cX9_comes 12 = .ok (.getfield 193, 3) := by decide +kernel
theorem dX9_comes_15 : decode cX9_comes 15 = .ok (.putfield 245, 3) := by decide +kernel
theorem dX9_comes_18 : decode cX9_comes 18 = .ok (.aload_n 0, 1) := by decide +kernel
theorem dX9_comes_19 : decode cX9_comes 19 = .ok (.aload_n 0, 1) := by decide +kernel
theorem dX9_comes_20 : decode cX9_comes 20 = .ok (.getfield 199, 3) := by decide +kernel
theorem dX9_comes_23 : decode cX9_comes 23 = .ok (.putfield 248, 3) := by decide +kernel
theorem dX9_comes_26 : decode cX9_comes 26 = .ok (.aload_n 0, 1) := by decide +kernel
theorem dX9_comes_27 : decode cX9_comes 27 = .ok (.iconst 0, 1) := by decide +kernel
theorem dX9_comes_28 : decode cX9_comes 28 = .ok (.putfield 251, 3) := by decide +kernel
theorem dX9_comes_31 : decode cX9_comes 31 = .ok (.aload_n 0, 1) := by decide +kernel
theorem dX9_comes_32 : decode cX9_comes 32 = .ok (.getfield 190, 3) := by decide +kernel
theorem dX9_comes_35 : decode cX9_comes 35 = .ok (.istore_n 1, 1) := by decide +kernel
theorem dX9_comes_36 : decode cX9_comes 36 = .ok (.aload_n 0, 1) := by decide +kernel
theorem dX9_comes_37 : decode cX9_comes 37 = .ok (.getfield 193, 3) := by decide +kernel
theorem dX9_comes_40 : decode cX9_comes 40 = .ok (.istore_n 2, 1) := by decide +kernel
theorem dX9_comes_41 : decode cX9_comes 41 = .ok (.iconst 0, 1) := by decide +kernel
theorem dX9_comes_42 : decode cX9_comes 42 = .ok (.istore_n 3, 1) := by decide +kernel
theorem dX9_comes_43 : decode cX9_comes 43 = .ok (.iload_n 3, 1) := by decide +kernel
theorem dX9_comes_44 : decode cX9_comes 44 = .ok (.aload_n 0, 1) := by decide +kernel
theorem dX9_comes_45 : decode cX9_comes 45 = .ok (.getfield 199, 3) := by decide +kernel
theorem dX9_comes_48 : decode cX9_comes 48 = .ok (.if_icmp .ge 145, 3) := by decide +kernel
theorem dX9_comes_51 : decode cX9_comes 51 = .ok (.aload_n 0, 1) := by decide +kernel
theorem dX9_comes_52 : decode cX9_comes 52 = .ok (.getfield 92, 3) := by decide +kernel
theorem dX9_comes_55 : decode cX9_comes 55 = .ok (.iload_n 3, 1) := by decide +kernel
theorem dX9_comes_56 : decode cX9_comes 56 = .ok (.iaload, 1) := by decide +kernel
theorem dX9_comes_57 : decode cX9_comes 57 = .ok (.istore 4, 2) := by decide +kernel
theorem dX9_comes_59 : decode cX9_comes 59 = .ok (.aload_n 0, 1) := by decide +kernel
theorem dX9_comes_60 : decode cX9_comes 60 = .ok (.getfield 71, 3) := by decide +kernel
theorem dX9_comes_63 : decode cX9_comes 63 = .ok (.iload_n 3, 1) := by decide +kernel
theorem dX9_comes_64 : decode cX9_comes 64 = .ok (.iload 4, 2) := by decide +kernel
theorem dX9_comes_66 : decode cX9_comes 66 = .ok (.iastore, 1) := by decide +kernel
theorem dX9_comes_67 : decode cX9_comes 67 = .ok (.aload_n 0, 1) := by decide +kernel
theorem dX9_comes_68 : decode cX9_comes 68 = .ok (.getfield 74, 3) := by decide +kernel
theorem dX9_comes_71 : decode cX9_comes 71 = .ok (.iload_n 3, 1) := by decide +kernel
theorem dX9_comes_72 : decode cX9_comes 72 = .ok (.iload 4, 2) := by decide +kernel
theorem dX9_comes_74 : decode cX9_comes 74 = .ok (.iload_n 1, 1) := by decide +kernel
theorem dX9_comes_75 : decode cX9_comes 75 = .ok (.if_icmp .ne 7, 3) := by decide +kernel
theorem dX9_comes_78 : decode cX9_comes 78 = .ok (.iload_n 2, 1) := by decide +kernel
theorem dX9_comes_79 : decode cX9_comes 79 = .ok (.goto 19, 3) := by decide +kernel
theorem dX9_comes_82 : decode cX9_comes 82 = .ok (.iload_n 2, 1) := by decide +kernel
theorem dX9_comes_83 : decode cX9_comes 83 = .ok (.aload_n 0, 1) := by decide +kernel
theorem dX9_comes_84 : decode cX9_comes 84 = .ok (.getfield 62, 3) := by decide +kernel
theorem dX9_comes_87 : decode cX9_comes 87 = .ok (.bipush 8, 2) := by decide +kernel
theorem dX9_comes_89 : decode cX9_comes 89 = .ok (.iload_n 1, 1) := by decide +kernel
theorem dX9_comes_90 : decode cX9_comes 90 = .ok (.imul, 1) := by decide +kernel
theorem dX9_comes_91 : decode cX9_comes 91 = .ok (.iload 4, 2) := by decide +kernel
theorem dX9_comes_93 : decode cX9_comes 93 = .ok (.iadd, 1) := by decide +kernel
theorem dX9_comes_94 : decode cX9_comes 94 = .ok (.iaload, 1) := by decide +kernel
theorem dX9_comes_95 : decode cX9_comes 95 = .ok (.iadd, 1) := by decide +kernel
theorem dX9_comes_96 : decode cX9_comes 96 = .ok (.iconst 1, 1) := by decide +kernel
theorem dX9_comes_97 : decode cX9_comes 97 = .ok (.isub, 1) := by decide +kernel
theorem dX9_comes_98 : decode cX9_comes 98 = .ok (.iastore, 1) := by decide +kernel
theorem dX9_comes_99 : decode cX9_comes 99 = .ok (.aload_n 0, 1) := by decide +kernel
theorem dX9_comes_100 : decode cX9_comes 100 = .ok (.getfield 77, 3) := by decide +kernel
theorem dX9_comes_103 : decode cX9_comes 103 = .ok (.iload_n 3, 1) := by decide +kernel
theorem dX9_comes_104 : decode cX9_comes 104 = .ok (.aload_n 0, 1) := by decide +kernel
theorem dX9_comes_105 : decode cX9_comes 105 = .ok (.getfield 74, 3) := by decide +kernel
theorem dX9_comes_108 : decode cX9_comes 108 = .ok (.iload_n 3, 1) := by decide +kernel
theorem dX9_comes_109 : decode cX9_comes 109 = .ok (.iaload, 1) := by decide +kernel
theorem dX9_comes_110 : decode cX9_comes 110 = .ok (.aload_n 0, 1) := by decide +kernel
theorem dX9_comes_111 : decode cX9_comes 111 = .ok (.getfield 44, 3) := by decide +kernel
theorem dX9_comes_114 : decode cX9_comes 114 = .ok (.iload 4, 2) := by decide +kernel
theorem dX9_comes_116 : decode cX9_comes 116 = .ok (.iaload, 1) := by decide +kernel
theorem dX9_comes_117 : decode cX9_comes 117 = .ok (.invokestatic 187, 3) := by decide +kernel
theorem dX9_comes_120 : decode cX9_comes 120 = .ok (.iastore, 1) := by decide +kernel
theorem dX9_comes_121 : decode cX9_comes 121 = .ok (.aload_n 0, 1) := by decide +kernel
theorem dX9_comes_122 : decode cX9_comes 122 = .ok (.getfield 80, 3) := by decide +kernel
theorem dX9_comes_125 : decode cX9_comes 125 = .ok (.iload_n 3, 1) := by decide +kernel
theorem dX9_comes_126 : decode cX9_comes 126 = .ok (.aload_n 0, 1) := by decide +kernel
theorem dX9_comes_127 : decode cX9_comes 127 = .ok (.getfield 77, 3) := by decide +kernel
theorem dX9_comes_130 : decode cX9_comes 130 = .ok (.iload_n 3, 1) := by decide +kernel
theorem dX9_comes_131 : decode cX9_comes 131 = .ok (.iaload, 1) := by decide +kernel
theorem dX9_comes_132 : decode cX9_comes 132 = .ok (.aload_n 0, 1) := by decide +kernel
theorem dX9_comes_133 : decode cX9_comes 133 = .ok (.getfield 32, 3) := by decide +kernel
theorem dX9_comes_136 : decode cX9_comes 136 = .ok (.iload 4, 2) := by decide +kernel
theorem dX9_comes_138 : decode cX9_comes 138 = .ok (.iaload, 1) := by decide +kernel
theorem dX9_comes_139 : decode cX9_comes 139 = .ok (.aload_n 0, 1) := by decide +kernel
theorem dX9_comes_140 : decode cX9_comes 140 = .ok (.getfield 89, 3) := by decide +kernel
theorem dX9_comes_143 : decode cX9_comes 143 = .ok (.iload 4, 2) := by decide +kernel
theorem dX9_comes_145 : decode cX9_comes 145 = .ok (.iaload, 1) := by decide +kernel
theorem dX9_comes_146 : decode cX9_comes 146 = .ok (.iadd, 1) := by decide +kernel
theorem dX9_comes_147 : decode cX9_comes 147 = .ok (.iconst 1, 1) := by decide +kernel
theorem dX9_comes_148 : decode cX9_comes 148 = .ok (.isub, 1) := by decide +kernel
theorem dX9_comes_149 : decode cX9_comes 149 = .ok (.aload_n 0, 1) := by decide +kernel
theorem dX9_comes_150 : decode cX9_comes 150 = .ok (.getfield 89, 3) := by decide +kernel
theorem dX9_comes_153 : decode cX9_comes 153 = .ok (.iload 4, 2) := by decide +kernel
theorem dX9_comes_155 : decode cX9_comes 155 = .ok (.iaload, 1) := by decide +kernel
theorem dX9_comes_156 : decode cX9_comes 156 = .ok (.idiv, 1) := by decide +kernel
theorem dX9_comes_157 : decode cX9_comes 157 = .ok (.iadd, 1) := by decide +kernel
theorem dX9_comes_158 : decode cX9_comes 158 = .ok (.iastore, 1) := by decide +kernel
theorem dX9_comes_159 : decode cX9_comes 159 = .ok (.aload_n 0, 1) := by decide +kernel
theorem dX9_comes_160 : decode cX9_comes 160 = .ok (.getfield 83, 3) := by decide +kernel
theorem dX9_comes_163 : decode cX9_comes 163 = .ok (.iload_n 3, 1) := by decide +kernel
theorem dX9_comes_164 : decode cX9_comes 164 = .ok (.aload_n 0, 1) := by decide +kernel
theorem dX9_comes_165 : decode cX9_comes 165 = .ok (.aload_n 0, 1) := by decide +kernel
theorem dX9_comes_166 : decode cX9_comes 166 = .ok (.getfield 80, 3) := by decide +kernel
theorem dX9_comes_169 : decode cX9_comes 169 = .ok (.iload_n 3, 1) := by decide +kernel
theorem dX9_comes_170 : decode cX9_comes 170 = .ok (.iaload, 1) := by decide +kernel
theorem dX9_comes_171 : decode cX9_comes 171 = .ok (.iload 4, 2) := by decide +kernel
theorem dX9_comes_173 : decode cX9_comes 173 = .ok (.invokevirtual 202, 3) := by decide +kernel
theorem dX9_comes_176 : decode cX9_comes 176 = .ok (.iastore, 1) := by decide +kernel
theorem dX9_comes_177 : decode cX9_comes 177 = .ok (.aload_n 0, 1) := by decide +kernel
theorem dX9_comes_178 : decode cX9_comes 178 = .ok (.getfield 80, 3) := by decide +kernel
theorem dX9_comes_181 : decode cX9_comes 181 = .ok (.iload_n 3, 1) := by decide +kernel
theorem dX9_comes_182 : decode cX9_comes 182 = .ok (.iaload, 1) := by decide +kernel
theorem dX9_comes_183 : decode cX9_comes 183 = .ok (.istore_n 2, 1) := by decide +kernel
theorem dX9_comes_184 : decode cX9_comes 184 = .ok (.iload 4, 2) := by decide +kernel
theorem dX9_comes_186 : decode cX9_comes 186 = .ok (.istore_n 1, 1) := by decide +kernel
theorem dX9_comes_187 : decode cX9_comes 187 = .ok (.iinc 3 1, 3) := by decide +kernel
theorem dX9_comes_190 : decode cX9_comes 190 = .ok (.goto (-147), 3) := by decide +kernel
theorem dX9_comes_193 : decode cX9_comes 193 = .ok (.return_, 1) := by decide +kernel
theorem dX9_planned_0 : decode cX9_planned 0 = .ok (.aload_n 0, 1) := by decide +kernel
theorem dX9_planned_1 : decode cX9_planned 1 = .ok (.iconst 0, 1) := by decide +kernel
theorem dX9_planned_2 : decode cX9_planned 2 = .ok (.putfield 95, 3) := by decide +kernel
theorem dX9_planned_5 : decode cX9_planned 5 = .ok (.aload_n 0, 1) := by decide +kernel
theorem dX9_planned_6 : decode cX9_planned 6 = .ok (.getfield 238, 3) := by decide +kernel
theorem dX9_planned_9 : decode cX9_planned 9 = .ok (.ifCond .eq 15, 3) := by decide +kernel
theorem dX9_planned_12 : decode cX9_planned 12 = .ok (.iload_n 1, 1) := by decide +kernel
theorem dX9_planned_13 : decode cX9_planned 13 = .ok (.ifCond .lt 11, 3) := by decide +kernel
theorem dX9_planned_16 : decode cX9_planned 16 = .ok (.iload_n 1, 1) := by decide +kernel
theorem dX9_planned_17 : decode cX9_planned 17 = .ok (.aload_n 0, 1) := by decide +kernel
theorem dX9_planned_18 : decode cX9_planned 18 = .ok (.getfield 248, 3) := by decide +kernel
theorem dX9_planned_21 : decode cX9_planned 21 = .ok (.if_icmp .lt 5, 3) := by decide +kernel
theorem dX9_planned_24 : decode cX9_planned 24 = .ok (.iconst (-1), 1) := by decide +kernel
theorem dX9_planned_25 : decode cX9_planned 25 = .ok (.ireturn, 1) := by decide +kernel
theorem dX9_planned_26 : decode cX9_planned 26 = .ok (.iload_n 2, 1) := by decide +kernel
theorem dX9_planned_27 : decode cX9_planned 27 = .ok (.tableswitch 68 0 4 #[33, 40, 47, 54, 61], 33) := by decide +kernel
theorem dX9_planned_60 : decode cX9_planned 60 = .ok (.aload_n 0, 1) := by decide +kernel
theorem dX9_planned_61 : decode cX9_planned 61 = .ok (.getfield 71, 3) := by decide +kernel
theorem dX9_planned_64 : decode cX9_planned 64 = .ok (.iload_n 1, 1) := by decide +kernel
theorem dX9_planned_65 : decode cX9_planned 65 = .ok (.iaload, 1) := by decide +kernel
theorem dX9_planned_66 : decode cX9_planned 66 = .ok (.ireturn, 1) := by decide +kernel
theorem dX9_planned_67 : decode cX9_planned 67 = .ok (.aload_n 0, 1) := by decide +kernel
theorem dX9_planned_68 : decode cX9_planned 68 = .ok (.getfield 74, 3) := by decide +kernel
theorem dX9_planned_71 : decode cX9_planned 71 = .ok (.iload_n 1, 1) := by decide +kernel
theorem dX9_planned_72 : decode cX9_planned 72 = .ok (.iaload, 1) := by decide +kernel
theorem dX9_planned_73 : decode cX9_planned 73 = .ok (.ireturn, 1) := by decide +kernel
theorem dX9_planned_74 : decode cX9_planned 74 = .ok (.aload_n 0, 1) := by decide +kernel
theorem dX9_planned_75 : decode cX9_planned 75 = .ok (.getfield 77, 3) := by decide +kernel
theorem dX9_planned_78 : decode cX9_planned 78 = .ok (.iload_n 1, 1) := by decide +kernel
theorem dX9_planned_79 : decode cX9_planned 79 = .ok (.iaload, 1) := by decide +kernel
theorem dX9_planned_80 : decode cX9_planned 80 = .ok (.ireturn, 1) := by decide +kernel
theorem dX9_planned_81 : decode cX9_planned 81 = .ok (.aload_n 0, 1) := by decide +kernel
theorem dX9_planned_82 : decode cX9_planned 82 = .ok (.getfield 80, 3) := by decide +kernel
theorem dX9_planned_85 : decode cX9_planned 85 = .ok (.iload_n 1, 1) := by decide +kernel
theorem dX9_planned_86 : decode cX9_planned 86 = .ok (.iaload, 1) := by decide +kernel
theorem dX9_planned_87 : decode cX9_planned 87 = .ok (.ireturn, 1) := by decide +kernel
theorem dX9_planned_88 : decode cX9_planned 88 = .ok (.aload_n 0, 1) := by decide +kernel
theorem dX9_planned_89 : decode cX9_planned 89 = .ok (.getfield 83, 3) := by decide +kernel
theorem dX9_planned_92 : decode cX9_planned 92 = .ok (.iload_n 1, 1) := by decide +kernel
theorem dX9_planned_93 : decode cX9_planned 93 = .ok (.iaload, 1) := by decide +kernel
theorem dX9_planned_94 : decode cX9_planned 94 = .ok (.ireturn, 1) := by decide +kernel
theorem dX9_planned_95 : decode cX9_planned 95 = .ok (.iconst (-1), 1) := by decide +kernel
theorem dX9_planned_96 : decode cX9_planned 96 = .ok (.ireturn, 1) := by decide +kernel
theorem dX9_setsOut_0 : decode cX9_setsOut 0 = .ok (.aload_n 0, 1) := by decide +kernel
theorem dX9_setsOut_1 : decode cX9_setsOut 1 = .ok (.getfield 71, 3) := by decide +kernel
theorem dX9_setsOut_4 : decode cX9_setsOut 4 = .ok (.aload_n 0, 1) := by decide +kernel
theorem dX9_setsOut_5 : decode cX9_setsOut 5 = .ok (.getfield 251, 3) := by decide +kernel
theorem dX9_setsOut_8 : decode cX9_setsOut 8 = .ok (.iaload, 1) := by decide +kernel
theorem dX9_setsOut_9 : decode cX9_setsOut 9 = .ok (.istore_n 1, 1) := by decide +kernel
theorem dX9_setsOut_10 : decode cX9_setsOut 10 = .ok (.iload_n 1, 1) := by decide +kernel
theorem dX9_setsOut_11 : decode cX9_setsOut 11 = .ok (.aload_n 0, 1) := by decide +kernel
theorem dX9_setsOut_12 : decode cX9_setsOut 12 = .ok (.getfield 190, 3) := by decide +kernel
theorem dX9_setsOut_15 : decode cX9_setsOut 15 = .ok (.if_icmp .ne 5, 3) := by decide +kernel
theorem dX9_setsOut_18 : decode cX9_setsOut 18 = .ok (.iconst 1, 1) := by decide +kernel
theorem dX9_setsOut_19 : decode cX9_setsOut 19 = .ok (.ireturn, 1) := by decide +kernel
theorem dX9_setsOut_20 : decode cX9_setsOut 20 = .ok (.aload_n 0, 1) := by decide +kernel
theorem dX9_setsOut_21 : decode cX9_setsOut 21 = .ok (.getfield 62, 3) := by decide +kernel
theorem dX9_setsOut_24 : decode cX9_setsOut 24 = .ok (.bipush 8, 2) := by decide +kernel
theorem dX9_setsOut_26 : decode cX9_setsOut 26 = .ok (.aload_n 0, 1) := by decide +kernel
theorem dX9_setsOut_27 : decode cX9_setsOut 27 = .ok (.getfield 190, 3) := by decide +kernel
theorem dX9_setsOut_30 : decode cX9_setsOut 30 = .ok (.imul, 1) := by decide +kernel
theorem dX9_setsOut_31 : decode cX9_setsOut 31 = .ok (.iload_n 1, 1) := by decide +kernel
theorem dX9_setsOut_32 : decode cX9_setsOut 32 = .ok (.iadd, 1) := by decide +kernel
theorem dX9_setsOut_33 : decode cX9_setsOut 33 = .ok (.iaload, 1) := by decide +kernel
theorem dX9_setsOut_34 : decode cX9_setsOut 34 = .ok (.istore_n 2, 1) := by decide +kernel
theorem dX9_setsOut_35 : decode cX9_setsOut 35 = .ok (.iload_n 2, 1) := by decide +kernel
theorem dX9_setsOut_36 : decode cX9_setsOut 36 = .ok (.ifCond .ne 5, 3) := by decide +kernel
theorem dX9_setsOut_39 : decode cX9_setsOut 39 = .ok (.iconst 0, 1) := by decide +kernel
theorem dX9_setsOut_40 : decode cX9_setsOut 40 = .ok (.ireturn, 1) := by decide +kernel
theorem dX9_setsOut_41 : decode cX9_setsOut 41 = .ok (.aload_n 0, 1) := by decide +kernel
theorem dX9_setsOut_42 : decode cX9_setsOut 42 = .ok (.iload_n 2, 1) := by decide +kernel
theorem dX9_setsOut_43 : decode cX9_setsOut 43 = .ok (.iconst 1, 1) := by decide +kernel
theorem dX9_setsOut_44 : decode cX9_setsOut 44 = .ok (.isub, 1) := by decide +kernel
theorem dX9_setsOut_45 : decode cX9_setsOut 45 = .ok (.putfield 221, 3) := by decide +kernel
theorem dX9_setsOut_48 : decode cX9_setsOut 48 = .ok (.aload_n 0, 1) := by decide +kernel
theorem dX9_setsOut_49 : decode cX9_setsOut 49 = .ok (.iload_n 1, 1) := by decide +kernel
theorem dX9_setsOut_50 : decode cX9_setsOut 50 = .ok (.putfield 254, 3) := by decide +kernel
theorem dX9_setsOut_53 : decode cX9_setsOut 53 = .ok (.aload_n 0, 1) := by decide +kernel
theorem dX9_setsOut_54 : decode cX9_setsOut 54 = .ok (.getfield 221, 3) := by decide +kernel
theorem dX9_setsOut_57 : decode cX9_setsOut 57 = .ok (.ifCond .ne 8, 3) := by decide +kernel
theorem dX9_setsOut_60 : decode cX9_setsOut 60 = .ok (.aload_n 0, 1) := by decide +kernel
theorem dX9_setsOut_61 : decode cX9_setsOut 61 = .ok (.iload_n 1, 1) := by decide +kernel
theorem dX9_setsOut_62 : decode cX9_setsOut 62 = .ok (.putfield 190, 3) := by decide +kernel
theorem dX9_setsOut_65 : decode cX9_setsOut 65 = .ok (.iconst 1, 1) := by decide +kernel
theorem dX9_setsOut_66 : decode cX9_setsOut 66 = .ok (.ireturn, 1) := by decide +kernel
theorem dX9_out_0 : decode cX9_out 0 = .ok (.aload_n 0, 1) := by decide +kernel
theorem dX9_out_1 : decode cX9_out 1 = .ok (.iconst 0, 1) := by decide +kernel
theorem dX9_out_2 : decode cX9_out 2 = .ok (.putfield 95, 3) := by decide +kernel
theorem dX9_out_5 : decode cX9_out 5 = .ok (.aload_n 0, 1) := by decide +kernel
theorem dX9_out_6 : decode cX9_out 6 = .ok (.getfield 238, 3) := by decide +kernel
theorem dX9_out_9 : decode cX9_out 9 = .ok (.ifCond .eq 28, 3) := by decide +kernel
theorem dX9_out_12 : decode cX9_out 12 = .ok (.aload_n 0, 1) := by decide +kernel
theorem dX9_out_13 : decode cX9_out 13 = .ok (.getfield 242, 3) := by decide +kernel
theorem dX9_out_16 : decode cX9_out 16 = .ok (.ifCond .ne 21, 3) := by decide +kernel
theorem dX9_out_19 : decode cX9_out 19 = .ok (.aload_n 0, 1) := by decide +kernel
theorem dX9_out_20 : decode cX9_out 20 = .ok (.getfield 245, 3) := by decide +kernel
theorem dX9_out_23 : decode cX9_out 23 = .ok (.aload_n 0, 1) := by decide +kernel
theorem dX9_out_24 : decode cX9_out 24 = .ok (.getfield 193, 3) := by decide +kernel
theorem dX9_out_27 : decode cX9_out 27 = .ok (.if_icmp .ne 10, 3) := by decide +kernel
theorem dX9_out_30 : decode cX9_out 30 = .ok (.aload_n 0, 1) := by decide +kernel
theorem dX9_out_31 : decode cX9_out 31 = .ok (.invokevirtual 257, 3) := by decide +kernel
theorem dX9_out_34 : decode cX9_out 34 = .ok (.ifCond .ne 5, 3) := by decide +kernel
theorem dX9_out_37 : decode cX9_out 37 = .ok (.iconst 0, 1) := by decide +kernel
theorem dX9_out_38 : decode cX9_out 38 = .ok (.ireturn, 1) := by decide +kernel
theorem dX9_out_39 : decode cX9_out 39 = .ok (.aload_n 0, 1) := by decide +kernel
theorem dX9_out_40 : decode cX9_out 40 = .ok (.iconst 1, 1) := by decide +kernel
theorem dX9_out_41 : decode cX9_out 41 = .ok (.putfield 242, 3) := by decide +kernel
theorem dX9_out_44 : decode cX9_out 44 = .ok (.iconst 1, 1) := by decide +kernel
theorem dX9_out_45 : decode cX9_out 45 = .ok (.ireturn, 1) := by decide +kernel
theorem dX9_breaks_0 : decode cX9_breaks 0 = .ok (.aload_n 0, 1) := by decide +kernel
theorem dX9_breaks_1 : decode cX9_breaks 1 = .ok (.iconst 0, 1) := by decide +kernel
theorem dX9_breaks_2 : decode cX9_breaks 2 = .ok (.putfield 95, 3) := by decide +kernel
theorem dX9_breaks_5 : decode cX9_breaks 5 = .ok (.iload_n 1, 1) := by decide +kernel
theorem dX9_breaks_6 : decode cX9_breaks 6 = .ok (.iconst 1, 1) := by decide +kernel
theorem dX9_breaks_7 : decode cX9_breaks 7 = .ok (.if_icmp .lt 9, 3) := by decide +kernel
theorem dX9_breaks_10 : decode cX9_breaks 10 = .ok (.iload_n 1, 1) := by decide +kernel
theorem dX9_breaks_11 : decode cX9_breaks 11 = .ok (.bipush 9, 2) := by decide +kernel
theorem dX9_breaks_13 : decode cX9_breaks 13 = .ok (.if_icmp .le 5, 3) := by decide +kernel
theorem dX9_breaks_16 : decode cX9_breaks 16 = .ok (.iconst 0, 1) := by decide +kernel
theorem dX9_breaks_17 : decode cX9_breaks 17 = .ok (.ireturn, 1) := by decide +kernel
theorem dX9_breaks_18 : decode cX9_breaks 18 = .ok (.aload_n 0, 1) := by decide +kernel
theorem dX9_breaks_19 : decode cX9_breaks 19 = .ok (.iload_n 1, 1) := by decide +kernel
theorem dX9_breaks_20 : decode cX9_breaks 20 = .ok (.putfield 260, 3) := by decide +kernel
theorem dX9_breaks_23 : decode cX9_breaks 23 = .ok (.iconst 1, 1) := by decide +kernel
theorem dX9_breaks_24 : decode cX9_breaks 24 = .ok (.ireturn, 1) := by decide +kernel
theorem dX9_isAtWork_0 : decode cX9_isAtWork 0 = .ok (.aload_n 0, 1) := by decide +kernel
theorem dX9_isAtWork_1 : decode cX9_isAtWork 1 = .ok (.getfield 238, 3) := by decide +kernel
theorem dX9_isAtWork_4 : decode cX9_isAtWork 4 = .ok (.ifCond .eq 32, 3) := by decide +kernel
theorem dX9_isAtWork_7 : decode cX9_isAtWork 7 = .ok (.aload_n 0, 1) := by decide +kernel
theorem dX9_isAtWork_8 : decode cX9_isAtWork 8 = .ok (.getfield 242, 3) := by decide +kernel
theorem dX9_isAtWork_11 : decode cX9_isAtWork 11 = .ok (.ifCond .eq 25, 3) := by decide +kernel
theorem dX9_isAtWork_14 : decode cX9_isAtWork 14 = .ok (.aload_n 0, 1) := by decide +kernel
theorem dX9_isAtWork_15 : decode cX9_isAtWork 15 = .ok (.getfield 251, 3) := by decide +kernel
theorem dX9_isAtWork_18 : decode cX9_isAtWork 18 = .ok (.aload_n 0, 1) := by decide +kernel
theorem dX9_isAtWork_19 : decode cX9_isAtWork 19 = .ok (.getfield 248, 3) := by decide +kernel
theorem dX9_isAtWork_22 : decode cX9_isAtWork 22 = .ok (.if_icmp .ge 14, 3) := by decide +kernel
theorem dX9_isAtWork_25 : decode cX9_isAtWork 25 = .ok (.aload_n 0, 1) := by decide +kernel
theorem dX9_isAtWork_26 : decode cX9_isAtWork 26 = .ok (.getfield 221, 3) := by decide +kernel
theorem dX9_isAtWork_29 : decode cX9_isAtWork 29 = .ok (.ifCond .ne 7, 3) := by decide +kernel
theorem dX9_isAtWork_32 : decode cX9_isAtWork 32 = .ok (.iconst 1, 1) := by decide +kernel
theorem dX9_isAtWork_33 : decode cX9_isAtWork 33 = .ok (.goto 4, 3) := by decide +kernel
theorem dX9_isAtWork_36 : decode cX9_isAtWork 36 = .ok (.iconst 0, 1) := by decide +kernel
theorem dX9_isAtWork_37 : decode cX9_isAtWork 37 = .ok (.ireturn, 1) := by decide +kernel
theorem dX9_threshes_0 : decode cX9_threshes 0 = .ok (.aload_n 0, 1) := by decide +kernel
theorem dX9_threshes_1 : decode cX9_threshes 1 = .ok (.getfield 32, 3) := by decide +kernel
theorem dX9_threshes_4 : decode cX9_threshes 4 = .ok (.iload_n 1, 1) := by decide +kernel
theorem dX9_threshes_5 : decode cX9_threshes 5 = .ok (.iaload, 1) := by decide +kernel
theorem dX9_threshes_6 : decode cX9_threshes 6 = .ok (.aload_n 0, 1) := by decide +kernel
theorem dX9_threshes_7 : decode cX9_threshes 7 = .ok (.iload_n 1, 1) := by decide +kernel
theorem dX9_threshes_8 : decode cX9_threshes 8 = .ok (.invokevirtual 224, 3) := by decide +kernel
theorem dX9_threshes_11 : decode cX9_threshes 11 = .ok (.invokestatic 175, 3) := by decide +kernel
theorem dX9_threshes_14 : decode cX9_threshes 14 = .ok (.istore_n 2, 1) := by decide +kernel
theorem dX9_threshes_15 : decode cX9_threshes 15 = .ok (.aload_n 0, 1) := by decide +kernel
theorem dX9_threshes_16 : decode cX9_threshes 16 = .ok (.getfield 32, 3) := by decide +kernel
theorem dX9_threshes_19 : decode cX9_threshes 19 = .ok (.iload_n 1, 1) := by decide +kernel
theorem dX9_threshes_20 : decode cX9_threshes 20 = .ok (.dup2, 1) := by decide +kernel
theorem dX9_threshes_21 : decode cX9_threshes 21 = .ok (.iaload, 1) := by decide +kernel
theorem dX9_threshes_22 : decode cX9_threshes 22 = .ok (.iload_n 2, 1) := by decide +kernel
theorem dX9_threshes_23 : decode cX9_threshes 23 = .ok (.isub, 1) := by decide +kernel
theorem dX9_threshes_24 : decode cX9_threshes 24 = .ok (.iastore, 1) := by decide +kernel
theorem dX9_threshes_25 : decode cX9_threshes 25 = .ok (.aload_n 0, 1) := by decide +kernel
theorem dX9_threshes_26 : decode cX9_threshes 26 = .ok (.getfield 50, 3) := by decide +kernel
theorem dX9_threshes_29 : decode cX9_threshes 29 = .ok (.iload_n 1, 1) := by decide +kernel
theorem dX9_threshes_30 : decode cX9_threshes 30 = .ok (.dup2, 1) := by decide +kernel
theorem dX9_threshes_31 : decode cX9_threshes 31 = .ok (.iaload, 1) := by decide +kernel
theorem dX9_threshes_32 : decode cX9_threshes 32 = .ok (.iconst 1, 1) := by decide +kernel
theorem dX9_threshes_33 : decode cX9_threshes 33 = .ok (.iadd, 1) := by decide +kernel
theorem dX9_threshes_34 : decode cX9_threshes 34 = .ok (.iastore, 1) := by decide +kernel
theorem dX9_threshes_35 : decode cX9_threshes 35 = .ok (.iconst 1, 1) := by decide +kernel
theorem dX9_threshes_36 : decode cX9_threshes 36 = .ok (.istore_n 3, 1) := by decide +kernel
theorem dX9_threshes_37 : decode cX9_threshes 37 = .ok (.iload_n 3, 1) := by decide +kernel
theorem dX9_threshes_38 : decode cX9_threshes 38 = .ok (.aload_n 0, 1) := by decide +kernel
theorem dX9_threshes_39 : decode cX9_threshes 39 = .ok (.getfield 166, 3) := by decide +kernel
theorem dX9_threshes_42 : decode cX9_threshes 42 = .ok (.if_icmp .gt 49, 3) := by decide +kernel
theorem dX9_threshes_45 : decode cX9_threshes 45 = .ok (.aload_n 0, 1) := by decide +kernel
theorem dX9_threshes_46 : decode cX9_threshes 46 = .ok (.getfield 65, 3) := by decide +kernel
theorem dX9_threshes_49 : decode cX9_threshes 49 = .ok (.bipush 8, 2) := by decide +kernel
theorem dX9_threshes_51 : decode cX9_threshes 51 = .ok (.iload_n 1, 1) := by decide +kernel
theorem dX9_threshes_52 : decode cX9_threshes 52 = .ok (.imul, 1) := by decide +kernel
theorem dX9_threshes_53 : decode cX9_threshes 53 = .ok (.iload_n 3, 1) := by decide +kernel
theorem dX9_threshes_54 : decode cX9_threshes 54 = .ok (.iadd, 1) := by decide +kernel
theorem dX9_threshes_55 : decode cX9_threshes 55 = .ok (.dup2, 1) := by decide +kernel
theorem dX9_threshes_56 : decode cX9_threshes 56 = .ok (.iaload, 1) := by decide +kernel
theorem dX9_threshes_57 : decode cX9_threshes 57 = .ok (.aload_n 0, 1) := by decide +kernel
theorem dX9_threshes_58 : decode cX9_threshes 58 = .ok (.getfield 68, 3) := by decide +kernel
theorem dX9_threshes_61 : decode cX9_threshes 61 = .ok (.iload_n 3, 1) := by decide +kernel
theorem dX9_threshes_62 : decode cX9_threshes 62 = .ok (.iaload, 1) := by decide +kernel
theorem dX9_threshes_63 : decode cX9_threshes 63 = .ok (.iadd, 1) := by decide +kernel
theorem dX9_threshes_64 : decode cX9_threshes 64 = .ok (.iastore, 1) := by decide +kernel
theorem dX9_threshes_65 : decode cX9_threshes 65 = .ok (.aload_n 0, 1) := by decide +kernel
theorem dX9_threshes_66 : decode cX9_threshes 66 = .ok (.getfield 65, 3) := by decide +kernel
theorem dX9_threshes_69 : decode cX9_threshes 69 = .ok (.bipush 8, 2) := by decide +kernel
theorem dX9_threshes_71 : decode cX9_threshes 71 = .ok (.iload_n 3, 1) := by decide +kernel
theorem dX9_threshes_72 : decode cX9_threshes 72 = .ok (.imul, 1) := by decide +kernel
theorem dX9_threshes_73 : decode cX9_threshes 73 = .ok (.iload_n 1, 1) := by decide +kernel
theorem dX9_threshes_74 : decode cX9_threshes 74 = .ok (.iadd, 1) := by decide +kernel
theorem dX9_threshes_75 : decode cX9_threshes 75 = .ok (.dup2, 1) := by decide +kernel
theorem dX9_threshes_76 : decode cX9_threshes 76 = .ok (.iaload, 1) := by decide +kernel
theorem dX9_threshes_77 : decode cX9_threshes 77 = .ok (.aload_n 0, 1) := by decide +kernel
theorem dX9_threshes_78 : decode cX9_threshes 78 = .ok (.getfield 68, 3) := by decide +kernel
theorem dX9_threshes_81 : decode cX9_threshes 81 = .ok (.iload_n 3, 1) := by decide +kernel
theorem dX9_threshes_82 : decode cX9_threshes 82 = .ok (.iaload, 1) := by decide +kernel
theorem dX9_threshes_83 : decode cX9_threshes 83 = .ok (.isub, 1) := by decide +kernel
theorem dX9_threshes_84 : decode cX9_threshes 84 = .ok (.iastore, 1) := by decide +kernel
theorem dX9_threshes_85 : decode cX9_threshes 85 = .ok (.iinc 3 1, 3) := by decide +kernel
theorem dX9_threshes_88 : decode cX9_threshes 88 = .ok (.goto (-51), 3) := by decide +kernel
theorem dX9_threshes_91 : decode cX9_threshes 91 = .ok (.aload_n 0, 1) := by decide +kernel
theorem dX9_threshes_92 : decode cX9_threshes 92 = .ok (.getfield 32, 3) := by decide +kernel
theorem dX9_threshes_95 : decode cX9_threshes 95 = .ok (.iload_n 1, 1) := by decide +kernel
theorem dX9_threshes_96 : decode cX9_threshes 96 = .ok (.iaload, 1) := by decide +kernel
theorem dX9_threshes_97 : decode cX9_threshes 97 = .ok (.ifCond .le 4, 3) := by decide +kernel
theorem dX9_threshes_100 : decode cX9_threshes 100 = .ok (.return_, 1) := by decide +kernel
theorem dX9_threshes_101 : decode cX9_threshes 101 = .ok (.aload_n 0, 1) := by decide +kernel
theorem dX9_threshes_102 : decode cX9_threshes 102 = .ok (.getfield 53, 3) := by decide +kernel
theorem dX9_threshes_105 : decode cX9_threshes 105 = .ok (.iload_n 1, 1) := by decide +kernel
theorem dX9_threshes_106 : decode cX9_threshes 106 = .ok (.aload_n 0, 1) := by decide +kernel
theorem dX9_threshes_107 : decode cX9_threshes 107 = .ok (.getfield 193, 3) := by decide +kernel
theorem dX9_threshes_110 : decode cX9_threshes 110 = .ok (.iastore, 1) := by decide +kernel
theorem dX9_threshes_111 : decode cX9_threshes 111 = .ok (.aload_n 0, 1) := by decide +kernel
theorem dX9_threshes_112 : decode cX9_threshes 112 = .ok (.dup, 1) := by decide +kernel
theorem dX9_threshes_113 : decode cX9_threshes 113 = .ok (.getfield 251, 3) := by decide +kernel
theorem dX9_threshes_116 : decode cX9_threshes 116 = .ok (.iconst 1, 1) := by decide +kernel
theorem dX9_threshes_117 : decode cX9_threshes 117 = .ok (.iadd, 1) := by decide +kernel
theorem dX9_threshes_118 : decode cX9_threshes 118 = .ok (.putfield 251, 3) := by decide +kernel
theorem dX9_threshes_121 : decode cX9_threshes 121 = .ok (.aload_n 0, 1) := by decide +kernel
theorem dX9_threshes_122 : decode cX9_threshes 122 = .ok (.getfield 251, 3) := by decide +kernel
theorem dX9_threshes_125 : decode cX9_threshes 125 = .ok (.aload_n 0, 1) := by decide +kernel
theorem dX9_threshes_126 : decode cX9_threshes 126 = .ok (.getfield 248, 3) := by decide +kernel
theorem dX9_threshes_129 : decode cX9_threshes 129 = .ok (.if_icmp .ge 18, 3) := by decide +kernel
theorem dX9_threshes_132 : decode cX9_threshes 132 = .ok (.aload_n 0, 1) := by decide +kernel
theorem dX9_threshes_133 : decode cX9_threshes 133 = .ok (.invokevirtual 257, 3) := by decide +kernel
theorem dX9_threshes_136 : decode cX9_threshes 136 = .ok (.ifCond .ne 11, 3) := by decide +kernel
theorem dX9_threshes_139 : decode cX9_threshes 139 = .ok (.aload_n 0, 1) := by decide +kernel
theorem dX9_threshes_140 : decode cX9_threshes 140 = .ok (.aload_n 0, 1) := by decide +kernel
theorem dX9_threshes_141 : decode cX9_threshes 141 = .ok (.getfield 248, 3) := by decide +kernel
theorem dX9_threshes_144 : decode cX9_threshes 144 = .ok (.putfield 251, 3) := by decide +kernel
theorem dX9_threshes_147 : decode cX9_threshes 147 = .ok (.return_, 1) := by decide +kernel
theorem dX9_oneDay_0 : decode cX9_oneDay 0 = .ok (.aload_n 0, 1) := by decide +kernel
theorem dX9_oneDay_1 : decode cX9_oneDay 1 = .ok (.getfield 260, 3) := by decide +kernel
theorem dX9_oneDay_4 : decode cX9_oneDay 4 = .ok (.ifCond .le 16, 3) := by decide +kernel
theorem dX9_oneDay_7 : decode cX9_oneDay 7 = .ok (.aload_n 0, 1) := by decide +kernel
theorem dX9_oneDay_8 : decode cX9_oneDay 8 = .ok (.dup, 1) := by decide +kernel
theorem dX9_oneDay_9 : decode cX9_oneDay 9 = .ok (.getfield 260, 3) := by decide +kernel
theorem dX9_oneDay_12 : decode cX9_oneDay 12 = .ok (.iconst 1, 1) := by decide +kernel
theorem dX9_oneDay_13 : decode cX9_oneDay 13 = .ok (.isub, 1) := by decide +kernel
theorem dX9_oneDay_14 : decode cX9_oneDay 14 = .ok (.putfield 260, 3) := by decide +kernel
theorem dX9_oneDay_17 : decode cX9_oneDay 17 = .ok (.goto 79, 3) := by decide +kernel
theorem dX9_oneDay_20 : decode cX9_oneDay 20 = .ok (.aload_n 0, 1) := by decide +kernel
theorem dX9_oneDay_21 : decode cX9_oneDay 21 = .ok (.getfield 221, 3) := by decide +kernel
theorem dX9_oneDay_24 : decode cX9_oneDay 24 = .ok (.ifCond .le 31, 3) := by decide +kernel
theorem dX9_oneDay_27 : decode cX9_oneDay 27 = .ok (.aload_n 0, 1) := by decide +kernel
theorem dX9_oneDay_28 : decode cX9_oneDay 28 = .ok (.dup, 1) := by decide +kernel
theorem dX9_oneDay_29 : decode cX9_oneDay 29 = .ok (.getfield 221, 3) := by decide +kernel
theorem dX9_oneDay_32 : decode cX9_oneDay 32 = .ok (.iconst 1, 1) := by decide +kernel
theorem dX9_oneDay_33 : decode cX9_oneDay 33 = .ok (.isub, 1) := by decide +kernel
theorem dX9_oneDay_34 : decode cX9_oneDay 34 = .ok (.putfield 221, 3) := by decide +kernel
theorem dX9_oneDay_37 : decode cX9_oneDay 37 = .ok (.aload_n 0, 1) := by decide +kernel
theorem dX9_oneDay_38 : decode cX9_oneDay 38 = .ok (.getfield 221, 3) := by decide +kernel
theorem dX9_oneDay_41 : decode cX9_oneDay 41 = .ok (.ifCond .ne 55, 3) := by decide +kernel
theorem dX9_oneDay_44 : decode cX9_oneDay 44 = .ok (.aload_n 0, 1) := by decide +kernel
theorem dX9_oneDay_45 : decode cX9_oneDay 45 = .ok (.aload_n 0, 1) := by decide +kernel
theorem dX9_oneDay_46 : decode cX9_oneDay 46 = .ok (.getfield 254, 3) := by decide +kernel
theorem dX9_oneDay_49 : decode cX9_oneDay 49 = .ok (.putfield 190, 3) := by decide +kernel
theorem dX9_oneDay_52 : decode cX9_oneDay 52 = .ok (.goto 44, 3) := by decide +kernel
theorem dX9_oneDay_55 : decode cX9_oneDay 55 = .ok (.aload_n 0, 1) := by decide +kernel
theorem dX9_oneDay_56 : decode cX9_oneDay 56 = .ok (.invokevirtual 263, 3) := by decide +kernel
theorem dX9_oneDay_59 : decode cX9_oneDay 59 = .ok (.ifCond .eq 37, 3) := by decide +kernel
theorem dX9_oneDay_62 : decode cX9_oneDay 62 = .ok (.aload_n 0, 1) := by decide +kernel
theorem dX9_oneDay_63 : decode cX9_oneDay 63 = .ok (.getfield 193, 3) := by decide +kernel
theorem dX9_oneDay_66 : decode cX9_oneDay 66 = .ok (.aload_n 0, 1) := by decide +kernel
theorem dX9_oneDay_67 : decode cX9_oneDay 67 = .ok (.getfield 44, 3) := by decide +kernel
theorem dX9_oneDay_70 : decode cX9_oneDay 70 = .ok (.aload_n 0, 1) := by decide +kernel
theorem dX9_oneDay_71 : decode cX9_oneDay 71 = .ok (.getfield 71, 3) := by decide +kernel
theorem dX9_oneDay_74 : decode cX9_oneDay 74 = .ok (.aload_n 0, 1) := by decide +kernel
theorem dX9_oneDay_75 : decode cX9_oneDay 75 = .ok (.getfield 251, 3) := by decide +kernel
theorem dX9_oneDay_78 : decode cX9_oneDay 78 = .ok (.iaload, 1) := by decide +kernel
theorem dX9_oneDay_79 : decode cX9_oneDay 79 = .ok (.iaload, 1) := by decide +kernel
theorem dX9_oneDay_80 : decode cX9_oneDay 80 = .ok (.if_icmp .lt 16, 3) := by decide +kernel
theorem dX9_oneDay_83 : decode cX9_oneDay 83 = .ok (.aload_n 0, 1) := by decide +kernel
theorem dX9_oneDay_84 : decode cX9_oneDay 84 = .ok (.aload_n 0, 1) := by decide +kernel
theorem dX9_oneDay_85 : decode cX9_oneDay 85 = .ok (.getfield 71, 3) := by decide +kernel
theorem dX9_oneDay_88 : decode cX9_oneDay 88 = .ok (.aload_n 0, 1) := by decide +kernel
theorem dX9_oneDay_89 : decode cX9_oneDay 89 = .ok (.getfield 251, 3) := by decide +kernel
theorem dX9_oneDay_92 : decode cX9_oneDay 92 = .ok (.iaload, 1) := by decide +kernel
theorem dX9_oneDay_93 : decode cX9_oneDay 93 = .ok (.invokevirtual 266, 3) := by decide +kernel
theorem dX9_oneDay_96 : decode cX9_oneDay 96 = .ok (.aload_n 0, 1) := by decide +kernel
theorem dX9_oneDay_97 : decode cX9_oneDay 97 = .ok (.dup, 1) := by decide +kernel
theorem dX9_oneDay_98 : decode cX9_oneDay 98 = .ok (.getfield 193, 3) := by decide +kernel
theorem dX9_oneDay_101 : decode cX9_oneDay 101 = .ok (.iconst 1, 1) := by decide +kernel
theorem dX9_oneDay_102 : decode cX9_oneDay 102 = .ok (.iadd, 1) := by decide +kernel
theorem dX9_oneDay_103 : decode cX9_oneDay 103 = .ok (.putfield 193, 3) := by decide +kernel
theorem dX9_oneDay_106 : decode cX9_oneDay 106 = .ok (.return_, 1) := by decide +kernel
theorem dX9_day_0 : decode cX9_day 0 = .ok (.aload_n 0, 1) := by decide +kernel
theorem dX9_day_1 : decode cX9_day 1 = .ok (.iconst 0, 1) := by decide +kernel
theorem dX9_day_2 : decode cX9_day 2 = .ok (.putfield 95, 3) := by decide +kernel
theorem dX9_day_5 : decode cX9_day 5 = .ok (.iload_n 1, 1) := by decide +kernel
theorem dX9_day_6 : decode cX9_day 6 = .ok (.iconst 1, 1) := by decide +kernel
theorem dX9_day_7 : decode cX9_day 7 = .ok (.if_icmp .lt 21, 3) := by decide +kernel
theorem dX9_day_10 : decode cX9_day 10 = .ok (.iload_n 1, 1) := by decide +kernel
theorem dX9_day_11 : decode cX9_day 11 = .ok (.bipush 99, 2) := by decide +kernel
theorem dX9_day_13 : decode cX9_day 13 = .ok (.if_icmp .gt 15, 3) := by decide +kernel
theorem dX9_day_16 : decode cX9_day 16 = .ok (.aload_n 0, 1) := by decide +kernel
theorem dX9_day_17 : decode cX9_day 17 = .ok (.getfield 193, 3) := by decide +kernel
theorem dX9_day_20 : decode cX9_day 20 = .ok (.iload_n 1, 1) := by decide +kernel
theorem dX9_day_21 : decode cX9_day 21 = .ok (.iadd, 1) := by decide +kernel
theorem dX9_day_22 : decode cX9_day 22 = .ok (.sipush 999, 3) := by decide +kernel
theorem dX9_day_25 : decode cX9_day 25 = .ok (.if_icmp .le 5, 3) := by decide +kernel
theorem dX9_day_28 : decode cX9_day 28 = .ok (.iconst (-1), 1) := by decide +kernel
theorem dX9_day_29 : decode cX9_day 29 = .ok (.ireturn, 1) := by decide +kernel
theorem dX9_day_30 : decode cX9_day 30 = .ok (.iconst 0, 1) := by decide +kernel
theorem dX9_day_31 : decode cX9_day 31 = .ok (.istore_n 2, 1) := by decide +kernel
theorem dX9_day_32 : decode cX9_day 32 = .ok (.iload_n 2, 1) := by decide +kernel
theorem dX9_day_33 : decode cX9_day 33 = .ok (.iload_n 1, 1) := by decide +kernel
theorem dX9_day_34 : decode cX9_day 34 = .ok (.if_icmp .ge 13, 3) := by decide +kernel
theorem dX9_day_37 : decode cX9_day 37 = .ok (.aload_n 0, 1) := by decide +kernel
theorem dX9_day_38 : decode cX9_day 38 = .ok (.invokevirtual 269, 3) := by decide +kernel
theorem dX9_day_41 : decode cX9_day 41 = .ok (.iinc 2 1, 3) := by decide +kernel
theorem dX9_day_44 : decode cX9_day 44 = .ok (.goto (-12), 3) := by decide +kernel
theorem dX9_day_47 : decode cX9_day 47 = .ok (.aload_n 0, 1) := by decide +kernel
theorem dX9_day_48 : decode cX9_day 48 = .ok (.getfield 193, 3) := by decide +kernel
theorem dX9_day_51 : decode cX9_day 51 = .ok (.ireturn, 1) := by decide +kernel
theorem dX9_sacksOf_0 : decode cX9_sacksOf 0 = .ok (.aload_n 0, 1) := by decide +kernel
theorem dX9_sacksOf_1 : decode cX9_sacksOf 1 = .ok (.getfield 29, 3) := by decide +kernel
theorem dX9_sacksOf_4 : decode cX9_sacksOf 4 = .ok (.iload_n 1, 1) := by decide +kernel
theorem dX9_sacksOf_5 : decode cX9_sacksOf 5 = .ok (.iaload, 1) := by decide +kernel
theorem dX9_sacksOf_6 : decode cX9_sacksOf 6 = .ok (.aload_n 0, 1) := by decide +kernel
theorem dX9_sacksOf_7 : decode cX9_sacksOf 7 = .ok (.getfield 32, 3) := by decide +kernel
theorem dX9_sacksOf_10 : decode cX9_sacksOf 10 = .ok (.iload_n 1, 1) := by decide +kernel
theorem dX9_sacksOf_11 : decode cX9_sacksOf 11 = .ok (.iaload, 1) := by decide +kernel
theorem dX9_sacksOf_12 : decode cX9_sacksOf 12 = .ok (.isub, 1) := by decide +kernel
theorem dX9_sacksOf_13 : decode cX9_sacksOf 13 = .ok (.bipush 100, 2) := by decide +kernel
theorem dX9_sacksOf_15 : decode cX9_sacksOf 15 = .ok (.aload_n 0, 1) := by decide +kernel
theorem dX9_sacksOf_16 : decode cX9_sacksOf 16 = .ok (.getfield 13, 3) := by decide +kernel
theorem dX9_sacksOf_19 : decode cX9_sacksOf 19 = .ok (.iconst 5, 1) := by decide +kernel
theorem dX9_sacksOf_20 : decode cX9_sacksOf 20 = .ok (.iaload, 1) := by decide +kernel
theorem dX9_sacksOf_21 : decode cX9_sacksOf 21 = .ok (.aload_n 0, 1) := by decide +kernel
theorem dX9_sacksOf_22 : decode cX9_sacksOf 22 = .ok (.getfield 35, 3) := by decide +kernel
theorem dX9_sacksOf_25 : decode cX9_sacksOf 25 = .ok (.iload_n 1, 1) := by decide +kernel
theorem dX9_sacksOf_26 : decode cX9_sacksOf 26 = .ok (.iaload, 1) := by decide +kernel
theorem dX9_sacksOf_27 : decode cX9_sacksOf 27 = .ok (.imul, 1) := by decide +kernel
theorem dX9_sacksOf_28 : decode cX9_sacksOf 28 = .ok (.isub, 1) := by decide +kernel
theorem dX9_sacksOf_29 : decode cX9_sacksOf 29 = .ok (.imul, 1) := by decide +kernel
theorem dX9_sacksOf_30 : decode cX9_sacksOf 30 = .ok (.bipush 100, 2) := by decide +kernel
theorem dX9_sacksOf_32 : decode cX9_sacksOf 32 = .ok (.aload_n 0, 1) := by decide +kernel
theorem dX9_sacksOf_33 : decode cX9_sacksOf 33 = .ok (.getfield 13, 3) := by decide +kernel
theorem dX9_sacksOf_36 : decode cX9_sacksOf 36 = .ok (.iconst 2, 1) := by decide +kernel
theorem dX9_sacksOf_37 : decode cX9_sacksOf 37 = .ok (.iaload, 1) := by decide +kernel
theorem dX9_sacksOf_38 : decode cX9_sacksOf 38 = .ok (.imul, 1) := by decide +kernel
theorem dX9_sacksOf_39 : decode cX9_sacksOf 39 = .ok (.idiv, 1) := by decide +kernel
theorem dX9_sacksOf_40 : decode cX9_sacksOf 40 = .ok (.ireturn, 1) := by decide +kernel
theorem dX9_look_0 : decode cX9_look 0 = .ok (.aload_n 0, 1) := by decide +kernel
theorem dX9_look_1 : decode cX9_look 1 = .ok (.iconst 0, 1) := by decide +kernel
theorem dX9_look_2 : decode cX9_look 2 = .ok (.putfield 95, 3) := by decide +kernel
theorem dX9_look_5 : decode cX9_look 5 = .ok (.aload_n 0, 1) := by decide +kernel
theorem dX9_look_6 : decode cX9_look 6 = .ok (.iload_n 1, 1) := by decide +kernel
theorem dX9_look_7 : decode cX9_look 7 = .ok (.invokevirtual 172, 3) := by decide +kernel
theorem dX9_look_10 : decode cX9_look 10 = .ok (.ifCond .ne 5, 3) := by decide +kernel
theorem dX9_look_13 : decode cX9_look 13 = .ok (.iconst (-1), 1) := by decide +kernel
theorem dX9_look_14 : decode cX9_look 14 = .ok (.ireturn, 1) := by decide +kernel
theorem dX9_look_15 : decode cX9_look 15 = .ok (.iload_n 2, 1) := by decide +kernel
theorem dX9_look_16 : decode cX9_look 16 = .ok (.tableswitch 150 0 7 #[48, 55, 61, 68, 75, 106, 116, 122], 48) := by decide +kernel
theorem dX9_look_64 : decode cX9_look 64 = .ok (.aload_n 0, 1) := by decide +kernel
theorem dX9_look_65 : decode cX9_look 65 = .ok (.getfield 32, 3) := by decide +kernel
theorem dX9_look_68 : decode cX9_look 68 = .ok (.iload_n 1, 1) := by decide +kernel
theorem dX9_look_69 : decode cX9_look 69 = .ok (.iaload, 1) := by decide +kernel
theorem dX9_look_70 : decode cX9_look 70 = .ok (.ireturn, 1) := by decide +kernel
theorem dX9_look_71 : decode cX9_look 71 = .ok (.aload_n 0, 1) := by decide +kernel
theorem dX9_look_72 : decode cX9_look 72 = .ok (.iload_n 1, 1) := by decide +kernel
theorem dX9_look_73 : decode cX9_look 73 = .ok (.invokevirtual 272, 3) := by decide +kernel
theorem dX9_look_76 : decode cX9_look 76 = .ok (.ireturn, 1) := by decide +kernel
theorem dX9_look_77 : decode cX9_look 77 = .ok (.aload_n 0, 1) := by decide +kernel
theorem dX9_look_78 : decode cX9_look 78 = .ok (.getfield 50, 3) := by decide +kernel
theorem dX9_look_81 : decode cX9_look 81 = .ok (.iload_n 1, 1) := by decide +kernel
theorem dX9_look_82 : decode cX9_look 82 = .ok (.iaload, 1) := by decide +kernel
theorem dX9_look_83 : decode cX9_look 83 = .ok (.ireturn, 1) := by decide +kernel
theorem dX9_look_84 : decode cX9_look 84 = .ok (.aload_n 0, 1) := by decide +kernel
theorem dX9_look_85 : decode cX9_look 85 = .ok (.getfield 53, 3) := by decide +kernel
theorem dX9_look_88 : decode cX9_look 88 = .ok (.iload_n 1, 1) := by decide +kernel
theorem dX9_look_89 : decode cX9_look 89 = .ok (.iaload, 1) := by decide +kernel
theorem dX9_look_90 : decode cX9_look 90 = .ok (.ireturn, 1) := by decide +kernel
theorem dX9_look_91 : decode cX9_look 91 = .ok (.aload_n 0, 1) := by decide +kernel
theorem dX9_look_92 : decode cX9_look 92 = .ok (.getfield 59, 3) := by decide +kernel
theorem dX9_look_95 : decode cX9_look 95 = .ok (.iload_n 1, 1) := by decide +kernel
theorem dX9_look_96 : decode cX9_look 96 = .ok (.iaload, 1) := by decide +kernel
theorem dX9_look_97 : decode cX9_look 97 = .ok (.aload_n 0, 1) := by decide +kernel
theorem dX9_look_98 : decode cX9_look 98 = .ok (.getfield 56, 3) := by decide +kernel
theorem dX9_look_101 : decode cX9_look 101 = .ok (.iload_n 1, 1) := by decide +kernel
theorem dX9_look_102 : decode cX9_look 102 = .ok (.iaload, 1) := by decide +kernel
theorem dX9_look_103 : decode cX9_look 103 = .ok (.ifCond .ne 12, 3) := by decide +kernel
theorem dX9_look_106 : decode cX9_look 106 = .ok (.aload_n 0, 1) := by decide +kernel
theorem dX9_look_107 : decode cX9_look 107 = .ok (.getfield 50, 3) := by decide +kernel
theorem dX9_look_110 : decode cX9_look 110 = .ok (.iload_n 1, 1) := by decide +kernel
theorem dX9_look_111 : decode cX9_look 111 = .ok (.iaload, 1) := by decide +kernel
theorem dX9_look_112 : decode cX9_look 112 = .ok (.goto 8, 3) := by decide +kernel
theorem dX9_look_115 : decode cX9_look 115 = .ok (.aload_n 0, 1) := by decide +kernel
theorem dX9_look_116 : decode cX9_look 116 = .ok (.iload_n 1, 1) := by decide +kernel
theorem dX9_look_117 : decode cX9_look 117 = .ok (.invokevirtual 272, 3) := by decide +kernel
theorem dX9_look_120 : decode cX9_look 120 = .ok (.imul, 1) := by decide +kernel
theorem dX9_look_121 : decode cX9_look 121 = .ok (.ireturn, 1) := by decide +kernel
theorem dX9_look_122 : decode cX9_look 122 = .ok (.aload_n 0, 1) := by decide +kernel
theorem dX9_look_123 : decode cX9_look 123 = .ok (.iload_n 1, 1) := by decide +kernel
theorem dX9_look_124 : decode cX9_look 124 = .ok (.invokevirtual 184, 3) := by decide +kernel
theorem dX9_look_127 : decode cX9_look 127 = .ok (.aload_n 0, 1) := by decide +kernel
theorem dX9_look_128 : decode cX9_look 128 = .ok (.getfield 181, 3) := by decide +kernel
theorem dX9_look_131 : decode cX9_look 131 = .ok (.ireturn, 1) := by decide +kernel
theorem dX9_look_132 : decode cX9_look 132 = .ok (.aload_n 0, 1) := by decide +kernel
theorem dX9_look_133 : decode cX9_look 133 = .ok (.iload_n 1, 1) := by decide +kernel
theorem dX9_look_134 : decode cX9_look 134 = .ok (.invokevirtual 224, 3) := by decide +kernel
theorem dX9_look_137 : decode cX9_look 137 = .ok (.ireturn, 1) := by decide +kernel
theorem dX9_look_138 : decode cX9_look 138 = .ok (.aload_n 0, 1) := by decide +kernel
theorem dX9_look_139 : decode cX9_look 139 = .ok (.getfield 53, 3) := by decide +kernel
theorem dX9_look_142 : decode cX9_look 142 = .ok (.iload_n 1, 1) := by decide +kernel
theorem dX9_look_143 : decode cX9_look 143 = .ok (.iaload, 1) := by decide +kernel
theorem dX9_look_144 : decode cX9_look 144 = .ok (.iconst (-1), 1) := by decide +kernel
theorem dX9_look_145 : decode cX9_look 145 = .ok (.if_icmp .ne 7, 3) := by decide +kernel
theorem dX9_look_148 : decode cX9_look 148 = .ok (.iconst 0, 1) := by decide +kernel
theorem dX9_look_149 : decode cX9_look 149 = .ok (.goto 16, 3) := by decide +kernel
theorem dX9_look_152 : decode cX9_look 152 = .ok (.aload_n 0, 1) := by decide +kernel
theorem dX9_look_153 : decode cX9_look 153 = .ok (.aload_n 0, 1) := by decide +kernel
theorem dX9_look_154 : decode cX9_look 154 = .ok (.getfield 53, 3) := by decide +kernel
theorem dX9_look_157 : decode cX9_look 157 = .ok (.iload_n 1, 1) := by decide +kernel
theorem dX9_look_158 : decode cX9_look 158 = .ok (.iaload, 1) := by decide +kernel
theorem dX9_look_159 : decode cX9_look 159 = .ok (.iconst 1, 1) := by decide +kernel
theorem dX9_look_160 : decode cX9_look 160 = .ok (.iadd, 1) := by decide +kernel
theorem dX9_look_161 : decode cX9_look 161 = .ok (.iload_n 1, 1) := by decide +kernel
theorem dX9_look_162 : decode cX9_look 162 = .ok (.invokevirtual 202, 3) := by decide +kernel
theorem dX9_look_165 : decode cX9_look 165 = .ok (.ireturn, 1) := by decide +kernel
theorem dX9_look_166 : decode cX9_look 166 = .ok (.iconst (-1), 1) := by decide +kernel
theorem dX9_look_167 : decode cX9_look 167 = .ok (.ireturn, 1) := by decide +kernel
theorem dX9_owed_0 : decode cX9_owed 0 = .ok (.aload_n 0, 1) := by decide +kernel
theorem dX9_owed_1 : decode cX9_owed 1 = .ok (.iconst 0, 1) := by decide +kernel
theorem dX9_owed_2 : decode cX9_owed 2 = .ok (.putfield 95, 3) := by decide +kernel
theorem dX9_owed_5 : decode cX9_owed 5 = .ok (.aload_n 0, 1) := by decide +kernel
theorem dX9_owed_6 : decode cX9_owed 6 = .ok (.iload_n 1, 1) := by decide +kernel
theorem dX9_owed_7 : decode cX9_owed 7 = .ok (.invokevirtual 172, 3) := by decide +kernel
theorem dX9_owed_10 : decode cX9_owed 10 = .ok (.ifCond .eq 16, 3) := by decide +kernel
theorem dX9_owed_13 : decode cX9_owed 13 = .ok (.aload_n 0, 1) := by decide +kernel
theorem dX9_owed_14 : decode cX9_owed 14 = .ok (.iload_n 2, 1) := by decide +kernel
theorem dX9_owed_15 : decode cX9_owed 15 = .ok (.invokevirtual 172, 3) := by decide +kernel
theorem dX9_owed_18 : decode cX9_owed 18 = .ok (.ifCond .eq 8, 3) := by decide +kernel
theorem dX9_owed_21 : decode cX9_owed 21 = .ok (.iload_n 1, 1) := by decide +kernel
theorem dX9_owed_22 : decode cX9_owed 22 = .ok (.iload_n 2, 1) := by decide +kernel
theorem dX9_owed_23 : decode cX9_owed 23 = .ok (.if_icmp .ne 9, 3) := by decide +kernel
theorem dX9_owed_26 : decode cX9_owed 26 = .ok (.ldc_w 277, 3) := by decide +kernel
theorem dX9_owed_29 : decode cX9_owed 29 = .ok (.goto 14, 3) := by decide +kernel
theorem dX9_owed_32 : decode cX9_owed 32 = .ok (.aload_n 0, 1) := by decide +kernel
theorem dX9_owed_33 : decode cX9_owed 33 = .ok (.getfield 65, 3) := by decide +kernel
theorem dX9_owed_36 : decode cX9_owed 36 = .ok (.bipush 8, 2) := by decide +kernel
theorem dX9_owed_38 : decode cX9_owed 38 = .ok (.iload_n 1, 1) := by decide +kernel
theorem dX9_owed_39 : decode cX9_owed 39 = .ok (.imul, 1) := by decide +kernel
theorem dX9_owed_40 : decode cX9_owed 40 = .ok (.iload_n 2, 1) := by decide +kernel
theorem dX9_owed_41 : decode cX9_owed 41 = .ok (.iadd, 1) := by decide +kernel
theorem dX9_owed_42 : decode cX9_owed 42 = .ok (.iaload, 1) := by decide +kernel
theorem dX9_owed_43 : decode cX9_owed 43 = .ok (.ireturn, 1) := by decide +kernel
theorem dX9_lent_0 : decode cX9_lent 0 = .ok (.aload_n 0, 1) := by decide +kernel
theorem dX9_lent_1 : decode cX9_lent 1 = .ok (.iconst 0, 1) := by decide +kernel
theorem dX9_lent_2 : decode cX9_lent 2 = .ok (.putfield 95, 3) := by decide +kernel
theorem dX9_lent_5 : decode cX9_lent 5 = .ok (.aload_n 0, 1) := by decide +kernel
theorem dX9_lent_6 : decode cX9_lent 6 = .ok (.iload_n 1, 1) := by decide +kernel
theorem dX9_lent_7 : decode cX9_lent 7 = .ok (.invokevirtual 172, 3) := by decide +kernel
theorem dX9_lent_10 : decode cX9_lent 10 = .ok (.ifCond .eq 16, 3) := by decide +kernel
theorem dX9_lent_13 : decode cX9_lent 13 = .ok (.aload_n 0, 1) := by decide +kernel
theorem dX9_lent_14 : decode cX9_lent 14 = .ok (.iload_n 2, 1) := by decide +kernel
theorem dX9_lent_15 : decode cX9_lent 15 = .ok (.invokevirtual 172, 3) := by decide +kernel
theorem dX9_lent_18 : decode cX9_lent 18 = .ok (.ifCond .eq 8, 3) := by decide +kernel
theorem dX9_lent_21 : decode cX9_lent 21 = .ok (.iload_n 1, 1) := by decide +kernel
theorem dX9_lent_22 : decode cX9_lent 22 = .ok (.iload_n 2, 1) := by decide +kernel
theorem dX9_lent_23 : decode cX9_lent 23 = .ok (.if_icmp .ne 5, 3) := by decide +kernel
theorem dX9_lent_26 : decode cX9_lent 26 = .ok (.iconst (-1), 1) := by decide +kernel
theorem dX9_lent_27 : decode cX9_lent 27 = .ok (.ireturn, 1) := by decide +kernel
theorem dX9_lent_28 : decode cX9_lent 28 = .ok (.aload_n 0, 1) := by decide +kernel
theorem dX9_lent_29 : decode cX9_lent 29 = .ok (.iload_n 1, 1) := by decide +kernel
theorem dX9_lent_30 : decode cX9_lent 30 = .ok (.invokevirtual 184, 3) := by decide +kernel
theorem dX9_lent_33 : decode cX9_lent 33 = .ok (.aload_n 0, 1) := by decide +kernel
theorem dX9_lent_34 : decode cX9_lent 34 = .ok (.getfield 68, 3) := by decide +kernel
theorem dX9_lent_37 : decode cX9_lent 37 = .ok (.iload_n 2, 1) := by decide +kernel
theorem dX9_lent_38 : decode cX9_lent 38 = .ok (.iaload, 1) := by decide +kernel
theorem dX9_lent_39 : decode cX9_lent 39 = .ok (.ireturn, 1) := by decide +kernel
theorem dX9_count_0 : decode cX9_count 0 = .ok (.aload_n 0, 1) := by decide +kernel
theorem dX9_count_1 : decode cX9_count 1 = .ok (.iconst 0, 1) := by decide +kernel
theorem dX9_count_2 : decode cX9_count 2 = .ok (.putfield 95, 3) := by decide +kernel
theorem dX9_count_5 : decode cX9_count 5 = .ok (.iconst 0, 1) := by decide +kernel
theorem dX9_count_6 : decode cX9_count 6 = .ok (.istore_n 2, 1) := by decide +kernel
theorem dX9_count_7 : decode cX9_count 7 = .ok (.iconst 1, 1) := by decide +kernel
theorem dX9_count_8 : decode cX9_count 8 = .ok (.istore_n 3, 1) := by decide +kernel
theorem dX9_count_9 : decode cX9_count 9 = .ok (.iload_n 3, 1) := by decide +kernel
theorem dX9_count_10 : decode cX9_count 10 = .ok (.aload_n 0, 1) := by decide +kernel
theorem dX9_count_11 : decode cX9_count 11 = .ok (.getfield 166, 3) := by decide +kernel
theorem dX9_count_14 : decode cX9_count 14 = .ok (.if_icmp .gt 25, 3) := by decide +kernel
theorem dX9_count_17 : decode cX9_count 17 = .ok (.iload_n 2, 1) := by decide +kernel
theorem dX9_count_18 : decode cX9_count 18 = .ok (.aload_n 0, 1) := by decide +kernel
theorem dX9_count_19 : decode cX9_count 19 = .ok (.iload_n 3, 1) := by decide +kernel
theorem dX9_count_20 : decode cX9_count 20 = .ok (.invokevirtual 215, 3) := by decide +kernel
theorem dX9_count_23 : decode cX9_count 23 = .ok (.ifCond .eq 7, 3) := by decide +kernel
theorem dX9_count_26 : decode cX9_count 26 = .ok (.iconst 1, 1) := by decide +kernel
theorem dX9_count_27 : decode cX9_count 27 = .ok (.goto 4, 3) := by decide +kernel
theorem dX9_count_30 : decode cX9_count 30 = .ok (.iconst 0, 1) := by decide +kernel
theorem dX9_count_31 : decode cX9_count 31 = .ok (.iadd, 1) := by decide +kernel
theorem dX9_count_32 : decode cX9_count 32 = .ok (.istore_n 2, 1) := by decide +kernel
theorem dX9_count_33 : decode cX9_count 33 = .ok (.iinc 3 1, 3) := by decide +kernel
theorem dX9_count_36 : decode cX9_count 36 = .ok (.goto (-27), 3) := by decide +kernel
theorem dX9_count_39 : decode cX9_count 39 = .ok (.iload_n 1, 1) := by decide +kernel
theorem dX9_count_40 : decode cX9_count 40 = .ok (.tableswitch 134 0 6 #[44, 49, 68, 73, 78, 83, 85], 44) := by decide +kernel
theorem dX9_count_84 : decode cX9_count 84 = .ok (.aload_n 0, 1) := by decide +kernel
theorem dX9_count_85 : decode cX9_count 85 = .ok (.getfield 193, 3) := by decide +kernel
theorem dX9_count_88 : decode cX9_count 88 = .ok (.ireturn, 1) := by decide +kernel
theorem dX9_count_89 : decode cX9_count 89 = .ok (.aload_n 0, 1) := by decide +kernel
theorem dX9_count_90 : decode cX9_count 90 = .ok (.getfield 221, 3) := by decide +kernel
theorem dX9_count_93 : decode cX9_count 93 = .ok (.ifCond .le 10, 3) := by decide +kernel
theorem dX9_count_96 : decode cX9_count 96 = .ok (.aload_n 0, 1) := by decide +kernel
theorem dX9_count_97 : decode cX9_count 97 = .ok (.getfield 254, 3) := by decide +kernel
theorem dX9_count_100 : decode cX9_count 100 = .ok (.goto 7, 3) := by decide +kernel
theorem dX9_count_103 : decode cX9_count 103 = .ok (.aload_n 0, 1) := by decide +kernel
theorem dX9_count_104 : decode cX9_count 104 = .ok (.getfield 190, 3) := by decide +kernel
theorem dX9_count_107 : decode cX9_count 107 = .ok (.ireturn, 1) := by decide +kernel
theorem dX9_count_108 : decode cX9_count 108 = .ok (.aload_n 0, 1) := by decide +kernel
theorem dX9_count_109 : decode cX9_count 109 = .ok (.getfield 221, 3) := by decide +kernel
theorem dX9_count_112 : decode cX9_count 112 = .ok (.ireturn, 1) := by decide +kernel
theorem dX9_count_113 : decode cX9_count 113 = .ok (.aload_n 0, 1) := by decide +kernel
theorem dX9_count_114 : decode cX9_count 114 = .ok (.getfield 260, 3) := by decide +kernel
theorem dX9_count_117 : decode cX9_count 117 = .ok (.ireturn, 1) := by decide +kernel
theorem dX9_count_118 : decode cX9_count 118 = .ok (.aload_n 0, 1) := by decide +kernel
theorem dX9_count_119 : decode cX9_count 119 = .ok (.getfield 166, 3) := by decide +kernel
theorem dX9_count_122 : decode cX9_count 122 = .ok (.ireturn, 1) := by decide +kernel
theorem dX9_count_123 : decode cX9_count 123 = .ok (.iload_n 2, 1) := by decide +kernel
theorem dX9_count_124 : decode cX9_count 124 = .ok (.ireturn, 1) := by decide +kernel
theorem dX9_count_125 : decode cX9_count 125 = .ok (.aload_n 0, 1) := by decide +kernel
theorem dX9_count_126 : decode cX9_count 126 = .ok (.getfield 221, 3) := by decide +kernel
theorem dX9_count_129 : decode cX9_count 129 = .ok (.ifCond .le 7, 3) := by decide +kernel
theorem dX9_count_132 : decode cX9_count 132 = .ok (.iconst 1, 1) := by decide +kernel
theorem dX9_count_133 : decode cX9_count 133 = .ok (.goto 40, 3) := by decide +kernel
theorem dX9_count_136 : decode cX9_count 136 = .ok (.aload_n 0, 1) := by decide +kernel
theorem dX9_count_137 : decode cX9_count 137 = .ok (.invokevirtual 263, 3) := by decide +kernel
theorem dX9_count_140 : decode cX9_count 140 = .ok (.ifCond .ne 7, 3) := by decide +kernel
theorem dX9_count_143 : decode cX9_count 143 = .ok (.iconst 0, 1) := by decide +kernel
theorem dX9_count_144 : decode cX9_count 144 = .ok (.goto 29, 3) := by decide +kernel
theorem dX9_count_147 : decode cX9_count 147 = .ok (.aload_n 0, 1) := by decide +kernel
theorem dX9_count_148 : decode cX9_count 148 = .ok (.getfield 193, 3) := by decide +kernel
theorem dX9_count_151 : decode cX9_count 151 = .ok (.aload_n 0, 1) := by decide +kernel
theorem dX9_count_152 : decode cX9_count 152 = .ok (.getfield 44, 3) := by decide +kernel
theorem dX9_count_155 : decode cX9_count 155 = .ok (.aload_n 0, 1) := by decide +kernel
theorem dX9_count_156 : decode cX9_count 156 = .ok (.getfield 71, 3) := by decide +kernel
theorem dX9_count_159 : decode cX9_count 159 = .ok (.aload_n 0, 1) := by decide +kernel
theorem dX9_count_160 : decode cX9_count 160 = .ok (.getfield 251, 3) := by decide +kernel
theorem dX9_count_163 : decode cX9_count 163 = .ok (.iaload, 1) := by decide +kernel
theorem dX9_count_164 : decode cX9_count 164 = .ok (.iaload, 1) := by decide +kernel
theorem dX9_count_165 : decode cX9_count 165 = .ok (.if_icmp .ge 7, 3) := by decide +kernel
theorem dX9_count_168 : decode cX9_count 168 = .ok (.iconst 2, 1) := by decide +kernel
theorem dX9_count_169 : decode cX9_count 169 = .ok (.goto 4, 3) := by decide +kernel
theorem dX9_count_172 : decode cX9_count 172 = .ok (.iconst 3, 1) := by decide +kernel
theorem dX9_count_173 : decode cX9_count 173 = .ok (.ireturn, 1) := by decide +kernel
theorem dX9_count_174 : decode cX9_count 174 = .ok (.iconst (-1), 1) := by decide +kernel
theorem dX9_count_175 : decode cX9_count 175 = .ok (.ireturn, 1) := by decide +kernel
end
section
section
/-- values of the small machine: an int, or a place in the layout (none: null) -/
abbrev vx_v : Type := Int32 ⊕ Option Nat
abbrev vx_mem : Type := Nat → Nat → Int32
/-- a cell's kind: an object of class number ci, its fields (none: an int, some r: a reference); an array of type t, n places, of references where a list lies -/
abbrev vx_k : Type := (Nat × List (Option (Option Nat))) ⊕ (Nat × Nat × Option (List Nat))
abbrev vx_L : Type := Nat → vx_k
abbrev vx_i (x : Int32) : vx_v := Sum.inl x
abbrev vx_r (k : Nat) : vx_v := Sum.inr (some k)
def vx_V (ad : Nat → Nat) : vx_v → Value
  | .inl x => .int x
  | .inr r => va_rf (r.map ad)
theorem vx_V_cat (ad : Nat → Nat) (v : vx_v) : (vx_V ad v).category = 1 := by
  cases v with
  | inl x => rfl
  | inr r => cases r <;> rfl
def vx_fl (ad : Nat → Nat) (f : Nat → Int32) (j : Nat) : Option (Option Nat) → Value
  | none => .int (f j)
  | some r => va_rf (r.map ad)
def vx_fs (ad : Nat → Nat) (fr : List (Option (Option Nat))) (f : Nat → Int32) : List Value := (List.range fr.length).map (fun j => vx_fl ad f j (fr.getD j none))
theorem vx_fs_len (ad : Nat → Nat) (fr : List (Option (Option Nat))) (f : Nat → Int32) : (vx_fs ad fr f).length = fr.length := by simp [vx_fs]
theorem vx_fs_at {ad : Nat → Nat} {fr : List (Option (Option Nat))} {f : Nat → Int32} {j : Nat} {o : Option (Option Nat)} (h : fr[j]? = some o) : (vx_fs ad fr f)[j]? = some (vx_fl ad f j o) := by
  have hj : j < fr.length := (List.getElem?_eq_some_iff.mp h).1
  unfold vx_fs
  rw [List.getElem?_map, List.getElem?_range hj]
  simp [List.getD_eq_getElem?_getD, h]
theorem vx_fs_set {ad : Nat → Nat} {fr : List (Option (Option Nat))} {f : Nat → Int32} {j : Nat} {x : Int32} (h : fr[j]? = some none) : (vx_fs ad fr f).set j (.int x) = vx_fs ad fr (upd f j x) := by
  have hj : j < fr.length := (List.getElem?_eq_some_iff.mp h).1
  apply List.ext_getElem?
  intro i
  by_cases hi : i < fr.length
  · obtain ⟨o, ho⟩ : ∃ o, fr[i]? = some o := ⟨fr[i], by simp [hi]⟩
    rw [vx_fs_at (f := upd f j x) ho]
    by_cases e : i = j
    · subst e
      rw [List.getElem?_set_self (by rw [vx_fs_len]; exact hi)]
      rw [h] at ho
      cases ho
      simp [vx_fl, upd]
    · rw [List.getElem?_set_ne (Ne.symm e), vx_fs_at ho]
      cases o <;> simp [vx_fl, upd, e]
  · rw [List.getElem?_eq_none (by simp [vx_fs_len]; omega), List.getElem?_eq_none (by simp [vx_fs_len]; omega)]
theorem vx_fs_setr {ad : Nat → Nat} {fr : List (Option (Option Nat))} {f : Nat → Int32} {j : Nat} {r : Option Nat} (hj : j < fr.length) : (vx_fs ad fr f).set j (va_rf (r.map ad)) = vx_fs ad (fr.set j (some r)) f := by
  apply List.ext_getElem?
  intro i
  by_cases hi : i < fr.length
  · obtain ⟨o, ho⟩ : ∃ o, fr[i]? = some o := ⟨fr[i], by simp [hi]⟩
    by_cases e : i = j
    · subst e
      rw [List.getElem?_set_self (by rw [vx_fs_len]; exact hi), vx_fs_at (o := some r) (by simp [hi])]
      rfl
    · rw [List.getElem?_set_ne (Ne.symm e), vx_fs_at ho, vx_fs_at (o := o) (by rw [List.getElem?_set_ne (Ne.symm e)]; exact ho)]
  · rw [List.getElem?_eq_none (by simp [vx_fs_len]; omega), List.getElem?_eq_none (by simp [vx_fs_len]; omega)]
def vx_E (dA : Nat → ClassId) (ad : Nat → Nat) (κ : vx_k) (f : Nat → Int32) : va_E := match κ with
  | .inl q => .inr (q.1, vx_fs ad q.2 f)
  | .inr (t, n, none) => .inl (dA t, n, .inl f)
  | .inr (t, n, some g) => .inl (dA t, n, .inr (.inr (.inr (.inr (fun i => (g[i]?).map ad)))))
def vx_W (dA : Nat → ClassId) (ad : Nat → Nat) (N : Nat) (Λ : vx_L) (μ : vx_mem) : va_W := (List.range N).map (fun k => (ad k, vx_E dA ad (Λ k) (μ k)))
def vx_T (dA : Nat → ClassId) : List (ClassId × FieldType) := [(dA 0, .int), (dA 1, .boolean), (dA 2, .array .int)]
theorem vx_W_len (dA : Nat → ClassId) (ad : Nat → Nat) (N : Nat) (Λ : vx_L) (μ : vx_mem) : (vx_W dA ad N Λ μ).length = N := by simp [vx_W]
theorem vx_W_at {dA : Nat → ClassId} {ad : Nat → Nat} {N : Nat} {Λ : vx_L} {μ : vx_mem} {k : Nat} (h : k < N) : (vx_W dA ad N Λ μ)[k]? = some (ad k, vx_E dA ad (Λ k) (μ k)) := by
  unfold vx_W
  rw [List.getElem?_map, List.getElem?_range h]
  rfl
theorem vx_W_set {dA : Nat → ClassId} {ad : Nat → Nat} {N : Nat} {Λ : vx_L} {μ : vx_mem} {k : Nat} {κ : vx_k} {f : Nat → Int32} (h : k < N) : (vx_W dA ad N Λ μ).set k (ad k, vx_E dA ad κ f) = vx_W dA ad N (va_up Λ k κ) (va_up μ k f) := by
  apply List.ext_getElem?
  intro i
  by_cases hi : i < N
  · rw [vx_W_at hi]
    by_cases e : i = k
    · subst e
      rw [List.getElem?_set_self (by rw [vx_W_len]; exact hi)]
      simp [va_up]
    · rw [List.getElem?_set_ne (Ne.symm e), vx_W_at hi]
      simp [va_up, e]
  · rw [List.getElem?_eq_none (by simp [vx_W_len]; omega), List.getElem?_eq_none (by simp [vx_W_len]; omega)]
theorem vx_up_id {α : Type} (f : Nat → α) (k : Nat) : va_up f k (f k) = f := by
  funext j
  unfold va_up
  split
  · rename_i h; rw [h]
  · rfl
/-- a kind that doesn't name the place M -/
def vx_ok (M : Nat) : vx_k → Bool
  | .inl q => q.2.all (fun o => match o with | some (some r) => r != M | _ => true)
  | .inr (_, _, none) => true
  | .inr (_, _, some l) => l.all (fun r => r != M)
theorem vx_E_up {dA : Nat → ClassId} {ad ad' : Nat → Nat} {M : Nat} {κ : vx_k} {f : Nat → Int32} (h : vx_ok M κ = true) (ha : ∀ k, k ≠ M → ad' k = ad k) : vx_E dA ad' κ f = vx_E dA ad κ f := by
  rcases κ with ⟨c, fr⟩ | ⟨t, n, _ | g⟩
  · have hfs : vx_fs ad' fr f = vx_fs ad fr f := by
      apply List.ext_getElem?
      intro i
      by_cases hi : i < fr.length
      · obtain ⟨o, ho⟩ : ∃ o, fr[i]? = some o := ⟨fr[i], by simp [hi]⟩
        rw [vx_fs_at ho, vx_fs_at ho]
        rcases o with _ | _ | r
        · rfl
        · rfl
        · have hm : some (some r) ∈ fr := List.mem_of_getElem? ho
          have h2 := List.all_eq_true.mp h _ hm
          have hr : r ≠ M := by simpa using h2
          simp [vx_fl, ha r hr]
      · rw [List.getElem?_eq_none (by simp [vx_fs_len]; omega), List.getElem?_eq_none (by simp [vx_fs_len]; omega)]
    simp only [vx_E, hfs]
  · rfl
  · have hg : (fun i : Nat => (g[i]?).map ad') = (fun i : Nat => (g[i]?).map ad) := by
      funext i
      cases hi : g[i]? with
      | none => rfl
      | some r =>
        have h2 := List.all_eq_true.mp h _ (List.mem_of_getElem? hi)
        have hr : r ≠ M := by simpa using h2
        simp [ha r hr]
    simp only [vx_E, hg]
theorem vx_W_push {dA : Nat → ClassId} {ad : Nat → Nat} {N : Nat} {Λ : vx_L} {μ : vx_mem} {κ : vx_k} {f : Nat → Int32} {q : Nat} (h : (List.range N).all (fun k => vx_ok N (Λ k)) = true) (hκ : vx_ok N κ = true) : vx_W dA ad N Λ μ ++ [(q, vx_E dA ad κ f)] = vx_W dA (va_up ad N q) (N + 1) (va_up Λ N κ) (va_up μ N f) := by
  have ha : ∀ k, k ≠ N → va_up ad N q k = ad k := fun k hk => by simp [va_up, hk]
  apply List.ext_getElem?
  intro i
  rcases Nat.lt_trichotomy i N with hi | hi | hi
  · rw [List.getElem?_append_left (by rw [vx_W_len]; exact hi), vx_W_at hi, vx_W_at (by omega)]
    have hne : i ≠ N := by omega
    have h1 := List.all_eq_true.mp h i (List.mem_range.mpr hi)
    have e1 : va_up ad N q i = ad i := by simp [va_up, hne]
    have e2 : va_up Λ N κ i = Λ i := by simp [va_up, hne]
    have e3 : va_up μ N f i = μ i := by simp [va_up, hne]
    rw [e1, e2, e3, vx_E_up h1 ha]
  · subst hi
    rw [List.getElem?_append_right (by rw [vx_W_len]; exact Nat.le_refl _), vx_W_len, vx_W_at (by omega)]
    rw [Nat.sub_self, List.getElem?_cons_zero]
    have e1 : va_up ad i q i = q := by simp [va_up]
    have e2 : va_up Λ i κ i = κ := by simp [va_up]
    have e3 : va_up μ i f i = f := by simp [va_up]
    rw [e1, e2, e3, vx_E_up hκ ha]
  · rw [List.getElem?_eq_none (by simp [vx_W_len]; omega), List.getElem?_eq_none (by simp [vx_W_len]; omega)]
end
end
section
section
/-- the words of the tables that any state keeps -/
def vx_tbl : List Cond := lw_tbl.filter goodWord
theorem vx_w {w : Cond} (i : Nat) (h : lw_tbl[i]? = some w) (hg : goodWord w = true) : w ∈ vx_tbl := List.mem_filter.mpr ⟨List.mem_of_getElem? h, hg⟩
theorem vx_good {y : MethodName} {cc : ByteArray} {nL : Nat} {ret : Option FieldType} (h : Cond.code y cc nL ret ∈ vx_tbl) : GoodIn vx_tbl (Cond.code y cc nL ret :: vx_tbl) := by
  intro w hw
  have hm : w ∈ vx_tbl := by
    rcases List.mem_cons.mp hw with rfl | h2
    · exact h
    · exact h2
  exact ⟨hm, good_of_word (List.mem_filter.mp hm).2⟩
/-- the text of the constants: place, owner, entry, text -/
def vx_lit : List (String × Nat × String) := [("ThreshRound$Customs", 99, "hands"), ("ThreshRound$Customs", 101, "rate"), ("ThreshRound$Customs", 103, "sheaves"), ("ThreshRound$Customs", 105, "late"), ("ThreshRound$Customs", 107, "first"), ("ThreshRound$Customs", 109, "damp"), ("ThreshRoundModel", 130, "hands rate sheaves late first damp ")]
def vx_lb : List (List Int32) := [[104, 97, 110, 100, 115], [114, 97, 116, 101], [115, 104, 101, 97, 118, 101, 115], [108, 97, 116, 101], [102, 105, 114, 115, 116], [100, 97, 109, 112], [104, 97, 110, 100, 115, 32, 114, 97, 116, 101, 32, 115, 104, 101, 97, 118, 101, 115, 32, 108, 97, 116, 101, 32, 102, 105, 114, 115, 116, 32, 100, 97, 109, 112, 32]]
def vx_ll : List Nat := vx_lb.map List.length
def vx_sn : Nat → String := fun i => if i = 0 then "USUAL" else if i = 1 then "LEAST" else "MOST"
def vx_sv : Nat → List Int32 := fun i => if i = 0 then [8, 10, 4, 1, 0, 5] else if i = 1 then [1, 1, 1, 0, 1, 0] else [20, 99, 50, 99, 7, 10]
def vx_nest : List Cond := [.methodLinkNest "ThreshRound$Customs" 52 ⟨"ThreshRound", "put", "([III)V"⟩ "ThreshRound", .methodLinkNest "ThreshRound$Customs" 24 ⟨"ThreshRound", "at", "([II)I"⟩ "ThreshRound", .methodLinkNest "ThreshRound$Roads" 16 ⟨"ThreshRound", "put", "([[IIII)V"⟩ "ThreshRound", .methodLinkNest "ThreshRound$Tape" 25 ⟨"ThreshRound", "put", "([III)V"⟩ "ThreshRound", .methodLinkNest "ThreshRound$Tape" 29 ⟨"ThreshRound", "at", "([II)I"⟩ "ThreshRound", .methodLinkNest "ThreshRound$Tape" 37 ⟨"ThreshRound", "within", "(III)Z"⟩ "ThreshRound", .methodLinkNest "ThreshRound$Customs" 84 ⟨"ThreshRound", "within", "(III)Z"⟩ "ThreshRound", .methodLinkNest "ThreshRound$Farms" 49 ⟨"ThreshRound", "put", "([III)V"⟩ "ThreshRound", .methodLinkNest "ThreshRound$Farms" 57 ⟨"ThreshRound", "at", "([II)I"⟩ "ThreshRound", .methodLinkNest "ThreshRound$Debts" 20 ⟨"ThreshRound", "put", "([III)V"⟩ "ThreshRound", .methodLinkNest "ThreshRound$Debts" 29 ⟨"ThreshRound", "at", "([II)I"⟩ "ThreshRound", .methodLinkNest "ThreshRound$Debts" 49 ⟨"ThreshRound", "at", "([[III)I"⟩ "ThreshRound", .methodLinkNest "ThreshRound$Search" 61 ⟨"ThreshRound", "put", "([III)V"⟩ "ThreshRound", .methodLinkNest "ThreshRound$Search" 65 ⟨"ThreshRound", "at", "([II)I"⟩ "ThreshRound", .methodLinkNest "ThreshRound$Roads" 20 ⟨"ThreshRound", "at", "([[III)I"⟩ "ThreshRound", .methodLinkNest "ThreshRound$Plan" 52 ⟨"ThreshRound", "at", "([II)I"⟩ "ThreshRound", .methodLinkNest "ThreshRound$Plan" 61 ⟨"ThreshRound", "put", "([III)V"⟩ "ThreshRound", .methodLinkNest "ThreshRound$Debts" 52 ⟨"ThreshRound", "put", "([[IIII)V"⟩ "ThreshRound"]
def vx_AO (U : State) : Prop := (Cond.arrayOver (.array .int)).before #[] U = true
theorem vx_AO.use {A : Array Value} {U : State} (h : vx_AO U) : (Cond.arrayOver (.array .int)).before A U = true := h
theorem vx_AO.moved {u U : State} (hvm : u.vm.Alike U.vm) (h : vx_AO u) : vx_AO U := by
  have h0 := h
  unfold vx_AO Cond.before Cond.holds at h
  simp only [Cond.value, beq_iff_eq, Option.bind_eq_some_iff, Option.map_eq_some_iff] at h
  obtain ⟨comp, h1, c, h2, k, h3, h4⟩ := h
  obtain ⟨k', hk', he⟩ := hvm.2.2 _ _ h3
  have b1 := va_idx_bare U.vm comp
  have b2 := va_idx_bare u.vm comp
  first | rw [hvm.bare_eq] at b1 | rw [← hvm.bare_eq] at b1
  have f1 : U.vm.findClass (FieldType.array .int).toString = some comp := by rw [hvm.findClass]; exact h1
  have h5 : ∃ cc, k.kind = .array cc (.array .int) ∧ u.vm.findClass ("[" ++ (FieldType.array .int).toString) = some c := by
    revert h4
    generalize k.kind = kd
    intro h4
    split at h4
    · simp only [Bool.and_eq_true, decide_eq_true_eq] at h4
      exact ⟨_, by rw [h4.1], h4.2⟩
    · cases h4
  obtain ⟨cc, h6, h7⟩ := h5
  have hkk : k'.kind = .array cc (.array .int) := by rw [he]; exact h6
  have f2 : U.vm.findClass ("[" ++ (FieldType.array .int).toString) = some c := by rw [hvm.findClass]; exact h7
  unfold vx_AO Cond.before Cond.holds
  simp only [Cond.value]
  rw [f1, Option.bind_some]
  refine (congrArg (fun o : Option Nat => (o.bind (fun c => (U.vm.classes[c]?).map fun (k : Class) => match k.kind with | .array _ ty => decide (ty = FieldType.array .int) && decide (U.vm.findClass ("[" ++ (FieldType.array .int).toString) = some c) | _ => false) == some true)) (b1.symm.trans (b2.trans h2))).trans ?_
  simp [hk', hkk, f2]
/-- what lies outside: the texts at 1000 .., their bytes at 1100 .., the static rows at 1200 .. -/
def vx_X (ad : Nat → Nat) (A : Nat → Prop) (U : State) (H : Heap) : Prop :=
  (∀ q ∈ vx_nest, va_Nw q U) ∧
  (∀ i : Nat, i < 3 → va_Z "ThreshRound$Customs" (vx_sn i) "[I" (.ref (ad (1200 + i))) A U H ∧ va_T .int (ad (1200 + i)) 6 (fun j => .int ((vx_sv i).getD j 0)) A U H) ∧
  vk_S 7 vx_ll vx_lb (fun i => ad (1000 + i)) (fun i => ad (1100 + i)) A U H ∧
  (∀ (i : Nat) (q : String × Nat × String), vx_lit[i]? = some q → vk_R q.1 q.2.1 q.2.2 (ad (1000 + i)) U) ∧
  va_Z "java/lang/String" "COMPACT_STRINGS" "Z" (.int 1) A U H ∧
  (va_Z "jdk/internal/util/Preconditions" "SIOOBE_FORMATTER" "Ljava/util/function/BiFunction;" .null A U H ∨ va_Z "jdk/internal/util/Preconditions" "SIOOBE_FORMATTER" "Ljava/util/function/BiFunction;" (.ref (ad 1300)) A U H) ∧ vx_AO U
theorem vx_X.kept {ad : Nat → Nat} {A : Nat → Prop} {U : State} {H H1 : Heap} (h : vx_X ad A U H) (hq : ∀ a : Nat, a < H.size → ¬ A a → H1[a]? = H[a]?) : vx_X ad A U H1 :=
  ⟨h.1, fun i hi => ⟨(h.2.1 i hi).1.kept hq, (h.2.1 i hi).2.kept hq⟩, h.2.2.1.kept hq, h.2.2.2.1, h.2.2.2.2.1.kept hq, h.2.2.2.2.2.1.imp (fun z => z.kept hq) (fun z => z.kept hq), h.2.2.2.2.2.2⟩
theorem vx_X.narrow {ad : Nat → Nat} {A B : Nat → Prop} {U : State} {H : Heap} (h : vx_X ad A U H) (hAB : ∀ q, B q → A q) : vx_X ad B U H :=
  ⟨h.1, fun i hi => ⟨(h.2.1 i hi).1.narrow hAB, (h.2.1 i hi).2.narrow hAB⟩, h.2.2.1.narrow hAB, h.2.2.2.1, h.2.2.2.2.1.narrow hAB, h.2.2.2.2.2.1.imp (fun z => z.narrow hAB) (fun z => z.narrow hAB), h.2.2.2.2.2.2⟩
theorem vx_nest_all {P : Cond → Prop} (h : ∀ a i x b, Cond.methodLinkNest a i x b ∈ vx_nest → P (.methodLinkNest a i x b)) : ∀ q ∈ vx_nest, P q := by
  intro q hq
  have hk : vx_nest.all (fun q => match q with | .methodLinkNest _ _ _ _ => true | _ => false) = true := by decide +kernel
  have h2 := List.all_eq_true.mp hk q hq
  cases q <;> first | exact h _ _ _ _ hq | simp at h2
theorem vx_X.warm {ad : Nat → Nat} {A : Nat → Prop} {s U : State} {H : Heap} (hW : s.WarmedH U.vm) (h : vx_X ad A s H) : vx_X ad A U H :=
  ⟨vx_nest_all (P := fun q => va_Nw q U) (fun a i x b hm => va_Nw.warmM hW (h.1 _ hm)), fun i hi => ⟨(h.2.1 i hi).1.moved hW.alike, (h.2.1 i hi).2.moved hW.alike⟩, h.2.2.1.moved hW.alike, fun i q hq => (h.2.2.2.1 i q hq).warm hW, h.2.2.2.2.1.moved hW.alike, h.2.2.2.2.2.1.imp (fun z => z.moved hW.alike) (fun z => z.moved hW.alike), h.2.2.2.2.2.2.moved hW.alike⟩
theorem vx_X.same {ad : Nat → Nat} {A : Nat → Prop} {s U : State} {H : Heap} (hv : s.vm = U.vm) (h : vx_X ad A s H) : vx_X ad A U H := by
  have hal : s.vm.Alike U.vm := by rw [hv]; exact Vm.Alike.refl _
  exact ⟨vx_nest_all (P := fun q => va_Nw q U) (fun a i x b hm => va_Nw.same rfl hv (h.1 _ hm)), fun i hi => ⟨(h.2.1 i hi).1.moved hal, (h.2.1 i hi).2.moved hal⟩, h.2.2.1.moved hal, fun i q hq => (h.2.2.2.1 i q hq).same hv.symm, h.2.2.2.2.1.moved hal, h.2.2.2.2.2.1.imp (fun z => z.moved hal) (fun z => z.moved hal), h.2.2.2.2.2.2.moved hal⟩
theorem vx_X.ad {ad ad' : Nat → Nat} {A : Nat → Prop} {U : State} {H : Heap} (ha : ∀ k, 1000 ≤ k → ad' k = ad k) (h : vx_X ad A U H) : vx_X ad' A U H := by
  have e1 : (fun i => ad' (1000 + i)) = (fun i => ad (1000 + i)) := funext fun i => ha _ (by omega)
  have e2 : (fun i => ad' (1100 + i)) = (fun i => ad (1100 + i)) := funext fun i => ha _ (by omega)
  have e3 : ∀ i, ad' (1200 + i) = ad (1200 + i) := fun i => ha _ (by omega)
  have e4 : ∀ i, ad' (1000 + i) = ad (1000 + i) := fun i => ha _ (by omega)
  unfold vx_X
  simp only [e1, e2, e3, e4, ha 1300 (by omega)]
  exact h
def vx_R (d mc ms : Nat) : Room := { frames := d, cells := mc, slots := ms, locals := 64 * d }
abbrev vx_P : Type := Option vx_v → (Nat → Nat) → Nat → vx_L → vx_mem → Prop
/-- what a method's end says -/
def vx_Q (D : va_G) (dA : Nat → ClassId) (A : Nat → Prop) (Post : vx_P) : Array Value → State → Outcome → State → Prop := fun _ st oc t =>
  (∃ (r : Option vx_v) (ad' : Nat → Nat) (N' : Nat) (Λ' : vx_L) (μ' : vx_mem), oc = .returned (r.map (vx_V ad')) ∧ Post r ad' N' Λ' μ' ∧ va_P D vwCl (vx_W dA ad' N' Λ' μ') t.heap ∧ va_K D vwCl (vx_T dA) t ∧ va_D A (vx_W dA ad' N' Λ' μ')) ∧ va_F A st t
/-- what a method's walk rests on -/
def vx_C (own : String) (cc : ByteArray) (nL : Nat) (ret : Option FieldType) (ini : Bool) (p : Program) (s : State) (m : MethodId) (args : Array Value) (meth : Method) (c : Code) : Prop :=
  p.tables.exec = Jvm.exec ∧ c.code = cc ∧ c.maxLocals = nL ∧ meth.sig.returnType = ret ∧ s.vm.findClass own = some m.cls ∧ (∀ w ∈ vx_tbl, w.before args s = true) ∧ meth.locks = false ∧ (ini = true → meth.name = "<init>")
/-- the judgement: from here the method comes to its end, and Post holds there -/
def vx_J (own : String) (cc : ByteArray) (nL : Nat) (ret : Option FieldType) (ini : Bool) (d mc ms : Nat) (Post : vx_P) (ad : Nat → Nat) (kc ks N : Nat) (Λ : vx_L) (μ : vx_mem) (pc : Nat) (ls : List (Nat × vx_v)) (st : List vx_v) : Prop :=
  ∀ (p : Program) (l : Launch) (e : Env) (s : State) (m : MethodId) (args : Array Value) (below : List Frame) (meth : Method) (c : Code) (D : va_G) (dA : Nat → ClassId) (A : Nat → Prop) (H : Heap) (locs : List Loc) (LS : Array Slot),
    vx_C own cc nL ret ini p s m args meth c → va_S A s.heap H locs → (∀ q : Nat, s.heap.size ≤ q → A q) → va_K D vwCl (vx_T dA) s → va_P D vwCl (vx_W dA ad N Λ μ) H → va_D A (vx_W dA ad N Λ μ) → vx_X ad A s s.heap → lv_has LS nL (ls.map (fun q => (q.1, vx_V ad q.2))) →
    W p l e (vx_R d mc ms) s m args below meth c H locs kc ks (MQ below (vx_Q D dA A Post) args s mc ms A) (F0 m pc LS (st.map (vx_V ad)))
/-- a contract -/
def vx_M (y : MethodName) (cc : ByteArray) (nL : Nat) (ret : Option FieldType) (d mc ms : Nat) (ad : Nat → Nat) (N : Nat) (Λ : vx_L) (μ : vx_mem) (vs : List vx_v) (Post : vx_P) : Prop :=
  ∀ (l : Launch) (D : va_G) (dA : Nat → ClassId) (sz : Nat), Met l y (.code y cc nL ret :: vx_tbl) (vx_R d mc ms)
    (va_Pc (vs.map (vx_V ad)) (fun U => U.heap.size = sz ∧ va_P D vwCl (vx_W dA ad N Λ μ) U.heap ∧ va_K D vwCl (vx_T dA) U ∧ va_D (fun _ => True) (vx_W dA ad N Λ μ) ∧ vx_X ad (va_A (vx_W dA ad N Λ μ) sz) U U.heap))
    (vx_Q D dA (va_A (vx_W dA ad N Λ μ) sz) Post) mc ms (va_A (vx_W dA ad N Λ μ) sz)
/-- the locals at the entry -/
def vx_in : Nat → List vx_v → List (Nat × vx_v)
  | _, [] => []
  | k, v :: vs => (k, v) :: vx_in (k + 1) vs
theorem vx_in_args (ad : Nat → Nat) : ∀ (vs : List vx_v) (k : Nat), lv_args k (vs.map (vx_V ad)) = (vx_in k vs).map (fun q => (q.1, vx_V ad q.2))
  | [], k => by first | rfl | simp [lv_args, vx_in]
  | v :: vs, k => by
    have ih := vx_in_args ad vs (k + 1)
    have hc : (vx_V ad v).category = 1 := vx_V_cat ad v
    have e : lv_args k ((v :: vs).map (vx_V ad)) = (k, vx_V ad v) :: lv_args (if (vx_V ad v).category = 2 then k + 2 else k + 1) (vs.map (vx_V ad)) := rfl
    rw [e, hc, if_neg (by decide), ih]
    rfl
theorem vx_sl_len (ad : Nat → Nat) (vs : List vx_v) : (lg_sl (vs.map (vx_V ad))).length = vs.length := by
  induction vs with
  | nil => rfl
  | cons v vs ih =>
    have hc : (vx_V ad v).category = 1 := vx_V_cat ad v
    unfold lg_sl at ih ⊢
    rw [List.map_cons, List.flatMap_cons, List.length_append, ih, hc, if_neg (by decide)]
    simp only [List.length_cons, List.length_nil]
    omega
theorem vx_J.M {y : MethodName} {cc : ByteArray} {nL : Nat} {ret : Option FieldType} {d mc ms : Nat} {ad : Nat → Nat} {N : Nat} {Λ : vx_L} {μ : vx_mem} {vs : List vx_v} {Post : vx_P} (hy : plainName y.cls = true) (hn : vs.length ≤ nL)
    (k : vx_J y.cls cc nL ret (y.name == "<init>") d mc ms Post ad 0 0 N Λ μ 0 (vx_in 0 vs) []) : vx_M y cc nL ret d mc ms ad N Λ μ vs Post := by
  intro l D dA sz
  refine Met.ofW (cc := cc) (maxL := nL) (ret := ret) hy rfl ?_
  intro p e s m args below meth c s₁ B hml hv
  obtain ⟨rfl, hsz, hP, hK, hD0, hX⟩ := hv
  have hts := atoms_spec (ws := .code y cc nL ret :: vx_tbl) B.pre
  subst hsz
  have hD := hD0.self (sz := s.heap.size)
  have hA : ∀ q : Nat, s.heap.size ≤ q → va_A (vx_W dA ad N Λ μ) s.heap.size q := fun q h => Or.inr h
  have hl := lv_entry (vs.map (vx_V ad)) (n := nL) (by rw [vx_sl_len]; exact hn)
  rw [vx_in_args] at hl
  rw [lg_entry_eq]
  exact k p l e s m _ below meth c D dA _ s.heap [] _ ⟨B.exec, B.bytes, hml, B.returns, findClass_of_methodNamed B.named, fun w hw => hts w (List.mem_cons_of_mem _ hw), B.notSynchronized, fun h => by
    have hn := (name_of_methodNamed B.named B.method).1
    rw [hn]
    simpa using h⟩ va_S.rf hA hK hP hD hX hl
end
end
section
section
variable {own : String} {cc : ByteArray} {nL : Nat} {ret : Option FieldType} {ini : Bool} {d mc ms : Nat} {Post : vx_P} {ad : Nat → Nat} {kc ks N : Nat} {Λ : vx_L} {μ : vx_mem} {pc : Nat} {ls : List (Nat × vx_v)} {st : List vx_v}
/-- a local's value -/
def vx_lk : List (Nat × vx_v) → Nat → Option vx_v
  | [], _ => none
  | q :: r, i => if q.1 = i then some q.2 else vx_lk r i
theorem vx_lk_mem : ∀ {ls : List (Nat × vx_v)} {i : Nat} {v : vx_v}, vx_lk ls i = some v → (i, v) ∈ ls
  | [], _, _, h => by cases h
  | q :: r, i, v, h => by
    unfold vx_lk at h
    split at h
    · rename_i e
      cases h
      rw [← e]
      exact List.mem_cons_self
    · exact List.mem_cons_of_mem _ (vx_lk_mem h)
theorem vx_at {ad : Nat → Nat} {LS : Array Slot} {nL : Nat} {ls : List (Nat × vx_v)} (hl : lv_has LS nL (ls.map (fun q => (q.1, vx_V ad q.2)))) {i : Nat} {v : vx_v} (h : vx_lk ls i = some v) : LS[i]? = some (.val (vx_V ad v)) :=
  hl.2.2 (i, vx_V ad v) (List.mem_map.mpr ⟨(i, v), vx_lk_mem h, rfl⟩)
theorem vx_filt (ad : Nat → Nat) (i : Nat) : ∀ (ls : List (Nat × vx_v)), (ls.map (fun q => (q.1, vx_V ad q.2))).filter (fun q => !(q.1 == i) && !(q.1 + 1 == i && q.2.category == 2)) = (ls.filter (fun q => !(q.1 == i))).map (fun q => (q.1, vx_V ad q.2))
  | [] => rfl
  | q :: r => by
    have ih := vx_filt ad i r
    have hc : (vx_V ad q.2).category = 1 := vx_V_cat ad q.2
    by_cases h : q.1 = i
    · simp [List.filter_cons, h, hc, ih] <;> simpa using ih
    · simp [List.filter_cons, h, hc, ih] <;> simpa using ih
/-- the locals with one set -/
def vx_se (ls : List (Nat × vx_v)) (i : Nat) (v : vx_v) : List (Nat × vx_v) := (i, v) :: ls.filter (fun q => !(q.1 == i))
theorem vx_se_eq (ad : Nat → Nat) (ls : List (Nat × vx_v)) (i : Nat) (v : vx_v) : (i, vx_V ad v) :: (ls.map (fun q => (q.1, vx_V ad q.2))).filter (fun q => !(q.1 == i) && !(q.1 + 1 == i && q.2.category == 2)) = (vx_se ls i v).map (fun q => (q.1, vx_V ad q.2)) := by
  rw [vx_filt]
  rfl

theorem vx_sub {ls2 : List (Nat × vx_v)} (h : ls2.all (fun q => decide (vx_lk ls q.1 = some q.2)) = true) (k : vx_J own cc nL ret ini d mc ms Post ad kc ks N Λ μ (pc) (ls2) (st)) : vx_J own cc nL ret ini d mc ms Post ad kc ks N Λ μ (pc) (ls) (st) := by
  intro p l e s m args below meth c D dA A H locs LS hC hS hA hK hP hD hX hl
  refine k p l e s m args below meth c D dA A H locs LS hC hS hA hK hP hD hX ⟨hl.1, hl.2.1, fun q hq => ?_⟩
  obtain ⟨x, hx, rfl⟩ := List.mem_map.mp hq
  exact vx_at hl (by simpa using List.all_eq_true.mp h x hx)
theorem vx_eq {μ2 : vx_mem} {ls2 : List (Nat × vx_v)} {st2 : List vx_v} (h1 : μ = μ2) (h2 : ls = ls2) (h3 : st = st2) (k : vx_J own cc nL ret ini d mc ms Post ad kc ks N Λ μ2 (pc) (ls2) (st2)) : vx_J own cc nL ret ini d mc ms Post ad kc ks N Λ μ (pc) (ls) (st) := by
  subst h1; subst h2; subst h3; exact k
theorem vx_locs {ls2 : List (Nat × vx_v)} (h : ∀ (i : Nat) (v : vx_v), (i, v) ∈ ls2 → vx_lk ls i = some v) (k : vx_J own cc nL ret ini d mc ms Post ad kc ks N Λ μ (pc) (ls2) (st)) : vx_J own cc nL ret ini d mc ms Post ad kc ks N Λ μ (pc) (ls) (st) := by
  intro p l e s m args below meth c D dA A H locs LS hC hS hA hK hP hD hX hl
  refine k p l e s m args below meth c D dA A H locs LS hC hS hA hK hP hD hX ⟨hl.1, hl.2.1, fun q hq => ?_⟩
  obtain ⟨⟨i, v⟩, hx, rfl⟩ := List.mem_map.mp hq
  exact vx_at hl (h i v hx)
theorem vx_top {x : Int32} (k : ∀ y : Int32, y = x → vx_J own cc nL ret ini d mc ms Post ad kc ks N Λ μ (pc) (ls) (.inl y :: st)) : vx_J own cc nL ret ini d mc ms Post ad kc ks N Λ μ (pc) (ls) (.inl x :: st) := k x rfl

theorem vx_iconst {n : Int} {v : Int32} (hd : decode cc pc = .ok (.iconst n, 1)) (hv : Int32.ofInt n = v) (k : vx_J own cc nL ret ini d mc ms Post ad kc ks N Λ μ (pc + 1) (ls) (.inl v :: st)) : vx_J own cc nL ret ini d mc ms Post ad kc ks N Λ μ (pc) (ls) (st) := by
  intro p l e s m args below meth c D dA A H locs LS hC hS hA hK hP hD hX hl
  exact lv_iconst hC.1 hC.2.1 hd hv (k p l e s m args below meth c D dA A H locs LS hC hS hA hK hP hD hX hl)
theorem vx_bipush {n : Int} {v : Int32} (hd : decode cc pc = .ok (.bipush n, 2)) (hv : (Int8.ofInt n).toInt32 = v) (k : vx_J own cc nL ret ini d mc ms Post ad kc ks N Λ μ (pc + 2) (ls) (.inl v :: st)) : vx_J own cc nL ret ini d mc ms Post ad kc ks N Λ μ (pc) (ls) (st) := by
  intro p l e s m args below meth c D dA A H locs LS hC hS hA hK hP hD hX hl
  exact lv_bipush hC.1 hC.2.1 hd hv (k p l e s m args below meth c D dA A H locs LS hC hS hA hK hP hD hX hl)
theorem vx_sipush {n : Int} {v : Int32} (hd : decode cc pc = .ok (.sipush n, 3)) (hv : (Int16.ofInt n).toInt32 = v) (k : vx_J own cc nL ret ini d mc ms Post ad kc ks N Λ μ (pc + 3) (ls) (.inl v :: st)) : vx_J own cc nL ret ini d mc ms Post ad kc ks N Λ μ (pc) (ls) (st) := by
  intro p l e s m args below meth c D dA A H locs LS hC hS hA hK hP hD hX hl
  exact lv_sipush hC.1 hC.2.1 hd hv (k p l e s m args below meth c D dA A H locs LS hC hS hA hK hP hD hX hl)
theorem vx_ldc {index : Nat} {v : Int32} (hd : decode cc pc = .ok (.ldc index, 2)) (hw : Cond.constant own index v ∈ vx_tbl) (k : vx_J own cc nL ret ini d mc ms Post ad kc ks N Λ μ (pc + 2) (ls) (.inl v :: st)) : vx_J own cc nL ret ini d mc ms Post ad kc ks N Λ μ (pc) (ls) (st) := by
  intro p l e s m args below meth c D dA A H locs LS hC hS hA hK hP hD hX hl
  exact lv_ldc hC.1 hC.2.1 hC.2.2.2.2.1 (hC.2.2.2.2.2.1 _ hw) hd (k p l e s m args below meth c D dA A H locs LS hC hS hA hK hP hD hX hl)
theorem vx_ldcS {index i : Nat} {tx : String} (hd : decode cc pc = .ok (.ldc index, 2)) (hi : vx_lit[i]? = some (own, index, tx)) (k : vx_J own cc nL ret ini d mc ms Post ad kc ks N Λ μ (pc + 2) (ls) (vx_r (1000 + i) :: st)) : vx_J own cc nL ret ini d mc ms Post ad kc ks N Λ μ (pc) (ls) (st) := by
  intro p l e s m args below meth c D dA A H locs LS hC hS hA hK hP hD hX hl
  exact va_ldcS hC.1 hC.2.1 hC.2.2.2.2.1 (hX.2.2.2.1 i _ hi) hd (k p l e s m args below meth c D dA A H locs LS hC hS hA hK hP hD hX hl)

theorem vx_iload_n {q : Fin 4} {x : Int32} (hd : decode cc pc = .ok (.iload_n q, 1)) (h : vx_lk ls q = some (.inl x)) (k : vx_J own cc nL ret ini d mc ms Post ad kc ks N Λ μ (pc + 1) (ls) (.inl x :: st)) : vx_J own cc nL ret ini d mc ms Post ad kc ks N Λ μ (pc) (ls) (st) := by
  intro p l e s m args below meth c D dA A H locs LS hC hS hA hK hP hD hX hl
  exact lv_iload_n hC.1 hC.2.1 hd rfl (vx_at hl h) (k p l e s m args below meth c D dA A H locs LS hC hS hA hK hP hD hX hl)
theorem vx_iload {i : Nat} {x : Int32} (hd : decode cc pc = .ok (.iload i, 2)) (h : vx_lk ls i = some (.inl x)) (k : vx_J own cc nL ret ini d mc ms Post ad kc ks N Λ μ (pc + 2) (ls) (.inl x :: st)) : vx_J own cc nL ret ini d mc ms Post ad kc ks N Λ μ (pc) (ls) (st) := by
  intro p l e s m args below meth c D dA A H locs LS hC hS hA hK hP hD hX hl
  exact lv_iload hC.1 hC.2.1 hd (vx_at hl h) (k p l e s m args below meth c D dA A H locs LS hC hS hA hK hP hD hX hl)
theorem vx_aload_n {q : Fin 4} {x : Nat} (hd : decode cc pc = .ok (.aload_n q, 1)) (h : vx_lk ls q = some (vx_r x)) (k : vx_J own cc nL ret ini d mc ms Post ad kc ks N Λ μ (pc + 1) (ls) (vx_r x :: st)) : vx_J own cc nL ret ini d mc ms Post ad kc ks N Λ μ (pc) (ls) (st) := by
  intro p l e s m args below meth c D dA A H locs LS hC hS hA hK hP hD hX hl
  exact lv_aload_n hC.1 hC.2.1 hd rfl (vx_at hl h) (k p l e s m args below meth c D dA A H locs LS hC hS hA hK hP hD hX hl)
theorem vx_aload {i : Nat} {x : Nat} (hd : decode cc pc = .ok (.aload i, 2)) (h : vx_lk ls i = some (vx_r x)) (k : vx_J own cc nL ret ini d mc ms Post ad kc ks N Λ μ (pc + 2) (ls) (vx_r x :: st)) : vx_J own cc nL ret ini d mc ms Post ad kc ks N Λ μ (pc) (ls) (st) := by
  intro p l e s m args below meth c D dA A H locs LS hC hS hA hK hP hD hX hl
  exact lv_aload hC.1 hC.2.1 hd (vx_at hl h) (k p l e s m args below meth c D dA A H locs LS hC hS hA hK hP hD hX hl)

theorem vx_istore_n {q : Fin 4} {x : Int32} {ls2 : List (Nat × vx_v)} (hd : decode cc pc = .ok (.istore_n q, 1)) (hn : (q : Nat) < nL) (h : vx_se ls q (.inl x) = ls2) (k : vx_J own cc nL ret ini d mc ms Post ad kc ks N Λ μ (pc + 1) (ls2) (st)) : vx_J own cc nL ret ini d mc ms Post ad kc ks N Λ μ (pc) (ls) (.inl x :: st) := by
  subst h
  intro p l e s m args below meth c D dA A H locs LS hC hS hA hK hP hD hX hl
  exact lv_istore_n hC.1 hC.2.1 hd rfl hl hn (vx_se_eq ad ls q (.inl x)) (fun LS hl => k p l e s m args below meth c D dA A H locs LS hC hS hA hK hP hD hX hl)
theorem vx_istore {i : Nat} {x : Int32} {ls2 : List (Nat × vx_v)} (hd : decode cc pc = .ok (.istore i, 2)) (hn : i < nL) (h : vx_se ls i (.inl x) = ls2) (k : vx_J own cc nL ret ini d mc ms Post ad kc ks N Λ μ (pc + 2) (ls2) (st)) : vx_J own cc nL ret ini d mc ms Post ad kc ks N Λ μ (pc) (ls) (.inl x :: st) := by
  subst h
  intro p l e s m args below meth c D dA A H locs LS hC hS hA hK hP hD hX hl
  exact lv_istore hC.1 hC.2.1 hd hl hn (vx_se_eq ad ls i (.inl x)) (fun LS hl => k p l e s m args below meth c D dA A H locs LS hC hS hA hK hP hD hX hl)
theorem vx_astore_n {q : Fin 4} {x : Nat} {ls2 : List (Nat × vx_v)} (hd : decode cc pc = .ok (.astore_n q, 1)) (hn : (q : Nat) < nL) (h : vx_se ls q (vx_r x) = ls2) (k : vx_J own cc nL ret ini d mc ms Post ad kc ks N Λ μ (pc + 1) (ls2) (st)) : vx_J own cc nL ret ini d mc ms Post ad kc ks N Λ μ (pc) (ls) (vx_r x :: st) := by
  subst h
  intro p l e s m args below meth c D dA A H locs LS hC hS hA hK hP hD hX hl
  exact lv_astore_n hC.1 hC.2.1 hd rfl hl hn (vx_se_eq ad ls q (vx_r x)) (fun LS hl => k p l e s m args below meth c D dA A H locs LS hC hS hA hK hP hD hX hl)
theorem vx_iinc {i : Nat} {n : Int} {x v : Int32} {ls2 : List (Nat × vx_v)} (hd : decode cc pc = .ok (.iinc i n, 3)) (hk : vx_lk ls i = some (.inl x)) (hv : x + Int32.ofInt n = v) (hn : i < nL) (h : vx_se ls i (.inl v) = ls2) (k : vx_J own cc nL ret ini d mc ms Post ad kc ks N Λ μ (pc + 3) (ls2) (st)) : vx_J own cc nL ret ini d mc ms Post ad kc ks N Λ μ (pc) (ls) (st) := by
  subst h
  intro p l e s m args below meth c D dA A H locs LS hC hS hA hK hP hD hX hl
  obtain ⟨j, hj⟩ := List.getElem?_of_mem (List.mem_map.mpr ⟨(i, .inl x), vx_lk_mem hk, rfl⟩ : (i, vx_V ad (.inl x)) ∈ ls.map (fun q => (q.1, vx_V ad q.2)))
  exact lv_iinc (k := j) (x := x) (v := v) hC.1 hC.2.1 hd hl hj hv hn (vx_se_eq ad ls i (.inl v)) (fun LS hl => k p l e s m args below meth c D dA A H locs LS hC hS hA hK hP hD hX hl)

theorem vx_iadd {x y : Int32} (hd : decode cc pc = .ok (.iadd, 1)) (k : vx_J own cc nL ret ini d mc ms Post ad kc ks N Λ μ (pc + 1) (ls) (.inl (x + y) :: st)) : vx_J own cc nL ret ini d mc ms Post ad kc ks N Λ μ (pc) (ls) (.inl y :: .inl x :: st) := by
  intro p l e s m args below meth c D dA A H locs LS hC hS hA hK hP hD hX hl
  exact lv_iadd hC.1 hC.2.1 hd (k p l e s m args below meth c D dA A H locs LS hC hS hA hK hP hD hX hl)
theorem vx_isub {x y : Int32} (hd : decode cc pc = .ok (.isub, 1)) (k : vx_J own cc nL ret ini d mc ms Post ad kc ks N Λ μ (pc + 1) (ls) (.inl (x - y) :: st)) : vx_J own cc nL ret ini d mc ms Post ad kc ks N Λ μ (pc) (ls) (.inl y :: .inl x :: st) := by
  intro p l e s m args below meth c D dA A H locs LS hC hS hA hK hP hD hX hl
  exact lv_isub hC.1 hC.2.1 hd (k p l e s m args below meth c D dA A H locs LS hC hS hA hK hP hD hX hl)
theorem vx_imul {x y : Int32} (hd : decode cc pc = .ok (.imul, 1)) (k : vx_J own cc nL ret ini d mc ms Post ad kc ks N Λ μ (pc + 1) (ls) (.inl (x * y) :: st)) : vx_J own cc nL ret ini d mc ms Post ad kc ks N Λ μ (pc) (ls) (.inl y :: .inl x :: st) := by
  intro p l e s m args below meth c D dA A H locs LS hC hS hA hK hP hD hX hl
  exact lv_imul hC.1 hC.2.1 hd (k p l e s m args below meth c D dA A H locs LS hC hS hA hK hP hD hX hl)
theorem vx_iand {x y : Int32} (hd : decode cc pc = .ok (.iand, 1)) (k : vx_J own cc nL ret ini d mc ms Post ad kc ks N Λ μ (pc + 1) (ls) (.inl (x &&& y) :: st)) : vx_J own cc nL ret ini d mc ms Post ad kc ks N Λ μ (pc) (ls) (.inl y :: .inl x :: st) := by
  intro p l e s m args below meth c D dA A H locs LS hC hS hA hK hP hD hX hl
  exact lv_iand hC.1 hC.2.1 hd (k p l e s m args below meth c D dA A H locs LS hC hS hA hK hP hD hX hl)
theorem vx_ior {x y : Int32} (hd : decode cc pc = .ok (.ior, 1)) (k : vx_J own cc nL ret ini d mc ms Post ad kc ks N Λ μ (pc + 1) (ls) (.inl (x ||| y) :: st)) : vx_J own cc nL ret ini d mc ms Post ad kc ks N Λ μ (pc) (ls) (.inl y :: .inl x :: st) := by
  intro p l e s m args below meth c D dA A H locs LS hC hS hA hK hP hD hX hl
  exact lv_ior hC.1 hC.2.1 hd (k p l e s m args below meth c D dA A H locs LS hC hS hA hK hP hD hX hl)
theorem vx_ixor {x y : Int32} (hd : decode cc pc = .ok (.ixor, 1)) (k : vx_J own cc nL ret ini d mc ms Post ad kc ks N Λ μ (pc + 1) (ls) (.inl (x ^^^ y) :: st)) : vx_J own cc nL ret ini d mc ms Post ad kc ks N Λ μ (pc) (ls) (.inl y :: .inl x :: st) := by
  intro p l e s m args below meth c D dA A H locs LS hC hS hA hK hP hD hX hl
  exact lv_ixor hC.1 hC.2.1 hd (k p l e s m args below meth c D dA A H locs LS hC hS hA hK hP hD hX hl)
theorem vx_ishl {x y : Int32} (hd : decode cc pc = .ok (.ishl, 1)) (k : vx_J own cc nL ret ini d mc ms Post ad kc ks N Λ μ (pc + 1) (ls) (.inl (x <<< (y &&& 31)) :: st)) : vx_J own cc nL ret ini d mc ms Post ad kc ks N Λ μ (pc) (ls) (.inl y :: .inl x :: st) := by
  intro p l e s m args below meth c D dA A H locs LS hC hS hA hK hP hD hX hl
  exact lv_ishl hC.1 hC.2.1 hd (k p l e s m args below meth c D dA A H locs LS hC hS hA hK hP hD hX hl)
theorem vx_ishr {x y : Int32} (hd : decode cc pc = .ok (.ishr, 1)) (k : vx_J own cc nL ret ini d mc ms Post ad kc ks N Λ μ (pc + 1) (ls) (.inl (x >>> (y &&& 31)) :: st)) : vx_J own cc nL ret ini d mc ms Post ad kc ks N Λ μ (pc) (ls) (.inl y :: .inl x :: st) := by
  intro p l e s m args below meth c D dA A H locs LS hC hS hA hK hP hD hX hl
  exact lv_ishr hC.1 hC.2.1 hd (k p l e s m args below meth c D dA A H locs LS hC hS hA hK hP hD hX hl)
theorem vx_idiv {x y : Int32} (hd : decode cc pc = .ok (.idiv, 1)) (hne : ¬ y = 0) (k : vx_J own cc nL ret ini d mc ms Post ad kc ks N Λ μ (pc + 1) (ls) (.inl (x / y) :: st)) : vx_J own cc nL ret ini d mc ms Post ad kc ks N Λ μ (pc) (ls) (.inl y :: .inl x :: st) := by
  intro p l e s m args below meth c D dA A H locs LS hC hS hA hK hP hD hX hl
  exact lv_idiv hC.1 hC.2.1 hd hne (k p l e s m args below meth c D dA A H locs LS hC hS hA hK hP hD hX hl)
theorem vx_irem {x y : Int32} (hd : decode cc pc = .ok (.irem, 1)) (hne : ¬ y = 0) (k : vx_J own cc nL ret ini d mc ms Post ad kc ks N Λ μ (pc + 1) (ls) (.inl (x - x / y * y) :: st)) : vx_J own cc nL ret ini d mc ms Post ad kc ks N Λ μ (pc) (ls) (.inl y :: .inl x :: st) := by
  intro p l e s m args below meth c D dA A H locs LS hC hS hA hK hP hD hX hl
  exact lv_irem hC.1 hC.2.1 hd hne (k p l e s m args below meth c D dA A H locs LS hC hS hA hK hP hD hX hl)
theorem vx_iushr {x y v : Int32} (hd : decode cc pc = .ok (.iushr, 1)) (hv : (x.toUInt32 >>> (y.toUInt32 &&& Int32.toUInt32 31)).toInt32 = v) (k : vx_J own cc nL ret ini d mc ms Post ad kc ks N Λ μ (pc + 1) (ls) (.inl v :: st)) : vx_J own cc nL ret ini d mc ms Post ad kc ks N Λ μ (pc) (ls) (.inl y :: .inl x :: st) := by
  intro p l e s m args below meth c D dA A H locs LS hC hS hA hK hP hD hX hl
  exact lv_iushr hC.1 hC.2.1 hd hv (k p l e s m args below meth c D dA A H locs LS hC hS hA hK hP hD hX hl)
theorem vx_dup {v : vx_v} (hd : decode cc pc = .ok (.dup, 1)) (k : vx_J own cc nL ret ini d mc ms Post ad kc ks N Λ μ (pc + 1) (ls) (v :: v :: st)) : vx_J own cc nL ret ini d mc ms Post ad kc ks N Λ μ (pc) (ls) (v :: st) := by
  intro p l e s m args below meth c D dA A H locs LS hC hS hA hK hP hD hX hl
  exact lv_dup hC.1 hC.2.1 hd (vx_V_cat ad v) (k p l e s m args below meth c D dA A H locs LS hC hS hA hK hP hD hX hl)
theorem vx_dup2 {v u : vx_v} (hd : decode cc pc = .ok (.dup2, 1)) (k : vx_J own cc nL ret ini d mc ms Post ad kc ks N Λ μ (pc + 1) (ls) (v :: u :: v :: u :: st)) : vx_J own cc nL ret ini d mc ms Post ad kc ks N Λ μ (pc) (ls) (v :: u :: st) := by
  intro p l e s m args below meth c D dA A H locs LS hC hS hA hK hP hD hX hl
  exact lv_dup2_11 hC.1 hC.2.1 hd (vx_V_cat ad v) (vx_V_cat ad u) (k p l e s m args below meth c D dA A H locs LS hC hS hA hK hP hD hX hl)
theorem vx_pop {v : vx_v} (hd : decode cc pc = .ok (.pop, 1)) (k : vx_J own cc nL ret ini d mc ms Post ad kc ks N Λ μ (pc + 1) (ls) (st)) : vx_J own cc nL ret ini d mc ms Post ad kc ks N Λ μ (pc) (ls) (v :: st) := by
  intro p l e s m args below meth c D dA A H locs LS hC hS hA hK hP hD hX hl
  exact lv_pop hC.1 hC.2.1 hd (vx_V_cat ad v) (k p l e s m args below meth c D dA A H locs LS hC hS hA hK hP hD hX hl)
theorem vx_goto {off : Int} {tgt : Nat} (hd : decode cc pc = .ok (.goto off, 3)) (ht : (pc : Int) + off = (tgt : Int)) (k : vx_J own cc nL ret ini d mc ms Post ad kc ks N Λ μ (tgt) (ls) (st)) : vx_J own cc nL ret ini d mc ms Post ad kc ks N Λ μ (pc) (ls) (st) := by
  intro p l e s m args below meth c D dA A H locs LS hC hS hA hK hP hD hX hl
  exact lv_goto hC.1 hC.2.1 hd ht (k p l e s m args below meth c D dA A H locs LS hC hS hA hK hP hD hX hl)

theorem vx_if_eq {x : Int32} {off : Int} {tgt : Nat} (hd : decode cc pc = .ok (.ifCond .eq off, 3)) (ht : (pc : Int) + off = (tgt : Int)) (kt : x = 0 → vx_J own cc nL ret ini d mc ms Post ad kc ks N Λ μ (tgt) (ls) (st)) (kf : ¬ x = 0 → vx_J own cc nL ret ini d mc ms Post ad kc ks N Λ μ (pc + 3) (ls) (st)) : vx_J own cc nL ret ini d mc ms Post ad kc ks N Λ μ (pc) (ls) (.inl x :: st) := by
  intro p l e s m args below meth c D dA A H locs LS hC hS hA hK hP hD hX hl
  exact lv_if_eq hC.1 hC.2.1 hd ht (fun h => kt h p l e s m args below meth c D dA A H locs LS hC hS hA hK hP hD hX hl) (fun h => kf h p l e s m args below meth c D dA A H locs LS hC hS hA hK hP hD hX hl)
theorem vx_icmp_eq {x y : Int32} {off : Int} {tgt : Nat} (hd : decode cc pc = .ok (.if_icmp .eq off, 3)) (ht : (pc : Int) + off = (tgt : Int)) (kt : x = y → vx_J own cc nL ret ini d mc ms Post ad kc ks N Λ μ (tgt) (ls) (st)) (kf : ¬ x = y → vx_J own cc nL ret ini d mc ms Post ad kc ks N Λ μ (pc + 3) (ls) (st)) : vx_J own cc nL ret ini d mc ms Post ad kc ks N Λ μ (pc) (ls) (.inl y :: .inl x :: st) := by
  intro p l e s m args below meth c D dA A H locs LS hC hS hA hK hP hD hX hl
  exact lv_icmp_eq hC.1 hC.2.1 hd ht (fun h => kt h p l e s m args below meth c D dA A H locs LS hC hS hA hK hP hD hX hl) (fun h => kf h p l e s m args below meth c D dA A H locs LS hC hS hA hK hP hD hX hl)
theorem vx_if_ne {x : Int32} {off : Int} {tgt : Nat} (hd : decode cc pc = .ok (.ifCond .ne off, 3)) (ht : (pc : Int) + off = (tgt : Int)) (kt : ¬ x = 0 → vx_J own cc nL ret ini d mc ms Post ad kc ks N Λ μ (tgt) (ls) (st)) (kf : x = 0 → vx_J own cc nL ret ini d mc ms Post ad kc ks N Λ μ (pc + 3) (ls) (st)) : vx_J own cc nL ret ini d mc ms Post ad kc ks N Λ μ (pc) (ls) (.inl x :: st) := by
  intro p l e s m args below meth c D dA A H locs LS hC hS hA hK hP hD hX hl
  exact lv_if_ne hC.1 hC.2.1 hd ht (fun h => kt h p l e s m args below meth c D dA A H locs LS hC hS hA hK hP hD hX hl) (fun h => kf h p l e s m args below meth c D dA A H locs LS hC hS hA hK hP hD hX hl)
theorem vx_icmp_ne {x y : Int32} {off : Int} {tgt : Nat} (hd : decode cc pc = .ok (.if_icmp .ne off, 3)) (ht : (pc : Int) + off = (tgt : Int)) (kt : ¬ x = y → vx_J own cc nL ret ini d mc ms Post ad kc ks N Λ μ (tgt) (ls) (st)) (kf : x = y → vx_J own cc nL ret ini d mc ms Post ad kc ks N Λ μ (pc + 3) (ls) (st)) : vx_J own cc nL ret ini d mc ms Post ad kc ks N Λ μ (pc) (ls) (.inl y :: .inl x :: st) := by
  intro p l e s m args below meth c D dA A H locs LS hC hS hA hK hP hD hX hl
  exact lv_icmp_ne hC.1 hC.2.1 hd ht (fun h => kt h p l e s m args below meth c D dA A H locs LS hC hS hA hK hP hD hX hl) (fun h => kf h p l e s m args below meth c D dA A H locs LS hC hS hA hK hP hD hX hl)
theorem vx_if_lt {x : Int32} {off : Int} {tgt : Nat} (hd : decode cc pc = .ok (.ifCond .lt off, 3)) (ht : (pc : Int) + off = (tgt : Int)) (kt : x < 0 → vx_J own cc nL ret ini d mc ms Post ad kc ks N Λ μ (tgt) (ls) (st)) (kf : ¬ x < 0 → vx_J own cc nL ret ini d mc ms Post ad kc ks N Λ μ (pc + 3) (ls) (st)) : vx_J own cc nL ret ini d mc ms Post ad kc ks N Λ μ (pc) (ls) (.inl x :: st) := by
  intro p l e s m args below meth c D dA A H locs LS hC hS hA hK hP hD hX hl
  exact lv_if_lt hC.1 hC.2.1 hd ht (fun h => kt h p l e s m args below meth c D dA A H locs LS hC hS hA hK hP hD hX hl) (fun h => kf h p l e s m args below meth c D dA A H locs LS hC hS hA hK hP hD hX hl)
theorem vx_icmp_lt {x y : Int32} {off : Int} {tgt : Nat} (hd : decode cc pc = .ok (.if_icmp .lt off, 3)) (ht : (pc : Int) + off = (tgt : Int)) (kt : x < y → vx_J own cc nL ret ini d mc ms Post ad kc ks N Λ μ (tgt) (ls) (st)) (kf : ¬ x < y → vx_J own cc nL ret ini d mc ms Post ad kc ks N Λ μ (pc + 3) (ls) (st)) : vx_J own cc nL ret ini d mc ms Post ad kc ks N Λ μ (pc) (ls) (.inl y :: .inl x :: st) := by
  intro p l e s m args below meth c D dA A H locs LS hC hS hA hK hP hD hX hl
  exact lv_icmp_lt hC.1 hC.2.1 hd ht (fun h => kt h p l e s m args below meth c D dA A H locs LS hC hS hA hK hP hD hX hl) (fun h => kf h p l e s m args below meth c D dA A H locs LS hC hS hA hK hP hD hX hl)
theorem vx_if_ge {x : Int32} {off : Int} {tgt : Nat} (hd : decode cc pc = .ok (.ifCond .ge off, 3)) (ht : (pc : Int) + off = (tgt : Int)) (kt : 0 ≤ x → vx_J own cc nL ret ini d mc ms Post ad kc ks N Λ μ (tgt) (ls) (st)) (kf : ¬ 0 ≤ x → vx_J own cc nL ret ini d mc ms Post ad kc ks N Λ μ (pc + 3) (ls) (st)) : vx_J own cc nL ret ini d mc ms Post ad kc ks N Λ μ (pc) (ls) (.inl x :: st) := by
  intro p l e s m args below meth c D dA A H locs LS hC hS hA hK hP hD hX hl
  exact lv_if_ge hC.1 hC.2.1 hd ht (fun h => kt h p l e s m args below meth c D dA A H locs LS hC hS hA hK hP hD hX hl) (fun h => kf h p l e s m args below meth c D dA A H locs LS hC hS hA hK hP hD hX hl)
theorem vx_icmp_ge {x y : Int32} {off : Int} {tgt : Nat} (hd : decode cc pc = .ok (.if_icmp .ge off, 3)) (ht : (pc : Int) + off = (tgt : Int)) (kt : y ≤ x → vx_J own cc nL ret ini d mc ms Post ad kc ks N Λ μ (tgt) (ls) (st)) (kf : ¬ y ≤ x → vx_J own cc nL ret ini d mc ms Post ad kc ks N Λ μ (pc + 3) (ls) (st)) : vx_J own cc nL ret ini d mc ms Post ad kc ks N Λ μ (pc) (ls) (.inl y :: .inl x :: st) := by
  intro p l e s m args below meth c D dA A H locs LS hC hS hA hK hP hD hX hl
  exact lv_icmp_ge hC.1 hC.2.1 hd ht (fun h => kt h p l e s m args below meth c D dA A H locs LS hC hS hA hK hP hD hX hl) (fun h => kf h p l e s m args below meth c D dA A H locs LS hC hS hA hK hP hD hX hl)
theorem vx_if_gt {x : Int32} {off : Int} {tgt : Nat} (hd : decode cc pc = .ok (.ifCond .gt off, 3)) (ht : (pc : Int) + off = (tgt : Int)) (kt : 0 < x → vx_J own cc nL ret ini d mc ms Post ad kc ks N Λ μ (tgt) (ls) (st)) (kf : ¬ 0 < x → vx_J own cc nL ret ini d mc ms Post ad kc ks N Λ μ (pc + 3) (ls) (st)) : vx_J own cc nL ret ini d mc ms Post ad kc ks N Λ μ (pc) (ls) (.inl x :: st) := by
  intro p l e s m args below meth c D dA A H locs LS hC hS hA hK hP hD hX hl
  exact lv_if_gt hC.1 hC.2.1 hd ht (fun h => kt h p l e s m args below meth c D dA A H locs LS hC hS hA hK hP hD hX hl) (fun h => kf h p l e s m args below meth c D dA A H locs LS hC hS hA hK hP hD hX hl)
theorem vx_icmp_gt {x y : Int32} {off : Int} {tgt : Nat} (hd : decode cc pc = .ok (.if_icmp .gt off, 3)) (ht : (pc : Int) + off = (tgt : Int)) (kt : y < x → vx_J own cc nL ret ini d mc ms Post ad kc ks N Λ μ (tgt) (ls) (st)) (kf : ¬ y < x → vx_J own cc nL ret ini d mc ms Post ad kc ks N Λ μ (pc + 3) (ls) (st)) : vx_J own cc nL ret ini d mc ms Post ad kc ks N Λ μ (pc) (ls) (.inl y :: .inl x :: st) := by
  intro p l e s m args below meth c D dA A H locs LS hC hS hA hK hP hD hX hl
  exact lv_icmp_gt hC.1 hC.2.1 hd ht (fun h => kt h p l e s m args below meth c D dA A H locs LS hC hS hA hK hP hD hX hl) (fun h => kf h p l e s m args below meth c D dA A H locs LS hC hS hA hK hP hD hX hl)
theorem vx_if_le {x : Int32} {off : Int} {tgt : Nat} (hd : decode cc pc = .ok (.ifCond .le off, 3)) (ht : (pc : Int) + off = (tgt : Int)) (kt : x ≤ 0 → vx_J own cc nL ret ini d mc ms Post ad kc ks N Λ μ (tgt) (ls) (st)) (kf : ¬ x ≤ 0 → vx_J own cc nL ret ini d mc ms Post ad kc ks N Λ μ (pc + 3) (ls) (st)) : vx_J own cc nL ret ini d mc ms Post ad kc ks N Λ μ (pc) (ls) (.inl x :: st) := by
  intro p l e s m args below meth c D dA A H locs LS hC hS hA hK hP hD hX hl
  exact lv_if_le hC.1 hC.2.1 hd ht (fun h => kt h p l e s m args below meth c D dA A H locs LS hC hS hA hK hP hD hX hl) (fun h => kf h p l e s m args below meth c D dA A H locs LS hC hS hA hK hP hD hX hl)
theorem vx_icmp_le {x y : Int32} {off : Int} {tgt : Nat} (hd : decode cc pc = .ok (.if_icmp .le off, 3)) (ht : (pc : Int) + off = (tgt : Int)) (kt : x ≤ y → vx_J own cc nL ret ini d mc ms Post ad kc ks N Λ μ (tgt) (ls) (st)) (kf : ¬ x ≤ y → vx_J own cc nL ret ini d mc ms Post ad kc ks N Λ μ (pc + 3) (ls) (st)) : vx_J own cc nL ret ini d mc ms Post ad kc ks N Λ μ (pc) (ls) (.inl y :: .inl x :: st) := by
  intro p l e s m args below meth c D dA A H locs LS hC hS hA hK hP hD hX hl
  exact lv_icmp_le hC.1 hC.2.1 hd ht (fun h => kt h p l e s m args below meth c D dA A H locs LS hC hS hA hK hP hD hX hl) (fun h => kf h p l e s m args below meth c D dA A H locs LS hC hS hA hK hP hD hX hl)
theorem vx_tabIn {dflt lo hi : Int} {offs : Array Int} {len : Nat} {x : Int32} {off : Int} {tgt : Nat} (hd : decode cc pc = .ok (.tableswitch dflt lo hi offs, len)) (h1 : ¬ x.toInt < lo) (h2 : ¬ hi < x.toInt) (ho : offs[(x.toInt - lo).toNat]? = some off) (ht : (pc : Int) + off = (tgt : Int)) (k : vx_J own cc nL ret ini d mc ms Post ad kc ks N Λ μ (tgt) (ls) (st)) : vx_J own cc nL ret ini d mc ms Post ad kc ks N Λ μ (pc) (ls) (.inl x :: st) := by
  intro p l e s m args below meth c D dA A H locs LS hC hS hA hK hP hD hX hl
  exact lv_tableIn hC.1 hC.2.1 hd h1 h2 ho ht (k p l e s m args below meth c D dA A H locs LS hC hS hA hK hP hD hX hl)
theorem vx_tabOut {dflt lo hi : Int} {offs : Array Int} {len : Nat} {x : Int32} {tgt : Nat} (hd : decode cc pc = .ok (.tableswitch dflt lo hi offs, len)) (h : x.toInt < lo ∨ hi < x.toInt) (ht : (pc : Int) + dflt = (tgt : Int)) (k : vx_J own cc nL ret ini d mc ms Post ad kc ks N Λ μ (tgt) (ls) (st)) : vx_J own cc nL ret ini d mc ms Post ad kc ks N Λ μ (pc) (ls) (.inl x :: st) := by
  intro p l e s m args below meth c D dA A H locs LS hC hS hA hK hP hD hX hl
  exact lv_tableOut hC.1 hC.2.1 hd h ht (k p l e s m args below meth c D dA A H locs LS hC hS hA hK hP hD hX hl)
theorem vx_lksw {dflt : Int} {ps : Array (Int × Int)} {len : Nat} {x : Int32} {off : Int} {tgt : Nat} (hd : decode cc pc = .ok (.lookupswitch dflt ps, len)) (hp : (ps.toList.zip (ps.toList.drop 1)).all (fun (a, next) => a.1 < next.1) = true) (ho : Op.lookupswitch.offset ps.toList dflt x.toInt = off) (ht : (pc : Int) + off = (tgt : Int)) (k : vx_J own cc nL ret ini d mc ms Post ad kc ks N Λ μ (tgt) (ls) (st)) : vx_J own cc nL ret ini d mc ms Post ad kc ks N Λ μ (pc) (ls) (.inl x :: st) := by
  intro p l e s m args below meth c D dA A H locs LS hC hS hA hK hP hD hX hl
  exact lv_lookup hC.1 hC.2.1 hd hp ho ht (k p l e s m args below meth c D dA A H locs LS hC hS hA hK hP hD hX hl)

theorem vx_ret {x : Int32} {ty : FieldType} (hd : decode cc pc = .ok (.ireturn, 1)) (hr : ret = some ty) (hn : narrow ty (.int x) = .int x) (h1 : kc ≤ mc) (h2 : ks ≤ ms) (k : Post (some (.inl x)) ad N Λ μ) : vx_J own cc nL ret ini d mc ms Post ad kc ks N Λ μ (pc) (ls) ([.inl x]) := by
  intro p l e s m args below meth c D dA A H locs LS hC hS hA hK hP hD hX hl
  refine W.widen (k := mc) (n := ms) h1 h2 ?_
  exact W.zret (v := x) hC.1 hC.2.1 (hC.2.2.2.1.trans hr) hn (fun t ht hW => ⟨⟨some (.inl x), ad, N, Λ, μ, rfl, k, by rw [ht]; exact hP, va_K.moved hW.alike hK, hD⟩, hS.F ht⟩) hS.2.2 hd hC.2.2.2.2.2.2.1
theorem vx_vret (hd : decode cc pc = .ok (.return_, 1)) (hr : ret = none) (h1 : kc ≤ mc) (h2 : ks ≤ ms) (k : Post none ad N Λ μ) : vx_J own cc nL ret ini d mc ms Post ad kc ks N Λ μ (pc) (ls) ([]) := by
  intro p l e s m args below meth c D dA A H locs LS hC hS hA hK hP hD hX hl
  refine W.widen (k := mc) (n := ms) h1 h2 ?_
  exact W.vret hC.1 hC.2.1 (hC.2.2.2.1.trans hr) (fun t ht hW => ⟨⟨none, ad, N, Λ, μ, rfl, k, by rw [ht]; exact hP, va_K.moved hW.alike hK, hD⟩, hS.F ht⟩) hS.2.2 hd hC.2.2.2.2.2.2.1
theorem vx_aret {x : Nat} {ty : String} (hd : decode cc pc = .ok (.areturn, 1)) (hr : ret = some (.object ty)) (h1 : kc ≤ mc) (h2 : ks ≤ ms) (k : Post (some (vx_r x)) ad N Λ μ) : vx_J own cc nL ret ini d mc ms Post ad kc ks N Λ μ (pc) (ls) ([vx_r x]) := by
  intro p l e s m args below meth c D dA A H locs LS hC hS hA hK hP hD hX hl
  refine W.widen (k := mc) (n := ms) h1 h2 ?_
  exact W.aret (v := .ref (ad x)) hC.1 hC.2.1 (hC.2.2.2.1.trans hr) (Or.inl ⟨ty, rfl⟩) (Or.inr ⟨_, rfl⟩) (fun t ht hW => ⟨⟨some (vx_r x), ad, N, Λ, μ, rfl, k, by rw [ht]; exact hP, va_K.moved hW.alike hK, hD⟩, hS.F ht⟩) hS.2.2 hd hC.2.2.2.2.2.2.1

theorem vx_getI {C : String} {T : u_T} {n ci index a j : Nat} {fr : List (Option (Option Nat))} {v : Int32} (hd : decode cc pc = .ok (.getfield index, 3)) (hc : vwCl[ci]? = some (C, T, n)) (hin : ∀ w ∈ u_ws C T n, w ∈ vx_tbl) (hj : j < n) (hlk : Cond.fieldLink own index (T j).1 (T j).2.1 (T j).2.2.1 ∈ vx_tbl) (ha : a < N) (hΛ : Λ a = .inl (ci, fr)) (hf : fr[j]? = some none) (hv : μ a j = v) (k : vx_J own cc nL ret ini d mc ms Post ad kc ks N Λ μ (pc + 3) (ls) (.inl v :: st)) : vx_J own cc nL ret ini d mc ms Post ad kc ks N Λ μ (pc) (ls) (vx_r a :: st) := by
  subst hv
  intro p l e s m args below meth c D dA A H locs LS hC hS hA hK hP hD hX hl
  refine va_get (D := D) (v := .int (μ a j)) hC.1 hC.2.1 hC.2.2.2.2.2.1 hin hC.2.2.2.2.1 hK hP a (fs := vx_fs ad fr (μ a)) (by rw [vx_W_at ha, hΛ]; rfl) hc j hj (hC.2.2.2.2.2.1 _ hlk) (fun _ h9 => h9) (vx_fs_at hf) hd (k p l e s m args below meth c D dA A H locs LS hC hS hA hK hP hD hX hl)
theorem vx_getR {C : String} {T : u_T} {n ci index a j r : Nat} {fr : List (Option (Option Nat))} (hd : decode cc pc = .ok (.getfield index, 3)) (hc : vwCl[ci]? = some (C, T, n)) (hin : ∀ w ∈ u_ws C T n, w ∈ vx_tbl) (hj : j < n) (hlk : Cond.fieldLink own index (T j).1 (T j).2.1 (T j).2.2.1 ∈ vx_tbl) (ha : a < N) (hΛ : Λ a = .inl (ci, fr)) (hf : fr[j]? = some (some (some r))) (k : vx_J own cc nL ret ini d mc ms Post ad kc ks N Λ μ (pc + 3) (ls) (vx_r r :: st)) : vx_J own cc nL ret ini d mc ms Post ad kc ks N Λ μ (pc) (ls) (vx_r a :: st) := by
  intro p l e s m args below meth c D dA A H locs LS hC hS hA hK hP hD hX hl
  refine va_get (D := D) (v := .ref (ad r)) hC.1 hC.2.1 hC.2.2.2.2.2.1 hin hC.2.2.2.2.1 hK hP a (fs := vx_fs ad fr (μ a)) (by rw [vx_W_at ha, hΛ]; rfl) hc j hj (hC.2.2.2.2.2.1 _ hlk) (fun _ h9 => h9) (vx_fs_at hf) hd (k p l e s m args below meth c D dA A H locs LS hC hS hA hK hP hD hX hl)
theorem vx_putI {C : String} {T : u_T} {n ci index a j : Nat} {fr : List (Option (Option Nat))} {x : Int32} {ty0 : Nat → FieldType} {ty : FieldType} (hd : decode cc pc = .ok (.putfield index, 3)) (hc : vwCl[ci]? = some (C, T, n)) (hin : ∀ w ∈ u_ws C T n, w ∈ vx_tbl) (hty : ∀ k, k < n → parseFieldDescriptor (T k).2.2.1 = some (ty0 k)) (hnm : ∀ a, a < n → ∀ b, b < n → a ≠ b → (T a).2.1 ≠ (T b).2.1) (hj : j < n) (hlk : Cond.fieldLink own index (T j).1 (T j).2.1 (T j).2.2.1 ∈ vx_tbl) (hfin : (T j).2.2.2 = false) (ht : ty0 j = ty) (hn : narrow ty (.int x) = .int x) (hfit : fits ty (.int x) = true) (ha : a < N) (hΛ : Λ a = .inl (ci, fr)) (hf : fr[j]? = some none) {μ2 : vx_mem} (hm : va_up μ a (upd (μ a) j x) = μ2) (k : vx_J own cc nL ret ini d mc ms Post ad kc ks N Λ μ2 (pc + 3) (ls) (st)) : vx_J own cc nL ret ini d mc ms Post ad kc ks N Λ μ (pc) (ls) (.inl x :: vx_r a :: st) := by
  subst hm
  intro p l e s m args below meth c D dA A H locs LS hC hS hA hK hP hD hX hl
  refine va_put (D := D) (v := .int x) hC.1 hC.2.1 hC.2.2.2.2.2.1 hin ty0 hty hnm hC.2.2.2.2.1 hK hP hD hS a (fs := vx_fs ad fr (μ a)) (by rw [vx_W_at ha, hΛ]; rfl) hc j hj (hC.2.2.2.2.2.1 _ hlk) (fun _ h9 => h9) hfin ((hty j hj).trans (congrArg some ht)) hn hfit (by rw [vx_fs_len]; exact (List.getElem?_eq_some_iff.mp hf).1) hd (fun H locs hP hD hS => ?_)
  have e1 : (vx_W dA ad N Λ μ).set a (ad a, .inr (ci, (vx_fs ad fr (μ a)).set j (.int x))) = vx_W dA ad N Λ (va_up μ a (upd (μ a) j x)) := by
    rw [vx_fs_set hf]
    have e2 := vx_W_set (dA := dA) (ad := ad) (N := N) (Λ := Λ) (μ := μ) (k := a) (κ := Λ a) (f := upd (μ a) j x) ha
    rw [vx_up_id] at e2
    rw [← e2, hΛ]
    rfl
  rw [e1] at hP hD
  exact k p l e s m args below meth c D dA A H locs LS hC hS hA hK hP hD hX hl

theorem vx_iald {a n : Nat} {i v : Int32} (hd : decode cc pc = .ok (.iaload, 1)) (ha : a < N) (hΛ : Λ a = .inr (0, n, none)) (hi : vp_in i n) (hv : μ a i.toNatClampNeg = v) (k : vx_J own cc nL ret ini d mc ms Post ad kc ks N Λ μ (pc + 1) (ls) (.inl v :: st)) : vx_J own cc nL ret ini d mc ms Post ad kc ks N Λ μ (pc) (ls) (.inl i :: vx_r a :: st) := by
  subst hv
  intro p l e s m args below meth c D dA A H locs LS hC hS hA hK hP hD hX hl
  exact va_iald hC.1 hC.2.1 hK hP a 0 (f := μ a) (n := n) (by rw [vx_W_at ha, hΛ]; rfl) rfl hi hd (k p l e s m args below meth c D dA A H locs LS hC hS hA hK hP hD hX hl)
theorem vx_zald {a n : Nat} {i v : Int32} (hd : decode cc pc = .ok (.baload, 1)) (ha : a < N) (hΛ : Λ a = .inr (1, n, none)) (hi : vp_in i n) (hv : μ a i.toNatClampNeg = v) (k : vx_J own cc nL ret ini d mc ms Post ad kc ks N Λ μ (pc + 1) (ls) (.inl v :: st)) : vx_J own cc nL ret ini d mc ms Post ad kc ks N Λ μ (pc) (ls) (.inl i :: vx_r a :: st) := by
  subst hv
  intro p l e s m args below meth c D dA A H locs LS hC hS hA hK hP hD hX hl
  exact va_zald hC.1 hC.2.1 hK hP a 1 (f := μ a) (n := n) (by rw [vx_W_at ha, hΛ]; rfl) rfl hi hd (k p l e s m args below meth c D dA A H locs LS hC hS hA hK hP hD hX hl)
theorem vx_iast {a n : Nat} {i x : Int32} (hd : decode cc pc = .ok (.iastore, 1)) (ha : a < N) (hΛ : Λ a = .inr (0, n, none)) (hi : vp_in i n) {μ2 : vx_mem} (hm : va_up μ a (upd (μ a) i.toNatClampNeg x) = μ2) (k : vx_J own cc nL ret ini d mc ms Post ad kc ks N Λ μ2 (pc + 1) (ls) (st)) : vx_J own cc nL ret ini d mc ms Post ad kc ks N Λ μ (pc) (ls) (.inl x :: .inl i :: vx_r a :: st) := by
  subst hm
  intro p l e s m args below meth c D dA A H locs LS hC hS hA hK hP hD hX hl
  refine va_iast hC.1 hC.2.1 hK hP hD hS a 0 (f := μ a) (n := n) (by rw [vx_W_at ha, hΛ]; rfl) rfl hi hd (fun H locs hP hD hS => ?_)
  have e1 : (vx_W dA ad N Λ μ).set a (ad a, .inl (dA 0, n, .inl (upd (μ a) i.toNatClampNeg x))) = vx_W dA ad N Λ (va_up μ a (upd (μ a) i.toNatClampNeg x)) := by
    have e2 := vx_W_set (dA := dA) (ad := ad) (N := N) (Λ := Λ) (μ := μ) (k := a) (κ := Λ a) (f := upd (μ a) i.toNatClampNeg x) ha
    rw [vx_up_id] at e2
    rw [← e2, hΛ]
    rfl
  rw [e1] at hP hD
  exact k p l e s m args below meth c D dA A H locs LS hC hS hA hK hP hD hX hl
theorem vx_zast {a n : Nat} {i x : Int32} (hd : decode cc pc = .ok (.bastore, 1)) (ha : a < N) (hΛ : Λ a = .inr (1, n, none)) (hi : vp_in i n) {μ2 : vx_mem} (hm : va_up μ a (upd (μ a) i.toNatClampNeg (vp_nar .boolean x)) = μ2) (k : vx_J own cc nL ret ini d mc ms Post ad kc ks N Λ μ2 (pc + 1) (ls) (st)) : vx_J own cc nL ret ini d mc ms Post ad kc ks N Λ μ (pc) (ls) (.inl x :: .inl i :: vx_r a :: st) := by
  subst hm
  intro p l e s m args below meth c D dA A H locs LS hC hS hA hK hP hD hX hl
  refine va_zast hC.1 hC.2.1 hK hP hD hS a 1 (f := μ a) (n := n) (by rw [vx_W_at ha, hΛ]; rfl) rfl hi hd (fun H locs hP hD hS => ?_)
  have e1 : (vx_W dA ad N Λ μ).set a (ad a, .inl (dA 1, n, .inl (upd (μ a) i.toNatClampNeg (vp_nar .boolean x)))) = vx_W dA ad N Λ (va_up μ a (upd (μ a) i.toNatClampNeg (vp_nar .boolean x))) := by
    have e2 := vx_W_set (dA := dA) (ad := ad) (N := N) (Λ := Λ) (μ := μ) (k := a) (κ := Λ a) (f := upd (μ a) i.toNatClampNeg (vp_nar .boolean x)) ha
    rw [vx_up_id] at e2
    rw [← e2, hΛ]
    rfl
  rw [e1] at hP hD
  exact k p l e s m args below meth c D dA A H locs LS hC hS hA hK hP hD hX hl
theorem vx_alen {a t n : Nat} {o : Option (List Nat)} {v : Int32} (hd : decode cc pc = .ok (.arraylength, 1)) (ha : a < N) (hΛ : Λ a = .inr (t, n, o)) (ht : t < 3) (hv : Int32.ofNat n = v) (k : vx_J own cc nL ret ini d mc ms Post ad kc ks N Λ μ (pc + 1) (ls) (.inl v :: st)) : vx_J own cc nL ret ini d mc ms Post ad kc ks N Λ μ (pc) (ls) (vx_r a :: st) := by
  intro p l e s m args below meth c D dA A H locs LS hC hS hA hK hP hD hX hl
  obtain ⟨ty, hty⟩ : ∃ ty, (vx_T dA)[t]? = some (dA t, ty) := by
    rcases (show t = 0 ∨ t = 1 ∨ t = 2 by omega) with rfl | rfl | rfl
    · exact ⟨_, rfl⟩
    · exact ⟨_, rfl⟩
    · exact ⟨_, rfl⟩
  cases o with
  | none => exact va_alen hC.1 hC.2.1 hK hP a t (x := (n, .inl (μ a))) (by rw [vx_W_at ha, hΛ]; rfl) hty hv hd (k p l e s m args below meth c D dA A H locs LS hC hS hA hK hP hD hX hl)
  | some g => exact va_alen hC.1 hC.2.1 hK hP a t (x := (n, .inr (.inr (.inr (.inr (fun i => (g[i]?).map ad)))))) (by rw [vx_W_at ha, hΛ]; rfl) hty hv hd (k p l e s m args below meth c D dA A H locs LS hC hS hA hK hP hD hX hl)
theorem vx_aald {a n r : Nat} {g : List Nat} {i : Int32} (hd : decode cc pc = .ok (.aaload, 1)) (ha : a < N) (hΛ : Λ a = .inr (2, n, some g)) (hi : vp_in i n) (hr : g[i.toNatClampNeg]? = some r) (k : vx_J own cc nL ret ini d mc ms Post ad kc ks N Λ μ (pc + 1) (ls) (vx_r r :: st)) : vx_J own cc nL ret ini d mc ms Post ad kc ks N Λ μ (pc) (ls) (.inl i :: vx_r a :: st) := by
  intro p l e s m args below meth c D dA A H locs LS hC hS hA hK hP hD hX hl
  have hc : H[ad a]? = some (vp_cell (dA 2) (n, .inr (.inr (.inr (.inr (fun i => (g[i]?).map ad)))))) := by
    have := hP a (ad a, _) (vx_W_at ha)
    rw [hΛ] at this
    exact this
  refine W.aald hC.1 hC.2.1 hc (by rw [vp_cell_q]; exact (hK.2 2 _ rfl).1 n _) rfl (by rw [vp_cell_q]; exact fun q => by cases q) (by rw [vp_cell_q, arrV_size]; exact hi) (v := .ref (ad r)) ?_ rfl rfl hd (k p l e s m args below meth c D dA A H locs LS hC hS hA hK hP hD hX hl)
  rw [vp_cell_q]
  have hlt : i.toNatClampNeg < n := by
    unfold vp_in at hi
    omega
  rw [arrV_read _ _ hlt, hr]
  rfl
/-- rows that nobody writes -/
theorem vx_ialdX {j : Nat} {i v : Int32} (hd : decode cc pc = .ok (.iaload, 1)) (hj : j < 3) (hi : vp_in i 6) (hv : (vx_sv j).getD i.toNatClampNeg 0 = v) (k : vx_J own cc nL ret ini d mc ms Post ad kc ks N Λ μ (pc + 1) (ls) (.inl v :: st)) : vx_J own cc nL ret ini d mc ms Post ad kc ks N Λ μ (pc) (ls) (.inl i :: vx_r (1200 + j) :: st) := by
  intro p l e s m args below meth c D dA A H locs LS hC hS hA hK hP hD hX hl
  exact va_ti hC.1 hC.2.1 (hX.2.1 j hj).2 hS hi (v := .int v) (by show Value.int _ = Value.int _; rw [hv]) hd (k p l e s m args below meth c D dA A H locs LS hC hS hA hK hP hD hX hl)
theorem vx_alenX {j : Nat} (hd : decode cc pc = .ok (.arraylength, 1)) (hj : j < 3) (k : vx_J own cc nL ret ini d mc ms Post ad kc ks N Λ μ (pc + 1) (ls) (.inl 6 :: st)) : vx_J own cc nL ret ini d mc ms Post ad kc ks N Λ μ (pc) (ls) (vx_r (1200 + j) :: st) := by
  intro p l e s m args below meth c D dA A H locs LS hC hS hA hK hP hD hX hl
  exact va_tlen hC.1 hC.2.1 (hX.2.1 j hj).2 hS (v := 6) rfl hd (k p l e s m args below meth c D dA A H locs LS hC hS hA hK hP hD hX hl)
theorem vx_getsX {j index : Nat} (hd : decode cc pc = .ok (.getstatic index, 3)) (hj : j < 3) (hlk : Cond.fieldLink own index "ThreshRound$Customs" (vx_sn j) "[I" ∈ vx_tbl) (k : vx_J own cc nL ret ini d mc ms Post ad kc ks N Λ μ (pc + 3) (ls) (vx_r (1200 + j) :: st)) : vx_J own cc nL ret ini d mc ms Post ad kc ks N Λ μ (pc) (ls) (st) := by
  intro p l e s m args below meth c D dA A H locs LS hC hS hA hK hP hD hX hl
  exact va_gets hC.1 hC.2.1 (hX.2.1 j hj).1 hS hC.2.2.2.2.1 (hC.2.2.2.2.2.1 _ hlk) (fun _ h9 => h9) hd (k p l e s m args below meth c D dA A H locs LS hC hS hA hK hP hD hX hl)

theorem vx_mmax {index : Nat} {x y : Int32} (hd : decode cc pc = .ok (.invokestatic index, 3)) (hlk : Cond.methodLink own index Lib.Math.max.name ∈ vx_tbl) (hd1 : 1 ≤ d) (hst : st.length ≤ 8) (h1 : kc ≤ mc) (h2 : ks ≤ ms) (k : vx_J own cc nL ret ini d mc ms Post ad kc ks N Λ μ (pc + 3) (ls) (.inl (if x < y then y else x) :: st)) : vx_J own cc nL ret ini d mc ms Post ad kc ks N Λ μ (pc) (ls) (.inl y :: .inl x :: st) := by
  intro p l e s m args below meth c D dA A H locs LS hC hS hA hK hP hD hX hl
  have hs : ((st.map (vx_V ad)).map fun v => v.category).sum ≤ 8 := by
    have e : ((st.map (vx_V ad)).map fun v => v.category) = List.replicate st.length 1 := by
      apply List.ext_getElem?
      intro i
      by_cases hi : i < st.length
      · simp [List.getElem?_replicate, hi, vx_V_cat]
      · simp [List.getElem?_replicate, hi]
    rw [e, List.sum_replicate_nat]
    omega
  exact va_mmax hC.1 hC.2.1 (hC.2.2.1.trans hl.1.symm) hC.2.2.2.2.1 (hC.2.2.2.2.2.1 _ hlk) (hC.2.2.2.2.2.1 (.static Lib.Math.max.name) (vx_w 573 (by decide +kernel) rfl)) (hC.2.2.2.2.2.1 (.initialized "java/lang/Math") (vx_w 59 (by decide +kernel) rfl)) (hC.2.2.2.2.2.1 (.code Lib.Math.max.name Lib.Math.max.code 2 (some .int)) (vx_w 574 (by decide +kernel) rfl)) hd1 (by show _ ≤ 64 * d; omega) h1 h2 hd (k p l e s m args below meth c D dA A H locs LS hC hS hA hK hP hD hX hl)
theorem vx_mmin {index : Nat} {x y : Int32} (hd : decode cc pc = .ok (.invokestatic index, 3)) (hlk : Cond.methodLink own index Lib.Math.min.name ∈ vx_tbl) (hd1 : 1 ≤ d) (hst : st.length ≤ 8) (h1 : kc ≤ mc) (h2 : ks ≤ ms) (k : vx_J own cc nL ret ini d mc ms Post ad kc ks N Λ μ (pc + 3) (ls) (.inl (if y < x then y else x) :: st)) : vx_J own cc nL ret ini d mc ms Post ad kc ks N Λ μ (pc) (ls) (.inl y :: .inl x :: st) := by
  intro p l e s m args below meth c D dA A H locs LS hC hS hA hK hP hD hX hl
  have hs : ((st.map (vx_V ad)).map fun v => v.category).sum ≤ 8 := by
    have e : ((st.map (vx_V ad)).map fun v => v.category) = List.replicate st.length 1 := by
      apply List.ext_getElem?
      intro i
      by_cases hi : i < st.length
      · simp [List.getElem?_replicate, hi, vx_V_cat]
      · simp [List.getElem?_replicate, hi]
    rw [e, List.sum_replicate_nat]
    omega
  exact va_mmin hC.1 hC.2.1 (hC.2.2.1.trans hl.1.symm) hC.2.2.2.2.1 (hC.2.2.2.2.2.1 _ hlk) (hC.2.2.2.2.2.1 (.static Lib.Math.min.name) (vx_w 490 (by decide +kernel) rfl)) (hC.2.2.2.2.2.1 (.initialized "java/lang/Math") (vx_w 59 (by decide +kernel) rfl)) (hC.2.2.2.2.2.1 (.code Lib.Math.min.name Lib.Math.min.code 2 (some .int)) (vx_w 491 (by decide +kernel) rfl)) hd1 (by show _ ≤ 64 * d; omega) h1 h2 hd (k p l e s m args below meth c D dA A H locs LS hC hS hA hK hP hD hX hl)
end
end
section
theorem wd_0 : Cond.selects "ThreshRound$Customs" ⟨"ThreshRound$Customs", "forgetTold", "()V"⟩ ⟨"ThreshRound$Customs", "forgetTold", "()V"⟩ ∈ vx_tbl := vx_w 0 (by decide +kernel) rfl
theorem wd_1 : Cond.selects "ThreshRound$Customs" ⟨"ThreshRound$Customs", "putInForce", "()V"⟩ ⟨"ThreshRound$Customs", "putInForce", "()V"⟩ ∈ vx_tbl := vx_w 1 (by decide +kernel) rfl
theorem wd_2 : Cond.selects "ThreshRound$Search" ⟨"ThreshRound$Search", "setWaits", "(IZ)V"⟩ ⟨"ThreshRound$Search", "setWaits", "(IZ)V"⟩ ∈ vx_tbl := vx_w 2 (by decide +kernel) rfl
theorem wd_3 : Cond.selects "ThreshRound$Customs" ⟨"ThreshRound$Customs", "readLine", "(LThreshRound$Tape;)Z"⟩ ⟨"ThreshRound$Customs", "readLine", "(LThreshRound$Tape;)Z"⟩ ∈ vx_tbl := vx_w 3 (by decide +kernel) rfl
theorem wd_4 : Cond.selects "ThreshRound$Customs" ⟨"ThreshRound$Customs", "fails", "(II)Z"⟩ ⟨"ThreshRound$Customs", "fails", "(II)Z"⟩ ∈ vx_tbl := vx_w 4 (by decide +kernel) rfl
theorem wd_5 : Cond.selects "ThreshRound" ⟨"ThreshRound", "isPlace", "(I)Z"⟩ ⟨"ThreshRound", "isPlace", "(I)Z"⟩ ∈ vx_tbl := vx_w 5 (by decide +kernel) rfl
theorem wd_6 : Cond.selects "ThreshRound" ⟨"ThreshRound", "prepareSearch", "()V"⟩ ⟨"ThreshRound", "prepareSearch", "()V"⟩ ∈ vx_tbl := vx_w 6 (by decide +kernel) rfl
theorem wd_7 : Cond.selects "ThreshRound" ⟨"ThreshRound", "speedOf", "(I)I"⟩ ⟨"ThreshRound", "speedOf", "(I)I"⟩ ∈ vx_tbl := vx_w 7 (by decide +kernel) rfl
theorem wd_8 : Cond.selects "ThreshRound$Debts" ⟨"ThreshRound$Debts", "nextLender", "(II)I"⟩ ⟨"ThreshRound$Debts", "nextLender", "(II)I"⟩ ∈ vx_tbl := vx_w 8 (by decide +kernel) rfl
theorem wd_9 : Cond.selects "ThreshRound$Search" ⟨"ThreshRound$Search", "isWaiting", "(I)Z"⟩ ⟨"ThreshRound$Search", "isWaiting", "(I)Z"⟩ ∈ vx_tbl := vx_w 9 (by decide +kernel) rfl
theorem wd_10 : Cond.selects "ThreshRound$Search" ⟨"ThreshRound$Search", "keepAsBest", "(II)V"⟩ ⟨"ThreshRound$Search", "keepAsBest", "(II)V"⟩ ∈ vx_tbl := vx_w 10 (by decide +kernel) rfl
theorem wd_11 : Cond.selects "ThreshRound$Search" ⟨"ThreshRound$Search", "mayCome", "(II)Z"⟩ ⟨"ThreshRound$Search", "mayCome", "(II)Z"⟩ ∈ vx_tbl := vx_w 11 (by decide +kernel) rfl
theorem wd_12 : Cond.selects "ThreshRound$Search" ⟨"ThreshRound$Search", "beatsBest", "(II)Z"⟩ ⟨"ThreshRound$Search", "beatsBest", "(II)Z"⟩ ∈ vx_tbl := vx_w 12 (by decide +kernel) rfl
theorem wd_13 : Cond.selects "ThreshRound" ⟨"ThreshRound", "setOutFor", "(I)V"⟩ ⟨"ThreshRound", "setOutFor", "(I)V"⟩ ∈ vx_tbl := vx_w 13 (by decide +kernel) rfl
theorem wd_14 : Cond.selects "ThreshRound" ⟨"ThreshRound", "passDay", "()V"⟩ ⟨"ThreshRound", "passDay", "()V"⟩ ∈ vx_tbl := vx_w 14 (by decide +kernel) rfl
theorem wd_15 : Cond.selects "ThreshRound" ⟨"ThreshRound", "isAheadOfFrom", "()Z"⟩ ⟨"ThreshRound", "isAheadOfFrom", "()Z"⟩ ∈ vx_tbl := vx_w 15 (by decide +kernel) rfl
theorem wd_16 : Cond.selects "ThreshRound" ⟨"ThreshRound", "thresh", "(I)V"⟩ ⟨"ThreshRound", "thresh", "(I)V"⟩ ∈ vx_tbl := vx_w 16 (by decide +kernel) rfl
theorem wd_17 : Cond.selects "ThreshRound" ⟨"ThreshRound", "goOn", "()V"⟩ ⟨"ThreshRound", "goOn", "()V"⟩ ∈ vx_tbl := vx_w 17 (by decide +kernel) rfl
theorem wd_18 : Cond.selects "ThreshRound" ⟨"ThreshRound", "sacksOf", "(I)I"⟩ ⟨"ThreshRound", "sacksOf", "(I)I"⟩ ∈ vx_tbl := vx_w 18 (by decide +kernel) rfl
theorem wd_19 : Cond.selects "ThreshRound" ⟨"ThreshRound", "priceOf", "(I)I"⟩ ⟨"ThreshRound", "priceOf", "(I)I"⟩ ∈ vx_tbl := vx_w 19 (by decide +kernel) rfl
theorem wd_20 : Cond.selects "ThreshRound" ⟨"ThreshRound", "gangOf", "(I)I"⟩ ⟨"ThreshRound", "gangOf", "(I)I"⟩ ∈ vx_tbl := vx_w 20 (by decide +kernel) rfl
theorem wd_21 : Cond.selects "ThreshRound" ⟨"ThreshRound", "lossOf", "(I)I"⟩ ⟨"ThreshRound", "lossOf", "(I)I"⟩ ∈ vx_tbl := vx_w 21 (by decide +kernel) rfl
theorem wd_22 : Cond.selects "ThreshRound" ⟨"ThreshRound", "areTwoFarms", "(II)Z"⟩ ⟨"ThreshRound", "areTwoFarms", "(II)Z"⟩ ∈ vx_tbl := vx_w 22 (by decide +kernel) rfl
theorem wd_23 : Cond.selects "ThreshRound" ⟨"ThreshRound", "howItIs", "()I"⟩ ⟨"ThreshRound", "howItIs", "()I"⟩ ∈ vx_tbl := vx_w 23 (by decide +kernel) rfl
theorem wd_24 : Cond.selects "ThreshRoundModel" ⟨"ThreshRoundModel", "next", "()V"⟩ ⟨"ThreshRoundModel", "next", "()V"⟩ ∈ vx_tbl := vx_w 24 (by decide +kernel) rfl
theorem wd_25 : Cond.selects "ThreshRoundModel" ⟨"ThreshRoundModel", "here", "()I"⟩ ⟨"ThreshRoundModel", "here", "()I"⟩ ∈ vx_tbl := vx_w 25 (by decide +kernel) rfl
theorem wd_26 : Cond.selects "ThreshRoundModel" ⟨"ThreshRoundModel", "wordOf", "()I"⟩ ⟨"ThreshRoundModel", "wordOf", "()I"⟩ ∈ vx_tbl := vx_w 26 (by decide +kernel) rfl
theorem wd_27 : Cond.selects "ThreshRoundModel" ⟨"ThreshRoundModel", "line", "()V"⟩ ⟨"ThreshRoundModel", "line", "()V"⟩ ∈ vx_tbl := vx_w 27 (by decide +kernel) rfl
theorem wd_28 : Cond.selects "ThreshRoundModel" ⟨"ThreshRoundModel", "wrong", "(I)V"⟩ ⟨"ThreshRoundModel", "wrong", "(I)V"⟩ ∈ vx_tbl := vx_w 28 (by decide +kernel) rfl
theorem wd_29 : Cond.selects "ThreshRoundModel" ⟨"ThreshRoundModel", "isFarm", "(I)Z"⟩ ⟨"ThreshRoundModel", "isFarm", "(I)Z"⟩ ∈ vx_tbl := vx_w 29 (by decide +kernel) rfl
theorem wd_30 : Cond.selects "ThreshRoundModel" ⟨"ThreshRoundModel", "firstOrder", "()V"⟩ ⟨"ThreshRoundModel", "firstOrder", "()V"⟩ ∈ vx_tbl := vx_w 30 (by decide +kernel) rfl
theorem wd_31 : Cond.selects "ThreshRoundModel" ⟨"ThreshRoundModel", "isDone", "(I)Z"⟩ ⟨"ThreshRoundModel", "isDone", "(I)Z"⟩ ∈ vx_tbl := vx_w 31 (by decide +kernel) rfl
theorem wd_32 : Cond.selects "ThreshRoundModel" ⟨"ThreshRoundModel", "speedOf", "(I)I"⟩ ⟨"ThreshRoundModel", "speedOf", "(I)I"⟩ ∈ vx_tbl := vx_w 32 (by decide +kernel) rfl
theorem wd_33 : Cond.selects "ThreshRoundModel" ⟨"ThreshRoundModel", "gangs", "(I)V"⟩ ⟨"ThreshRoundModel", "gangs", "(I)V"⟩ ∈ vx_tbl := vx_w 33 (by decide +kernel) rfl
theorem wd_34 : Cond.selects "ThreshRoundModel" ⟨"ThreshRoundModel", "goes", "()Z"⟩ ⟨"ThreshRoundModel", "goes", "()Z"⟩ ∈ vx_tbl := vx_w 34 (by decide +kernel) rfl
theorem wd_35 : Cond.selects "ThreshRoundModel" ⟨"ThreshRoundModel", "lossOf", "(II)I"⟩ ⟨"ThreshRoundModel", "lossOf", "(II)I"⟩ ∈ vx_tbl := vx_w 35 (by decide +kernel) rfl
theorem wd_36 : Cond.selects "ThreshRoundModel" ⟨"ThreshRoundModel", "goesOn", "()Z"⟩ ⟨"ThreshRoundModel", "goesOn", "()Z"⟩ ∈ vx_tbl := vx_w 36 (by decide +kernel) rfl
theorem wd_37 : Cond.selects "ThreshRoundModel" ⟨"ThreshRoundModel", "swaps", "(II)V"⟩ ⟨"ThreshRoundModel", "swaps", "(II)V"⟩ ∈ vx_tbl := vx_w 37 (by decide +kernel) rfl
theorem wd_38 : Cond.selects "ThreshRoundModel" ⟨"ThreshRoundModel", "comes", "()V"⟩ ⟨"ThreshRoundModel", "comes", "()V"⟩ ∈ vx_tbl := vx_w 38 (by decide +kernel) rfl
theorem wd_39 : Cond.selects "ThreshRoundModel" ⟨"ThreshRoundModel", "setsOut", "()Z"⟩ ⟨"ThreshRoundModel", "setsOut", "()Z"⟩ ∈ vx_tbl := vx_w 39 (by decide +kernel) rfl
theorem wd_40 : Cond.selects "ThreshRoundModel" ⟨"ThreshRoundModel", "oneDay", "()V"⟩ ⟨"ThreshRoundModel", "oneDay", "()V"⟩ ∈ vx_tbl := vx_w 40 (by decide +kernel) rfl
theorem wd_41 : Cond.selects "ThreshRoundModel" ⟨"ThreshRoundModel", "isAtWork", "()Z"⟩ ⟨"ThreshRoundModel", "isAtWork", "()Z"⟩ ∈ vx_tbl := vx_w 41 (by decide +kernel) rfl
theorem wd_42 : Cond.selects "ThreshRoundModel" ⟨"ThreshRoundModel", "threshes", "(I)V"⟩ ⟨"ThreshRoundModel", "threshes", "(I)V"⟩ ∈ vx_tbl := vx_w 42 (by decide +kernel) rfl
theorem wd_43 : Cond.selects "ThreshRoundModel" ⟨"ThreshRoundModel", "sacksOf", "(I)I"⟩ ⟨"ThreshRoundModel", "sacksOf", "(I)I"⟩ ∈ vx_tbl := vx_w 43 (by decide +kernel) rfl
theorem wd_44 : Cond.initialized "ThreshRoundLaw" ∈ vx_tbl := vx_w 44 (by decide +kernel) rfl
theorem wd_45 : Cond.initialized "ThreshRound" ∈ vx_tbl := vx_w 45 (by decide +kernel) rfl
theorem wd_46 : Cond.initialized "ThreshRound$Tape" ∈ vx_tbl := vx_w 46 (by decide +kernel) rfl
theorem wd_47 : Cond.initialized "ThreshRound$Customs" ∈ vx_tbl := vx_w 47 (by decide +kernel) rfl
theorem wd_48 : Cond.initialized "ThreshRound$Farms" ∈ vx_tbl := vx_w 48 (by decide +kernel) rfl
theorem wd_49 : Cond.initialized "ThreshRound$Roads" ∈ vx_tbl := vx_w 49 (by decide +kernel) rfl
theorem wd_50 : Cond.initialized "ThreshRound$Debts" ∈ vx_tbl := vx_w 50 (by decide +kernel) rfl
theorem wd_51 : Cond.initialized "ThreshRound$Search" ∈ vx_tbl := vx_w 51 (by decide +kernel) rfl
theorem wd_52 : Cond.initialized "ThreshRound$Plan" ∈ vx_tbl := vx_w 52 (by decide +kernel) rfl
theorem wd_53 : Cond.initialized "ThreshRound$Engine" ∈ vx_tbl := vx_w 53 (by decide +kernel) rfl
theorem wd_54 : Cond.initialized "ThreshRoundModel" ∈ vx_tbl := vx_w 54 (by decide +kernel) rfl
theorem wd_55 : Cond.initialized "java/lang/String" ∈ vx_tbl := vx_w 55 (by decide +kernel) rfl
theorem wd_56 : Cond.initialized "java/lang/StringLatin1" ∈ vx_tbl := vx_w 56 (by decide +kernel) rfl
theorem wd_57 : Cond.initialized "jdk/internal/util/Preconditions" ∈ vx_tbl := vx_w 57 (by decide +kernel) rfl
theorem wd_58 : Cond.initialized "java/lang/StringUTF16" ∈ vx_tbl := vx_w 58 (by decide +kernel) rfl
theorem wd_59 : Cond.initialized "java/lang/Math" ∈ vx_tbl := vx_w 59 (by decide +kernel) rfl
theorem wd_60 : Cond.classLink "ThreshRoundLaw" 7 "ThreshRound" ∈ vx_tbl := vx_w 60 (by decide +kernel) rfl
theorem wd_61 : Cond.instantiable "ThreshRound" 8 ∈ vx_tbl := vx_w 61 (by decide +kernel) rfl
theorem wd_62 : Cond.methodLink "ThreshRoundLaw" 9 ⟨"ThreshRound", "<init>", "()V"⟩ ∈ vx_tbl := vx_w 62 (by decide +kernel) rfl
theorem wd_63 : Cond.instanceMethod ⟨"ThreshRound", "<init>", "()V"⟩ ∈ vx_tbl := vx_w 63 (by decide +kernel) rfl
theorem wd_64 : Cond.code ⟨"ThreshRound", "<init>", "()V"⟩ prog_1_method_1_code 1 (Option.none : Option Jvm.ClassFile.FieldType) ∈ vx_tbl := vx_w 64 (by decide +kernel) rfl
theorem wd_65 : Cond.methodLink "ThreshRound" 3 ⟨"java/lang/Object", "<init>", "()V"⟩ ∈ vx_tbl := vx_w 65 (by decide +kernel) rfl
theorem wd_66 : Cond.instanceMethod ⟨"java/lang/Object", "<init>", "()V"⟩ ∈ vx_tbl := vx_w 66 (by decide +kernel) rfl
theorem wd_67 : Cond.code ⟨"java/lang/Object", "<init>", "()V"⟩ object_method_1_code 1 (Option.none : Option Jvm.ClassFile.FieldType) ∈ vx_tbl := vx_w 67 (by decide +kernel) rfl
theorem wd_68 : Cond.classLink "ThreshRound" 9 "ThreshRound$Tape" ∈ vx_tbl := vx_w 68 (by decide +kernel) rfl
theorem wd_69 : Cond.instantiable "ThreshRound$Tape" 4 ∈ vx_tbl := vx_w 69 (by decide +kernel) rfl
theorem wd_70 : Cond.methodLink "ThreshRound" 11 ⟨"ThreshRound$Tape", "<init>", "()V"⟩ ∈ vx_tbl := vx_w 70 (by decide +kernel) rfl
theorem wd_71 : Cond.instanceMethod ⟨"ThreshRound$Tape", "<init>", "()V"⟩ ∈ vx_tbl := vx_w 71 (by decide +kernel) rfl
theorem wd_72 : Cond.code ⟨"ThreshRound$Tape", "<init>", "()V"⟩ prog_9_method_1_code 1 (Option.none : Option Jvm.ClassFile.FieldType) ∈ vx_tbl := vx_w 72 (by decide +kernel) rfl
theorem wd_73 : Cond.methodLink "ThreshRound$Tape" 3 ⟨"java/lang/Object", "<init>", "()V"⟩ ∈ vx_tbl := vx_w 73 (by decide +kernel) rfl
theorem wd_74 : Cond.fieldLink "ThreshRound$Tape" 11 "ThreshRound$Tape" "bytes" "[I" ∈ vx_tbl := vx_w 74 (by decide +kernel) rfl
theorem wd_75 : Cond.fieldLink "ThreshRound$Tape" 15 "ThreshRound$Tape" "length" "I" ∈ vx_tbl := vx_w 75 (by decide +kernel) rfl
theorem wd_76 : Cond.fieldLink "ThreshRound" 73 "ThreshRound$Tape" "length" "I" ∈ vx_tbl := vx_w 76 (by decide +kernel) rfl
theorem wd_77 : Cond.fieldLink "ThreshRound$Tape" 19 "ThreshRound$Tape" "place" "I" ∈ vx_tbl := vx_w 77 (by decide +kernel) rfl
theorem wd_78 : Cond.fieldLink "ThreshRound$Customs" 67 "ThreshRound$Tape" "place" "I" ∈ vx_tbl := vx_w 78 (by decide +kernel) rfl
theorem wd_79 : Cond.fieldLink "ThreshRound$Tape" 22 "ThreshRound$Tape" "end" "I" ∈ vx_tbl := vx_w 79 (by decide +kernel) rfl
theorem wd_89 : Cond.arrayClass Jvm.ClassFile.FieldType.int ∈ vx_tbl := vx_w 89 (by decide +kernel) rfl
theorem wd_90 : Cond.classLink "ThreshRound" 16 "ThreshRound$Customs" ∈ vx_tbl := vx_w 90 (by decide +kernel) rfl
theorem wd_91 : Cond.instantiable "ThreshRound$Customs" 4 ∈ vx_tbl := vx_w 91 (by decide +kernel) rfl
theorem wd_92 : Cond.methodLink "ThreshRound" 18 ⟨"ThreshRound$Customs", "<init>", "()V"⟩ ∈ vx_tbl := vx_w 92 (by decide +kernel) rfl
theorem wd_93 : Cond.instanceMethod ⟨"ThreshRound$Customs", "<init>", "()V"⟩ ∈ vx_tbl := vx_w 93 (by decide +kernel) rfl
theorem wd_94 : Cond.code ⟨"ThreshRound$Customs", "<init>", "()V"⟩ prog_2_method_1_code 1 (Option.none : Option Jvm.ClassFile.FieldType) ∈ vx_tbl := vx_w 94 (by decide +kernel) rfl
theorem wd_95 : Cond.methodLink "ThreshRound$Customs" 3 ⟨"java/lang/Object", "<init>", "()V"⟩ ∈ vx_tbl := vx_w 95 (by decide +kernel) rfl
theorem wd_96 : Cond.methodLink "ThreshRound$Customs" 18 ⟨"ThreshRound$Customs", "forgetTold", "()V"⟩ ∈ vx_tbl := vx_w 96 (by decide +kernel) rfl
theorem wd_98 : Cond.instanceMethod ⟨"ThreshRound$Customs", "forgetTold", "()V"⟩ ∈ vx_tbl := vx_w 98 (by decide +kernel) rfl
theorem wd_99 : Cond.code ⟨"ThreshRound$Customs", "forgetTold", "()V"⟩ prog_2_method_4_code 2 (Option.none : Option Jvm.ClassFile.FieldType) ∈ vx_tbl := vx_w 99 (by decide +kernel) rfl
theorem wd_101 : Cond.static ⟨"ThreshRound", "put", "([III)V"⟩ ∈ vx_tbl := vx_w 101 (by decide +kernel) rfl
theorem wd_102 : Cond.code ⟨"ThreshRound", "put", "([III)V"⟩ prog_1_method_33_code 3 (Option.none : Option Jvm.ClassFile.FieldType) ∈ vx_tbl := vx_w 102 (by decide +kernel) rfl
theorem wd_103 : Cond.methodLink "ThreshRound$Customs" 21 ⟨"ThreshRound$Customs", "putInForce", "()V"⟩ ∈ vx_tbl := vx_w 103 (by decide +kernel) rfl
theorem wd_105 : Cond.instanceMethod ⟨"ThreshRound$Customs", "putInForce", "()V"⟩ ∈ vx_tbl := vx_w 105 (by decide +kernel) rfl
theorem wd_106 : Cond.code ⟨"ThreshRound$Customs", "putInForce", "()V"⟩ prog_2_method_5_code 3 (Option.none : Option Jvm.ClassFile.FieldType) ∈ vx_tbl := vx_w 106 (by decide +kernel) rfl
theorem wd_108 : Cond.static ⟨"ThreshRound", "at", "([II)I"⟩ ∈ vx_tbl := vx_w 108 (by decide +kernel) rfl
theorem wd_109 : Cond.code ⟨"ThreshRound", "at", "([II)I"⟩ prog_1_method_32_code 2 (Option.some Jvm.ClassFile.FieldType.int) ∈ vx_tbl := vx_w 109 (by decide +kernel) rfl
theorem wd_110 : Cond.fieldLink "ThreshRound$Customs" 56 "ThreshRound$Customs" "USUAL" "[I" ∈ vx_tbl := vx_w 110 (by decide +kernel) rfl
theorem wd_112 : Cond.fieldLink "ThreshRound$Customs" 11 "ThreshRound$Customs" "inForce" "[I" ∈ vx_tbl := vx_w 112 (by decide +kernel) rfl
theorem wd_113 : Cond.fieldLink "ThreshRound$Customs" 15 "ThreshRound$Customs" "told" "[I" ∈ vx_tbl := vx_w 113 (by decide +kernel) rfl
theorem wd_114 : Cond.fieldLink "ThreshRound$Customs" 45 "ThreshRound$Customs" "fault" "I" ∈ vx_tbl := vx_w 114 (by decide +kernel) rfl
theorem wd_115 : Cond.fieldLink "ThreshRound" 81 "ThreshRound$Customs" "fault" "I" ∈ vx_tbl := vx_w 115 (by decide +kernel) rfl
theorem wd_116 : Cond.fieldLink "ThreshRound$Customs" 49 "ThreshRound$Customs" "faultPlace" "I" ∈ vx_tbl := vx_w 116 (by decide +kernel) rfl
theorem wd_117 : Cond.fieldLink "ThreshRound" 84 "ThreshRound$Customs" "faultPlace" "I" ∈ vx_tbl := vx_w 117 (by decide +kernel) rfl
theorem wd_127 : Cond.classLink "ThreshRound" 23 "ThreshRound$Farms" ∈ vx_tbl := vx_w 127 (by decide +kernel) rfl
theorem wd_128 : Cond.instantiable "ThreshRound$Farms" 12 ∈ vx_tbl := vx_w 128 (by decide +kernel) rfl
theorem wd_129 : Cond.methodLink "ThreshRound" 25 ⟨"ThreshRound$Farms", "<init>", "()V"⟩ ∈ vx_tbl := vx_w 129 (by decide +kernel) rfl
theorem wd_130 : Cond.instanceMethod ⟨"ThreshRound$Farms", "<init>", "()V"⟩ ∈ vx_tbl := vx_w 130 (by decide +kernel) rfl
theorem wd_131 : Cond.code ⟨"ThreshRound$Farms", "<init>", "()V"⟩ prog_5_method_1_code 1 (Option.none : Option Jvm.ClassFile.FieldType) ∈ vx_tbl := vx_w 131 (by decide +kernel) rfl
theorem wd_132 : Cond.methodLink "ThreshRound$Farms" 3 ⟨"java/lang/Object", "<init>", "()V"⟩ ∈ vx_tbl := vx_w 132 (by decide +kernel) rfl
theorem wd_133 : Cond.fieldLink "ThreshRound$Farms" 9 "ThreshRound$Farms" "count" "I" ∈ vx_tbl := vx_w 133 (by decide +kernel) rfl
theorem wd_134 : Cond.fieldLink "ThreshRound$Debts" 39 "ThreshRound$Farms" "count" "I" ∈ vx_tbl := vx_w 134 (by decide +kernel) rfl
theorem wd_135 : Cond.fieldLink "ThreshRound" 91 "ThreshRound$Farms" "count" "I" ∈ vx_tbl := vx_w 135 (by decide +kernel) rfl
theorem wd_136 : Cond.fieldLink "ThreshRound$Farms" 15 "ThreshRound$Farms" "stack" "[I" ∈ vx_tbl := vx_w 136 (by decide +kernel) rfl
theorem wd_137 : Cond.fieldLink "ThreshRound" 98 "ThreshRound$Farms" "stack" "[I" ∈ vx_tbl := vx_w 137 (by decide +kernel) rfl
theorem wd_138 : Cond.fieldLink "ThreshRound$Farms" 19 "ThreshRound$Farms" "left" "[I" ∈ vx_tbl := vx_w 138 (by decide +kernel) rfl
theorem wd_139 : Cond.fieldLink "ThreshRound" 106 "ThreshRound$Farms" "left" "[I" ∈ vx_tbl := vx_w 139 (by decide +kernel) rfl
theorem wd_140 : Cond.fieldLink "ThreshRound$Farms" 22 "ThreshRound$Farms" "damp" "[I" ∈ vx_tbl := vx_w 140 (by decide +kernel) rfl
theorem wd_141 : Cond.fieldLink "ThreshRound" 109 "ThreshRound$Farms" "damp" "[I" ∈ vx_tbl := vx_w 141 (by decide +kernel) rfl
theorem wd_142 : Cond.fieldLink "ThreshRound$Farms" 25 "ThreshRound$Farms" "own" "[I" ∈ vx_tbl := vx_w 142 (by decide +kernel) rfl
theorem wd_143 : Cond.fieldLink "ThreshRound$Debts" 24 "ThreshRound$Farms" "own" "[I" ∈ vx_tbl := vx_w 143 (by decide +kernel) rfl
theorem wd_144 : Cond.fieldLink "ThreshRound" 112 "ThreshRound$Farms" "own" "[I" ∈ vx_tbl := vx_w 144 (by decide +kernel) rfl
theorem wd_145 : Cond.fieldLink "ThreshRound$Farms" 28 "ThreshRound$Farms" "lends" "[I" ∈ vx_tbl := vx_w 145 (by decide +kernel) rfl
theorem wd_146 : Cond.fieldLink "ThreshRound$Debts" 46 "ThreshRound$Farms" "lends" "[I" ∈ vx_tbl := vx_w 146 (by decide +kernel) rfl
theorem wd_147 : Cond.fieldLink "ThreshRound" 115 "ThreshRound$Farms" "lends" "[I" ∈ vx_tbl := vx_w 147 (by decide +kernel) rfl
theorem wd_148 : Cond.fieldLink "ThreshRound$Farms" 31 "ThreshRound$Farms" "from" "[I" ∈ vx_tbl := vx_w 148 (by decide +kernel) rfl
theorem wd_149 : Cond.fieldLink "ThreshRound" 118 "ThreshRound$Farms" "from" "[I" ∈ vx_tbl := vx_w 149 (by decide +kernel) rfl
theorem wd_150 : Cond.fieldLink "ThreshRound$Farms" 34 "ThreshRound$Farms" "to" "[I" ∈ vx_tbl := vx_w 150 (by decide +kernel) rfl
theorem wd_151 : Cond.fieldLink "ThreshRound" 121 "ThreshRound$Farms" "to" "[I" ∈ vx_tbl := vx_w 151 (by decide +kernel) rfl
theorem wd_152 : Cond.fieldLink "ThreshRound$Farms" 37 "ThreshRound$Farms" "days" "[I" ∈ vx_tbl := vx_w 152 (by decide +kernel) rfl
theorem wd_153 : Cond.fieldLink "ThreshRound" 216 "ThreshRound$Farms" "days" "[I" ∈ vx_tbl := vx_w 153 (by decide +kernel) rfl
theorem wd_154 : Cond.fieldLink "ThreshRound$Farms" 40 "ThreshRound$Farms" "doneOn" "[I" ∈ vx_tbl := vx_w 154 (by decide +kernel) rfl
theorem wd_155 : Cond.fieldLink "ThreshRound" 218 "ThreshRound$Farms" "doneOn" "[I" ∈ vx_tbl := vx_w 155 (by decide +kernel) rfl
theorem wd_156 : Cond.fieldLink "ThreshRound$Farms" 43 "ThreshRound$Farms" "how" "[I" ∈ vx_tbl := vx_w 156 (by decide +kernel) rfl
theorem wd_157 : Cond.fieldLink "ThreshRound" 137 "ThreshRound$Farms" "how" "[I" ∈ vx_tbl := vx_w 157 (by decide +kernel) rfl
theorem wd_158 : Cond.fieldLink "ThreshRound$Farms" 46 "ThreshRound$Farms" "coins" "[I" ∈ vx_tbl := vx_w 158 (by decide +kernel) rfl
theorem wd_159 : Cond.fieldLink "ThreshRound" 140 "ThreshRound$Farms" "coins" "[I" ∈ vx_tbl := vx_w 159 (by decide +kernel) rfl
theorem wd_185 : Cond.classLink "ThreshRound" 30 "ThreshRound$Roads" ∈ vx_tbl := vx_w 185 (by decide +kernel) rfl
theorem wd_186 : Cond.instantiable "ThreshRound$Roads" 1 ∈ vx_tbl := vx_w 186 (by decide +kernel) rfl
theorem wd_187 : Cond.methodLink "ThreshRound" 32 ⟨"ThreshRound$Roads", "<init>", "()V"⟩ ∈ vx_tbl := vx_w 187 (by decide +kernel) rfl
theorem wd_188 : Cond.instanceMethod ⟨"ThreshRound$Roads", "<init>", "()V"⟩ ∈ vx_tbl := vx_w 188 (by decide +kernel) rfl
theorem wd_189 : Cond.code ⟨"ThreshRound$Roads", "<init>", "()V"⟩ prog_7_method_1_code 3 (Option.none : Option Jvm.ClassFile.FieldType) ∈ vx_tbl := vx_w 189 (by decide +kernel) rfl
theorem wd_190 : Cond.methodLink "ThreshRound$Roads" 3 ⟨"java/lang/Object", "<init>", "()V"⟩ ∈ vx_tbl := vx_w 190 (by decide +kernel) rfl
theorem wd_191 : Cond.classLink "ThreshRound$Roads" 9 "[[I" ∈ vx_tbl := vx_w 191 (by decide +kernel) rfl
theorem wd_194 : Cond.static ⟨"ThreshRound", "put", "([[IIII)V"⟩ ∈ vx_tbl := vx_w 194 (by decide +kernel) rfl
theorem wd_195 : Cond.code ⟨"ThreshRound", "put", "([[IIII)V"⟩ prog_1_method_35_code 4 (Option.none : Option Jvm.ClassFile.FieldType) ∈ vx_tbl := vx_w 195 (by decide +kernel) rfl
theorem wd_196 : Cond.fieldLink "ThreshRound$Roads" 11 "ThreshRound$Roads" "days" "[[I" ∈ vx_tbl := vx_w 196 (by decide +kernel) rfl
theorem wd_197 : Cond.fieldLink "ThreshRound" 127 "ThreshRound$Roads" "days" "[[I" ∈ vx_tbl := vx_w 197 (by decide +kernel) rfl
theorem wd_201 : Cond.classLink "ThreshRound" 37 "ThreshRound$Debts" ∈ vx_tbl := vx_w 201 (by decide +kernel) rfl
theorem wd_202 : Cond.instantiable "ThreshRound$Debts" 2 ∈ vx_tbl := vx_w 202 (by decide +kernel) rfl
theorem wd_203 : Cond.methodLink "ThreshRound" 39 ⟨"ThreshRound$Debts", "<init>", "()V"⟩ ∈ vx_tbl := vx_w 203 (by decide +kernel) rfl
theorem wd_204 : Cond.instanceMethod ⟨"ThreshRound$Debts", "<init>", "()V"⟩ ∈ vx_tbl := vx_w 204 (by decide +kernel) rfl
theorem wd_205 : Cond.code ⟨"ThreshRound$Debts", "<init>", "()V"⟩ prog_3_method_1_code 1 (Option.none : Option Jvm.ClassFile.FieldType) ∈ vx_tbl := vx_w 205 (by decide +kernel) rfl
theorem wd_206 : Cond.methodLink "ThreshRound$Debts" 3 ⟨"java/lang/Object", "<init>", "()V"⟩ ∈ vx_tbl := vx_w 206 (by decide +kernel) rfl
theorem wd_207 : Cond.classLink "ThreshRound$Debts" 9 "[[I" ∈ vx_tbl := vx_w 207 (by decide +kernel) rfl
theorem wd_208 : Cond.fieldLink "ThreshRound$Debts" 11 "ThreshRound$Debts" "owed" "[[I" ∈ vx_tbl := vx_w 208 (by decide +kernel) rfl
theorem wd_209 : Cond.fieldLink "ThreshRound" 237 "ThreshRound$Debts" "owed" "[[I" ∈ vx_tbl := vx_w 209 (by decide +kernel) rfl
theorem wd_210 : Cond.fieldLink "ThreshRound$Debts" 16 "ThreshRound$Debts" "given" "[I" ∈ vx_tbl := vx_w 210 (by decide +kernel) rfl
theorem wd_211 : Cond.fieldLink "ThreshRound" 246 "ThreshRound$Debts" "given" "[I" ∈ vx_tbl := vx_w 211 (by decide +kernel) rfl
theorem wd_217 : Cond.classLink "ThreshRound" 44 "ThreshRound$Search" ∈ vx_tbl := vx_w 217 (by decide +kernel) rfl
theorem wd_218 : Cond.instantiable "ThreshRound$Search" 12 ∈ vx_tbl := vx_w 218 (by decide +kernel) rfl
theorem wd_219 : Cond.methodLink "ThreshRound" 46 ⟨"ThreshRound$Search", "<init>", "()V"⟩ ∈ vx_tbl := vx_w 219 (by decide +kernel) rfl
theorem wd_220 : Cond.instanceMethod ⟨"ThreshRound$Search", "<init>", "()V"⟩ ∈ vx_tbl := vx_w 220 (by decide +kernel) rfl
theorem wd_221 : Cond.code ⟨"ThreshRound$Search", "<init>", "()V"⟩ prog_8_method_1_code 1 (Option.none : Option Jvm.ClassFile.FieldType) ∈ vx_tbl := vx_w 221 (by decide +kernel) rfl
theorem wd_222 : Cond.methodLink "ThreshRound$Search" 3 ⟨"java/lang/Object", "<init>", "()V"⟩ ∈ vx_tbl := vx_w 222 (by decide +kernel) rfl
theorem wd_223 : Cond.methodLink "ThreshRound$Search" 34 ⟨"ThreshRound$Search", "startAnew", "(I)V"⟩ ∈ vx_tbl := vx_w 223 (by decide +kernel) rfl
theorem wd_224 : Cond.instanceMethod ⟨"ThreshRound$Search", "startAnew", "(I)V"⟩ ∈ vx_tbl := vx_w 224 (by decide +kernel) rfl
theorem wd_225 : Cond.selects "ThreshRound$Search" ⟨"ThreshRound$Search", "startAnew", "(I)V"⟩ ⟨"ThreshRound$Search", "startAnew", "(I)V"⟩ ∈ vx_tbl := vx_w 225 (by decide +kernel) rfl
theorem wd_226 : Cond.code ⟨"ThreshRound$Search", "startAnew", "(I)V"⟩ prog_8_method_2_code 3 (Option.none : Option Jvm.ClassFile.FieldType) ∈ vx_tbl := vx_w 226 (by decide +kernel) rfl
theorem wd_227 : Cond.constant "ThreshRound$Search" 50 (2147483647 : Int32) ∈ vx_tbl := vx_w 227 (by decide +kernel) rfl
theorem wd_228 : Cond.methodLink "ThreshRound$Search" 57 ⟨"ThreshRound$Search", "setWaits", "(IZ)V"⟩ ∈ vx_tbl := vx_w 228 (by decide +kernel) rfl
theorem wd_230 : Cond.instanceMethod ⟨"ThreshRound$Search", "setWaits", "(IZ)V"⟩ ∈ vx_tbl := vx_w 230 (by decide +kernel) rfl
theorem wd_231 : Cond.code ⟨"ThreshRound$Search", "setWaits", "(IZ)V"⟩ prog_8_method_14_code 3 (Option.none : Option Jvm.ClassFile.FieldType) ∈ vx_tbl := vx_w 231 (by decide +kernel) rfl
theorem wd_232 : Cond.fieldLink "ThreshRound$Search" 38 "ThreshRound$Search" "late" "I" ∈ vx_tbl := vx_w 232 (by decide +kernel) rfl
theorem wd_233 : Cond.fieldLink "ThreshRound$Search" 9 "ThreshRound$Search" "need" "[I" ∈ vx_tbl := vx_w 233 (by decide +kernel) rfl
theorem wd_234 : Cond.fieldLink "ThreshRound$Search" 15 "ThreshRound$Search" "from" "[I" ∈ vx_tbl := vx_w 234 (by decide +kernel) rfl
theorem wd_235 : Cond.fieldLink "ThreshRound$Search" 18 "ThreshRound$Search" "to" "[I" ∈ vx_tbl := vx_w 235 (by decide +kernel) rfl
theorem wd_236 : Cond.fieldLink "ThreshRound$Search" 21 "ThreshRound$Search" "waits" "[Z" ∈ vx_tbl := vx_w 236 (by decide +kernel) rfl
theorem wd_237 : Cond.fieldLink "ThreshRound$Search" 25 "ThreshRound$Search" "forced" "[I" ∈ vx_tbl := vx_w 237 (by decide +kernel) rfl
theorem wd_238 : Cond.fieldLink "ThreshRound$Search" 45 "ThreshRound$Search" "forcedCount" "I" ∈ vx_tbl := vx_w 238 (by decide +kernel) rfl
theorem wd_239 : Cond.fieldLink "ThreshRound$Search" 28 "ThreshRound$Search" "order" "[I" ∈ vx_tbl := vx_w 239 (by decide +kernel) rfl
theorem wd_240 : Cond.fieldLink "ThreshRound$Search" 31 "ThreshRound$Search" "best" "[I" ∈ vx_tbl := vx_w 240 (by decide +kernel) rfl
theorem wd_241 : Cond.fieldLink "ThreshRound$Plan" 49 "ThreshRound$Search" "best" "[I" ∈ vx_tbl := vx_w 241 (by decide +kernel) rfl
theorem wd_242 : Cond.fieldLink "ThreshRound$Plan" 38 "ThreshRound$Search" "toGo" "I" ∈ vx_tbl := vx_w 242 (by decide +kernel) rfl
theorem wd_243 : Cond.fieldLink "ThreshRound$Search" 42 "ThreshRound$Search" "toGo" "I" ∈ vx_tbl := vx_w 243 (by decide +kernel) rfl
theorem wd_244 : Cond.fieldLink "ThreshRound$Search" 51 "ThreshRound$Search" "bestLoss" "I" ∈ vx_tbl := vx_w 244 (by decide +kernel) rfl
theorem wd_245 : Cond.fieldLink "ThreshRound" 167 "ThreshRound$Search" "bestLoss" "I" ∈ vx_tbl := vx_w 245 (by decide +kernel) rfl
theorem wd_246 : Cond.fieldLink "ThreshRound$Search" 54 "ThreshRound$Search" "bestEnd" "I" ∈ vx_tbl := vx_w 246 (by decide +kernel) rfl
theorem wd_272 : Cond.arrayClass Jvm.ClassFile.FieldType.boolean ∈ vx_tbl := vx_w 272 (by decide +kernel) rfl
theorem wd_273 : Cond.classLink "ThreshRound" 51 "ThreshRound$Plan" ∈ vx_tbl := vx_w 273 (by decide +kernel) rfl
theorem wd_274 : Cond.instantiable "ThreshRound$Plan" 8 ∈ vx_tbl := vx_w 274 (by decide +kernel) rfl
theorem wd_275 : Cond.methodLink "ThreshRound" 53 ⟨"ThreshRound$Plan", "<init>", "()V"⟩ ∈ vx_tbl := vx_w 275 (by decide +kernel) rfl
theorem wd_276 : Cond.instanceMethod ⟨"ThreshRound$Plan", "<init>", "()V"⟩ ∈ vx_tbl := vx_w 276 (by decide +kernel) rfl
theorem wd_277 : Cond.code ⟨"ThreshRound$Plan", "<init>", "()V"⟩ prog_6_method_1_code 1 (Option.none : Option Jvm.ClassFile.FieldType) ∈ vx_tbl := vx_w 277 (by decide +kernel) rfl
theorem wd_278 : Cond.methodLink "ThreshRound$Plan" 3 ⟨"java/lang/Object", "<init>", "()V"⟩ ∈ vx_tbl := vx_w 278 (by decide +kernel) rfl
theorem wd_279 : Cond.fieldLink "ThreshRound$Plan" 9 "ThreshRound$Plan" "length" "I" ∈ vx_tbl := vx_w 279 (by decide +kernel) rfl
theorem wd_280 : Cond.fieldLink "ThreshRound" 170 "ThreshRound$Plan" "length" "I" ∈ vx_tbl := vx_w 280 (by decide +kernel) rfl
theorem wd_281 : Cond.fieldLink "ThreshRound$Plan" 15 "ThreshRound$Plan" "madeOn" "I" ∈ vx_tbl := vx_w 281 (by decide +kernel) rfl
theorem wd_282 : Cond.fieldLink "ThreshRound" 193 "ThreshRound$Plan" "madeOn" "I" ∈ vx_tbl := vx_w 282 (by decide +kernel) rfl
theorem wd_283 : Cond.fieldLink "ThreshRound$Plan" 18 "ThreshRound$Plan" "wasSetOut" "Z" ∈ vx_tbl := vx_w 283 (by decide +kernel) rfl
theorem wd_284 : Cond.fieldLink "ThreshRound" 190 "ThreshRound$Plan" "wasSetOut" "Z" ∈ vx_tbl := vx_w 284 (by decide +kernel) rfl
theorem wd_285 : Cond.fieldLink "ThreshRound$Plan" 22 "ThreshRound$Plan" "order" "[I" ∈ vx_tbl := vx_w 285 (by decide +kernel) rfl
theorem wd_286 : Cond.fieldLink "ThreshRound" 171 "ThreshRound$Plan" "order" "[I" ∈ vx_tbl := vx_w 286 (by decide +kernel) rfl
theorem wd_287 : Cond.fieldLink "ThreshRound$Plan" 26 "ThreshRound$Plan" "there" "[I" ∈ vx_tbl := vx_w 287 (by decide +kernel) rfl
theorem wd_288 : Cond.fieldLink "ThreshRound" 178 "ThreshRound$Plan" "there" "[I" ∈ vx_tbl := vx_w 288 (by decide +kernel) rfl
theorem wd_289 : Cond.fieldLink "ThreshRound$Plan" 29 "ThreshRound$Plan" "begin" "[I" ∈ vx_tbl := vx_w 289 (by decide +kernel) rfl
theorem wd_290 : Cond.fieldLink "ThreshRound" 181 "ThreshRound$Plan" "begin" "[I" ∈ vx_tbl := vx_w 290 (by decide +kernel) rfl
theorem wd_291 : Cond.fieldLink "ThreshRound$Plan" 32 "ThreshRound$Plan" "leave" "[I" ∈ vx_tbl := vx_w 291 (by decide +kernel) rfl
theorem wd_292 : Cond.fieldLink "ThreshRound" 184 "ThreshRound$Plan" "leave" "[I" ∈ vx_tbl := vx_w 292 (by decide +kernel) rfl
theorem wd_293 : Cond.fieldLink "ThreshRound$Plan" 35 "ThreshRound$Plan" "loss" "[I" ∈ vx_tbl := vx_w 293 (by decide +kernel) rfl
theorem wd_294 : Cond.fieldLink "ThreshRound" 187 "ThreshRound$Plan" "loss" "[I" ∈ vx_tbl := vx_w 294 (by decide +kernel) rfl
theorem wd_312 : Cond.classLink "ThreshRound" 58 "ThreshRound$Engine" ∈ vx_tbl := vx_w 312 (by decide +kernel) rfl
theorem wd_313 : Cond.instantiable "ThreshRound$Engine" 6 ∈ vx_tbl := vx_w 313 (by decide +kernel) rfl
theorem wd_314 : Cond.methodLink "ThreshRound" 60 ⟨"ThreshRound$Engine", "<init>", "()V"⟩ ∈ vx_tbl := vx_w 314 (by decide +kernel) rfl
theorem wd_315 : Cond.instanceMethod ⟨"ThreshRound$Engine", "<init>", "()V"⟩ ∈ vx_tbl := vx_w 315 (by decide +kernel) rfl
theorem wd_316 : Cond.code ⟨"ThreshRound$Engine", "<init>", "()V"⟩ prog_4_method_1_code 1 (Option.none : Option Jvm.ClassFile.FieldType) ∈ vx_tbl := vx_w 316 (by decide +kernel) rfl
theorem wd_317 : Cond.methodLink "ThreshRound$Engine" 3 ⟨"java/lang/Object", "<init>", "()V"⟩ ∈ vx_tbl := vx_w 317 (by decide +kernel) rfl
theorem wd_318 : Cond.fieldLink "ThreshRound$Engine" 9 "ThreshRound$Engine" "today" "I" ∈ vx_tbl := vx_w 318 (by decide +kernel) rfl
theorem wd_319 : Cond.fieldLink "ThreshRound" 152 "ThreshRound$Engine" "today" "I" ∈ vx_tbl := vx_w 319 (by decide +kernel) rfl
theorem wd_320 : Cond.fieldLink "ThreshRound$Engine" 15 "ThreshRound$Engine" "place" "I" ∈ vx_tbl := vx_w 320 (by decide +kernel) rfl
theorem wd_321 : Cond.fieldLink "ThreshRound" 149 "ThreshRound$Engine" "place" "I" ∈ vx_tbl := vx_w 321 (by decide +kernel) rfl
theorem wd_322 : Cond.fieldLink "ThreshRound$Engine" 18 "ThreshRound$Engine" "onTheWay" "I" ∈ vx_tbl := vx_w 322 (by decide +kernel) rfl
theorem wd_323 : Cond.fieldLink "ThreshRound" 143 "ThreshRound$Engine" "onTheWay" "I" ∈ vx_tbl := vx_w 323 (by decide +kernel) rfl
theorem wd_324 : Cond.fieldLink "ThreshRound$Engine" 21 "ThreshRound$Engine" "broken" "I" ∈ vx_tbl := vx_w 324 (by decide +kernel) rfl
theorem wd_325 : Cond.fieldLink "ThreshRound" 206 "ThreshRound$Engine" "broken" "I" ∈ vx_tbl := vx_w 325 (by decide +kernel) rfl
theorem wd_326 : Cond.fieldLink "ThreshRound$Engine" 24 "ThreshRound$Engine" "going" "Z" ∈ vx_tbl := vx_w 326 (by decide +kernel) rfl
theorem wd_327 : Cond.fieldLink "ThreshRound" 163 "ThreshRound$Engine" "going" "Z" ∈ vx_tbl := vx_w 327 (by decide +kernel) rfl
theorem wd_328 : Cond.fieldLink "ThreshRound$Engine" 28 "ThreshRound$Engine" "step" "I" ∈ vx_tbl := vx_w 328 (by decide +kernel) rfl
theorem wd_329 : Cond.fieldLink "ThreshRound" 200 "ThreshRound$Engine" "step" "I" ∈ vx_tbl := vx_w 329 (by decide +kernel) rfl
theorem wd_343 : Cond.fieldLink "ThreshRound" 12 "ThreshRound" "tape" "LThreshRound$Tape;" ∈ vx_tbl := vx_w 343 (by decide +kernel) rfl
theorem wd_344 : Cond.fieldLink "ThreshRound" 19 "ThreshRound" "rules" "LThreshRound$Customs;" ∈ vx_tbl := vx_w 344 (by decide +kernel) rfl
theorem wd_345 : Cond.fieldLink "ThreshRound" 26 "ThreshRound" "farms" "LThreshRound$Farms;" ∈ vx_tbl := vx_w 345 (by decide +kernel) rfl
theorem wd_346 : Cond.fieldLink "ThreshRound" 33 "ThreshRound" "roads" "LThreshRound$Roads;" ∈ vx_tbl := vx_w 346 (by decide +kernel) rfl
theorem wd_347 : Cond.fieldLink "ThreshRound" 40 "ThreshRound" "debts" "LThreshRound$Debts;" ∈ vx_tbl := vx_w 347 (by decide +kernel) rfl
theorem wd_348 : Cond.fieldLink "ThreshRound" 47 "ThreshRound" "search" "LThreshRound$Search;" ∈ vx_tbl := vx_w 348 (by decide +kernel) rfl
theorem wd_349 : Cond.fieldLink "ThreshRound" 54 "ThreshRound" "atHand" "LThreshRound$Plan;" ∈ vx_tbl := vx_w 349 (by decide +kernel) rfl
theorem wd_350 : Cond.fieldLink "ThreshRound" 61 "ThreshRound" "engine" "LThreshRound$Engine;" ∈ vx_tbl := vx_w 350 (by decide +kernel) rfl
theorem wd_368 : Cond.methodLink "ThreshRoundLaw" 13 ⟨"ThreshRound", "feed", "(IIIII)I"⟩ ∈ vx_tbl := vx_w 368 (by decide +kernel) rfl
theorem wd_369 : Cond.instanceMethod ⟨"ThreshRound", "feed", "(IIIII)I"⟩ ∈ vx_tbl := vx_w 369 (by decide +kernel) rfl
theorem wd_370 : Cond.selects "ThreshRound" ⟨"ThreshRound", "feed", "(IIIII)I"⟩ ⟨"ThreshRound", "feed", "(IIIII)I"⟩ ∈ vx_tbl := vx_w 370 (by decide +kernel) rfl
theorem wd_371 : Cond.code ⟨"ThreshRound", "feed", "(IIIII)I"⟩ prog_1_method_2_code 6 (Option.some Jvm.ClassFile.FieldType.int) ∈ vx_tbl := vx_w 371 (by decide +kernel) rfl
theorem wd_372 : Cond.methodLink "ThreshRound" 65 ⟨"ThreshRound$Tape", "hasRoomFor", "(I)Z"⟩ ∈ vx_tbl := vx_w 372 (by decide +kernel) rfl
theorem wd_373 : Cond.instanceMethod ⟨"ThreshRound$Tape", "hasRoomFor", "(I)Z"⟩ ∈ vx_tbl := vx_w 373 (by decide +kernel) rfl
theorem wd_374 : Cond.selects "ThreshRound$Tape" ⟨"ThreshRound$Tape", "hasRoomFor", "(I)Z"⟩ ⟨"ThreshRound$Tape", "hasRoomFor", "(I)Z"⟩ ∈ vx_tbl := vx_w 374 (by decide +kernel) rfl
theorem wd_375 : Cond.code ⟨"ThreshRound$Tape", "hasRoomFor", "(I)Z"⟩ prog_9_method_2_code 2 (Option.some Jvm.ClassFile.FieldType.boolean) ∈ vx_tbl := vx_w 375 (by decide +kernel) rfl
theorem wd_376 : Cond.methodLink "ThreshRound" 69 ⟨"ThreshRound$Tape", "append", "(I)V"⟩ ∈ vx_tbl := vx_w 376 (by decide +kernel) rfl
theorem wd_377 : Cond.instanceMethod ⟨"ThreshRound$Tape", "append", "(I)V"⟩ ∈ vx_tbl := vx_w 377 (by decide +kernel) rfl
theorem wd_378 : Cond.selects "ThreshRound$Tape" ⟨"ThreshRound$Tape", "append", "(I)V"⟩ ⟨"ThreshRound$Tape", "append", "(I)V"⟩ ∈ vx_tbl := vx_w 378 (by decide +kernel) rfl
theorem wd_379 : Cond.code ⟨"ThreshRound$Tape", "append", "(I)V"⟩ prog_9_method_3_code 3 (Option.none : Option Jvm.ClassFile.FieldType) ∈ vx_tbl := vx_w 379 (by decide +kernel) rfl
theorem wd_381 : Cond.methodLink "ThreshRoundLaw" 18 ⟨"ThreshRound", "customs", "(I)I"⟩ ∈ vx_tbl := vx_w 381 (by decide +kernel) rfl
theorem wd_382 : Cond.instanceMethod ⟨"ThreshRound", "customs", "(I)I"⟩ ∈ vx_tbl := vx_w 382 (by decide +kernel) rfl
theorem wd_383 : Cond.selects "ThreshRound" ⟨"ThreshRound", "customs", "(I)I"⟩ ⟨"ThreshRound", "customs", "(I)I"⟩ ∈ vx_tbl := vx_w 383 (by decide +kernel) rfl
theorem wd_384 : Cond.code ⟨"ThreshRound", "customs", "(I)I"⟩ prog_1_method_3_code 3 (Option.some Jvm.ClassFile.FieldType.int) ∈ vx_tbl := vx_w 384 (by decide +kernel) rfl
theorem wd_385 : Cond.methodLink "ThreshRound" 77 ⟨"ThreshRound$Customs", "read", "(LThreshRound$Tape;I)I"⟩ ∈ vx_tbl := vx_w 385 (by decide +kernel) rfl
theorem wd_386 : Cond.instanceMethod ⟨"ThreshRound$Customs", "read", "(LThreshRound$Tape;I)I"⟩ ∈ vx_tbl := vx_w 386 (by decide +kernel) rfl
theorem wd_387 : Cond.selects "ThreshRound$Customs" ⟨"ThreshRound$Customs", "read", "(LThreshRound$Tape;I)I"⟩ ⟨"ThreshRound$Customs", "read", "(LThreshRound$Tape;I)I"⟩ ∈ vx_tbl := vx_w 387 (by decide +kernel) rfl
theorem wd_388 : Cond.code ⟨"ThreshRound$Customs", "read", "(LThreshRound$Tape;I)I"⟩ prog_2_method_3_code 4 (Option.some Jvm.ClassFile.FieldType.int) ∈ vx_tbl := vx_w 388 (by decide +kernel) rfl
theorem wd_389 : Cond.methodLink "ThreshRound$Customs" 28 ⟨"ThreshRound$Tape", "readFirst", "(I)V"⟩ ∈ vx_tbl := vx_w 389 (by decide +kernel) rfl
theorem wd_390 : Cond.instanceMethod ⟨"ThreshRound$Tape", "readFirst", "(I)V"⟩ ∈ vx_tbl := vx_w 390 (by decide +kernel) rfl
theorem wd_391 : Cond.selects "ThreshRound$Tape" ⟨"ThreshRound$Tape", "readFirst", "(I)V"⟩ ⟨"ThreshRound$Tape", "readFirst", "(I)V"⟩ ∈ vx_tbl := vx_w 391 (by decide +kernel) rfl
theorem wd_392 : Cond.code ⟨"ThreshRound$Tape", "readFirst", "(I)V"⟩ prog_9_method_4_code 2 (Option.none : Option Jvm.ClassFile.FieldType) ∈ vx_tbl := vx_w 392 (by decide +kernel) rfl
theorem wd_393 : Cond.methodLink "ThreshRound$Customs" 34 ⟨"ThreshRound$Tape", "skipBlanks", "()V"⟩ ∈ vx_tbl := vx_w 393 (by decide +kernel) rfl
theorem wd_394 : Cond.instanceMethod ⟨"ThreshRound$Tape", "skipBlanks", "()V"⟩ ∈ vx_tbl := vx_w 394 (by decide +kernel) rfl
theorem wd_395 : Cond.selects "ThreshRound$Tape" ⟨"ThreshRound$Tape", "skipBlanks", "()V"⟩ ⟨"ThreshRound$Tape", "skipBlanks", "()V"⟩ ∈ vx_tbl := vx_w 395 (by decide +kernel) rfl
theorem wd_396 : Cond.code ⟨"ThreshRound$Tape", "skipBlanks", "()V"⟩ prog_9_method_7_code 1 (Option.none : Option Jvm.ClassFile.FieldType) ∈ vx_tbl := vx_w 396 (by decide +kernel) rfl
theorem wd_397 : Cond.methodLink "ThreshRound$Tape" 33 ⟨"ThreshRound$Tape", "byteAt", "(I)I"⟩ ∈ vx_tbl := vx_w 397 (by decide +kernel) rfl
theorem wd_398 : Cond.instanceMethod ⟨"ThreshRound$Tape", "byteAt", "(I)I"⟩ ∈ vx_tbl := vx_w 398 (by decide +kernel) rfl
theorem wd_399 : Cond.selects "ThreshRound$Tape" ⟨"ThreshRound$Tape", "byteAt", "(I)I"⟩ ⟨"ThreshRound$Tape", "byteAt", "(I)I"⟩ ∈ vx_tbl := vx_w 399 (by decide +kernel) rfl
theorem wd_400 : Cond.code ⟨"ThreshRound$Tape", "byteAt", "(I)I"⟩ prog_9_method_6_code 2 (Option.some Jvm.ClassFile.FieldType.int) ∈ vx_tbl := vx_w 400 (by decide +kernel) rfl
theorem wd_402 : Cond.methodLink "ThreshRound$Customs" 37 ⟨"ThreshRound$Tape", "isAtEnd", "()Z"⟩ ∈ vx_tbl := vx_w 402 (by decide +kernel) rfl
theorem wd_403 : Cond.instanceMethod ⟨"ThreshRound$Tape", "isAtEnd", "()Z"⟩ ∈ vx_tbl := vx_w 403 (by decide +kernel) rfl
theorem wd_404 : Cond.selects "ThreshRound$Tape" ⟨"ThreshRound$Tape", "isAtEnd", "()Z"⟩ ⟨"ThreshRound$Tape", "isAtEnd", "()Z"⟩ ∈ vx_tbl := vx_w 404 (by decide +kernel) rfl
theorem wd_405 : Cond.code ⟨"ThreshRound$Tape", "isAtEnd", "()Z"⟩ prog_9_method_5_code 1 (Option.some Jvm.ClassFile.FieldType.boolean) ∈ vx_tbl := vx_w 405 (by decide +kernel) rfl
theorem wd_406 : Cond.methodLink "ThreshRound$Customs" 41 ⟨"ThreshRound$Customs", "readLine", "(LThreshRound$Tape;)Z"⟩ ∈ vx_tbl := vx_w 406 (by decide +kernel) rfl
theorem wd_408 : Cond.instanceMethod ⟨"ThreshRound$Customs", "readLine", "(LThreshRound$Tape;)Z"⟩ ∈ vx_tbl := vx_w 408 (by decide +kernel) rfl
theorem wd_409 : Cond.code ⟨"ThreshRound$Customs", "readLine", "(LThreshRound$Tape;)Z"⟩ prog_2_method_6_code 6 (Option.some Jvm.ClassFile.FieldType.boolean) ∈ vx_tbl := vx_w 409 (by decide +kernel) rfl
theorem wd_410 : Cond.methodLink "ThreshRound$Customs" 59 ⟨"ThreshRound$Tape", "endOfRow", "(CC)I"⟩ ∈ vx_tbl := vx_w 410 (by decide +kernel) rfl
theorem wd_411 : Cond.instanceMethod ⟨"ThreshRound$Tape", "endOfRow", "(CC)I"⟩ ∈ vx_tbl := vx_w 411 (by decide +kernel) rfl
theorem wd_412 : Cond.selects "ThreshRound$Tape" ⟨"ThreshRound$Tape", "endOfRow", "(CC)I"⟩ ⟨"ThreshRound$Tape", "endOfRow", "(CC)I"⟩ ∈ vx_tbl := vx_w 412 (by decide +kernel) rfl
theorem wd_413 : Cond.code ⟨"ThreshRound$Tape", "endOfRow", "(CC)I"⟩ prog_9_method_8_code 4 (Option.some Jvm.ClassFile.FieldType.int) ∈ vx_tbl := vx_w 413 (by decide +kernel) rfl
theorem wd_415 : Cond.static ⟨"ThreshRound", "within", "(III)Z"⟩ ∈ vx_tbl := vx_w 415 (by decide +kernel) rfl
theorem wd_416 : Cond.code ⟨"ThreshRound", "within", "(III)Z"⟩ prog_1_method_31_code 3 (Option.some Jvm.ClassFile.FieldType.boolean) ∈ vx_tbl := vx_w 416 (by decide +kernel) rfl
theorem wd_417 : Cond.methodLink "ThreshRound$Customs" 63 ⟨"ThreshRound$Customs", "kindOfWord", "(LThreshRound$Tape;I)I"⟩ ∈ vx_tbl := vx_w 417 (by decide +kernel) rfl
theorem wd_418 : Cond.static ⟨"ThreshRound$Customs", "kindOfWord", "(LThreshRound$Tape;I)I"⟩ ∈ vx_tbl := vx_w 418 (by decide +kernel) rfl
theorem wd_419 : Cond.code ⟨"ThreshRound$Customs", "kindOfWord", "(LThreshRound$Tape;I)I"⟩ prog_2_method_8_code 3 (Option.some Jvm.ClassFile.FieldType.int) ∈ vx_tbl := vx_w 419 (by decide +kernel) rfl
theorem wd_420 : Cond.methodLink "ThreshRound$Customs" 91 ⟨"ThreshRound$Customs", "word", "(I)Ljava/lang/String;"⟩ ∈ vx_tbl := vx_w 420 (by decide +kernel) rfl
theorem wd_421 : Cond.static ⟨"ThreshRound$Customs", "word", "(I)Ljava/lang/String;"⟩ ∈ vx_tbl := vx_w 421 (by decide +kernel) rfl
theorem wd_422 : Cond.code ⟨"ThreshRound$Customs", "word", "(I)Ljava/lang/String;"⟩ prog_2_method_9_code 1 (Option.some (Jvm.ClassFile.FieldType.object "java/lang/String")) ∈ vx_tbl := vx_w 422 (by decide +kernel) rfl
theorem wd_429 : Cond.methodLink "ThreshRound$Customs" 95 ⟨"ThreshRound$Tape", "isWordUpTo", "(ILjava/lang/String;)Z"⟩ ∈ vx_tbl := vx_w 429 (by decide +kernel) rfl
theorem wd_430 : Cond.instanceMethod ⟨"ThreshRound$Tape", "isWordUpTo", "(ILjava/lang/String;)Z"⟩ ∈ vx_tbl := vx_w 430 (by decide +kernel) rfl
theorem wd_431 : Cond.selects "ThreshRound$Tape" ⟨"ThreshRound$Tape", "isWordUpTo", "(ILjava/lang/String;)Z"⟩ ⟨"ThreshRound$Tape", "isWordUpTo", "(ILjava/lang/String;)Z"⟩ ∈ vx_tbl := vx_w 431 (by decide +kernel) rfl
theorem wd_432 : Cond.code ⟨"ThreshRound$Tape", "isWordUpTo", "(ILjava/lang/String;)Z"⟩ prog_9_method_10_code 4 (Option.some Jvm.ClassFile.FieldType.boolean) ∈ vx_tbl := vx_w 432 (by decide +kernel) rfl
theorem wd_433 : Cond.methodLink "ThreshRound$Tape" 47 ⟨"java/lang/String", "length", "()I"⟩ ∈ vx_tbl := vx_w 433 (by decide +kernel) rfl
theorem wd_434 : Cond.instanceMethod ⟨"java/lang/String", "length", "()I"⟩ ∈ vx_tbl := vx_w 434 (by decide +kernel) rfl
theorem wd_435 : Cond.selects "java/lang/String" ⟨"java/lang/String", "length", "()I"⟩ ⟨"java/lang/String", "length", "()I"⟩ ∈ vx_tbl := vx_w 435 (by decide +kernel) rfl
theorem wd_436 : Cond.code ⟨"java/lang/String", "length", "()I"⟩ prog_13_method_54_code 1 (Option.some Jvm.ClassFile.FieldType.int) ∈ vx_tbl := vx_w 436 (by decide +kernel) rfl
theorem wd_437 : Cond.methodLink "java/lang/String" 335 ⟨"java/lang/String", "coder", "()B"⟩ ∈ vx_tbl := vx_w 437 (by decide +kernel) rfl
theorem wd_438 : Cond.instanceMethod ⟨"java/lang/String", "coder", "()B"⟩ ∈ vx_tbl := vx_w 438 (by decide +kernel) rfl
theorem wd_439 : Cond.selects "java/lang/String" ⟨"java/lang/String", "coder", "()B"⟩ ⟨"java/lang/String", "coder", "()B"⟩ ∈ vx_tbl := vx_w 439 (by decide +kernel) rfl
theorem wd_440 : Cond.code ⟨"java/lang/String", "coder", "()B"⟩ prog_13_method_152_code 1 (Option.some Jvm.ClassFile.FieldType.byte) ∈ vx_tbl := vx_w 440 (by decide +kernel) rfl
theorem wd_441 : Cond.fieldLink "java/lang/String" 38 "java/lang/String" "COMPACT_STRINGS" "Z" ∈ vx_tbl := vx_w 441 (by decide +kernel) rfl
theorem wd_443 : Cond.methodLink "ThreshRound$Tape" 52 ⟨"java/lang/String", "charAt", "(I)C"⟩ ∈ vx_tbl := vx_w 443 (by decide +kernel) rfl
theorem wd_444 : Cond.instanceMethod ⟨"java/lang/String", "charAt", "(I)C"⟩ ∈ vx_tbl := vx_w 444 (by decide +kernel) rfl
theorem wd_445 : Cond.selects "java/lang/String" ⟨"java/lang/String", "charAt", "(I)C"⟩ ⟨"java/lang/String", "charAt", "(I)C"⟩ ∈ vx_tbl := vx_w 445 (by decide +kernel) rfl
theorem wd_446 : Cond.code ⟨"java/lang/String", "charAt", "(I)C"⟩ prog_13_method_56_code 2 (Option.some Jvm.ClassFile.FieldType.char) ∈ vx_tbl := vx_w 446 (by decide +kernel) rfl
theorem wd_447 : Cond.methodLink "java/lang/String" 492 ⟨"java/lang/String", "isLatin1", "()Z"⟩ ∈ vx_tbl := vx_w 447 (by decide +kernel) rfl
theorem wd_448 : Cond.instanceMethod ⟨"java/lang/String", "isLatin1", "()Z"⟩ ∈ vx_tbl := vx_w 448 (by decide +kernel) rfl
theorem wd_449 : Cond.selects "java/lang/String" ⟨"java/lang/String", "isLatin1", "()Z"⟩ ⟨"java/lang/String", "isLatin1", "()Z"⟩ ∈ vx_tbl := vx_w 449 (by decide +kernel) rfl
theorem wd_450 : Cond.code ⟨"java/lang/String", "isLatin1", "()Z"⟩ prog_13_method_154_code 1 (Option.some Jvm.ClassFile.FieldType.boolean) ∈ vx_tbl := vx_w 450 (by decide +kernel) rfl
theorem wd_451 : Cond.methodLink "java/lang/String" 495 ⟨"java/lang/StringLatin1", "charAt", "([BI)C"⟩ ∈ vx_tbl := vx_w 451 (by decide +kernel) rfl
theorem wd_452 : Cond.static ⟨"java/lang/StringLatin1", "charAt", "([BI)C"⟩ ∈ vx_tbl := vx_w 452 (by decide +kernel) rfl
theorem wd_453 : Cond.code ⟨"java/lang/StringLatin1", "charAt", "([BI)C"⟩ prog_14_method_2_code 2 (Option.some Jvm.ClassFile.FieldType.char) ∈ vx_tbl := vx_w 453 (by decide +kernel) rfl
theorem wd_454 : Cond.methodLink "java/lang/StringLatin1" 9 ⟨"java/lang/String", "checkIndex", "(II)V"⟩ ∈ vx_tbl := vx_w 454 (by decide +kernel) rfl
theorem wd_455 : Cond.static ⟨"java/lang/String", "checkIndex", "(II)V"⟩ ∈ vx_tbl := vx_w 455 (by decide +kernel) rfl
theorem wd_456 : Cond.code ⟨"java/lang/String", "checkIndex", "(II)V"⟩ prog_13_method_155_code 2 (Option.none : Option Jvm.ClassFile.FieldType) ∈ vx_tbl := vx_w 456 (by decide +kernel) rfl
theorem wd_457 : Cond.fieldLink "java/lang/String" 1053 "jdk/internal/util/Preconditions" "SIOOBE_FORMATTER" "Ljava/util/function/BiFunction;" ∈ vx_tbl := vx_w 457 (by decide +kernel) rfl
theorem wd_459 : Cond.methodLink "java/lang/String" 1059 ⟨"jdk/internal/util/Preconditions", "checkIndex", "(IILjava/util/function/BiFunction;)I"⟩ ∈ vx_tbl := vx_w 459 (by decide +kernel) rfl
theorem wd_460 : Cond.static ⟨"jdk/internal/util/Preconditions", "checkIndex", "(IILjava/util/function/BiFunction;)I"⟩ ∈ vx_tbl := vx_w 460 (by decide +kernel) rfl
theorem wd_461 : Cond.code ⟨"jdk/internal/util/Preconditions", "checkIndex", "(IILjava/util/function/BiFunction;)I"⟩ prog_16_method_11_code 3 (Option.some Jvm.ClassFile.FieldType.int) ∈ vx_tbl := vx_w 461 (by decide +kernel) rfl
theorem wd_462 : Cond.methodLink "java/lang/String" 498 ⟨"java/lang/StringUTF16", "charAt", "([BI)C"⟩ ∈ vx_tbl := vx_w 462 (by decide +kernel) rfl
theorem wd_463 : Cond.static ⟨"java/lang/StringUTF16", "charAt", "([BI)C"⟩ ∈ vx_tbl := vx_w 463 (by decide +kernel) rfl
theorem wd_464 : Cond.code ⟨"java/lang/StringUTF16", "charAt", "([BI)C"⟩ prog_15_method_83_code 2 (Option.some Jvm.ClassFile.FieldType.char) ∈ vx_tbl := vx_w 464 (by decide +kernel) rfl
theorem wd_465 : Cond.methodLink "java/lang/StringUTF16" 67 ⟨"java/lang/StringUTF16", "checkIndex", "(I[B)V"⟩ ∈ vx_tbl := vx_w 465 (by decide +kernel) rfl
theorem wd_466 : Cond.static ⟨"java/lang/StringUTF16", "checkIndex", "(I[B)V"⟩ ∈ vx_tbl := vx_w 466 (by decide +kernel) rfl
theorem wd_467 : Cond.code ⟨"java/lang/StringUTF16", "checkIndex", "(I[B)V"⟩ prog_15_method_91_code 2 (Option.none : Option Jvm.ClassFile.FieldType) ∈ vx_tbl := vx_w 467 (by decide +kernel) rfl
theorem wd_468 : Cond.methodLink "java/lang/StringUTF16" 48 ⟨"java/lang/StringUTF16", "length", "([B)I"⟩ ∈ vx_tbl := vx_w 468 (by decide +kernel) rfl
theorem wd_469 : Cond.static ⟨"java/lang/StringUTF16", "length", "([B)I"⟩ ∈ vx_tbl := vx_w 469 (by decide +kernel) rfl
theorem wd_470 : Cond.code ⟨"java/lang/StringUTF16", "length", "([B)I"⟩ prog_15_method_6_code 1 (Option.some Jvm.ClassFile.FieldType.int) ∈ vx_tbl := vx_w 470 (by decide +kernel) rfl
theorem wd_471 : Cond.methodLink "java/lang/StringUTF16" 414 ⟨"java/lang/String", "checkIndex", "(II)V"⟩ ∈ vx_tbl := vx_w 471 (by decide +kernel) rfl
theorem wd_472 : Cond.methodLink "java/lang/StringUTF16" 71 ⟨"java/lang/StringUTF16", "getChar", "([BI)C"⟩ ∈ vx_tbl := vx_w 472 (by decide +kernel) rfl
theorem wd_473 : Cond.static ⟨"java/lang/StringUTF16", "getChar", "([BI)C"⟩ ∈ vx_tbl := vx_w 473 (by decide +kernel) rfl
theorem wd_474 : Cond.code ⟨"java/lang/StringUTF16", "getChar", "([BI)C"⟩ prog_15_method_5_code 2 (Option.some Jvm.ClassFile.FieldType.char) ∈ vx_tbl := vx_w 474 (by decide +kernel) rfl
theorem wd_475 : Cond.fieldLink "java/lang/StringUTF16" 44 "java/lang/StringUTF16" "$assertionsDisabled" "Z" ∈ vx_tbl := vx_w 475 (by decide +kernel) rfl
theorem wd_477 : Cond.fieldLink "java/lang/StringUTF16" 59 "java/lang/StringUTF16" "HI_BYTE_SHIFT" "I" ∈ vx_tbl := vx_w 477 (by decide +kernel) rfl
theorem wd_479 : Cond.fieldLink "java/lang/StringUTF16" 63 "java/lang/StringUTF16" "LO_BYTE_SHIFT" "I" ∈ vx_tbl := vx_w 479 (by decide +kernel) rfl
theorem wd_481 : Cond.methodLink "ThreshRound$Customs" 70 ⟨"ThreshRound$Customs", "fails", "(II)Z"⟩ ∈ vx_tbl := vx_w 481 (by decide +kernel) rfl
theorem wd_483 : Cond.instanceMethod ⟨"ThreshRound$Customs", "fails", "(II)Z"⟩ ∈ vx_tbl := vx_w 483 (by decide +kernel) rfl
theorem wd_484 : Cond.code ⟨"ThreshRound$Customs", "fails", "(II)Z"⟩ prog_2_method_7_code 3 (Option.some Jvm.ClassFile.FieldType.boolean) ∈ vx_tbl := vx_w 484 (by decide +kernel) rfl
theorem wd_485 : Cond.methodLink "ThreshRound$Customs" 74 ⟨"ThreshRound$Tape", "numberUpTo", "(I)I"⟩ ∈ vx_tbl := vx_w 485 (by decide +kernel) rfl
theorem wd_486 : Cond.instanceMethod ⟨"ThreshRound$Tape", "numberUpTo", "(I)I"⟩ ∈ vx_tbl := vx_w 486 (by decide +kernel) rfl
theorem wd_487 : Cond.selects "ThreshRound$Tape" ⟨"ThreshRound$Tape", "numberUpTo", "(I)I"⟩ ⟨"ThreshRound$Tape", "numberUpTo", "(I)I"⟩ ∈ vx_tbl := vx_w 487 (by decide +kernel) rfl
theorem wd_488 : Cond.code ⟨"ThreshRound$Tape", "numberUpTo", "(I)I"⟩ prog_9_method_9_code 4 (Option.some Jvm.ClassFile.FieldType.int) ∈ vx_tbl := vx_w 488 (by decide +kernel) rfl
theorem wd_489 : Cond.methodLink "ThreshRound$Tape" 41 ⟨"java/lang/Math", "min", "(II)I"⟩ ∈ vx_tbl := vx_w 489 (by decide +kernel) rfl
theorem wd_490 : Cond.static ⟨"java/lang/Math", "min", "(II)I"⟩ ∈ vx_tbl := vx_w 490 (by decide +kernel) rfl
theorem wd_491 : Cond.code ⟨"java/lang/Math", "min", "(II)I"⟩ prog_12_method_69_code 2 (Option.some Jvm.ClassFile.FieldType.int) ∈ vx_tbl := vx_w 491 (by decide +kernel) rfl
theorem wd_492 : Cond.fieldLink "ThreshRound$Customs" 78 "ThreshRound$Customs" "LEAST" "[I" ∈ vx_tbl := vx_w 492 (by decide +kernel) rfl
theorem wd_494 : Cond.fieldLink "ThreshRound$Customs" 81 "ThreshRound$Customs" "MOST" "[I" ∈ vx_tbl := vx_w 494 (by decide +kernel) rfl
theorem wd_497 : Cond.methodLink "ThreshRound$Customs" 88 ⟨"ThreshRound$Tape", "byteAt", "(I)I"⟩ ∈ vx_tbl := vx_w 497 (by decide +kernel) rfl
theorem wd_498 : Cond.arrayClass Jvm.ClassFile.FieldType.byte ∈ vx_tbl := vx_w 498 (by decide +kernel) rfl
theorem wd_499 : Cond.methodLink "ThreshRoundLaw" 23 ⟨"ThreshRound", "fault", "(I)I"⟩ ∈ vx_tbl := vx_w 499 (by decide +kernel) rfl
theorem wd_500 : Cond.instanceMethod ⟨"ThreshRound", "fault", "(I)I"⟩ ∈ vx_tbl := vx_w 500 (by decide +kernel) rfl
theorem wd_501 : Cond.selects "ThreshRound" ⟨"ThreshRound", "fault", "(I)I"⟩ ⟨"ThreshRound", "fault", "(I)I"⟩ ∈ vx_tbl := vx_w 501 (by decide +kernel) rfl
theorem wd_502 : Cond.code ⟨"ThreshRound", "fault", "(I)I"⟩ prog_1_method_4_code 2 (Option.some Jvm.ClassFile.FieldType.int) ∈ vx_tbl := vx_w 502 (by decide +kernel) rfl
theorem wd_503 : Cond.methodLink "ThreshRoundLaw" 27 ⟨"ThreshRound", "farm", "(IIIIII)I"⟩ ∈ vx_tbl := vx_w 503 (by decide +kernel) rfl
theorem wd_504 : Cond.instanceMethod ⟨"ThreshRound", "farm", "(IIIIII)I"⟩ ∈ vx_tbl := vx_w 504 (by decide +kernel) rfl
theorem wd_505 : Cond.selects "ThreshRound" ⟨"ThreshRound", "farm", "(IIIIII)I"⟩ ⟨"ThreshRound", "farm", "(IIIIII)I"⟩ ∈ vx_tbl := vx_w 505 (by decide +kernel) rfl
theorem wd_506 : Cond.code ⟨"ThreshRound", "farm", "(IIIIII)I"⟩ prog_1_method_5_code 9 (Option.some Jvm.ClassFile.FieldType.int) ∈ vx_tbl := vx_w 506 (by decide +kernel) rfl
theorem wd_507 : Cond.methodLink "ThreshRound" 87 ⟨"ThreshRound", "within", "(III)Z"⟩ ∈ vx_tbl := vx_w 507 (by decide +kernel) rfl
theorem wd_508 : Cond.methodLink "ThreshRound" 94 ⟨"ThreshRound$Farms", "add", "()I"⟩ ∈ vx_tbl := vx_w 508 (by decide +kernel) rfl
theorem wd_509 : Cond.instanceMethod ⟨"ThreshRound$Farms", "add", "()I"⟩ ∈ vx_tbl := vx_w 509 (by decide +kernel) rfl
theorem wd_510 : Cond.selects "ThreshRound$Farms" ⟨"ThreshRound$Farms", "add", "()I"⟩ ⟨"ThreshRound$Farms", "add", "()I"⟩ ∈ vx_tbl := vx_w 510 (by decide +kernel) rfl
theorem wd_511 : Cond.code ⟨"ThreshRound$Farms", "add", "()I"⟩ prog_5_method_2_code 1 (Option.some Jvm.ClassFile.FieldType.int) ∈ vx_tbl := vx_w 511 (by decide +kernel) rfl
theorem wd_513 : Cond.methodLink "ThreshRound" 102 ⟨"ThreshRound", "put", "([III)V"⟩ ∈ vx_tbl := vx_w 513 (by decide +kernel) rfl
theorem wd_514 : Cond.methodLink "ThreshRoundLaw" 32 ⟨"ThreshRound", "way", "(III)Z"⟩ ∈ vx_tbl := vx_w 514 (by decide +kernel) rfl
theorem wd_515 : Cond.instanceMethod ⟨"ThreshRound", "way", "(III)Z"⟩ ∈ vx_tbl := vx_w 515 (by decide +kernel) rfl
theorem wd_516 : Cond.selects "ThreshRound" ⟨"ThreshRound", "way", "(III)Z"⟩ ⟨"ThreshRound", "way", "(III)Z"⟩ ∈ vx_tbl := vx_w 516 (by decide +kernel) rfl
theorem wd_517 : Cond.code ⟨"ThreshRound", "way", "(III)Z"⟩ prog_1_method_6_code 4 (Option.some Jvm.ClassFile.FieldType.boolean) ∈ vx_tbl := vx_w 517 (by decide +kernel) rfl
theorem wd_518 : Cond.methodLink "ThreshRound" 124 ⟨"ThreshRound", "isPlace", "(I)Z"⟩ ∈ vx_tbl := vx_w 518 (by decide +kernel) rfl
theorem wd_520 : Cond.instanceMethod ⟨"ThreshRound", "isPlace", "(I)Z"⟩ ∈ vx_tbl := vx_w 520 (by decide +kernel) rfl
theorem wd_521 : Cond.code ⟨"ThreshRound", "isPlace", "(I)Z"⟩ prog_1_method_17_code 2 (Option.some Jvm.ClassFile.FieldType.boolean) ∈ vx_tbl := vx_w 521 (by decide +kernel) rfl
theorem wd_522 : Cond.methodLink "ThreshRound" 134 ⟨"ThreshRound$Farms", "has", "(I)Z"⟩ ∈ vx_tbl := vx_w 522 (by decide +kernel) rfl
theorem wd_523 : Cond.instanceMethod ⟨"ThreshRound$Farms", "has", "(I)Z"⟩ ∈ vx_tbl := vx_w 523 (by decide +kernel) rfl
theorem wd_524 : Cond.selects "ThreshRound$Farms" ⟨"ThreshRound$Farms", "has", "(I)Z"⟩ ⟨"ThreshRound$Farms", "has", "(I)Z"⟩ ∈ vx_tbl := vx_w 524 (by decide +kernel) rfl
theorem wd_525 : Cond.code ⟨"ThreshRound$Farms", "has", "(I)Z"⟩ prog_5_method_3_code 2 (Option.some Jvm.ClassFile.FieldType.boolean) ∈ vx_tbl := vx_w 525 (by decide +kernel) rfl
theorem wd_526 : Cond.methodLink "ThreshRound" 131 ⟨"ThreshRound", "put", "([[IIII)V"⟩ ∈ vx_tbl := vx_w 526 (by decide +kernel) rfl
theorem wd_527 : Cond.methodLink "ThreshRoundLaw" 37 ⟨"ThreshRound", "bargain", "(III)Z"⟩ ∈ vx_tbl := vx_w 527 (by decide +kernel) rfl
theorem wd_528 : Cond.instanceMethod ⟨"ThreshRound", "bargain", "(III)Z"⟩ ∈ vx_tbl := vx_w 528 (by decide +kernel) rfl
theorem wd_529 : Cond.selects "ThreshRound" ⟨"ThreshRound", "bargain", "(III)Z"⟩ ⟨"ThreshRound", "bargain", "(III)Z"⟩ ∈ vx_tbl := vx_w 529 (by decide +kernel) rfl
theorem wd_530 : Cond.code ⟨"ThreshRound", "bargain", "(III)Z"⟩ prog_1_method_7_code 4 (Option.some Jvm.ClassFile.FieldType.boolean) ∈ vx_tbl := vx_w 530 (by decide +kernel) rfl
theorem wd_531 : Cond.methodLink "ThreshRoundLaw" 41 ⟨"ThreshRound", "plan", "()I"⟩ ∈ vx_tbl := vx_w 531 (by decide +kernel) rfl
theorem wd_532 : Cond.instanceMethod ⟨"ThreshRound", "plan", "()I"⟩ ∈ vx_tbl := vx_w 532 (by decide +kernel) rfl
theorem wd_533 : Cond.selects "ThreshRound" ⟨"ThreshRound", "plan", "()I"⟩ ⟨"ThreshRound", "plan", "()I"⟩ ∈ vx_tbl := vx_w 533 (by decide +kernel) rfl
theorem wd_534 : Cond.code ⟨"ThreshRound", "plan", "()I"⟩ prog_1_method_8_code 1 (Option.some Jvm.ClassFile.FieldType.int) ∈ vx_tbl := vx_w 534 (by decide +kernel) rfl
theorem wd_535 : Cond.methodLink "ThreshRound" 146 ⟨"ThreshRound", "prepareSearch", "()V"⟩ ∈ vx_tbl := vx_w 535 (by decide +kernel) rfl
theorem wd_537 : Cond.instanceMethod ⟨"ThreshRound", "prepareSearch", "()V"⟩ ∈ vx_tbl := vx_w 537 (by decide +kernel) rfl
theorem wd_538 : Cond.code ⟨"ThreshRound", "prepareSearch", "()V"⟩ prog_1_method_19_code 3 (Option.none : Option Jvm.ClassFile.FieldType) ∈ vx_tbl := vx_w 538 (by decide +kernel) rfl
theorem wd_539 : Cond.methodLink "ThreshRound" 255 ⟨"ThreshRound$Customs", "tells", "(I)I"⟩ ∈ vx_tbl := vx_w 539 (by decide +kernel) rfl
theorem wd_540 : Cond.instanceMethod ⟨"ThreshRound$Customs", "tells", "(I)I"⟩ ∈ vx_tbl := vx_w 540 (by decide +kernel) rfl
theorem wd_541 : Cond.selects "ThreshRound$Customs" ⟨"ThreshRound$Customs", "tells", "(I)I"⟩ ⟨"ThreshRound$Customs", "tells", "(I)I"⟩ ∈ vx_tbl := vx_w 541 (by decide +kernel) rfl
theorem wd_542 : Cond.code ⟨"ThreshRound$Customs", "tells", "(I)I"⟩ prog_2_method_2_code 2 (Option.some Jvm.ClassFile.FieldType.int) ∈ vx_tbl := vx_w 542 (by decide +kernel) rfl
theorem wd_543 : Cond.methodLink "ThreshRound" 258 ⟨"ThreshRound$Search", "startAnew", "(I)V"⟩ ∈ vx_tbl := vx_w 543 (by decide +kernel) rfl
theorem wd_544 : Cond.methodLink "ThreshRound" 261 ⟨"ThreshRound$Farms", "isOpen", "(I)Z"⟩ ∈ vx_tbl := vx_w 544 (by decide +kernel) rfl
theorem wd_545 : Cond.instanceMethod ⟨"ThreshRound$Farms", "isOpen", "(I)Z"⟩ ∈ vx_tbl := vx_w 545 (by decide +kernel) rfl
theorem wd_546 : Cond.selects "ThreshRound$Farms" ⟨"ThreshRound$Farms", "isOpen", "(I)Z"⟩ ⟨"ThreshRound$Farms", "isOpen", "(I)Z"⟩ ∈ vx_tbl := vx_w 546 (by decide +kernel) rfl
theorem wd_547 : Cond.code ⟨"ThreshRound$Farms", "isOpen", "(I)Z"⟩ prog_5_method_4_code 2 (Option.some Jvm.ClassFile.FieldType.boolean) ∈ vx_tbl := vx_w 547 (by decide +kernel) rfl
theorem wd_548 : Cond.methodLink "ThreshRound$Farms" 53 ⟨"ThreshRound$Farms", "has", "(I)Z"⟩ ∈ vx_tbl := vx_w 548 (by decide +kernel) rfl
theorem wd_550 : Cond.methodLink "ThreshRound" 174 ⟨"ThreshRound", "at", "([II)I"⟩ ∈ vx_tbl := vx_w 550 (by decide +kernel) rfl
theorem wd_551 : Cond.methodLink "ThreshRound" 227 ⟨"ThreshRound", "speedOf", "(I)I"⟩ ∈ vx_tbl := vx_w 551 (by decide +kernel) rfl
theorem wd_553 : Cond.instanceMethod ⟨"ThreshRound", "speedOf", "(I)I"⟩ ∈ vx_tbl := vx_w 553 (by decide +kernel) rfl
theorem wd_554 : Cond.code ⟨"ThreshRound", "speedOf", "(I)I"⟩ prog_1_method_21_code 4 (Option.some Jvm.ClassFile.FieldType.int) ∈ vx_tbl := vx_w 554 (by decide +kernel) rfl
theorem wd_555 : Cond.methodLink "ThreshRound" 273 ⟨"ThreshRound$Debts", "muster", "(LThreshRound$Farms;II)I"⟩ ∈ vx_tbl := vx_w 555 (by decide +kernel) rfl
theorem wd_556 : Cond.instanceMethod ⟨"ThreshRound$Debts", "muster", "(LThreshRound$Farms;II)I"⟩ ∈ vx_tbl := vx_w 556 (by decide +kernel) rfl
theorem wd_557 : Cond.selects "ThreshRound$Debts" ⟨"ThreshRound$Debts", "muster", "(LThreshRound$Farms;II)I"⟩ ⟨"ThreshRound$Debts", "muster", "(LThreshRound$Farms;II)I"⟩ ∈ vx_tbl := vx_w 557 (by decide +kernel) rfl
theorem wd_558 : Cond.code ⟨"ThreshRound$Debts", "muster", "(LThreshRound$Farms;II)I"⟩ prog_3_method_2_code 8 (Option.some Jvm.ClassFile.FieldType.int) ∈ vx_tbl := vx_w 558 (by decide +kernel) rfl
theorem wd_561 : Cond.methodLink "ThreshRound$Debts" 33 ⟨"java/lang/Math", "min", "(II)I"⟩ ∈ vx_tbl := vx_w 561 (by decide +kernel) rfl
theorem wd_562 : Cond.methodLink "ThreshRound$Debts" 43 ⟨"ThreshRound$Debts", "nextLender", "(II)I"⟩ ∈ vx_tbl := vx_w 562 (by decide +kernel) rfl
theorem wd_564 : Cond.instanceMethod ⟨"ThreshRound$Debts", "nextLender", "(II)I"⟩ ∈ vx_tbl := vx_w 564 (by decide +kernel) rfl
theorem wd_565 : Cond.code ⟨"ThreshRound$Debts", "nextLender", "(II)I"⟩ prog_3_method_3_code 6 (Option.some Jvm.ClassFile.FieldType.int) ∈ vx_tbl := vx_w 565 (by decide +kernel) rfl
theorem wd_567 : Cond.static ⟨"ThreshRound", "at", "([[III)I"⟩ ∈ vx_tbl := vx_w 567 (by decide +kernel) rfl
theorem wd_568 : Cond.code ⟨"ThreshRound", "at", "([[III)I"⟩ prog_1_method_34_code 3 (Option.some Jvm.ClassFile.FieldType.int) ∈ vx_tbl := vx_w 568 (by decide +kernel) rfl
theorem wd_569 : Cond.methodLink "ThreshRound" 277 ⟨"ThreshRound", "cut", "(II)I"⟩ ∈ vx_tbl := vx_w 569 (by decide +kernel) rfl
theorem wd_570 : Cond.static ⟨"ThreshRound", "cut", "(II)I"⟩ ∈ vx_tbl := vx_w 570 (by decide +kernel) rfl
theorem wd_571 : Cond.code ⟨"ThreshRound", "cut", "(II)I"⟩ prog_1_method_36_code 2 (Option.some Jvm.ClassFile.FieldType.int) ∈ vx_tbl := vx_w 571 (by decide +kernel) rfl
theorem wd_572 : Cond.methodLink "ThreshRound" 280 ⟨"java/lang/Math", "max", "(II)I"⟩ ∈ vx_tbl := vx_w 572 (by decide +kernel) rfl
theorem wd_573 : Cond.static ⟨"java/lang/Math", "max", "(II)I"⟩ ∈ vx_tbl := vx_w 573 (by decide +kernel) rfl
theorem wd_574 : Cond.code ⟨"java/lang/Math", "max", "(II)I"⟩ prog_12_method_65_code 2 (Option.some Jvm.ClassFile.FieldType.int) ∈ vx_tbl := vx_w 574 (by decide +kernel) rfl
theorem wd_575 : Cond.methodLink "ThreshRound" 264 ⟨"ThreshRound", "upwards", "(II)I"⟩ ∈ vx_tbl := vx_w 575 (by decide +kernel) rfl
theorem wd_576 : Cond.static ⟨"ThreshRound", "upwards", "(II)I"⟩ ∈ vx_tbl := vx_w 576 (by decide +kernel) rfl
theorem wd_577 : Cond.code ⟨"ThreshRound", "upwards", "(II)I"⟩ prog_1_method_37_code 2 (Option.some Jvm.ClassFile.FieldType.int) ∈ vx_tbl := vx_w 577 (by decide +kernel) rfl
theorem wd_578 : Cond.methodLink "ThreshRound" 267 ⟨"ThreshRound$Search", "add", "(IIII)V"⟩ ∈ vx_tbl := vx_w 578 (by decide +kernel) rfl
theorem wd_579 : Cond.instanceMethod ⟨"ThreshRound$Search", "add", "(IIII)V"⟩ ∈ vx_tbl := vx_w 579 (by decide +kernel) rfl
theorem wd_580 : Cond.selects "ThreshRound$Search" ⟨"ThreshRound$Search", "add", "(IIII)V"⟩ ⟨"ThreshRound$Search", "add", "(IIII)V"⟩ ∈ vx_tbl := vx_w 580 (by decide +kernel) rfl
theorem wd_581 : Cond.code ⟨"ThreshRound$Search", "add", "(IIII)V"⟩ prog_8_method_3_code 5 (Option.none : Option Jvm.ClassFile.FieldType) ∈ vx_tbl := vx_w 581 (by decide +kernel) rfl
theorem wd_583 : Cond.methodLink "ThreshRound" 270 ⟨"ThreshRound$Search", "force", "(I)V"⟩ ∈ vx_tbl := vx_w 583 (by decide +kernel) rfl
theorem wd_584 : Cond.instanceMethod ⟨"ThreshRound$Search", "force", "(I)V"⟩ ∈ vx_tbl := vx_w 584 (by decide +kernel) rfl
theorem wd_585 : Cond.selects "ThreshRound$Search" ⟨"ThreshRound$Search", "force", "(I)V"⟩ ⟨"ThreshRound$Search", "force", "(I)V"⟩ ∈ vx_tbl := vx_w 585 (by decide +kernel) rfl
theorem wd_586 : Cond.code ⟨"ThreshRound$Search", "force", "(I)V"⟩ prog_8_method_4_code 3 (Option.none : Option Jvm.ClassFile.FieldType) ∈ vx_tbl := vx_w 586 (by decide +kernel) rfl
theorem wd_588 : Cond.methodLink "ThreshRound$Search" 69 ⟨"ThreshRound$Search", "isWaiting", "(I)Z"⟩ ∈ vx_tbl := vx_w 588 (by decide +kernel) rfl
theorem wd_590 : Cond.instanceMethod ⟨"ThreshRound$Search", "isWaiting", "(I)Z"⟩ ∈ vx_tbl := vx_w 590 (by decide +kernel) rfl
theorem wd_591 : Cond.code ⟨"ThreshRound$Search", "isWaiting", "(I)Z"⟩ prog_8_method_13_code 2 (Option.some Jvm.ClassFile.FieldType.boolean) ∈ vx_tbl := vx_w 591 (by decide +kernel) rfl
theorem wd_592 : Cond.methodLink "ThreshRound" 155 ⟨"ThreshRound$Search", "find", "(LThreshRound$Roads;II)Z"⟩ ∈ vx_tbl := vx_w 592 (by decide +kernel) rfl
theorem wd_593 : Cond.instanceMethod ⟨"ThreshRound$Search", "find", "(LThreshRound$Roads;II)Z"⟩ ∈ vx_tbl := vx_w 593 (by decide +kernel) rfl
theorem wd_594 : Cond.selects "ThreshRound$Search" ⟨"ThreshRound$Search", "find", "(LThreshRound$Roads;II)Z"⟩ ⟨"ThreshRound$Search", "find", "(LThreshRound$Roads;II)Z"⟩ ∈ vx_tbl := vx_w 594 (by decide +kernel) rfl
theorem wd_595 : Cond.code ⟨"ThreshRound$Search", "find", "(LThreshRound$Roads;II)Z"⟩ prog_8_method_5_code 4 (Option.some Jvm.ClassFile.FieldType.boolean) ∈ vx_tbl := vx_w 595 (by decide +kernel) rfl
theorem wd_596 : Cond.methodLink "ThreshRound$Search" 73 ⟨"ThreshRound$Search", "extend", "(LThreshRound$Search;LThreshRound$Roads;IIII)V"⟩ ∈ vx_tbl := vx_w 596 (by decide +kernel) rfl
theorem wd_597 : Cond.static ⟨"ThreshRound$Search", "extend", "(LThreshRound$Search;LThreshRound$Roads;IIII)V"⟩ ∈ vx_tbl := vx_w 597 (by decide +kernel) rfl
theorem wd_598 : Cond.code ⟨"ThreshRound$Search", "extend", "(LThreshRound$Search;LThreshRound$Roads;IIII)V"⟩ prog_8_method_6_code 10 (Option.none : Option Jvm.ClassFile.FieldType) ∈ vx_tbl := vx_w 598 (by decide +kernel) rfl
theorem wd_599 : Cond.methodLink "ThreshRound$Search" 77 ⟨"ThreshRound$Search", "keepAsBest", "(II)V"⟩ ∈ vx_tbl := vx_w 599 (by decide +kernel) rfl
theorem wd_601 : Cond.instanceMethod ⟨"ThreshRound$Search", "keepAsBest", "(II)V"⟩ ∈ vx_tbl := vx_w 601 (by decide +kernel) rfl
theorem wd_602 : Cond.code ⟨"ThreshRound$Search", "keepAsBest", "(II)V"⟩ prog_8_method_12_code 4 (Option.none : Option Jvm.ClassFile.FieldType) ∈ vx_tbl := vx_w 602 (by decide +kernel) rfl
theorem wd_603 : Cond.methodLink "ThreshRound$Search" 81 ⟨"ThreshRound$Roads", "between", "(II)I"⟩ ∈ vx_tbl := vx_w 603 (by decide +kernel) rfl
theorem wd_604 : Cond.instanceMethod ⟨"ThreshRound$Roads", "between", "(II)I"⟩ ∈ vx_tbl := vx_w 604 (by decide +kernel) rfl
theorem wd_605 : Cond.selects "ThreshRound$Roads" ⟨"ThreshRound$Roads", "between", "(II)I"⟩ ⟨"ThreshRound$Roads", "between", "(II)I"⟩ ∈ vx_tbl := vx_w 605 (by decide +kernel) rfl
theorem wd_606 : Cond.code ⟨"ThreshRound$Roads", "between", "(II)I"⟩ prog_7_method_2_code 3 (Option.some Jvm.ClassFile.FieldType.int) ∈ vx_tbl := vx_w 606 (by decide +kernel) rfl
theorem wd_608 : Cond.methodLink "ThreshRound$Search" 87 ⟨"ThreshRound$Search", "mayCome", "(II)Z"⟩ ∈ vx_tbl := vx_w 608 (by decide +kernel) rfl
theorem wd_610 : Cond.instanceMethod ⟨"ThreshRound$Search", "mayCome", "(II)Z"⟩ ∈ vx_tbl := vx_w 610 (by decide +kernel) rfl
theorem wd_611 : Cond.code ⟨"ThreshRound$Search", "mayCome", "(II)Z"⟩ prog_8_method_7_code 3 (Option.some Jvm.ClassFile.FieldType.boolean) ∈ vx_tbl := vx_w 611 (by decide +kernel) rfl
theorem wd_612 : Cond.methodLink "ThreshRound$Search" 91 ⟨"ThreshRound$Search", "leaves", "(II)I"⟩ ∈ vx_tbl := vx_w 612 (by decide +kernel) rfl
theorem wd_613 : Cond.instanceMethod ⟨"ThreshRound$Search", "leaves", "(II)I"⟩ ∈ vx_tbl := vx_w 613 (by decide +kernel) rfl
theorem wd_614 : Cond.selects "ThreshRound$Search" ⟨"ThreshRound$Search", "leaves", "(II)I"⟩ ⟨"ThreshRound$Search", "leaves", "(II)I"⟩ ∈ vx_tbl := vx_w 614 (by decide +kernel) rfl
theorem wd_615 : Cond.code ⟨"ThreshRound$Search", "leaves", "(II)I"⟩ prog_8_method_9_code 3 (Option.some Jvm.ClassFile.FieldType.int) ∈ vx_tbl := vx_w 615 (by decide +kernel) rfl
theorem wd_616 : Cond.methodLink "ThreshRound$Search" 105 ⟨"ThreshRound$Search", "begins", "(II)I"⟩ ∈ vx_tbl := vx_w 616 (by decide +kernel) rfl
theorem wd_617 : Cond.instanceMethod ⟨"ThreshRound$Search", "begins", "(II)I"⟩ ∈ vx_tbl := vx_w 617 (by decide +kernel) rfl
theorem wd_618 : Cond.selects "ThreshRound$Search" ⟨"ThreshRound$Search", "begins", "(II)I"⟩ ⟨"ThreshRound$Search", "begins", "(II)I"⟩ ∈ vx_tbl := vx_w 618 (by decide +kernel) rfl
theorem wd_619 : Cond.code ⟨"ThreshRound$Search", "begins", "(II)I"⟩ prog_8_method_8_code 3 (Option.some Jvm.ClassFile.FieldType.int) ∈ vx_tbl := vx_w 619 (by decide +kernel) rfl
theorem wd_620 : Cond.methodLink "ThreshRound$Search" 100 ⟨"java/lang/Math", "max", "(II)I"⟩ ∈ vx_tbl := vx_w 620 (by decide +kernel) rfl
theorem wd_621 : Cond.methodLink "ThreshRound$Search" 94 ⟨"ThreshRound$Search", "lossOf", "(II)I"⟩ ∈ vx_tbl := vx_w 621 (by decide +kernel) rfl
theorem wd_622 : Cond.instanceMethod ⟨"ThreshRound$Search", "lossOf", "(II)I"⟩ ∈ vx_tbl := vx_w 622 (by decide +kernel) rfl
theorem wd_623 : Cond.selects "ThreshRound$Search" ⟨"ThreshRound$Search", "lossOf", "(II)I"⟩ ⟨"ThreshRound$Search", "lossOf", "(II)I"⟩ ∈ vx_tbl := vx_w 623 (by decide +kernel) rfl
theorem wd_624 : Cond.code ⟨"ThreshRound$Search", "lossOf", "(II)I"⟩ prog_8_method_10_code 3 (Option.some Jvm.ClassFile.FieldType.int) ∈ vx_tbl := vx_w 624 (by decide +kernel) rfl
theorem wd_625 : Cond.methodLink "ThreshRound$Search" 97 ⟨"ThreshRound$Search", "beatsBest", "(II)Z"⟩ ∈ vx_tbl := vx_w 625 (by decide +kernel) rfl
theorem wd_627 : Cond.instanceMethod ⟨"ThreshRound$Search", "beatsBest", "(II)Z"⟩ ∈ vx_tbl := vx_w 627 (by decide +kernel) rfl
theorem wd_628 : Cond.code ⟨"ThreshRound$Search", "beatsBest", "(II)Z"⟩ prog_8_method_11_code 3 (Option.some Jvm.ClassFile.FieldType.boolean) ∈ vx_tbl := vx_w 628 (by decide +kernel) rfl
theorem wd_629 : Cond.methodLink "ThreshRound" 159 ⟨"ThreshRound$Plan", "make", "(LThreshRound$Search;LThreshRound$Roads;II)V"⟩ ∈ vx_tbl := vx_w 629 (by decide +kernel) rfl
theorem wd_630 : Cond.instanceMethod ⟨"ThreshRound$Plan", "make", "(LThreshRound$Search;LThreshRound$Roads;II)V"⟩ ∈ vx_tbl := vx_w 630 (by decide +kernel) rfl
theorem wd_631 : Cond.selects "ThreshRound$Plan" ⟨"ThreshRound$Plan", "make", "(LThreshRound$Search;LThreshRound$Roads;II)V"⟩ ⟨"ThreshRound$Plan", "make", "(LThreshRound$Search;LThreshRound$Roads;II)V"⟩ ∈ vx_tbl := vx_w 631 (by decide +kernel) rfl
theorem wd_632 : Cond.code ⟨"ThreshRound$Plan", "make", "(LThreshRound$Search;LThreshRound$Roads;II)V"⟩ prog_6_method_2_code 10 (Option.none : Option Jvm.ClassFile.FieldType) ∈ vx_tbl := vx_w 632 (by decide +kernel) rfl
theorem wd_633 : Cond.methodLink "ThreshRound$Plan" 43 ⟨"java/lang/Math", "min", "(II)I"⟩ ∈ vx_tbl := vx_w 633 (by decide +kernel) rfl
theorem wd_635 : Cond.methodLink "ThreshRound$Plan" 56 ⟨"ThreshRound$Roads", "between", "(II)I"⟩ ∈ vx_tbl := vx_w 635 (by decide +kernel) rfl
theorem wd_637 : Cond.methodLink "ThreshRound$Plan" 65 ⟨"ThreshRound$Search", "begins", "(II)I"⟩ ∈ vx_tbl := vx_w 637 (by decide +kernel) rfl
theorem wd_638 : Cond.methodLink "ThreshRound$Plan" 68 ⟨"ThreshRound$Search", "leaves", "(II)I"⟩ ∈ vx_tbl := vx_w 638 (by decide +kernel) rfl
theorem wd_639 : Cond.methodLink "ThreshRound$Plan" 71 ⟨"ThreshRound$Search", "lossOf", "(II)I"⟩ ∈ vx_tbl := vx_w 639 (by decide +kernel) rfl
theorem wd_640 : Cond.methodLink "ThreshRoundLaw" 46 ⟨"ThreshRound", "planned", "(II)I"⟩ ∈ vx_tbl := vx_w 640 (by decide +kernel) rfl
theorem wd_641 : Cond.instanceMethod ⟨"ThreshRound", "planned", "(II)I"⟩ ∈ vx_tbl := vx_w 641 (by decide +kernel) rfl
theorem wd_642 : Cond.selects "ThreshRound" ⟨"ThreshRound", "planned", "(II)I"⟩ ⟨"ThreshRound", "planned", "(II)I"⟩ ∈ vx_tbl := vx_w 642 (by decide +kernel) rfl
theorem wd_643 : Cond.code ⟨"ThreshRound", "planned", "(II)I"⟩ prog_1_method_9_code 3 (Option.some Jvm.ClassFile.FieldType.int) ∈ vx_tbl := vx_w 643 (by decide +kernel) rfl
theorem wd_644 : Cond.methodLink "ThreshRoundLaw" 51 ⟨"ThreshRound", "out", "()Z"⟩ ∈ vx_tbl := vx_w 644 (by decide +kernel) rfl
theorem wd_645 : Cond.instanceMethod ⟨"ThreshRound", "out", "()Z"⟩ ∈ vx_tbl := vx_w 645 (by decide +kernel) rfl
theorem wd_646 : Cond.selects "ThreshRound" ⟨"ThreshRound", "out", "()Z"⟩ ⟨"ThreshRound", "out", "()Z"⟩ ∈ vx_tbl := vx_w 646 (by decide +kernel) rfl
theorem wd_647 : Cond.code ⟨"ThreshRound", "out", "()Z"⟩ prog_1_method_10_code 2 (Option.some Jvm.ClassFile.FieldType.boolean) ∈ vx_tbl := vx_w 647 (by decide +kernel) rfl
theorem wd_648 : Cond.methodLink "ThreshRound" 196 ⟨"ThreshRound$Roads", "between", "(II)I"⟩ ∈ vx_tbl := vx_w 648 (by decide +kernel) rfl
theorem wd_649 : Cond.methodLink "ThreshRound" 203 ⟨"ThreshRound", "setOutFor", "(I)V"⟩ ∈ vx_tbl := vx_w 649 (by decide +kernel) rfl
theorem wd_651 : Cond.instanceMethod ⟨"ThreshRound", "setOutFor", "(I)V"⟩ ∈ vx_tbl := vx_w 651 (by decide +kernel) rfl
theorem wd_652 : Cond.code ⟨"ThreshRound", "setOutFor", "(I)V"⟩ prog_1_method_30_code 2 (Option.none : Option Jvm.ClassFile.FieldType) ∈ vx_tbl := vx_w 652 (by decide +kernel) rfl
theorem wd_653 : Cond.methodLink "ThreshRoundLaw" 56 ⟨"ThreshRound", "breaks", "(I)Z"⟩ ∈ vx_tbl := vx_w 653 (by decide +kernel) rfl
theorem wd_654 : Cond.instanceMethod ⟨"ThreshRound", "breaks", "(I)Z"⟩ ∈ vx_tbl := vx_w 654 (by decide +kernel) rfl
theorem wd_655 : Cond.selects "ThreshRound" ⟨"ThreshRound", "breaks", "(I)Z"⟩ ⟨"ThreshRound", "breaks", "(I)Z"⟩ ∈ vx_tbl := vx_w 655 (by decide +kernel) rfl
theorem wd_656 : Cond.code ⟨"ThreshRound", "breaks", "(I)Z"⟩ prog_1_method_11_code 2 (Option.some Jvm.ClassFile.FieldType.boolean) ∈ vx_tbl := vx_w 656 (by decide +kernel) rfl
theorem wd_657 : Cond.methodLink "ThreshRoundLaw" 61 ⟨"ThreshRound", "day", "(I)I"⟩ ∈ vx_tbl := vx_w 657 (by decide +kernel) rfl
theorem wd_658 : Cond.instanceMethod ⟨"ThreshRound", "day", "(I)I"⟩ ∈ vx_tbl := vx_w 658 (by decide +kernel) rfl
theorem wd_659 : Cond.selects "ThreshRound" ⟨"ThreshRound", "day", "(I)I"⟩ ⟨"ThreshRound", "day", "(I)I"⟩ ∈ vx_tbl := vx_w 659 (by decide +kernel) rfl
theorem wd_660 : Cond.code ⟨"ThreshRound", "day", "(I)I"⟩ prog_1_method_12_code 3 (Option.some Jvm.ClassFile.FieldType.int) ∈ vx_tbl := vx_w 660 (by decide +kernel) rfl
theorem wd_661 : Cond.methodLink "ThreshRound" 209 ⟨"ThreshRound", "passDay", "()V"⟩ ∈ vx_tbl := vx_w 661 (by decide +kernel) rfl
theorem wd_663 : Cond.instanceMethod ⟨"ThreshRound", "passDay", "()V"⟩ ∈ vx_tbl := vx_w 663 (by decide +kernel) rfl
theorem wd_664 : Cond.code ⟨"ThreshRound", "passDay", "()V"⟩ prog_1_method_27_code 1 (Option.none : Option Jvm.ClassFile.FieldType) ∈ vx_tbl := vx_w 664 (by decide +kernel) rfl
theorem wd_665 : Cond.methodLink "ThreshRound" 285 ⟨"ThreshRound", "isAheadOfFrom", "()Z"⟩ ∈ vx_tbl := vx_w 665 (by decide +kernel) rfl
theorem wd_667 : Cond.instanceMethod ⟨"ThreshRound", "isAheadOfFrom", "()Z"⟩ ∈ vx_tbl := vx_w 667 (by decide +kernel) rfl
theorem wd_668 : Cond.code ⟨"ThreshRound", "isAheadOfFrom", "()Z"⟩ prog_1_method_26_code 1 (Option.some Jvm.ClassFile.FieldType.boolean) ∈ vx_tbl := vx_w 668 (by decide +kernel) rfl
theorem wd_669 : Cond.methodLink "ThreshRound" 289 ⟨"ThreshRound", "thresh", "(I)V"⟩ ∈ vx_tbl := vx_w 669 (by decide +kernel) rfl
theorem wd_671 : Cond.instanceMethod ⟨"ThreshRound", "thresh", "(I)V"⟩ ∈ vx_tbl := vx_w 671 (by decide +kernel) rfl
theorem wd_672 : Cond.code ⟨"ThreshRound", "thresh", "(I)V"⟩ prog_1_method_28_code 3 (Option.none : Option Jvm.ClassFile.FieldType) ∈ vx_tbl := vx_w 672 (by decide +kernel) rfl
theorem wd_673 : Cond.methodLink "ThreshRound" 292 ⟨"java/lang/Math", "min", "(II)I"⟩ ∈ vx_tbl := vx_w 673 (by decide +kernel) rfl
theorem wd_674 : Cond.methodLink "ThreshRound" 295 ⟨"ThreshRound$Debts", "oweTheGivers", "(II)V"⟩ ∈ vx_tbl := vx_w 674 (by decide +kernel) rfl
theorem wd_675 : Cond.instanceMethod ⟨"ThreshRound$Debts", "oweTheGivers", "(II)V"⟩ ∈ vx_tbl := vx_w 675 (by decide +kernel) rfl
theorem wd_676 : Cond.selects "ThreshRound$Debts" ⟨"ThreshRound$Debts", "oweTheGivers", "(II)V"⟩ ⟨"ThreshRound$Debts", "oweTheGivers", "(II)V"⟩ ∈ vx_tbl := vx_w 676 (by decide +kernel) rfl
theorem wd_677 : Cond.code ⟨"ThreshRound$Debts", "oweTheGivers", "(II)V"⟩ prog_3_method_4_code 5 (Option.none : Option Jvm.ClassFile.FieldType) ∈ vx_tbl := vx_w 677 (by decide +kernel) rfl
theorem wd_679 : Cond.methodLink "ThreshRound" 299 ⟨"ThreshRound", "goOn", "()V"⟩ ∈ vx_tbl := vx_w 679 (by decide +kernel) rfl
theorem wd_681 : Cond.instanceMethod ⟨"ThreshRound", "goOn", "()V"⟩ ∈ vx_tbl := vx_w 681 (by decide +kernel) rfl
theorem wd_682 : Cond.code ⟨"ThreshRound", "goOn", "()V"⟩ prog_1_method_29_code 3 (Option.none : Option Jvm.ClassFile.FieldType) ∈ vx_tbl := vx_w 682 (by decide +kernel) rfl
theorem wd_683 : Cond.methodLink "ThreshRoundLaw" 65 ⟨"ThreshRound", "look", "(II)I"⟩ ∈ vx_tbl := vx_w 683 (by decide +kernel) rfl
theorem wd_684 : Cond.instanceMethod ⟨"ThreshRound", "look", "(II)I"⟩ ∈ vx_tbl := vx_w 684 (by decide +kernel) rfl
theorem wd_685 : Cond.selects "ThreshRound" ⟨"ThreshRound", "look", "(II)I"⟩ ⟨"ThreshRound", "look", "(II)I"⟩ ∈ vx_tbl := vx_w 685 (by decide +kernel) rfl
theorem wd_686 : Cond.code ⟨"ThreshRound", "look", "(II)I"⟩ prog_1_method_13_code 3 (Option.some Jvm.ClassFile.FieldType.int) ∈ vx_tbl := vx_w 686 (by decide +kernel) rfl
theorem wd_687 : Cond.methodLink "ThreshRound" 212 ⟨"ThreshRound", "sacksOf", "(I)I"⟩ ∈ vx_tbl := vx_w 687 (by decide +kernel) rfl
theorem wd_689 : Cond.instanceMethod ⟨"ThreshRound", "sacksOf", "(I)I"⟩ ∈ vx_tbl := vx_w 689 (by decide +kernel) rfl
theorem wd_690 : Cond.code ⟨"ThreshRound", "sacksOf", "(I)I"⟩ prog_1_method_22_code 4 (Option.some Jvm.ClassFile.FieldType.int) ∈ vx_tbl := vx_w 690 (by decide +kernel) rfl
theorem wd_691 : Cond.methodLink "ThreshRound" 221 ⟨"ThreshRound", "priceOf", "(I)I"⟩ ∈ vx_tbl := vx_w 691 (by decide +kernel) rfl
theorem wd_693 : Cond.instanceMethod ⟨"ThreshRound", "priceOf", "(I)I"⟩ ∈ vx_tbl := vx_w 693 (by decide +kernel) rfl
theorem wd_694 : Cond.code ⟨"ThreshRound", "priceOf", "(I)I"⟩ prog_1_method_23_code 3 (Option.some Jvm.ClassFile.FieldType.int) ∈ vx_tbl := vx_w 694 (by decide +kernel) rfl
theorem wd_695 : Cond.methodLink "ThreshRound" 224 ⟨"ThreshRound", "gangOf", "(I)I"⟩ ∈ vx_tbl := vx_w 695 (by decide +kernel) rfl
theorem wd_697 : Cond.instanceMethod ⟨"ThreshRound", "gangOf", "(I)I"⟩ ∈ vx_tbl := vx_w 697 (by decide +kernel) rfl
theorem wd_698 : Cond.code ⟨"ThreshRound", "gangOf", "(I)I"⟩ prog_1_method_20_code 2 (Option.some Jvm.ClassFile.FieldType.int) ∈ vx_tbl := vx_w 698 (by decide +kernel) rfl
theorem wd_699 : Cond.methodLink "ThreshRound" 230 ⟨"ThreshRound", "lossOf", "(I)I"⟩ ∈ vx_tbl := vx_w 699 (by decide +kernel) rfl
theorem wd_701 : Cond.instanceMethod ⟨"ThreshRound", "lossOf", "(I)I"⟩ ∈ vx_tbl := vx_w 701 (by decide +kernel) rfl
theorem wd_702 : Cond.code ⟨"ThreshRound", "lossOf", "(I)I"⟩ prog_1_method_24_code 3 (Option.some Jvm.ClassFile.FieldType.int) ∈ vx_tbl := vx_w 702 (by decide +kernel) rfl
theorem wd_703 : Cond.methodLink "ThreshRoundLaw" 69 ⟨"ThreshRound", "owed", "(II)I"⟩ ∈ vx_tbl := vx_w 703 (by decide +kernel) rfl
theorem wd_704 : Cond.instanceMethod ⟨"ThreshRound", "owed", "(II)I"⟩ ∈ vx_tbl := vx_w 704 (by decide +kernel) rfl
theorem wd_705 : Cond.selects "ThreshRound" ⟨"ThreshRound", "owed", "(II)I"⟩ ⟨"ThreshRound", "owed", "(II)I"⟩ ∈ vx_tbl := vx_w 705 (by decide +kernel) rfl
theorem wd_706 : Cond.code ⟨"ThreshRound", "owed", "(II)I"⟩ prog_1_method_14_code 3 (Option.some Jvm.ClassFile.FieldType.int) ∈ vx_tbl := vx_w 706 (by decide +kernel) rfl
theorem wd_707 : Cond.methodLink "ThreshRound" 233 ⟨"ThreshRound", "areTwoFarms", "(II)Z"⟩ ∈ vx_tbl := vx_w 707 (by decide +kernel) rfl
theorem wd_709 : Cond.instanceMethod ⟨"ThreshRound", "areTwoFarms", "(II)Z"⟩ ∈ vx_tbl := vx_w 709 (by decide +kernel) rfl
theorem wd_710 : Cond.code ⟨"ThreshRound", "areTwoFarms", "(II)Z"⟩ prog_1_method_18_code 3 (Option.some Jvm.ClassFile.FieldType.boolean) ∈ vx_tbl := vx_w 710 (by decide +kernel) rfl
theorem wd_711 : Cond.methodLink "ThreshRound" 240 ⟨"ThreshRound", "at", "([[III)I"⟩ ∈ vx_tbl := vx_w 711 (by decide +kernel) rfl
theorem wd_712 : Cond.constant "ThreshRound" 245 (-2147483648 : Int32) ∈ vx_tbl := vx_w 712 (by decide +kernel) rfl
theorem wd_713 : Cond.methodLink "ThreshRoundLaw" 73 ⟨"ThreshRound", "lent", "(II)I"⟩ ∈ vx_tbl := vx_w 713 (by decide +kernel) rfl
theorem wd_714 : Cond.instanceMethod ⟨"ThreshRound", "lent", "(II)I"⟩ ∈ vx_tbl := vx_w 714 (by decide +kernel) rfl
theorem wd_715 : Cond.selects "ThreshRound" ⟨"ThreshRound", "lent", "(II)I"⟩ ⟨"ThreshRound", "lent", "(II)I"⟩ ∈ vx_tbl := vx_w 715 (by decide +kernel) rfl
theorem wd_716 : Cond.code ⟨"ThreshRound", "lent", "(II)I"⟩ prog_1_method_15_code 3 (Option.some Jvm.ClassFile.FieldType.int) ∈ vx_tbl := vx_w 716 (by decide +kernel) rfl
theorem wd_717 : Cond.methodLink "ThreshRoundLaw" 77 ⟨"ThreshRound", "count", "(I)I"⟩ ∈ vx_tbl := vx_w 717 (by decide +kernel) rfl
theorem wd_718 : Cond.instanceMethod ⟨"ThreshRound", "count", "(I)I"⟩ ∈ vx_tbl := vx_w 718 (by decide +kernel) rfl
theorem wd_719 : Cond.selects "ThreshRound" ⟨"ThreshRound", "count", "(I)I"⟩ ⟨"ThreshRound", "count", "(I)I"⟩ ∈ vx_tbl := vx_w 719 (by decide +kernel) rfl
theorem wd_720 : Cond.code ⟨"ThreshRound", "count", "(I)I"⟩ prog_1_method_16_code 2 (Option.some Jvm.ClassFile.FieldType.int) ∈ vx_tbl := vx_w 720 (by decide +kernel) rfl
theorem wd_721 : Cond.methodLink "ThreshRound" 249 ⟨"ThreshRound$Farms", "openOnes", "()I"⟩ ∈ vx_tbl := vx_w 721 (by decide +kernel) rfl
theorem wd_722 : Cond.instanceMethod ⟨"ThreshRound$Farms", "openOnes", "()I"⟩ ∈ vx_tbl := vx_w 722 (by decide +kernel) rfl
theorem wd_723 : Cond.selects "ThreshRound$Farms" ⟨"ThreshRound$Farms", "openOnes", "()I"⟩ ⟨"ThreshRound$Farms", "openOnes", "()I"⟩ ∈ vx_tbl := vx_w 723 (by decide +kernel) rfl
theorem wd_724 : Cond.code ⟨"ThreshRound$Farms", "openOnes", "()I"⟩ prog_5_method_5_code 3 (Option.some Jvm.ClassFile.FieldType.int) ∈ vx_tbl := vx_w 724 (by decide +kernel) rfl
theorem wd_725 : Cond.methodLink "ThreshRound$Farms" 61 ⟨"ThreshRound$Farms", "isOpen", "(I)Z"⟩ ∈ vx_tbl := vx_w 725 (by decide +kernel) rfl
theorem wd_726 : Cond.methodLink "ThreshRound" 252 ⟨"ThreshRound", "howItIs", "()I"⟩ ∈ vx_tbl := vx_w 726 (by decide +kernel) rfl
theorem wd_728 : Cond.instanceMethod ⟨"ThreshRound", "howItIs", "()I"⟩ ∈ vx_tbl := vx_w 728 (by decide +kernel) rfl
theorem wd_729 : Cond.code ⟨"ThreshRound", "howItIs", "()I"⟩ prog_1_method_25_code 1 (Option.some Jvm.ClassFile.FieldType.int) ∈ vx_tbl := vx_w 729 (by decide +kernel) rfl
theorem wd_730 : Cond.classLink "ThreshRoundLaw" 10 "ThreshRoundModel" ∈ vx_tbl := vx_w 730 (by decide +kernel) rfl
theorem wd_731 : Cond.instantiable "ThreshRoundModel" 56 ∈ vx_tbl := vx_w 731 (by decide +kernel) rfl
theorem wd_732 : Cond.methodLink "ThreshRoundLaw" 12 ⟨"ThreshRoundModel", "<init>", "()V"⟩ ∈ vx_tbl := vx_w 732 (by decide +kernel) rfl
theorem wd_733 : Cond.instanceMethod ⟨"ThreshRoundModel", "<init>", "()V"⟩ ∈ vx_tbl := vx_w 733 (by decide +kernel) rfl
theorem wd_734 : Cond.code ⟨"ThreshRoundModel", "<init>", "()V"⟩ prog_11_method_1_code 1 (Option.none : Option Jvm.ClassFile.FieldType) ∈ vx_tbl := vx_w 734 (by decide +kernel) rfl
theorem wd_735 : Cond.methodLink "ThreshRoundModel" 1 ⟨"java/lang/Object", "<init>", "()V"⟩ ∈ vx_tbl := vx_w 735 (by decide +kernel) rfl
theorem wd_736 : Cond.fieldLink "ThreshRoundModel" 95 "ThreshRoundModel" "thrown" "I" ∈ vx_tbl := vx_w 736 (by decide +kernel) rfl
theorem wd_737 : Cond.fieldLink "ThreshRoundModel" 7 "ThreshRoundModel" "tape" "[I" ∈ vx_tbl := vx_w 737 (by decide +kernel) rfl
theorem wd_738 : Cond.fieldLink "ThreshRoundModel" 98 "ThreshRoundModel" "taped" "I" ∈ vx_tbl := vx_w 738 (by decide +kernel) rfl
theorem wd_739 : Cond.fieldLink "ThreshRoundModel" 13 "ThreshRoundModel" "customs" "[I" ∈ vx_tbl := vx_w 739 (by decide +kernel) rfl
theorem wd_740 : Cond.fieldLink "ThreshRoundModel" 16 "ThreshRoundModel" "usual" "[I" ∈ vx_tbl := vx_w 740 (by decide +kernel) rfl
theorem wd_741 : Cond.fieldLink "ThreshRoundModel" 19 "ThreshRoundModel" "least" "[I" ∈ vx_tbl := vx_w 741 (by decide +kernel) rfl
theorem wd_742 : Cond.fieldLink "ThreshRoundModel" 22 "ThreshRoundModel" "most" "[I" ∈ vx_tbl := vx_w 742 (by decide +kernel) rfl
theorem wd_743 : Cond.fieldLink "ThreshRoundModel" 151 "ThreshRoundModel" "told" "I" ∈ vx_tbl := vx_w 743 (by decide +kernel) rfl
theorem wd_744 : Cond.fieldLink "ThreshRoundModel" 157 "ThreshRoundModel" "lines" "I" ∈ vx_tbl := vx_w 744 (by decide +kernel) rfl
theorem wd_745 : Cond.fieldLink "ThreshRoundModel" 104 "ThreshRoundModel" "size" "I" ∈ vx_tbl := vx_w 745 (by decide +kernel) rfl
theorem wd_746 : Cond.fieldLink "ThreshRoundModel" 101 "ThreshRoundModel" "at" "I" ∈ vx_tbl := vx_w 746 (by decide +kernel) rfl
theorem wd_747 : Cond.fieldLink "ThreshRoundModel" 111 "ThreshRoundModel" "place" "I" ∈ vx_tbl := vx_w 747 (by decide +kernel) rfl
theorem wd_748 : Cond.fieldLink "ThreshRoundModel" 114 "ThreshRoundModel" "sort" "I" ∈ vx_tbl := vx_w 748 (by decide +kernel) rfl
theorem wd_749 : Cond.fieldLink "ThreshRoundModel" 124 "ThreshRoundModel" "value" "I" ∈ vx_tbl := vx_w 749 (by decide +kernel) rfl
theorem wd_750 : Cond.fieldLink "ThreshRoundModel" 141 "ThreshRoundModel" "fault" "I" ∈ vx_tbl := vx_w 750 (by decide +kernel) rfl
theorem wd_751 : Cond.fieldLink "ThreshRoundModel" 144 "ThreshRoundModel" "faultPlace" "I" ∈ vx_tbl := vx_w 751 (by decide +kernel) rfl
theorem wd_752 : Cond.fieldLink "ThreshRoundModel" 163 "ThreshRoundModel" "lastFault" "I" ∈ vx_tbl := vx_w 752 (by decide +kernel) rfl
theorem wd_753 : Cond.fieldLink "ThreshRoundModel" 25 "ThreshRoundModel" "lastPlace" "I" ∈ vx_tbl := vx_w 753 (by decide +kernel) rfl
theorem wd_754 : Cond.fieldLink "ThreshRoundModel" 166 "ThreshRoundModel" "farms" "I" ∈ vx_tbl := vx_w 754 (by decide +kernel) rfl
theorem wd_755 : Cond.fieldLink "ThreshRoundModel" 29 "ThreshRoundModel" "stack" "[I" ∈ vx_tbl := vx_w 755 (by decide +kernel) rfl
theorem wd_756 : Cond.fieldLink "ThreshRoundModel" 32 "ThreshRoundModel" "left" "[I" ∈ vx_tbl := vx_w 756 (by decide +kernel) rfl
theorem wd_757 : Cond.fieldLink "ThreshRoundModel" 35 "ThreshRoundModel" "damp" "[I" ∈ vx_tbl := vx_w 757 (by decide +kernel) rfl
theorem wd_758 : Cond.fieldLink "ThreshRoundModel" 38 "ThreshRoundModel" "own" "[I" ∈ vx_tbl := vx_w 758 (by decide +kernel) rfl
theorem wd_759 : Cond.fieldLink "ThreshRoundModel" 41 "ThreshRoundModel" "lends" "[I" ∈ vx_tbl := vx_w 759 (by decide +kernel) rfl
theorem wd_760 : Cond.fieldLink "ThreshRoundModel" 44 "ThreshRoundModel" "from" "[I" ∈ vx_tbl := vx_w 760 (by decide +kernel) rfl
theorem wd_761 : Cond.fieldLink "ThreshRoundModel" 47 "ThreshRoundModel" "to" "[I" ∈ vx_tbl := vx_w 761 (by decide +kernel) rfl
theorem wd_762 : Cond.fieldLink "ThreshRoundModel" 50 "ThreshRoundModel" "threshed" "[I" ∈ vx_tbl := vx_w 762 (by decide +kernel) rfl
theorem wd_763 : Cond.fieldLink "ThreshRoundModel" 53 "ThreshRoundModel" "doneOn" "[I" ∈ vx_tbl := vx_w 763 (by decide +kernel) rfl
theorem wd_764 : Cond.fieldLink "ThreshRoundModel" 56 "ThreshRoundModel" "how" "[I" ∈ vx_tbl := vx_w 764 (by decide +kernel) rfl
theorem wd_765 : Cond.fieldLink "ThreshRoundModel" 59 "ThreshRoundModel" "coins" "[I" ∈ vx_tbl := vx_w 765 (by decide +kernel) rfl
theorem wd_766 : Cond.fieldLink "ThreshRoundModel" 62 "ThreshRoundModel" "ways" "[I" ∈ vx_tbl := vx_w 766 (by decide +kernel) rfl
theorem wd_767 : Cond.fieldLink "ThreshRoundModel" 65 "ThreshRoundModel" "owed" "[I" ∈ vx_tbl := vx_w 767 (by decide +kernel) rfl
theorem wd_768 : Cond.fieldLink "ThreshRoundModel" 68 "ThreshRoundModel" "gives" "[I" ∈ vx_tbl := vx_w 768 (by decide +kernel) rfl
theorem wd_769 : Cond.fieldLink "ThreshRoundModel" 181 "ThreshRoundModel" "gang" "I" ∈ vx_tbl := vx_w 769 (by decide +kernel) rfl
theorem wd_770 : Cond.fieldLink "ThreshRoundModel" 193 "ThreshRoundModel" "day" "I" ∈ vx_tbl := vx_w 770 (by decide +kernel) rfl
theorem wd_771 : Cond.fieldLink "ThreshRoundModel" 190 "ThreshRoundModel" "setAt" "I" ∈ vx_tbl := vx_w 771 (by decide +kernel) rfl
theorem wd_772 : Cond.fieldLink "ThreshRoundModel" 221 "ThreshRoundModel" "onWay" "I" ∈ vx_tbl := vx_w 772 (by decide +kernel) rfl
theorem wd_773 : Cond.fieldLink "ThreshRoundModel" 254 "ThreshRoundModel" "goesTo" "I" ∈ vx_tbl := vx_w 773 (by decide +kernel) rfl
theorem wd_774 : Cond.fieldLink "ThreshRoundModel" 260 "ThreshRoundModel" "broken" "I" ∈ vx_tbl := vx_w 774 (by decide +kernel) rfl
theorem wd_775 : Cond.fieldLink "ThreshRoundModel" 71 "ThreshRoundModel" "order" "[I" ∈ vx_tbl := vx_w 775 (by decide +kernel) rfl
theorem wd_776 : Cond.fieldLink "ThreshRoundModel" 74 "ThreshRoundModel" "arrives" "[I" ∈ vx_tbl := vx_w 776 (by decide +kernel) rfl
theorem wd_777 : Cond.fieldLink "ThreshRoundModel" 77 "ThreshRoundModel" "begins" "[I" ∈ vx_tbl := vx_w 777 (by decide +kernel) rfl
theorem wd_778 : Cond.fieldLink "ThreshRoundModel" 80 "ThreshRoundModel" "ends" "[I" ∈ vx_tbl := vx_w 778 (by decide +kernel) rfl
theorem wd_779 : Cond.fieldLink "ThreshRoundModel" 83 "ThreshRoundModel" "losses" "[I" ∈ vx_tbl := vx_w 779 (by decide +kernel) rfl
theorem wd_780 : Cond.fieldLink "ThreshRoundModel" 248 "ThreshRoundModel" "planned" "I" ∈ vx_tbl := vx_w 780 (by decide +kernel) rfl
theorem wd_781 : Cond.fieldLink "ThreshRoundModel" 245 "ThreshRoundModel" "planDay" "I" ∈ vx_tbl := vx_w 781 (by decide +kernel) rfl
theorem wd_782 : Cond.fieldLink "ThreshRoundModel" 238 "ThreshRoundModel" "hasPlan" "Z" ∈ vx_tbl := vx_w 782 (by decide +kernel) rfl
theorem wd_783 : Cond.fieldLink "ThreshRoundModel" 242 "ThreshRoundModel" "isOut" "Z" ∈ vx_tbl := vx_w 783 (by decide +kernel) rfl
theorem wd_784 : Cond.fieldLink "ThreshRoundModel" 251 "ThreshRoundModel" "turn" "I" ∈ vx_tbl := vx_w 784 (by decide +kernel) rfl
theorem wd_785 : Cond.fieldLink "ThreshRoundModel" 86 "ThreshRoundModel" "tried" "[I" ∈ vx_tbl := vx_w 785 (by decide +kernel) rfl
theorem wd_786 : Cond.fieldLink "ThreshRoundModel" 89 "ThreshRoundModel" "speeds" "[I" ∈ vx_tbl := vx_w 786 (by decide +kernel) rfl
theorem wd_787 : Cond.fieldLink "ThreshRoundModel" 199 "ThreshRoundModel" "many" "I" ∈ vx_tbl := vx_w 787 (by decide +kernel) rfl
theorem wd_788 : Cond.fieldLink "ThreshRoundModel" 208 "ThreshRoundModel" "fixed" "I" ∈ vx_tbl := vx_w 788 (by decide +kernel) rfl
theorem wd_789 : Cond.fieldLink "ThreshRoundModel" 196 "ThreshRoundModel" "loss" "I" ∈ vx_tbl := vx_w 789 (by decide +kernel) rfl
theorem wd_790 : Cond.fieldLink "ThreshRoundModel" 205 "ThreshRoundModel" "last" "I" ∈ vx_tbl := vx_w 790 (by decide +kernel) rfl
theorem wd_791 : Cond.fieldLink "ThreshRoundModel" 92 "ThreshRoundModel" "bestOrder" "[I" ∈ vx_tbl := vx_w 791 (by decide +kernel) rfl
theorem wd_905 : Cond.methodLink "ThreshRoundLaw" 17 ⟨"ThreshRoundModel", "feed", "(IIIII)I"⟩ ∈ vx_tbl := vx_w 905 (by decide +kernel) rfl
theorem wd_906 : Cond.instanceMethod ⟨"ThreshRoundModel", "feed", "(IIIII)I"⟩ ∈ vx_tbl := vx_w 906 (by decide +kernel) rfl
theorem wd_907 : Cond.selects "ThreshRoundModel" ⟨"ThreshRoundModel", "feed", "(IIIII)I"⟩ ⟨"ThreshRoundModel", "feed", "(IIIII)I"⟩ ∈ vx_tbl := vx_w 907 (by decide +kernel) rfl
theorem wd_908 : Cond.code ⟨"ThreshRoundModel", "feed", "(IIIII)I"⟩ prog_11_method_3_code 8 (Option.some Jvm.ClassFile.FieldType.int) ∈ vx_tbl := vx_w 908 (by decide +kernel) rfl
theorem wd_909 : Cond.methodLink "ThreshRoundLaw" 22 ⟨"ThreshRoundModel", "customs", "(I)I"⟩ ∈ vx_tbl := vx_w 909 (by decide +kernel) rfl
theorem wd_910 : Cond.instanceMethod ⟨"ThreshRoundModel", "customs", "(I)I"⟩ ∈ vx_tbl := vx_w 910 (by decide +kernel) rfl
theorem wd_911 : Cond.selects "ThreshRoundModel" ⟨"ThreshRoundModel", "customs", "(I)I"⟩ ⟨"ThreshRoundModel", "customs", "(I)I"⟩ ∈ vx_tbl := vx_w 911 (by decide +kernel) rfl
theorem wd_912 : Cond.code ⟨"ThreshRoundModel", "customs", "(I)I"⟩ prog_11_method_11_code 3 (Option.some Jvm.ClassFile.FieldType.int) ∈ vx_tbl := vx_w 912 (by decide +kernel) rfl
theorem wd_913 : Cond.methodLink "ThreshRoundModel" 154 ⟨"ThreshRoundModel", "next", "()V"⟩ ∈ vx_tbl := vx_w 913 (by decide +kernel) rfl
theorem wd_915 : Cond.instanceMethod ⟨"ThreshRoundModel", "next", "()V"⟩ ∈ vx_tbl := vx_w 915 (by decide +kernel) rfl
theorem wd_916 : Cond.code ⟨"ThreshRoundModel", "next", "()V"⟩ prog_11_method_7_code 2 (Option.none : Option Jvm.ClassFile.FieldType) ∈ vx_tbl := vx_w 916 (by decide +kernel) rfl
theorem wd_917 : Cond.methodLink "ThreshRoundModel" 107 ⟨"ThreshRoundModel", "here", "()I"⟩ ∈ vx_tbl := vx_w 917 (by decide +kernel) rfl
theorem wd_919 : Cond.instanceMethod ⟨"ThreshRoundModel", "here", "()I"⟩ ∈ vx_tbl := vx_w 919 (by decide +kernel) rfl
theorem wd_920 : Cond.code ⟨"ThreshRoundModel", "here", "()I"⟩ prog_11_method_4_code 1 (Option.some Jvm.ClassFile.FieldType.int) ∈ vx_tbl := vx_w 920 (by decide +kernel) rfl
theorem wd_921 : Cond.methodLink "ThreshRoundModel" 117 ⟨"ThreshRoundModel", "isSmall", "(I)Z"⟩ ∈ vx_tbl := vx_w 921 (by decide +kernel) rfl
theorem wd_922 : Cond.static ⟨"ThreshRoundModel", "isSmall", "(I)Z"⟩ ∈ vx_tbl := vx_w 922 (by decide +kernel) rfl
theorem wd_923 : Cond.code ⟨"ThreshRoundModel", "isSmall", "(I)Z"⟩ prog_11_method_5_code 1 (Option.some Jvm.ClassFile.FieldType.boolean) ∈ vx_tbl := vx_w 923 (by decide +kernel) rfl
theorem wd_924 : Cond.methodLink "ThreshRoundModel" 121 ⟨"ThreshRoundModel", "wordOf", "()I"⟩ ∈ vx_tbl := vx_w 924 (by decide +kernel) rfl
theorem wd_926 : Cond.instanceMethod ⟨"ThreshRoundModel", "wordOf", "()I"⟩ ∈ vx_tbl := vx_w 926 (by decide +kernel) rfl
theorem wd_927 : Cond.code ⟨"ThreshRoundModel", "wordOf", "()I"⟩ prog_11_method_8_code 4 (Option.some Jvm.ClassFile.FieldType.int) ∈ vx_tbl := vx_w 927 (by decide +kernel) rfl
theorem wd_929 : Cond.methodLink "ThreshRoundModel" 132 ⟨"java/lang/String", "length", "()I"⟩ ∈ vx_tbl := vx_w 929 (by decide +kernel) rfl
theorem wd_930 : Cond.methodLink "ThreshRoundModel" 137 ⟨"java/lang/String", "charAt", "(I)C"⟩ ∈ vx_tbl := vx_w 930 (by decide +kernel) rfl
theorem wd_931 : Cond.methodLink "ThreshRoundModel" 127 ⟨"ThreshRoundModel", "isDigit", "(I)Z"⟩ ∈ vx_tbl := vx_w 931 (by decide +kernel) rfl
theorem wd_932 : Cond.static ⟨"ThreshRoundModel", "isDigit", "(I)Z"⟩ ∈ vx_tbl := vx_w 932 (by decide +kernel) rfl
theorem wd_933 : Cond.code ⟨"ThreshRoundModel", "isDigit", "(I)Z"⟩ prog_11_method_6_code 1 (Option.some Jvm.ClassFile.FieldType.boolean) ∈ vx_tbl := vx_w 933 (by decide +kernel) rfl
theorem wd_934 : Cond.methodLink "ThreshRoundModel" 160 ⟨"ThreshRoundModel", "line", "()V"⟩ ∈ vx_tbl := vx_w 934 (by decide +kernel) rfl
theorem wd_936 : Cond.instanceMethod ⟨"ThreshRoundModel", "line", "()V"⟩ ∈ vx_tbl := vx_w 936 (by decide +kernel) rfl
theorem wd_937 : Cond.code ⟨"ThreshRoundModel", "line", "()V"⟩ prog_11_method_10_code 2 (Option.none : Option Jvm.ClassFile.FieldType) ∈ vx_tbl := vx_w 937 (by decide +kernel) rfl
theorem wd_938 : Cond.methodLink "ThreshRoundModel" 147 ⟨"ThreshRoundModel", "wrong", "(I)V"⟩ ∈ vx_tbl := vx_w 938 (by decide +kernel) rfl
theorem wd_940 : Cond.instanceMethod ⟨"ThreshRoundModel", "wrong", "(I)V"⟩ ∈ vx_tbl := vx_w 940 (by decide +kernel) rfl
theorem wd_941 : Cond.code ⟨"ThreshRoundModel", "wrong", "(I)V"⟩ prog_11_method_9_code 2 (Option.none : Option Jvm.ClassFile.FieldType) ∈ vx_tbl := vx_w 941 (by decide +kernel) rfl
theorem wd_942 : Cond.methodLink "ThreshRoundLaw" 26 ⟨"ThreshRoundModel", "fault", "(I)I"⟩ ∈ vx_tbl := vx_w 942 (by decide +kernel) rfl
theorem wd_943 : Cond.instanceMethod ⟨"ThreshRoundModel", "fault", "(I)I"⟩ ∈ vx_tbl := vx_w 943 (by decide +kernel) rfl
theorem wd_944 : Cond.selects "ThreshRoundModel" ⟨"ThreshRoundModel", "fault", "(I)I"⟩ ⟨"ThreshRoundModel", "fault", "(I)I"⟩ ∈ vx_tbl := vx_w 944 (by decide +kernel) rfl
theorem wd_945 : Cond.code ⟨"ThreshRoundModel", "fault", "(I)I"⟩ prog_11_method_12_code 2 (Option.some Jvm.ClassFile.FieldType.int) ∈ vx_tbl := vx_w 945 (by decide +kernel) rfl
theorem wd_946 : Cond.methodLink "ThreshRoundLaw" 31 ⟨"ThreshRoundModel", "farm", "(IIIIII)I"⟩ ∈ vx_tbl := vx_w 946 (by decide +kernel) rfl
theorem wd_947 : Cond.instanceMethod ⟨"ThreshRoundModel", "farm", "(IIIIII)I"⟩ ∈ vx_tbl := vx_w 947 (by decide +kernel) rfl
theorem wd_948 : Cond.selects "ThreshRoundModel" ⟨"ThreshRoundModel", "farm", "(IIIIII)I"⟩ ⟨"ThreshRoundModel", "farm", "(IIIIII)I"⟩ ∈ vx_tbl := vx_w 948 (by decide +kernel) rfl
theorem wd_949 : Cond.code ⟨"ThreshRoundModel", "farm", "(IIIIII)I"⟩ prog_11_method_15_code 7 (Option.some Jvm.ClassFile.FieldType.int) ∈ vx_tbl := vx_w 949 (by decide +kernel) rfl
theorem wd_950 : Cond.methodLink "ThreshRoundModel" 169 ⟨"ThreshRoundModel", "isTwelve", "(I)Z"⟩ ∈ vx_tbl := vx_w 950 (by decide +kernel) rfl
theorem wd_951 : Cond.static ⟨"ThreshRoundModel", "isTwelve", "(I)Z"⟩ ∈ vx_tbl := vx_w 951 (by decide +kernel) rfl
theorem wd_952 : Cond.code ⟨"ThreshRoundModel", "isTwelve", "(I)Z"⟩ prog_11_method_14_code 1 (Option.some Jvm.ClassFile.FieldType.boolean) ∈ vx_tbl := vx_w 952 (by decide +kernel) rfl
theorem wd_953 : Cond.methodLink "ThreshRoundLaw" 36 ⟨"ThreshRoundModel", "way", "(III)Z"⟩ ∈ vx_tbl := vx_w 953 (by decide +kernel) rfl
theorem wd_954 : Cond.instanceMethod ⟨"ThreshRoundModel", "way", "(III)Z"⟩ ∈ vx_tbl := vx_w 954 (by decide +kernel) rfl
theorem wd_955 : Cond.selects "ThreshRoundModel" ⟨"ThreshRoundModel", "way", "(III)Z"⟩ ⟨"ThreshRoundModel", "way", "(III)Z"⟩ ∈ vx_tbl := vx_w 955 (by decide +kernel) rfl
theorem wd_956 : Cond.code ⟨"ThreshRoundModel", "way", "(III)Z"⟩ prog_11_method_16_code 4 (Option.some Jvm.ClassFile.FieldType.boolean) ∈ vx_tbl := vx_w 956 (by decide +kernel) rfl
theorem wd_957 : Cond.methodLink "ThreshRoundLaw" 40 ⟨"ThreshRoundModel", "bargain", "(III)Z"⟩ ∈ vx_tbl := vx_w 957 (by decide +kernel) rfl
theorem wd_958 : Cond.instanceMethod ⟨"ThreshRoundModel", "bargain", "(III)Z"⟩ ∈ vx_tbl := vx_w 958 (by decide +kernel) rfl
theorem wd_959 : Cond.selects "ThreshRoundModel" ⟨"ThreshRoundModel", "bargain", "(III)Z"⟩ ⟨"ThreshRoundModel", "bargain", "(III)Z"⟩ ∈ vx_tbl := vx_w 959 (by decide +kernel) rfl
theorem wd_960 : Cond.code ⟨"ThreshRoundModel", "bargain", "(III)Z"⟩ prog_11_method_17_code 4 (Option.some Jvm.ClassFile.FieldType.boolean) ∈ vx_tbl := vx_w 960 (by decide +kernel) rfl
theorem wd_961 : Cond.methodLink "ThreshRoundModel" 172 ⟨"ThreshRoundModel", "isFarm", "(I)Z"⟩ ∈ vx_tbl := vx_w 961 (by decide +kernel) rfl
theorem wd_963 : Cond.instanceMethod ⟨"ThreshRoundModel", "isFarm", "(I)Z"⟩ ∈ vx_tbl := vx_w 963 (by decide +kernel) rfl
theorem wd_964 : Cond.code ⟨"ThreshRoundModel", "isFarm", "(I)Z"⟩ prog_11_method_13_code 2 (Option.some Jvm.ClassFile.FieldType.boolean) ∈ vx_tbl := vx_w 964 (by decide +kernel) rfl
theorem wd_965 : Cond.methodLink "ThreshRoundLaw" 45 ⟨"ThreshRoundModel", "plan", "()I"⟩ ∈ vx_tbl := vx_w 965 (by decide +kernel) rfl
theorem wd_966 : Cond.instanceMethod ⟨"ThreshRoundModel", "plan", "()I"⟩ ∈ vx_tbl := vx_w 966 (by decide +kernel) rfl
theorem wd_967 : Cond.selects "ThreshRoundModel" ⟨"ThreshRoundModel", "plan", "()I"⟩ ⟨"ThreshRoundModel", "plan", "()I"⟩ ∈ vx_tbl := vx_w 967 (by decide +kernel) rfl
theorem wd_968 : Cond.code ⟨"ThreshRoundModel", "plan", "()I"⟩ prog_11_method_26_code 5 (Option.some Jvm.ClassFile.FieldType.int) ∈ vx_tbl := vx_w 968 (by decide +kernel) rfl
theorem wd_969 : Cond.methodLink "ThreshRoundModel" 218 ⟨"ThreshRoundModel", "firstOrder", "()V"⟩ ∈ vx_tbl := vx_w 969 (by decide +kernel) rfl
theorem wd_971 : Cond.instanceMethod ⟨"ThreshRoundModel", "firstOrder", "()V"⟩ ∈ vx_tbl := vx_w 971 (by decide +kernel) rfl
theorem wd_972 : Cond.code ⟨"ThreshRoundModel", "firstOrder", "()V"⟩ prog_11_method_25_code 4 (Option.none : Option Jvm.ClassFile.FieldType) ∈ vx_tbl := vx_w 972 (by decide +kernel) rfl
theorem wd_973 : Cond.methodLink "ThreshRoundModel" 215 ⟨"ThreshRoundModel", "isDone", "(I)Z"⟩ ∈ vx_tbl := vx_w 973 (by decide +kernel) rfl
theorem wd_975 : Cond.instanceMethod ⟨"ThreshRoundModel", "isDone", "(I)Z"⟩ ∈ vx_tbl := vx_w 975 (by decide +kernel) rfl
theorem wd_976 : Cond.code ⟨"ThreshRoundModel", "isDone", "(I)Z"⟩ prog_11_method_20_code 2 (Option.some Jvm.ClassFile.FieldType.boolean) ∈ vx_tbl := vx_w 976 (by decide +kernel) rfl
theorem wd_977 : Cond.methodLink "ThreshRoundModel" 224 ⟨"ThreshRoundModel", "speedOf", "(I)I"⟩ ∈ vx_tbl := vx_w 977 (by decide +kernel) rfl
theorem wd_979 : Cond.instanceMethod ⟨"ThreshRoundModel", "speedOf", "(I)I"⟩ ∈ vx_tbl := vx_w 979 (by decide +kernel) rfl
theorem wd_980 : Cond.code ⟨"ThreshRoundModel", "speedOf", "(I)I"⟩ prog_11_method_19_code 2 (Option.some Jvm.ClassFile.FieldType.int) ∈ vx_tbl := vx_w 980 (by decide +kernel) rfl
theorem wd_981 : Cond.methodLink "ThreshRoundModel" 184 ⟨"ThreshRoundModel", "gangs", "(I)V"⟩ ∈ vx_tbl := vx_w 981 (by decide +kernel) rfl
theorem wd_983 : Cond.instanceMethod ⟨"ThreshRoundModel", "gangs", "(I)V"⟩ ∈ vx_tbl := vx_w 983 (by decide +kernel) rfl
theorem wd_984 : Cond.code ⟨"ThreshRoundModel", "gangs", "(I)V"⟩ prog_11_method_18_code 7 (Option.none : Option Jvm.ClassFile.FieldType) ∈ vx_tbl := vx_w 984 (by decide +kernel) rfl
theorem wd_985 : Cond.methodLink "ThreshRoundModel" 175 ⟨"java/lang/Math", "min", "(II)I"⟩ ∈ vx_tbl := vx_w 985 (by decide +kernel) rfl
theorem wd_986 : Cond.methodLink "ThreshRoundModel" 187 ⟨"java/lang/Math", "max", "(II)I"⟩ ∈ vx_tbl := vx_w 986 (by decide +kernel) rfl
theorem wd_987 : Cond.methodLink "ThreshRoundModel" 228 ⟨"ThreshRoundModel", "goes", "()Z"⟩ ∈ vx_tbl := vx_w 987 (by decide +kernel) rfl
theorem wd_989 : Cond.instanceMethod ⟨"ThreshRoundModel", "goes", "()Z"⟩ ∈ vx_tbl := vx_w 989 (by decide +kernel) rfl
theorem wd_990 : Cond.code ⟨"ThreshRoundModel", "goes", "()Z"⟩ prog_11_method_21_code 6 (Option.some Jvm.ClassFile.FieldType.boolean) ∈ vx_tbl := vx_w 990 (by decide +kernel) rfl
theorem wd_991 : Cond.methodLink "ThreshRoundModel" 202 ⟨"ThreshRoundModel", "lossOf", "(II)I"⟩ ∈ vx_tbl := vx_w 991 (by decide +kernel) rfl
theorem wd_993 : Cond.instanceMethod ⟨"ThreshRoundModel", "lossOf", "(II)I"⟩ ∈ vx_tbl := vx_w 993 (by decide +kernel) rfl
theorem wd_994 : Cond.code ⟨"ThreshRoundModel", "lossOf", "(II)I"⟩ prog_11_method_22_code 3 (Option.some Jvm.ClassFile.FieldType.int) ∈ vx_tbl := vx_w 994 (by decide +kernel) rfl
theorem wd_995 : Cond.methodLink "ThreshRoundModel" 232 ⟨"ThreshRoundModel", "goesOn", "()Z"⟩ ∈ vx_tbl := vx_w 995 (by decide +kernel) rfl
theorem wd_997 : Cond.instanceMethod ⟨"ThreshRoundModel", "goesOn", "()Z"⟩ ∈ vx_tbl := vx_w 997 (by decide +kernel) rfl
theorem wd_998 : Cond.code ⟨"ThreshRoundModel", "goesOn", "()Z"⟩ prog_11_method_23_code 5 (Option.some Jvm.ClassFile.FieldType.boolean) ∈ vx_tbl := vx_w 998 (by decide +kernel) rfl
theorem wd_999 : Cond.methodLink "ThreshRoundModel" 211 ⟨"ThreshRoundModel", "swaps", "(II)V"⟩ ∈ vx_tbl := vx_w 999 (by decide +kernel) rfl
theorem wd_1001 : Cond.instanceMethod ⟨"ThreshRoundModel", "swaps", "(II)V"⟩ ∈ vx_tbl := vx_w 1001 (by decide +kernel) rfl
theorem wd_1002 : Cond.code ⟨"ThreshRoundModel", "swaps", "(II)V"⟩ prog_11_method_24_code 4 (Option.none : Option Jvm.ClassFile.FieldType) ∈ vx_tbl := vx_w 1002 (by decide +kernel) rfl
theorem wd_1003 : Cond.methodLink "ThreshRoundModel" 235 ⟨"ThreshRoundModel", "comes", "()V"⟩ ∈ vx_tbl := vx_w 1003 (by decide +kernel) rfl
theorem wd_1005 : Cond.instanceMethod ⟨"ThreshRoundModel", "comes", "()V"⟩ ∈ vx_tbl := vx_w 1005 (by decide +kernel) rfl
theorem wd_1006 : Cond.code ⟨"ThreshRoundModel", "comes", "()V"⟩ prog_11_method_27_code 5 (Option.none : Option Jvm.ClassFile.FieldType) ∈ vx_tbl := vx_w 1006 (by decide +kernel) rfl
theorem wd_1007 : Cond.methodLink "ThreshRoundLaw" 50 ⟨"ThreshRoundModel", "planned", "(II)I"⟩ ∈ vx_tbl := vx_w 1007 (by decide +kernel) rfl
theorem wd_1008 : Cond.instanceMethod ⟨"ThreshRoundModel", "planned", "(II)I"⟩ ∈ vx_tbl := vx_w 1008 (by decide +kernel) rfl
theorem wd_1009 : Cond.selects "ThreshRoundModel" ⟨"ThreshRoundModel", "planned", "(II)I"⟩ ⟨"ThreshRoundModel", "planned", "(II)I"⟩ ∈ vx_tbl := vx_w 1009 (by decide +kernel) rfl
theorem wd_1010 : Cond.code ⟨"ThreshRoundModel", "planned", "(II)I"⟩ prog_11_method_28_code 3 (Option.some Jvm.ClassFile.FieldType.int) ∈ vx_tbl := vx_w 1010 (by decide +kernel) rfl
theorem wd_1011 : Cond.methodLink "ThreshRoundLaw" 55 ⟨"ThreshRoundModel", "out", "()Z"⟩ ∈ vx_tbl := vx_w 1011 (by decide +kernel) rfl
theorem wd_1012 : Cond.instanceMethod ⟨"ThreshRoundModel", "out", "()Z"⟩ ∈ vx_tbl := vx_w 1012 (by decide +kernel) rfl
theorem wd_1013 : Cond.selects "ThreshRoundModel" ⟨"ThreshRoundModel", "out", "()Z"⟩ ⟨"ThreshRoundModel", "out", "()Z"⟩ ∈ vx_tbl := vx_w 1013 (by decide +kernel) rfl
theorem wd_1014 : Cond.code ⟨"ThreshRoundModel", "out", "()Z"⟩ prog_11_method_30_code 1 (Option.some Jvm.ClassFile.FieldType.boolean) ∈ vx_tbl := vx_w 1014 (by decide +kernel) rfl
theorem wd_1015 : Cond.methodLink "ThreshRoundModel" 257 ⟨"ThreshRoundModel", "setsOut", "()Z"⟩ ∈ vx_tbl := vx_w 1015 (by decide +kernel) rfl
theorem wd_1017 : Cond.instanceMethod ⟨"ThreshRoundModel", "setsOut", "()Z"⟩ ∈ vx_tbl := vx_w 1017 (by decide +kernel) rfl
theorem wd_1018 : Cond.code ⟨"ThreshRoundModel", "setsOut", "()Z"⟩ prog_11_method_29_code 3 (Option.some Jvm.ClassFile.FieldType.boolean) ∈ vx_tbl := vx_w 1018 (by decide +kernel) rfl
theorem wd_1019 : Cond.methodLink "ThreshRoundLaw" 60 ⟨"ThreshRoundModel", "breaks", "(I)Z"⟩ ∈ vx_tbl := vx_w 1019 (by decide +kernel) rfl
theorem wd_1020 : Cond.instanceMethod ⟨"ThreshRoundModel", "breaks", "(I)Z"⟩ ∈ vx_tbl := vx_w 1020 (by decide +kernel) rfl
theorem wd_1021 : Cond.selects "ThreshRoundModel" ⟨"ThreshRoundModel", "breaks", "(I)Z"⟩ ⟨"ThreshRoundModel", "breaks", "(I)Z"⟩ ∈ vx_tbl := vx_w 1021 (by decide +kernel) rfl
theorem wd_1022 : Cond.code ⟨"ThreshRoundModel", "breaks", "(I)Z"⟩ prog_11_method_31_code 2 (Option.some Jvm.ClassFile.FieldType.boolean) ∈ vx_tbl := vx_w 1022 (by decide +kernel) rfl
theorem wd_1023 : Cond.methodLink "ThreshRoundLaw" 64 ⟨"ThreshRoundModel", "day", "(I)I"⟩ ∈ vx_tbl := vx_w 1023 (by decide +kernel) rfl
theorem wd_1024 : Cond.instanceMethod ⟨"ThreshRoundModel", "day", "(I)I"⟩ ∈ vx_tbl := vx_w 1024 (by decide +kernel) rfl
theorem wd_1025 : Cond.selects "ThreshRoundModel" ⟨"ThreshRoundModel", "day", "(I)I"⟩ ⟨"ThreshRoundModel", "day", "(I)I"⟩ ∈ vx_tbl := vx_w 1025 (by decide +kernel) rfl
theorem wd_1026 : Cond.code ⟨"ThreshRoundModel", "day", "(I)I"⟩ prog_11_method_35_code 3 (Option.some Jvm.ClassFile.FieldType.int) ∈ vx_tbl := vx_w 1026 (by decide +kernel) rfl
theorem wd_1027 : Cond.methodLink "ThreshRoundModel" 269 ⟨"ThreshRoundModel", "oneDay", "()V"⟩ ∈ vx_tbl := vx_w 1027 (by decide +kernel) rfl
theorem wd_1029 : Cond.instanceMethod ⟨"ThreshRoundModel", "oneDay", "()V"⟩ ∈ vx_tbl := vx_w 1029 (by decide +kernel) rfl
theorem wd_1030 : Cond.code ⟨"ThreshRoundModel", "oneDay", "()V"⟩ prog_11_method_34_code 1 (Option.none : Option Jvm.ClassFile.FieldType) ∈ vx_tbl := vx_w 1030 (by decide +kernel) rfl
theorem wd_1031 : Cond.methodLink "ThreshRoundModel" 263 ⟨"ThreshRoundModel", "isAtWork", "()Z"⟩ ∈ vx_tbl := vx_w 1031 (by decide +kernel) rfl
theorem wd_1033 : Cond.instanceMethod ⟨"ThreshRoundModel", "isAtWork", "()Z"⟩ ∈ vx_tbl := vx_w 1033 (by decide +kernel) rfl
theorem wd_1034 : Cond.code ⟨"ThreshRoundModel", "isAtWork", "()Z"⟩ prog_11_method_32_code 1 (Option.some Jvm.ClassFile.FieldType.boolean) ∈ vx_tbl := vx_w 1034 (by decide +kernel) rfl
theorem wd_1035 : Cond.methodLink "ThreshRoundModel" 266 ⟨"ThreshRoundModel", "threshes", "(I)V"⟩ ∈ vx_tbl := vx_w 1035 (by decide +kernel) rfl
theorem wd_1037 : Cond.instanceMethod ⟨"ThreshRoundModel", "threshes", "(I)V"⟩ ∈ vx_tbl := vx_w 1037 (by decide +kernel) rfl
theorem wd_1038 : Cond.code ⟨"ThreshRoundModel", "threshes", "(I)V"⟩ prog_11_method_33_code 4 (Option.none : Option Jvm.ClassFile.FieldType) ∈ vx_tbl := vx_w 1038 (by decide +kernel) rfl
theorem wd_1039 : Cond.methodLink "ThreshRoundLaw" 68 ⟨"ThreshRoundModel", "look", "(II)I"⟩ ∈ vx_tbl := vx_w 1039 (by decide +kernel) rfl
theorem wd_1040 : Cond.instanceMethod ⟨"ThreshRoundModel", "look", "(II)I"⟩ ∈ vx_tbl := vx_w 1040 (by decide +kernel) rfl
theorem wd_1041 : Cond.selects "ThreshRoundModel" ⟨"ThreshRoundModel", "look", "(II)I"⟩ ⟨"ThreshRoundModel", "look", "(II)I"⟩ ∈ vx_tbl := vx_w 1041 (by decide +kernel) rfl
theorem wd_1042 : Cond.code ⟨"ThreshRoundModel", "look", "(II)I"⟩ prog_11_method_37_code 3 (Option.some Jvm.ClassFile.FieldType.int) ∈ vx_tbl := vx_w 1042 (by decide +kernel) rfl
theorem wd_1043 : Cond.methodLink "ThreshRoundModel" 272 ⟨"ThreshRoundModel", "sacksOf", "(I)I"⟩ ∈ vx_tbl := vx_w 1043 (by decide +kernel) rfl
theorem wd_1045 : Cond.instanceMethod ⟨"ThreshRoundModel", "sacksOf", "(I)I"⟩ ∈ vx_tbl := vx_w 1045 (by decide +kernel) rfl
theorem wd_1046 : Cond.code ⟨"ThreshRoundModel", "sacksOf", "(I)I"⟩ prog_11_method_36_code 2 (Option.some Jvm.ClassFile.FieldType.int) ∈ vx_tbl := vx_w 1046 (by decide +kernel) rfl
theorem wd_1047 : Cond.methodLink "ThreshRoundLaw" 72 ⟨"ThreshRoundModel", "owed", "(II)I"⟩ ∈ vx_tbl := vx_w 1047 (by decide +kernel) rfl
theorem wd_1048 : Cond.instanceMethod ⟨"ThreshRoundModel", "owed", "(II)I"⟩ ∈ vx_tbl := vx_w 1048 (by decide +kernel) rfl
theorem wd_1049 : Cond.selects "ThreshRoundModel" ⟨"ThreshRoundModel", "owed", "(II)I"⟩ ⟨"ThreshRoundModel", "owed", "(II)I"⟩ ∈ vx_tbl := vx_w 1049 (by decide +kernel) rfl
theorem wd_1050 : Cond.code ⟨"ThreshRoundModel", "owed", "(II)I"⟩ prog_11_method_38_code 3 (Option.some Jvm.ClassFile.FieldType.int) ∈ vx_tbl := vx_w 1050 (by decide +kernel) rfl
theorem wd_1051 : Cond.constant "ThreshRoundModel" 277 (-2147483648 : Int32) ∈ vx_tbl := vx_w 1051 (by decide +kernel) rfl
theorem wd_1052 : Cond.methodLink "ThreshRoundLaw" 76 ⟨"ThreshRoundModel", "lent", "(II)I"⟩ ∈ vx_tbl := vx_w 1052 (by decide +kernel) rfl
theorem wd_1053 : Cond.instanceMethod ⟨"ThreshRoundModel", "lent", "(II)I"⟩ ∈ vx_tbl := vx_w 1053 (by decide +kernel) rfl
theorem wd_1054 : Cond.selects "ThreshRoundModel" ⟨"ThreshRoundModel", "lent", "(II)I"⟩ ⟨"ThreshRoundModel", "lent", "(II)I"⟩ ∈ vx_tbl := vx_w 1054 (by decide +kernel) rfl
theorem wd_1055 : Cond.code ⟨"ThreshRoundModel", "lent", "(II)I"⟩ prog_11_method_39_code 3 (Option.some Jvm.ClassFile.FieldType.int) ∈ vx_tbl := vx_w 1055 (by decide +kernel) rfl
theorem wd_1056 : Cond.methodLink "ThreshRoundLaw" 80 ⟨"ThreshRoundModel", "count", "(I)I"⟩ ∈ vx_tbl := vx_w 1056 (by decide +kernel) rfl
theorem wd_1057 : Cond.instanceMethod ⟨"ThreshRoundModel", "count", "(I)I"⟩ ∈ vx_tbl := vx_w 1057 (by decide +kernel) rfl
theorem wd_1058 : Cond.selects "ThreshRoundModel" ⟨"ThreshRoundModel", "count", "(I)I"⟩ ⟨"ThreshRoundModel", "count", "(I)I"⟩ ∈ vx_tbl := vx_w 1058 (by decide +kernel) rfl
theorem wd_1059 : Cond.code ⟨"ThreshRoundModel", "count", "(I)I"⟩ prog_11_method_40_code 4 (Option.some Jvm.ClassFile.FieldType.int) ∈ vx_tbl := vx_w 1059 (by decide +kernel) rfl
theorem wd_1060 : Cond.fieldLink "java/lang/String" 9 "java/lang/String" "value" "[B" ∈ vx_tbl := vx_w 1060 (by decide +kernel) rfl
theorem wd_1061 : Cond.fieldLink "java/lang/String" 15 "java/lang/String" "coder" "B" ∈ vx_tbl := vx_w 1061 (by decide +kernel) rfl
end
section
section
variable {own : String} {cc : ByteArray} {nL : Nat} {ret : Option FieldType} {ini : Bool} {d mc ms : Nat} {Post : vx_P} {ad : Nat → Nat} {kc ks N : Nat} {Λ : vx_L} {μ : vx_mem} {pc : Nat} {ls : List (Nat × vx_v)} {st : List vx_v}
theorem vx_cat (ad : Nat → Nat) (st : List vx_v) : (((st.map (vx_V ad)).map fun v => v.category).sum) = st.length := by
  have e : ((st.map (vx_V ad)).map fun v => v.category) = List.replicate st.length 1 := by
    apply List.ext_getElem?
    intro i
    by_cases hi : i < st.length
    · simp [List.getElem?_replicate, hi, vx_V_cat]
    · simp [List.getElem?_replicate, hi]
  rw [e, List.sum_replicate_nat]
  omega
theorem vx_sub_A {D : va_G} {dA : Nat → ClassId} {ad : Nat → Nat} {N : Nat} {Λ : vx_L} {μ : vx_mem} {A : Nat → Prop} {H0 H : Heap} {locs : List Loc} (hS : va_S A H0 H locs) (hA : ∀ q : Nat, H0.size ≤ q → A q) (hD : va_D A (vx_W dA ad N Λ μ)) : ∀ q, va_A (vx_W dA ad N Λ μ) H.size q → A q := by
  intro q h
  rcases h with ⟨k, e, h⟩ | h
  · exact hD.2 k _ h
  · exact hA q (Nat.le_trans hS.1 h)
theorem vx_blind {D : va_G} {dA : Nat → ClassId} {vs : List Value} {sz : Nat} {ws : va_W} {ad : Nat → Nat} : FrameBlind (va_Pc vs (fun U => U.heap.size = sz ∧ va_P D vwCl ws U.heap ∧ va_K D vwCl (vx_T dA) U ∧ va_D (fun _ => True) ws ∧ vx_X ad (va_A ws sz) U U.heap)) :=
  fun a U g mk q => by
    obtain ⟨q0, q1, qP, qK, qD, qX⟩ := q
    exact ⟨q0, q1, qP, va_K.moved (u := U) (U := U.calling g mk a) (Vm.Alike.refl U.vm) qK, qD, vx_X.same (s := U) (U := U.calling g mk a) rfl qX⟩
theorem vx_pre {s : State} {D : va_G} {dA : Nat → ClassId} {ad : Nat → Nat} {N : Nat} {Λ : vx_L} {μ : vx_mem} {A : Nat → Prop} {H : Heap} {locs : List Loc} {vs : List vx_v} (hS : va_S A s.heap H locs) (hA : ∀ q : Nat, s.heap.size ≤ q → A q) (hK : va_K D vwCl (vx_T dA) s) (hP : va_P D vwCl (vx_W dA ad N Λ μ) H) (hD : va_D A (vx_W dA ad N Λ μ)) (hX : vx_X ad A s s.heap) :
    ∀ U : State, U.heap = H → s.WarmedH U.vm → va_Pc (vs.map (vx_V ad)) (fun U => U.heap.size = H.size ∧ va_P D vwCl (vx_W dA ad N Λ μ) U.heap ∧ va_K D vwCl (vx_T dA) U ∧ va_D (fun _ => True) (vx_W dA ad N Λ μ) ∧ vx_X ad (va_A (vx_W dA ad N Λ μ) H.size) U U.heap) (vs.map (vx_V ad)).toArray U := by
  intro U hU hW
  refine ⟨rfl, by rw [hU], by rw [hU]; exact hP, va_K.moved hW.alike hK, hD.weaken (fun _ _ _ _ => trivial), ?_⟩
  rw [hU]
  exact ((hX.kept hS.2.1).narrow (vx_sub_A (D := D) hS hA hD)).warm hW
/-- behind a call -/
theorem vx_after {p : Program} {l : Launch} {e : Env} {R : Room} {s : State} {m : MethodId} {args : Array Value} {below : List Frame} {meth : Method} {c : Code} {H : Heap} {locs : List Loc} {kc ks mc2 ms2 : Nat} {Q : State → Prop} {D : va_G} {dA : Nat → ClassId} {A A1 : Nat → Prop} {P : vx_P} {a : Array Value} {free : Addr → Prop} {LS : Array Slot} {st0 rest : List Value}
    (hr : va_Run p l e R s m args below meth c H locs kc ks mc2 ms2 (F0 m pc LS st0) rest (vx_Q D dA A1 P a) free) (hS : va_S A s.heap H locs) (hA : ∀ q, q < H.size → A1 q → A q) (hf : ∀ q, free q → A q)
    (kk : ∀ (r : Option vx_v) (ad' : Nat → Nat) (N' : Nat) (Λ' : vx_L) (μ' : vx_mem) (H1 : Heap) (locs1 : List Loc), P r ad' N' Λ' μ' → va_P D vwCl (vx_W dA ad' N' Λ' μ') H1 → va_D A1 (vx_W dA ad' N' Λ' μ') → va_S A s.heap H1 locs1 → W p l e R s m args below meth c H1 locs1 (kc + mc2) (ks + ms2) Q (F0 m (pc + 3) LS ((r.map (vx_V ad')).toList ++ rest))) : W p l e R s m args below meth c H locs kc ks Q (F0 m pc LS st0) := by
  intro T hT X
  obtain ⟨v, st₀, t, T', L, h0, X', hL, e1, e2, ⟨⟨r, ad', N', Λ', μ', hv, hp, hP1, hK1, hD1⟩, hz, hk⟩, hst⟩ := hr T hT X
  cases hv
  rw [h0] at hz hk
  rw [← e1] at hP1
  obtain ⟨t2, a1, b1⟩ := kk r ad' N' Λ' μ' T'.heap (locs ++ L) hp hP1 hD1
    ⟨Nat.le_trans hS.1 (by rw [e1]; exact hz), fun q h1 h2 => by rw [e1, hk q (Nat.lt_of_lt_of_le h1 hS.1) (fun z => h2 (hA q (Nat.lt_of_lt_of_le h1 hS.1) z))]; exact hS.2.1 q h1 h2, fun q hq => by
      rcases List.mem_append.mp hq with h | h
      · exact hS.2.2 q h
      · exact hf _ (hL q h)⟩ T' rfl X'
  exact ⟨t2, hst t2 a1, b1⟩
/-- a method that makes nothing: what it answers, and the memory behind it -/
def vx_D (ad : Nat → Nat) (N : Nat) (Λ : vx_L) (Q : Option vx_v → vx_mem → Prop) : vx_P := fun r a n L m => a = ad ∧ n = N ∧ L = Λ ∧ Q r m
abbrev vx_Mn (y : MethodName) (cc : ByteArray) (nL : Nat) (ret : Option FieldType) (d : Nat) (ad : Nat → Nat) (N : Nat) (Λ : vx_L) (μ : vx_mem) (vs : List vx_v) (Q : Option vx_v → vx_mem → Prop) : Prop := vx_M y cc nL ret d 0 0 ad N Λ μ vs (vx_D ad N Λ Q)
/-- .. one answer, one memory -/
abbrev vx_Mf (y : MethodName) (cc : ByteArray) (nL : Nat) (ret : Option FieldType) (d : Nat) (ad : Nat → Nat) (N : Nat) (Λ : vx_L) (μ : vx_mem) (vs : List vx_v) (r0 : Option vx_v) (μ0 : vx_mem) : Prop := vx_Mn y cc nL ret d ad N Λ μ vs (fun r m => r = r0 ∧ m = μ0)
/-- values that two address books tell alike -/
def vx_al (ad ad' : Nat → Nat) (ls : List (Nat × vx_v)) (st : List vx_v) : Prop := (∀ q ∈ ls, vx_V ad' q.2 = vx_V ad q.2) ∧ (∀ v ∈ st, vx_V ad' v = vx_V ad v) ∧ ∀ k, 1000 ≤ k → ad' k = ad k
theorem vx_al.l {ad ad' : Nat → Nat} {ls : List (Nat × vx_v)} {st : List vx_v} (h : vx_al ad ad' ls st) : ls.map (fun q => (q.1, vx_V ad' q.2)) = ls.map (fun q => (q.1, vx_V ad q.2)) := List.map_congr_left (fun q hq => by rw [h.1 q hq])
theorem vx_al.s {ad ad' : Nat → Nat} {ls : List (Nat × vx_v)} {st : List vx_v} (h : vx_al ad ad' ls st) : st.map (vx_V ad') = st.map (vx_V ad) := List.map_congr_left (fun v hv => h.2.1 v hv)
theorem vx_al.rf {ad : Nat → Nat} {ls : List (Nat × vx_v)} {st : List vx_v} : vx_al ad ad ls st := ⟨fun _ _ => rfl, fun _ _ => rfl, fun _ _ => rfl⟩
variable {y : MethodName} {cc2 : ByteArray} {nL2 : Nat} {ret2 : Option FieldType} {d2 mc2 ms2 index : Nat} {vs : List vx_v}

theorem vx_callVG {b ci nn : Nat} {fr : List (Option (Option Nat))} {C : String} {T : u_T} {P : vx_P} (hd : decode cc pc = .ok (.invokevirtual index, 3)) (hM : vx_M y cc2 nL2 ret2 d2 mc2 ms2 ad N Λ μ (vx_r b :: vs) P) (hl : Cond.methodLink own index y ∈ vx_tbl) (hc : Cond.code y cc2 nL2 ret2 ∈ vx_tbl) (hn : Cond.initialized y.cls ∈ vx_tbl) (hy : y.cls ≠ "java/lang/invoke/MethodHandle" ∧ y.cls ≠ "java/lang/invoke/VarHandle" ∧ (parseMethodDescriptor y.desc).map (fun d => d.parameters.length) = some vs.length) (hi : Cond.instanceMethod y ∈ vx_tbl) (hs : Cond.selects y.cls y y ∈ vx_tbl) (hb : b < N) (hΛ : Λ b = .inl (ci, fr)) (hcl : vwCl[ci]? = some (C, T, nn)) (hC9 : C = y.cls) (hd2 : d2 < d) (hnl : nL2 ≤ 45) (hst : st.length ≤ 8) (hmc : kc + mc2 ≤ mc) (hms : ks + ms2 ≤ ms)
    (kk : ∀ (r : Option vx_v) (ad' : Nat → Nat) (N' : Nat) (Λ' : vx_L) (μ' : vx_mem), P r ad' N' Λ' μ' → vx_al ad ad' ls st ∧ vx_J own cc nL ret ini d mc ms Post ad' (kc + mc2) (ks + ms2) N' Λ' μ' (pc + 3) (ls) (r.toList ++ st)) : vx_J own cc nL ret ini d mc ms Post ad kc ks N Λ μ (pc) (ls) (vs.reverse ++ vx_r b :: st) := by
  intro p l e s m args below meth c D dA A H locs LS hC hS hA hK hP hD hX hl'
  subst hC9
  have hts : ∀ w ∈ vx_tbl, w.before args s = true := hC.2.2.2.2.2.1
  have hs8 := vx_cat ad st
  have hrun := va_runV (As := vs.map (vx_V ad)) (rest := st.map (vx_V ad)) (g := F0 m pc LS ((vs.reverse ++ vx_r b :: st).map (vx_V ad))) (locs := locs) (cells := kc) (slots := ks) (below := below) (e := e) (meth := meth) (l := l) ⟨hC.1, hC.2.1, hC.2.2.1, hC.2.2.2.2.1, hts⟩ (hM l D dA H.size) ⟨callB_of (n := vs.length) (rm := vx_R d2 mc2 ms2) (R := vx_R d mc ms) hts (vx_good hc) rfl rfl rfl (hts _ hn) (hts _ hl) hy ⟨Nat.succ_le_of_lt hd2, by show 8 + (nL2 + 11) + 64 * d2 ≤ 64 * d; omega⟩, hts _ hi, hts _ hs⟩ ⟨vx_blind, va_recv hK hP hcl (q0 := b) (by rw [vx_W_at hb, hΛ]; rfl), vx_pre (vs := vx_r b :: vs) hS hA hK hP hD hX⟩ rfl (by rw [List.length_map]) hl'.1 (by simp [List.map_append, List.map_reverse, vx_V, va_rf]) (lv_room (by rw [hs8]; exact hst)) hd ⟨hmc, hms⟩
  refine vx_after hrun hS (fun q _ h => vx_sub_A (D := D) hS hA hD q h) (fun q h => vx_sub_A (D := D) hS hA hD q h) (fun r ad' N' Λ' μ' H1 locs1 hp hP1 hD1 hS1 => ?_)
  obtain ⟨hal, hk⟩ := kk r ad' N' Λ' μ' hp
  have hl2 : lv_has LS nL (ls.map (fun q => (q.1, vx_V ad' q.2))) := by rw [hal.l]; exact hl'
  have hw := hk p l e s m args below meth c D dA A H1 locs1 LS hC hS1 hA hK hP1 (hD1.weaken (fun k q _ h => vx_sub_A (D := D) hS hA hD q.1 h)) (hX.ad hal.2.2) hl2
  have e1 : (r.toList ++ st).map (vx_V ad') = (r.map (vx_V ad')).toList ++ st.map (vx_V ad) := by
    rw [List.map_append, hal.s]
    cases r <;> rfl
  rw [e1] at hw
  exact hw
theorem vx_callVN {b ci nn : Nat} {fr : List (Option (Option Nat))} {C : String} {T : u_T} {Q : Option vx_v → vx_mem → Prop} (hd : decode cc pc = .ok (.invokevirtual index, 3)) (hM : vx_Mn y cc2 nL2 ret2 d2 ad N Λ μ (vx_r b :: vs) Q) (hl : Cond.methodLink own index y ∈ vx_tbl) (hc : Cond.code y cc2 nL2 ret2 ∈ vx_tbl) (hn : Cond.initialized y.cls ∈ vx_tbl) (hy : y.cls ≠ "java/lang/invoke/MethodHandle" ∧ y.cls ≠ "java/lang/invoke/VarHandle" ∧ (parseMethodDescriptor y.desc).map (fun d => d.parameters.length) = some vs.length) (hi : Cond.instanceMethod y ∈ vx_tbl) (hs : Cond.selects y.cls y y ∈ vx_tbl) (hb : b < N) (hΛ : Λ b = .inl (ci, fr)) (hcl : vwCl[ci]? = some (C, T, nn)) (hC9 : C = y.cls) (hd2 : d2 < d) (hnl : nL2 ≤ 45) (hst : st.length ≤ 8) (hmc : kc ≤ mc) (hms : ks ≤ ms)
    (kk : ∀ (r : Option vx_v) (μ' : vx_mem), Q r μ' → vx_J own cc nL ret ini d mc ms Post ad kc ks N Λ μ' (pc + 3) (ls) (r.toList ++ st)) : vx_J own cc nL ret ini d mc ms Post ad kc ks N Λ μ (pc) (ls) (vs.reverse ++ vx_r b :: st) :=
  vx_callVG hd hM hl hc hn hy hi hs hb hΛ hcl hC9 hd2 hnl hst hmc hms (fun r ad' N' Λ' μ' hp => by
    obtain ⟨rfl, rfl, rfl, hq⟩ := hp
    exact ⟨vx_al.rf, kk r μ' hq⟩)
theorem vx_callV {b ci nn : Nat} {fr : List (Option (Option Nat))} {C : String} {T : u_T} {r0 : Option vx_v} {μ0 : vx_mem} (hd : decode cc pc = .ok (.invokevirtual index, 3)) (hM : vx_Mf y cc2 nL2 ret2 d2 ad N Λ μ (vx_r b :: vs) r0 μ0) (hl : Cond.methodLink own index y ∈ vx_tbl) (hc : Cond.code y cc2 nL2 ret2 ∈ vx_tbl) (hn : Cond.initialized y.cls ∈ vx_tbl) (hy : y.cls ≠ "java/lang/invoke/MethodHandle" ∧ y.cls ≠ "java/lang/invoke/VarHandle" ∧ (parseMethodDescriptor y.desc).map (fun d => d.parameters.length) = some vs.length) (hi : Cond.instanceMethod y ∈ vx_tbl) (hs : Cond.selects y.cls y y ∈ vx_tbl) (hb : b < N) (hΛ : Λ b = .inl (ci, fr)) (hcl : vwCl[ci]? = some (C, T, nn)) (hC9 : C = y.cls) (hd2 : d2 < d) (hnl : nL2 ≤ 45) (hst : st.length ≤ 8) (hmc : kc ≤ mc) (hms : ks ≤ ms)
    (kk : vx_J own cc nL ret ini d mc ms Post ad kc ks N Λ μ0 (pc + 3) (ls) (r0.toList ++ st)) : vx_J own cc nL ret ini d mc ms Post ad kc ks N Λ μ (pc) (ls) (vs.reverse ++ vx_r b :: st) :=
  vx_callVN hd hM hl hc hn hy hi hs hb hΛ hcl hC9 hd2 hnl hst hmc hms (fun r μ' hp => by
    obtain ⟨rfl, rfl⟩ := hp
    exact kk)
theorem vx_callSG {P : vx_P} (hd : decode cc pc = .ok (.invokestatic index, 3)) (hM : vx_M y cc2 nL2 ret2 d2 mc2 ms2 ad N Λ μ (vs) P) (hl : Cond.methodLink own index y ∈ vx_tbl) (hc : Cond.code y cc2 nL2 ret2 ∈ vx_tbl) (hn : Cond.initialized y.cls ∈ vx_tbl) (hy : y.cls ≠ "java/lang/invoke/MethodHandle" ∧ y.cls ≠ "java/lang/invoke/VarHandle" ∧ (parseMethodDescriptor y.desc).map (fun d => d.parameters.length) = some vs.length) (hsta : Cond.static y ∈ vx_tbl) (hd2 : d2 < d) (hnl : nL2 ≤ 45) (hst : st.length ≤ 8) (hmc : kc + mc2 ≤ mc) (hms : ks + ms2 ≤ ms)
    (kk : ∀ (r : Option vx_v) (ad' : Nat → Nat) (N' : Nat) (Λ' : vx_L) (μ' : vx_mem), P r ad' N' Λ' μ' → vx_al ad ad' ls st ∧ vx_J own cc nL ret ini d mc ms Post ad' (kc + mc2) (ks + ms2) N' Λ' μ' (pc + 3) (ls) (r.toList ++ st)) : vx_J own cc nL ret ini d mc ms Post ad kc ks N Λ μ (pc) (ls) (vs.reverse ++ st) := by
  intro p l e s m args below meth c D dA A H locs LS hC hS hA hK hP hD hX hl'
  skip
  have hts : ∀ w ∈ vx_tbl, w.before args s = true := hC.2.2.2.2.2.1
  have hs8 := vx_cat ad st
  have hrun := va_runS (As := vs.map (vx_V ad)) (rest := st.map (vx_V ad)) (g := F0 m pc LS ((vs.reverse ++ st).map (vx_V ad))) (locs := locs) (cells := kc) (slots := ks) (below := below) (e := e) (meth := meth) (l := l) ⟨hC.1, hC.2.1, hC.2.2.1, hC.2.2.2.2.1, hts⟩ (hM l D dA H.size) ⟨callB_of (n := vs.length) (rm := vx_R d2 mc2 ms2) (R := vx_R d mc ms) hts (vx_good hc) rfl rfl rfl (hts _ hn) (hts _ hl) hy ⟨Nat.succ_le_of_lt hd2, by show 8 + (nL2 + 11) + 64 * d2 ≤ 64 * d; omega⟩, hts _ hsta⟩ ⟨vx_blind, vx_pre (vs := vs) hS hA hK hP hD hX⟩ rfl (by rw [List.length_map]) hl'.1 (by simp [List.map_append, List.map_reverse, vx_V, va_rf]) (lv_room (by rw [hs8]; exact hst)) hd ⟨hmc, hms⟩
  refine vx_after hrun hS (fun q _ h => vx_sub_A (D := D) hS hA hD q h) (fun q h => vx_sub_A (D := D) hS hA hD q h) (fun r ad' N' Λ' μ' H1 locs1 hp hP1 hD1 hS1 => ?_)
  obtain ⟨hal, hk⟩ := kk r ad' N' Λ' μ' hp
  have hl2 : lv_has LS nL (ls.map (fun q => (q.1, vx_V ad' q.2))) := by rw [hal.l]; exact hl'
  have hw := hk p l e s m args below meth c D dA A H1 locs1 LS hC hS1 hA hK hP1 (hD1.weaken (fun k q _ h => vx_sub_A (D := D) hS hA hD q.1 h)) (hX.ad hal.2.2) hl2
  have e1 : (r.toList ++ st).map (vx_V ad') = (r.map (vx_V ad')).toList ++ st.map (vx_V ad) := by
    rw [List.map_append, hal.s]
    cases r <;> rfl
  rw [e1] at hw
  exact hw
theorem vx_callSN {Q : Option vx_v → vx_mem → Prop} (hd : decode cc pc = .ok (.invokestatic index, 3)) (hM : vx_Mn y cc2 nL2 ret2 d2 ad N Λ μ (vs) Q) (hl : Cond.methodLink own index y ∈ vx_tbl) (hc : Cond.code y cc2 nL2 ret2 ∈ vx_tbl) (hn : Cond.initialized y.cls ∈ vx_tbl) (hy : y.cls ≠ "java/lang/invoke/MethodHandle" ∧ y.cls ≠ "java/lang/invoke/VarHandle" ∧ (parseMethodDescriptor y.desc).map (fun d => d.parameters.length) = some vs.length) (hsta : Cond.static y ∈ vx_tbl) (hd2 : d2 < d) (hnl : nL2 ≤ 45) (hst : st.length ≤ 8) (hmc : kc ≤ mc) (hms : ks ≤ ms)
    (kk : ∀ (r : Option vx_v) (μ' : vx_mem), Q r μ' → vx_J own cc nL ret ini d mc ms Post ad kc ks N Λ μ' (pc + 3) (ls) (r.toList ++ st)) : vx_J own cc nL ret ini d mc ms Post ad kc ks N Λ μ (pc) (ls) (vs.reverse ++ st) :=
  vx_callSG hd hM hl hc hn hy hsta hd2 hnl hst hmc hms (fun r ad' N' Λ' μ' hp => by
    obtain ⟨rfl, rfl, rfl, hq⟩ := hp
    exact ⟨vx_al.rf, kk r μ' hq⟩)
theorem vx_callS {r0 : Option vx_v} {μ0 : vx_mem} (hd : decode cc pc = .ok (.invokestatic index, 3)) (hM : vx_Mf y cc2 nL2 ret2 d2 ad N Λ μ (vs) r0 μ0) (hl : Cond.methodLink own index y ∈ vx_tbl) (hc : Cond.code y cc2 nL2 ret2 ∈ vx_tbl) (hn : Cond.initialized y.cls ∈ vx_tbl) (hy : y.cls ≠ "java/lang/invoke/MethodHandle" ∧ y.cls ≠ "java/lang/invoke/VarHandle" ∧ (parseMethodDescriptor y.desc).map (fun d => d.parameters.length) = some vs.length) (hsta : Cond.static y ∈ vx_tbl) (hd2 : d2 < d) (hnl : nL2 ≤ 45) (hst : st.length ≤ 8) (hmc : kc ≤ mc) (hms : ks ≤ ms)
    (kk : vx_J own cc nL ret ini d mc ms Post ad kc ks N Λ μ0 (pc + 3) (ls) (r0.toList ++ st)) : vx_J own cc nL ret ini d mc ms Post ad kc ks N Λ μ (pc) (ls) (vs.reverse ++ st) :=
  vx_callSN hd hM hl hc hn hy hsta hd2 hnl hst hmc hms (fun r μ' hp => by
    obtain ⟨rfl, rfl⟩ := hp
    exact kk)
theorem vx_callXG {P : vx_P} (hd : decode cc pc = .ok (.invokestatic index, 3)) (hM : vx_M y cc2 nL2 ret2 d2 mc2 ms2 ad N Λ μ (vs) P) (hl : Cond.methodLinkNest own index y "ThreshRound" ∈ vx_nest) (hc : Cond.code y cc2 nL2 ret2 ∈ vx_tbl) (hn : Cond.initialized y.cls ∈ vx_tbl) (hy : y.cls ≠ "java/lang/invoke/MethodHandle" ∧ y.cls ≠ "java/lang/invoke/VarHandle" ∧ (parseMethodDescriptor y.desc).map (fun d => d.parameters.length) = some vs.length) (hsta : Cond.static y ∈ vx_tbl) (hd2 : d2 < d) (hnl : nL2 ≤ 45) (hst : st.length ≤ 8) (hmc : kc + mc2 ≤ mc) (hms : ks + ms2 ≤ ms)
    (kk : ∀ (r : Option vx_v) (ad' : Nat → Nat) (N' : Nat) (Λ' : vx_L) (μ' : vx_mem), P r ad' N' Λ' μ' → vx_al ad ad' ls st ∧ vx_J own cc nL ret ini d mc ms Post ad' (kc + mc2) (ks + ms2) N' Λ' μ' (pc + 3) (ls) (r.toList ++ st)) : vx_J own cc nL ret ini d mc ms Post ad kc ks N Λ μ (pc) (ls) (vs.reverse ++ st) := by
  intro p l e s m args below meth c D dA A H locs LS hC hS hA hK hP hD hX hl'
  skip
  have hts : ∀ w ∈ vx_tbl, w.before args s = true := hC.2.2.2.2.2.1
  have hs8 := vx_cat ad st
  have hrun := va_runSN (As := vs.map (vx_V ad)) (rest := st.map (vx_V ad)) (g := F0 m pc LS ((vs.reverse ++ st).map (vx_V ad))) (locs := locs) (cells := kc) (slots := ks) (below := below) (e := e) (meth := meth) (l := l) ⟨hC.1, hC.2.1, hC.2.2.1, hC.2.2.2.2.1, hts⟩ (hM l D dA H.size) ⟨va_cnB (rm := vx_R d2 mc2 ms2) (R := vx_R d mc ms) vs.length hts (vx_good hc) rfl rfl rfl (hX.1 _ hl) (hts _ hn) hy ⟨Nat.succ_le_of_lt hd2, by show 8 + (nL2 + 11) + 64 * d2 ≤ 64 * d; omega⟩, hts _ hsta, trivial⟩ ⟨vx_blind, vx_pre (vs := vs) hS hA hK hP hD hX⟩ rfl (by rw [List.length_map]) hl'.1 (by simp [List.map_append, List.map_reverse, vx_V, va_rf]) (lv_room (by rw [hs8]; exact hst)) hd ⟨hmc, hms⟩
  refine vx_after hrun hS (fun q _ h => vx_sub_A (D := D) hS hA hD q h) (fun q h => vx_sub_A (D := D) hS hA hD q h) (fun r ad' N' Λ' μ' H1 locs1 hp hP1 hD1 hS1 => ?_)
  obtain ⟨hal, hk⟩ := kk r ad' N' Λ' μ' hp
  have hl2 : lv_has LS nL (ls.map (fun q => (q.1, vx_V ad' q.2))) := by rw [hal.l]; exact hl'
  have hw := hk p l e s m args below meth c D dA A H1 locs1 LS hC hS1 hA hK hP1 (hD1.weaken (fun k q _ h => vx_sub_A (D := D) hS hA hD q.1 h)) (hX.ad hal.2.2) hl2
  have e1 : (r.toList ++ st).map (vx_V ad') = (r.map (vx_V ad')).toList ++ st.map (vx_V ad) := by
    rw [List.map_append, hal.s]
    cases r <;> rfl
  rw [e1] at hw
  exact hw
theorem vx_callXN {Q : Option vx_v → vx_mem → Prop} (hd : decode cc pc = .ok (.invokestatic index, 3)) (hM : vx_Mn y cc2 nL2 ret2 d2 ad N Λ μ (vs) Q) (hl : Cond.methodLinkNest own index y "ThreshRound" ∈ vx_nest) (hc : Cond.code y cc2 nL2 ret2 ∈ vx_tbl) (hn : Cond.initialized y.cls ∈ vx_tbl) (hy : y.cls ≠ "java/lang/invoke/MethodHandle" ∧ y.cls ≠ "java/lang/invoke/VarHandle" ∧ (parseMethodDescriptor y.desc).map (fun d => d.parameters.length) = some vs.length) (hsta : Cond.static y ∈ vx_tbl) (hd2 : d2 < d) (hnl : nL2 ≤ 45) (hst : st.length ≤ 8) (hmc : kc ≤ mc) (hms : ks ≤ ms)
    (kk : ∀ (r : Option vx_v) (μ' : vx_mem), Q r μ' → vx_J own cc nL ret ini d mc ms Post ad kc ks N Λ μ' (pc + 3) (ls) (r.toList ++ st)) : vx_J own cc nL ret ini d mc ms Post ad kc ks N Λ μ (pc) (ls) (vs.reverse ++ st) :=
  vx_callXG hd hM hl hc hn hy hsta hd2 hnl hst hmc hms (fun r ad' N' Λ' μ' hp => by
    obtain ⟨rfl, rfl, rfl, hq⟩ := hp
    exact ⟨vx_al.rf, kk r μ' hq⟩)
theorem vx_callX {r0 : Option vx_v} {μ0 : vx_mem} (hd : decode cc pc = .ok (.invokestatic index, 3)) (hM : vx_Mf y cc2 nL2 ret2 d2 ad N Λ μ (vs) r0 μ0) (hl : Cond.methodLinkNest own index y "ThreshRound" ∈ vx_nest) (hc : Cond.code y cc2 nL2 ret2 ∈ vx_tbl) (hn : Cond.initialized y.cls ∈ vx_tbl) (hy : y.cls ≠ "java/lang/invoke/MethodHandle" ∧ y.cls ≠ "java/lang/invoke/VarHandle" ∧ (parseMethodDescriptor y.desc).map (fun d => d.parameters.length) = some vs.length) (hsta : Cond.static y ∈ vx_tbl) (hd2 : d2 < d) (hnl : nL2 ≤ 45) (hst : st.length ≤ 8) (hmc : kc ≤ mc) (hms : ks ≤ ms)
    (kk : vx_J own cc nL ret ini d mc ms Post ad kc ks N Λ μ0 (pc + 3) (ls) (r0.toList ++ st)) : vx_J own cc nL ret ini d mc ms Post ad kc ks N Λ μ (pc) (ls) (vs.reverse ++ st) :=
  vx_callXN hd hM hl hc hn hy hsta hd2 hnl hst hmc hms (fun r μ' hp => by
    obtain ⟨rfl, rfl⟩ := hp
    exact kk)
theorem vx_callIG {b : Nat} {P : vx_P} (hd : decode cc pc = .ok (.invokespecial index, 3)) (hM : vx_M y cc2 nL2 none d2 mc2 ms2 ad N Λ μ (vx_r b :: vs) P) (hl : Cond.methodLink own index y ∈ vx_tbl) (hc : Cond.code y cc2 nL2 none ∈ vx_tbl) (hn : Cond.initialized y.cls ∈ vx_tbl) (hy : y.cls ≠ "java/lang/invoke/MethodHandle" ∧ y.cls ≠ "java/lang/invoke/VarHandle" ∧ (parseMethodDescriptor y.desc).map (fun d => d.parameters.length) = some vs.length) (hi : Cond.instanceMethod y ∈ vx_tbl) (hin : y.name = "<init>") (hd2 : d2 < d) (hnl : nL2 ≤ 45) (hst : st.length ≤ 8) (hmc : kc + mc2 ≤ mc) (hms : ks + ms2 ≤ ms)
    (kk : ∀ (r : Option vx_v) (ad' : Nat → Nat) (N' : Nat) (Λ' : vx_L) (μ' : vx_mem), P r ad' N' Λ' μ' → vx_al ad ad' ls st ∧ vx_J own cc nL ret ini d mc ms Post ad' (kc + mc2) (ks + ms2) N' Λ' μ' (pc + 3) (ls) (r.toList ++ st)) : vx_J own cc nL ret ini d mc ms Post ad kc ks N Λ μ (pc) (ls) (vs.reverse ++ vx_r b :: st) := by
  intro p l e s m args below meth c D dA A H locs LS hC hS hA hK hP hD hX hl'
  skip
  have hts : ∀ w ∈ vx_tbl, w.before args s = true := hC.2.2.2.2.2.1
  have hs8 := vx_cat ad st
  have hrun := va_runI (As := vs.map (vx_V ad)) (rest := st.map (vx_V ad)) (g := F0 m pc LS ((vs.reverse ++ vx_r b :: st).map (vx_V ad))) (locs := locs) (cells := kc) (slots := ks) (below := below) (e := e) (meth := meth) (l := l) ⟨hC.1, hC.2.1, hC.2.2.1, hC.2.2.2.2.1, hts⟩ (hM l D dA H.size) ⟨callB_of (n := vs.length) (rm := vx_R d2 mc2 ms2) (R := vx_R d mc ms) hts (vx_good hc) rfl rfl rfl (hts _ hn) (hts _ hl) hy ⟨Nat.succ_le_of_lt hd2, by show 8 + (nL2 + 11) + 64 * d2 ≤ 64 * d; omega⟩, hin, hts _ hi⟩ ⟨vx_blind, vx_pre (vs := vx_r b :: vs) hS hA hK hP hD hX⟩ rfl (by rw [List.length_map]) hl'.1 (by simp [List.map_append, List.map_reverse, vx_V, va_rf]) (lv_room (by rw [hs8]; exact hst)) hd ⟨hmc, hms⟩
  refine vx_after hrun hS (fun q _ h => vx_sub_A (D := D) hS hA hD q h) (fun q h => vx_sub_A (D := D) hS hA hD q h) (fun r ad' N' Λ' μ' H1 locs1 hp hP1 hD1 hS1 => ?_)
  obtain ⟨hal, hk⟩ := kk r ad' N' Λ' μ' hp
  have hl2 : lv_has LS nL (ls.map (fun q => (q.1, vx_V ad' q.2))) := by rw [hal.l]; exact hl'
  have hw := hk p l e s m args below meth c D dA A H1 locs1 LS hC hS1 hA hK hP1 (hD1.weaken (fun k q _ h => vx_sub_A (D := D) hS hA hD q.1 h)) (hX.ad hal.2.2) hl2
  have e1 : (r.toList ++ st).map (vx_V ad') = (r.map (vx_V ad')).toList ++ st.map (vx_V ad) := by
    rw [List.map_append, hal.s]
    cases r <;> rfl
  rw [e1] at hw
  exact hw
theorem vx_Mf.to {ad : Nat → Nat} {N : Nat} {Λ : vx_L} {μ : vx_mem} {r r' : Option vx_v} {m m' : vx_mem} {d : Nat} (h : vx_Mf y cc2 nL2 ret2 d ad N Λ μ vs r m) (hr : r = r') (hm : m = m') : vx_Mf y cc2 nL2 ret2 d ad N Λ μ vs r' m' := by
  subst hr; subst hm; exact h
theorem vx_m1 {m : vx_mem} {k : Nat} {f g : Nat → Int32} : va_up (va_up m k f) k g = va_up m k g := bx_uu _ _ _ _
theorem vx_m2 {m : vx_mem} {a b : Nat} {f g : Nat → Int32} (h : a ≠ b) : va_up (va_up m a f) b g = va_up (va_up m b g) a f := by
  funext z
  unfold va_up
  by_cases h1 : z = b
  · by_cases h2 : z = a
    · exact absurd (h2.symm.trans h1) h
    · simp [h1, Ne.symm h]
  · simp [h1]
end
end
section
section
theorem vx_lays {ws : List Cond} (ps : List Nat) (hp : ws = ps.filterMap (fun i => lw_tbl[i]?)) (hg : ws.all goodWord = true) : ∀ x ∈ ws, x ∈ vx_tbl := by
  intro x hx
  have h1 := List.all_eq_true.mp hg x hx
  rw [hp] at hx
  obtain ⟨i, -, hi⟩ := List.mem_filterMap.mp hx
  exact vx_w i hi h1
set_option maxRecDepth 20000 in
theorem lay_X0 : ∀ x ∈ u_ws RX0 TX0 4, x ∈ vx_tbl := vx_lays [118, 120, 122, 124] (by decide +kernel) (by decide +kernel)
set_option maxRecDepth 20000 in
theorem lay_X1 : ∀ x ∈ u_ws RX1 TX1 2, x ∈ vx_tbl := vx_lays [212, 214] (by decide +kernel) (by decide +kernel)
set_option maxRecDepth 20000 in
theorem lay_X2 : ∀ x ∈ u_ws RX2 TX2 6, x ∈ vx_tbl := vx_lays [330, 332, 334, 336, 338, 340] (by decide +kernel) (by decide +kernel)
set_option maxRecDepth 20000 in
theorem lay_X3 : ∀ x ∈ u_ws RX3 TX3 12, x ∈ vx_tbl := vx_lays [160, 162, 164, 166, 168, 170, 172, 174, 176, 178, 180, 182] (by decide +kernel) (by decide +kernel)
set_option maxRecDepth 20000 in
theorem lay_X4 : ∀ x ∈ u_ws RX4 TX4 8, x ∈ vx_tbl := vx_lays [295, 297, 299, 301, 303, 305, 307, 309] (by decide +kernel) (by decide +kernel)
set_option maxRecDepth 20000 in
theorem lay_X5 : ∀ x ∈ u_ws RX5 TX5 1, x ∈ vx_tbl := vx_lays [198] (by decide +kernel) (by decide +kernel)
set_option maxRecDepth 20000 in
theorem lay_X6 : ∀ x ∈ u_ws RX6 TX6 12, x ∈ vx_tbl := vx_lays [247, 249, 251, 253, 255, 257, 259, 261, 263, 265, 267, 269] (by decide +kernel) (by decide +kernel)
set_option maxRecDepth 20000 in
theorem lay_X7 : ∀ x ∈ u_ws RX7 TX7 4, x ∈ vx_tbl := vx_lays [80, 82, 84, 86] (by decide +kernel) (by decide +kernel)
set_option maxRecDepth 20000 in
theorem lay_X8 : ∀ x ∈ u_ws RX8 TX8 8, x ∈ vx_tbl := vx_lays [351, 353, 355, 357, 359, 361, 363, 365] (by decide +kernel) (by decide +kernel)
set_option maxRecDepth 20000 in
theorem lay_X9 : ∀ x ∈ u_ws RX9 TX9 56, x ∈ vx_tbl := vx_lays [792, 794, 796, 798, 800, 802, 804, 806, 808, 810, 812, 814, 816, 818, 820, 822, 824, 826, 828, 830, 832, 834, 836, 838, 840, 842, 844, 846, 848, 850, 852, 854, 856, 858, 860, 862, 864, 866, 868, 870, 872, 874, 876, 878, 880, 882, 884, 886, 888, 890, 892, 894, 896, 898, 900, 902] (by decide +kernel) (by decide +kernel)
def vx_lst : List vx_k := [(.inl (8, [some (some 1), some (some 3), some (some 6), some (some 18), some (some 28), some (some 39), some (some 47), some (some 53)])), (.inl (7, [some (some 2), none, none, none])), (.inr (0, 300, none)), (.inl (0, [some (some 4), some (some 5), none, none])), (.inr (0, 6, none)), (.inr (0, 6, none)), (.inl (3, [none, some (some 7), some (some 8), some (some 9), some (some 10), some (some 11), some (some 12), some (some 13), some (some 14), some (some 15), some (some 16), some (some 17)])), (.inr (0, 8, none)), (.inr (0, 8, none)), (.inr (0, 8, none)), (.inr (0, 8, none)), (.inr (0, 8, none)), (.inr (0, 8, none)), (.inr (0, 8, none)), (.inr (0, 8, none)), (.inr (0, 8, none)), (.inr (0, 8, none)), (.inr (0, 8, none)), (.inl (5, [some (some 19)])), (.inr (2, 8, some [20, 21, 22, 23, 24, 25, 26, 27])), (.inr (0, 8, none)), (.inr (0, 8, none)), (.inr (0, 8, none)), (.inr (0, 8, none)), (.inr (0, 8, none)), (.inr (0, 8, none)), (.inr (0, 8, none)), (.inr (0, 8, none)), (.inl (1, [some (some 29), some (some 38)])), (.inr (2, 8, some [30, 31, 32, 33, 34, 35, 36, 37])), (.inr (0, 8, none)), (.inr (0, 8, none)), (.inr (0, 8, none)), (.inr (0, 8, none)), (.inr (0, 8, none)), (.inr (0, 8, none)), (.inr (0, 8, none)), (.inr (0, 8, none)), (.inr (0, 8, none)), (.inl (6, [none, some (some 40), some (some 41), some (some 42), some (some 43), some (some 44), none, some (some 45), some (some 46), none, none, none])), (.inr (0, 8, none)), (.inr (0, 8, none)), (.inr (0, 8, none)), (.inr (1, 8, none)), (.inr (0, 7, none)), (.inr (0, 7, none)), (.inr (0, 7, none)), (.inl (4, [none, none, none, some (some 48), some (some 49), some (some 50), some (some 51), some (some 52)])), (.inr (0, 7, none)), (.inr (0, 7, none)), (.inr (0, 7, none)), (.inr (0, 7, none)), (.inr (0, 7, none)), (.inl (2, [none, none, none, none, none, none])), (.inl (9, [none, some (some 55), none, some (some 56), some (some 57), some (some 58), some (some 59), none, none, none, none, none, none, none, none, none, none, none, none, some (some 60), some (some 61), some (some 62), some (some 63), some (some 64), some (some 65), some (some 66), some (some 67), some (some 68), some (some 69), some (some 70), some (some 71), some (some 72), some (some 73), none, none, none, none, none, none, some (some 74), some (some 75), some (some 76), some (some 77), some (some 78), none, none, none, none, none, some (some 79), some (some 80), none, none, none, none, some (some 81)])), (.inr (0, 300, none)), (.inr (0, 12, none)), (.inr (0, 6, none)), (.inr (0, 6, none)), (.inr (0, 6, none)), (.inr (0, 8, none)), (.inr (0, 8, none)), (.inr (0, 8, none)), (.inr (0, 8, none)), (.inr (0, 8, none)), (.inr (0, 8, none)), (.inr (0, 8, none)), (.inr (0, 8, none)), (.inr (0, 8, none)), (.inr (0, 8, none)), (.inr (0, 8, none)), (.inr (0, 64, none)), (.inr (0, 64, none)), (.inr (0, 8, none)), (.inr (0, 7, none)), (.inr (0, 7, none)), (.inr (0, 7, none)), (.inr (0, 7, none)), (.inr (0, 7, none)), (.inr (0, 7, none)), (.inr (0, 8, none)), (.inr (0, 7, none))]
def vx_lay : vx_L := fun k => vx_lst.getD k (.inr (0, 0, none))
theorem ly_0 : vx_lay 0 = (.inl (8, [some (some 1), some (some 3), some (some 6), some (some 18), some (some 28), some (some 39), some (some 47), some (some 53)])) := rfl
theorem ly_1 : vx_lay 1 = (.inl (7, [some (some 2), none, none, none])) := rfl
theorem ly_2 : vx_lay 2 = (.inr (0, 300, none)) := rfl
theorem ly_3 : vx_lay 3 = (.inl (0, [some (some 4), some (some 5), none, none])) := rfl
theorem ly_4 : vx_lay 4 = (.inr (0, 6, none)) := rfl
theorem ly_5 : vx_lay 5 = (.inr (0, 6, none)) := rfl
theorem ly_6 : vx_lay 6 = (.inl (3, [none, some (some 7), some (some 8), some (some 9), some (some 10), some (some 11), some (some 12), some (some 13), some (some 14), some (some 15), some (some 16), some (some 17)])) := rfl
theorem ly_7 : vx_lay 7 = (.inr (0, 8, none)) := rfl
theorem ly_8 : vx_lay 8 = (.inr (0, 8, none)) := rfl
theorem ly_9 : vx_lay 9 = (.inr (0, 8, none)) := rfl
theorem ly_10 : vx_lay 10 = (.inr (0, 8, none)) := rfl
theorem ly_11 : vx_lay 11 = (.inr (0, 8, none)) := rfl
theorem ly_12 : vx_lay 12 = (.inr (0, 8, none)) := rfl
theorem ly_13 : vx_lay 13 = (.inr (0, 8, none)) := rfl
theorem ly_14 : vx_lay 14 = (.inr (0, 8, none)) := rfl
theorem ly_15 : vx_lay 15 = (.inr (0, 8, none)) := rfl
theorem ly_16 : vx_lay 16 = (.inr (0, 8, none)) := rfl
theorem ly_17 : vx_lay 17 = (.inr (0, 8, none)) := rfl
theorem ly_18 : vx_lay 18 = (.inl (5, [some (some 19)])) := rfl
theorem ly_19 : vx_lay 19 = (.inr (2, 8, some [20, 21, 22, 23, 24, 25, 26, 27])) := rfl
theorem ly_20 : vx_lay 20 = (.inr (0, 8, none)) := rfl
theorem ly_21 : vx_lay 21 = (.inr (0, 8, none)) := rfl
theorem ly_22 : vx_lay 22 = (.inr (0, 8, none)) := rfl
theorem ly_23 : vx_lay 23 = (.inr (0, 8, none)) := rfl
theorem ly_24 : vx_lay 24 = (.inr (0, 8, none)) := rfl
theorem ly_25 : vx_lay 25 = (.inr (0, 8, none)) := rfl
theorem ly_26 : vx_lay 26 = (.inr (0, 8, none)) := rfl
theorem ly_27 : vx_lay 27 = (.inr (0, 8, none)) := rfl
theorem ly_28 : vx_lay 28 = (.inl (1, [some (some 29), some (some 38)])) := rfl
theorem ly_29 : vx_lay 29 = (.inr (2, 8, some [30, 31, 32, 33, 34, 35, 36, 37])) := rfl
theorem ly_30 : vx_lay 30 = (.inr (0, 8, none)) := rfl
theorem ly_31 : vx_lay 31 = (.inr (0, 8, none)) := rfl
theorem ly_32 : vx_lay 32 = (.inr (0, 8, none)) := rfl
theorem ly_33 : vx_lay 33 = (.inr (0, 8, none)) := rfl
theorem ly_34 : vx_lay 34 = (.inr (0, 8, none)) := rfl
theorem ly_35 : vx_lay 35 = (.inr (0, 8, none)) := rfl
theorem ly_36 : vx_lay 36 = (.inr (0, 8, none)) := rfl
theorem ly_37 : vx_lay 37 = (.inr (0, 8, none)) := rfl
theorem ly_38 : vx_lay 38 = (.inr (0, 8, none)) := rfl
theorem ly_39 : vx_lay 39 = (.inl (6, [none, some (some 40), some (some 41), some (some 42), some (some 43), some (some 44), none, some (some 45), some (some 46), none, none, none])) := rfl
theorem ly_40 : vx_lay 40 = (.inr (0, 8, none)) := rfl
theorem ly_41 : vx_lay 41 = (.inr (0, 8, none)) := rfl
theorem ly_42 : vx_lay 42 = (.inr (0, 8, none)) := rfl
theorem ly_43 : vx_lay 43 = (.inr (1, 8, none)) := rfl
theorem ly_44 : vx_lay 44 = (.inr (0, 7, none)) := rfl
theorem ly_45 : vx_lay 45 = (.inr (0, 7, none)) := rfl
theorem ly_46 : vx_lay 46 = (.inr (0, 7, none)) := rfl
theorem ly_47 : vx_lay 47 = (.inl (4, [none, none, none, some (some 48), some (some 49), some (some 50), some (some 51), some (some 52)])) := rfl
theorem ly_48 : vx_lay 48 = (.inr (0, 7, none)) := rfl
theorem ly_49 : vx_lay 49 = (.inr (0, 7, none)) := rfl
theorem ly_50 : vx_lay 50 = (.inr (0, 7, none)) := rfl
theorem ly_51 : vx_lay 51 = (.inr (0, 7, none)) := rfl
theorem ly_52 : vx_lay 52 = (.inr (0, 7, none)) := rfl
theorem ly_53 : vx_lay 53 = (.inl (2, [none, none, none, none, none, none])) := rfl
theorem ly_54 : vx_lay 54 = (.inl (9, [none, some (some 55), none, some (some 56), some (some 57), some (some 58), some (some 59), none, none, none, none, none, none, none, none, none, none, none, none, some (some 60), some (some 61), some (some 62), some (some 63), some (some 64), some (some 65), some (some 66), some (some 67), some (some 68), some (some 69), some (some 70), some (some 71), some (some 72), some (some 73), none, none, none, none, none, none, some (some 74), some (some 75), some (some 76), some (some 77), some (some 78), none, none, none, none, none, some (some 79), some (some 80), none, none, none, none, some (some 81)])) := rfl
theorem ly_55 : vx_lay 55 = (.inr (0, 300, none)) := rfl
theorem ly_56 : vx_lay 56 = (.inr (0, 12, none)) := rfl
theorem ly_57 : vx_lay 57 = (.inr (0, 6, none)) := rfl
theorem ly_58 : vx_lay 58 = (.inr (0, 6, none)) := rfl
theorem ly_59 : vx_lay 59 = (.inr (0, 6, none)) := rfl
theorem ly_60 : vx_lay 60 = (.inr (0, 8, none)) := rfl
theorem ly_61 : vx_lay 61 = (.inr (0, 8, none)) := rfl
theorem ly_62 : vx_lay 62 = (.inr (0, 8, none)) := rfl
theorem ly_63 : vx_lay 63 = (.inr (0, 8, none)) := rfl
theorem ly_64 : vx_lay 64 = (.inr (0, 8, none)) := rfl
theorem ly_65 : vx_lay 65 = (.inr (0, 8, none)) := rfl
theorem ly_66 : vx_lay 66 = (.inr (0, 8, none)) := rfl
theorem ly_67 : vx_lay 67 = (.inr (0, 8, none)) := rfl
theorem ly_68 : vx_lay 68 = (.inr (0, 8, none)) := rfl
theorem ly_69 : vx_lay 69 = (.inr (0, 8, none)) := rfl
theorem ly_70 : vx_lay 70 = (.inr (0, 8, none)) := rfl
theorem ly_71 : vx_lay 71 = (.inr (0, 64, none)) := rfl
theorem ly_72 : vx_lay 72 = (.inr (0, 64, none)) := rfl
theorem ly_73 : vx_lay 73 = (.inr (0, 8, none)) := rfl
theorem ly_74 : vx_lay 74 = (.inr (0, 7, none)) := rfl
theorem ly_75 : vx_lay 75 = (.inr (0, 7, none)) := rfl
theorem ly_76 : vx_lay 76 = (.inr (0, 7, none)) := rfl
theorem ly_77 : vx_lay 77 = (.inr (0, 7, none)) := rfl
theorem ly_78 : vx_lay 78 = (.inr (0, 7, none)) := rfl
theorem ly_79 : vx_lay 79 = (.inr (0, 7, none)) := rfl
theorem ly_80 : vx_lay 80 = (.inr (0, 8, none)) := rfl
theorem ly_81 : vx_lay 81 = (.inr (0, 7, none)) := rfl
theorem nst_0 : Cond.methodLinkNest "ThreshRound$Customs" 52 ⟨"ThreshRound", "put", "([III)V"⟩ "ThreshRound" ∈ vx_nest := List.mem_of_getElem? (i := 0) rfl
theorem nst_1 : Cond.methodLinkNest "ThreshRound$Customs" 24 ⟨"ThreshRound", "at", "([II)I"⟩ "ThreshRound" ∈ vx_nest := List.mem_of_getElem? (i := 1) rfl
theorem nst_2 : Cond.methodLinkNest "ThreshRound$Roads" 16 ⟨"ThreshRound", "put", "([[IIII)V"⟩ "ThreshRound" ∈ vx_nest := List.mem_of_getElem? (i := 2) rfl
theorem nst_3 : Cond.methodLinkNest "ThreshRound$Tape" 25 ⟨"ThreshRound", "put", "([III)V"⟩ "ThreshRound" ∈ vx_nest := List.mem_of_getElem? (i := 3) rfl
theorem nst_4 : Cond.methodLinkNest "ThreshRound$Tape" 29 ⟨"ThreshRound", "at", "([II)I"⟩ "ThreshRound" ∈ vx_nest := List.mem_of_getElem? (i := 4) rfl
theorem nst_5 : Cond.methodLinkNest "ThreshRound$Tape" 37 ⟨"ThreshRound", "within", "(III)Z"⟩ "ThreshRound" ∈ vx_nest := List.mem_of_getElem? (i := 5) rfl
theorem nst_6 : Cond.methodLinkNest "ThreshRound$Customs" 84 ⟨"ThreshRound", "within", "(III)Z"⟩ "ThreshRound" ∈ vx_nest := List.mem_of_getElem? (i := 6) rfl
theorem nst_7 : Cond.methodLinkNest "ThreshRound$Farms" 49 ⟨"ThreshRound", "put", "([III)V"⟩ "ThreshRound" ∈ vx_nest := List.mem_of_getElem? (i := 7) rfl
theorem nst_8 : Cond.methodLinkNest "ThreshRound$Farms" 57 ⟨"ThreshRound", "at", "([II)I"⟩ "ThreshRound" ∈ vx_nest := List.mem_of_getElem? (i := 8) rfl
theorem nst_9 : Cond.methodLinkNest "ThreshRound$Debts" 20 ⟨"ThreshRound", "put", "([III)V"⟩ "ThreshRound" ∈ vx_nest := List.mem_of_getElem? (i := 9) rfl
theorem nst_10 : Cond.methodLinkNest "ThreshRound$Debts" 29 ⟨"ThreshRound", "at", "([II)I"⟩ "ThreshRound" ∈ vx_nest := List.mem_of_getElem? (i := 10) rfl
theorem nst_11 : Cond.methodLinkNest "ThreshRound$Debts" 49 ⟨"ThreshRound", "at", "([[III)I"⟩ "ThreshRound" ∈ vx_nest := List.mem_of_getElem? (i := 11) rfl
theorem nst_12 : Cond.methodLinkNest "ThreshRound$Search" 61 ⟨"ThreshRound", "put", "([III)V"⟩ "ThreshRound" ∈ vx_nest := List.mem_of_getElem? (i := 12) rfl
theorem nst_13 : Cond.methodLinkNest "ThreshRound$Search" 65 ⟨"ThreshRound", "at", "([II)I"⟩ "ThreshRound" ∈ vx_nest := List.mem_of_getElem? (i := 13) rfl
theorem nst_14 : Cond.methodLinkNest "ThreshRound$Roads" 20 ⟨"ThreshRound", "at", "([[III)I"⟩ "ThreshRound" ∈ vx_nest := List.mem_of_getElem? (i := 14) rfl
theorem nst_15 : Cond.methodLinkNest "ThreshRound$Plan" 52 ⟨"ThreshRound", "at", "([II)I"⟩ "ThreshRound" ∈ vx_nest := List.mem_of_getElem? (i := 15) rfl
theorem nst_16 : Cond.methodLinkNest "ThreshRound$Plan" 61 ⟨"ThreshRound", "put", "([III)V"⟩ "ThreshRound" ∈ vx_nest := List.mem_of_getElem? (i := 16) rfl
theorem nst_17 : Cond.methodLinkNest "ThreshRound$Debts" 52 ⟨"ThreshRound", "put", "([[IIII)V"⟩ "ThreshRound" ∈ vx_nest := List.mem_of_getElem? (i := 17) rfl
theorem hy_X0_init : yX0_init.cls ≠ "java/lang/invoke/MethodHandle" ∧ yX0_init.cls ≠ "java/lang/invoke/VarHandle" ∧ (parseMethodDescriptor yX0_init.desc).map (fun d => d.parameters.length) = some 0 := by decide +kernel
theorem pn_X0_init : plainName yX0_init.cls = true := by decide +kernel
theorem hy_X0_tells : yX0_tells.cls ≠ "java/lang/invoke/MethodHandle" ∧ yX0_tells.cls ≠ "java/lang/invoke/VarHandle" ∧ (parseMethodDescriptor yX0_tells.desc).map (fun d => d.parameters.length) = some 1 := by decide +kernel
theorem pn_X0_tells : plainName yX0_tells.cls = true := by decide +kernel
theorem hy_X0_read : yX0_read.cls ≠ "java/lang/invoke/MethodHandle" ∧ yX0_read.cls ≠ "java/lang/invoke/VarHandle" ∧ (parseMethodDescriptor yX0_read.desc).map (fun d => d.parameters.length) = some 2 := by decide +kernel
theorem pn_X0_read : plainName yX0_read.cls = true := by decide +kernel
theorem hy_X0_forgetTold : yX0_forgetTold.cls ≠ "java/lang/invoke/MethodHandle" ∧ yX0_forgetTold.cls ≠ "java/lang/invoke/VarHandle" ∧ (parseMethodDescriptor yX0_forgetTold.desc).map (fun d => d.parameters.length) = some 0 := by decide +kernel
theorem pn_X0_forgetTold : plainName yX0_forgetTold.cls = true := by decide +kernel
theorem hy_X0_putInForce : yX0_putInForce.cls ≠ "java/lang/invoke/MethodHandle" ∧ yX0_putInForce.cls ≠ "java/lang/invoke/VarHandle" ∧ (parseMethodDescriptor yX0_putInForce.desc).map (fun d => d.parameters.length) = some 0 := by decide +kernel
theorem pn_X0_putInForce : plainName yX0_putInForce.cls = true := by decide +kernel
theorem hy_X0_readLine : yX0_readLine.cls ≠ "java/lang/invoke/MethodHandle" ∧ yX0_readLine.cls ≠ "java/lang/invoke/VarHandle" ∧ (parseMethodDescriptor yX0_readLine.desc).map (fun d => d.parameters.length) = some 1 := by decide +kernel
theorem pn_X0_readLine : plainName yX0_readLine.cls = true := by decide +kernel
theorem hy_X0_fails : yX0_fails.cls ≠ "java/lang/invoke/MethodHandle" ∧ yX0_fails.cls ≠ "java/lang/invoke/VarHandle" ∧ (parseMethodDescriptor yX0_fails.desc).map (fun d => d.parameters.length) = some 2 := by decide +kernel
theorem pn_X0_fails : plainName yX0_fails.cls = true := by decide +kernel
theorem hy_X0_kindOfWord : yX0_kindOfWord.cls ≠ "java/lang/invoke/MethodHandle" ∧ yX0_kindOfWord.cls ≠ "java/lang/invoke/VarHandle" ∧ (parseMethodDescriptor yX0_kindOfWord.desc).map (fun d => d.parameters.length) = some 2 := by decide +kernel
theorem pn_X0_kindOfWord : plainName yX0_kindOfWord.cls = true := by decide +kernel
theorem hy_X0_word : yX0_word.cls ≠ "java/lang/invoke/MethodHandle" ∧ yX0_word.cls ≠ "java/lang/invoke/VarHandle" ∧ (parseMethodDescriptor yX0_word.desc).map (fun d => d.parameters.length) = some 1 := by decide +kernel
theorem pn_X0_word : plainName yX0_word.cls = true := by decide +kernel
theorem hy_X1_init : yX1_init.cls ≠ "java/lang/invoke/MethodHandle" ∧ yX1_init.cls ≠ "java/lang/invoke/VarHandle" ∧ (parseMethodDescriptor yX1_init.desc).map (fun d => d.parameters.length) = some 0 := by decide +kernel
theorem pn_X1_init : plainName yX1_init.cls = true := by decide +kernel
theorem hy_X1_muster : yX1_muster.cls ≠ "java/lang/invoke/MethodHandle" ∧ yX1_muster.cls ≠ "java/lang/invoke/VarHandle" ∧ (parseMethodDescriptor yX1_muster.desc).map (fun d => d.parameters.length) = some 3 := by decide +kernel
theorem pn_X1_muster : plainName yX1_muster.cls = true := by decide +kernel
theorem hy_X1_nextLender : yX1_nextLender.cls ≠ "java/lang/invoke/MethodHandle" ∧ yX1_nextLender.cls ≠ "java/lang/invoke/VarHandle" ∧ (parseMethodDescriptor yX1_nextLender.desc).map (fun d => d.parameters.length) = some 2 := by decide +kernel
theorem pn_X1_nextLender : plainName yX1_nextLender.cls = true := by decide +kernel
theorem hy_X1_oweTheGivers : yX1_oweTheGivers.cls ≠ "java/lang/invoke/MethodHandle" ∧ yX1_oweTheGivers.cls ≠ "java/lang/invoke/VarHandle" ∧ (parseMethodDescriptor yX1_oweTheGivers.desc).map (fun d => d.parameters.length) = some 2 := by decide +kernel
theorem pn_X1_oweTheGivers : plainName yX1_oweTheGivers.cls = true := by decide +kernel
theorem hy_X2_init : yX2_init.cls ≠ "java/lang/invoke/MethodHandle" ∧ yX2_init.cls ≠ "java/lang/invoke/VarHandle" ∧ (parseMethodDescriptor yX2_init.desc).map (fun d => d.parameters.length) = some 0 := by decide +kernel
theorem pn_X2_init : plainName yX2_init.cls = true := by decide +kernel
theorem hy_X3_init : yX3_init.cls ≠ "java/lang/invoke/MethodHandle" ∧ yX3_init.cls ≠ "java/lang/invoke/VarHandle" ∧ (parseMethodDescriptor yX3_init.desc).map (fun d => d.parameters.length) = some 0 := by decide +kernel
theorem pn_X3_init : plainName yX3_init.cls = true := by decide +kernel
theorem hy_X3_add : yX3_add.cls ≠ "java/lang/invoke/MethodHandle" ∧ yX3_add.cls ≠ "java/lang/invoke/VarHandle" ∧ (parseMethodDescriptor yX3_add.desc).map (fun d => d.parameters.length) = some 0 := by decide +kernel
theorem pn_X3_add : plainName yX3_add.cls = true := by decide +kernel
theorem hy_X3_has : yX3_has.cls ≠ "java/lang/invoke/MethodHandle" ∧ yX3_has.cls ≠ "java/lang/invoke/VarHandle" ∧ (parseMethodDescriptor yX3_has.desc).map (fun d => d.parameters.length) = some 1 := by decide +kernel
theorem pn_X3_has : plainName yX3_has.cls = true := by decide +kernel
theorem hy_X3_isOpen : yX3_isOpen.cls ≠ "java/lang/invoke/MethodHandle" ∧ yX3_isOpen.cls ≠ "java/lang/invoke/VarHandle" ∧ (parseMethodDescriptor yX3_isOpen.desc).map (fun d => d.parameters.length) = some 1 := by decide +kernel
theorem pn_X3_isOpen : plainName yX3_isOpen.cls = true := by decide +kernel
theorem hy_X3_openOnes : yX3_openOnes.cls ≠ "java/lang/invoke/MethodHandle" ∧ yX3_openOnes.cls ≠ "java/lang/invoke/VarHandle" ∧ (parseMethodDescriptor yX3_openOnes.desc).map (fun d => d.parameters.length) = some 0 := by decide +kernel
theorem pn_X3_openOnes : plainName yX3_openOnes.cls = true := by decide +kernel
theorem hy_X4_init : yX4_init.cls ≠ "java/lang/invoke/MethodHandle" ∧ yX4_init.cls ≠ "java/lang/invoke/VarHandle" ∧ (parseMethodDescriptor yX4_init.desc).map (fun d => d.parameters.length) = some 0 := by decide +kernel
theorem pn_X4_init : plainName yX4_init.cls = true := by decide +kernel
theorem hy_X4_make : yX4_make.cls ≠ "java/lang/invoke/MethodHandle" ∧ yX4_make.cls ≠ "java/lang/invoke/VarHandle" ∧ (parseMethodDescriptor yX4_make.desc).map (fun d => d.parameters.length) = some 4 := by decide +kernel
theorem pn_X4_make : plainName yX4_make.cls = true := by decide +kernel
theorem hy_X5_init : yX5_init.cls ≠ "java/lang/invoke/MethodHandle" ∧ yX5_init.cls ≠ "java/lang/invoke/VarHandle" ∧ (parseMethodDescriptor yX5_init.desc).map (fun d => d.parameters.length) = some 0 := by decide +kernel
theorem pn_X5_init : plainName yX5_init.cls = true := by decide +kernel
theorem hy_X5_between : yX5_between.cls ≠ "java/lang/invoke/MethodHandle" ∧ yX5_between.cls ≠ "java/lang/invoke/VarHandle" ∧ (parseMethodDescriptor yX5_between.desc).map (fun d => d.parameters.length) = some 2 := by decide +kernel
theorem pn_X5_between : plainName yX5_between.cls = true := by decide +kernel
theorem hy_X6_init : yX6_init.cls ≠ "java/lang/invoke/MethodHandle" ∧ yX6_init.cls ≠ "java/lang/invoke/VarHandle" ∧ (parseMethodDescriptor yX6_init.desc).map (fun d => d.parameters.length) = some 0 := by decide +kernel
theorem pn_X6_init : plainName yX6_init.cls = true := by decide +kernel
theorem hy_X6_startAnew : yX6_startAnew.cls ≠ "java/lang/invoke/MethodHandle" ∧ yX6_startAnew.cls ≠ "java/lang/invoke/VarHandle" ∧ (parseMethodDescriptor yX6_startAnew.desc).map (fun d => d.parameters.length) = some 1 := by decide +kernel
theorem pn_X6_startAnew : plainName yX6_startAnew.cls = true := by decide +kernel
theorem hy_X6_add : yX6_add.cls ≠ "java/lang/invoke/MethodHandle" ∧ yX6_add.cls ≠ "java/lang/invoke/VarHandle" ∧ (parseMethodDescriptor yX6_add.desc).map (fun d => d.parameters.length) = some 4 := by decide +kernel
theorem pn_X6_add : plainName yX6_add.cls = true := by decide +kernel
theorem hy_X6_force : yX6_force.cls ≠ "java/lang/invoke/MethodHandle" ∧ yX6_force.cls ≠ "java/lang/invoke/VarHandle" ∧ (parseMethodDescriptor yX6_force.desc).map (fun d => d.parameters.length) = some 1 := by decide +kernel
theorem pn_X6_force : plainName yX6_force.cls = true := by decide +kernel
theorem hy_X6_find : yX6_find.cls ≠ "java/lang/invoke/MethodHandle" ∧ yX6_find.cls ≠ "java/lang/invoke/VarHandle" ∧ (parseMethodDescriptor yX6_find.desc).map (fun d => d.parameters.length) = some 3 := by decide +kernel
theorem pn_X6_find : plainName yX6_find.cls = true := by decide +kernel
theorem hy_X6_extend : yX6_extend.cls ≠ "java/lang/invoke/MethodHandle" ∧ yX6_extend.cls ≠ "java/lang/invoke/VarHandle" ∧ (parseMethodDescriptor yX6_extend.desc).map (fun d => d.parameters.length) = some 6 := by decide +kernel
theorem pn_X6_extend : plainName yX6_extend.cls = true := by decide +kernel
theorem hy_X6_mayCome : yX6_mayCome.cls ≠ "java/lang/invoke/MethodHandle" ∧ yX6_mayCome.cls ≠ "java/lang/invoke/VarHandle" ∧ (parseMethodDescriptor yX6_mayCome.desc).map (fun d => d.parameters.length) = some 2 := by decide +kernel
theorem pn_X6_mayCome : plainName yX6_mayCome.cls = true := by decide +kernel
theorem hy_X6_begins : yX6_begins.cls ≠ "java/lang/invoke/MethodHandle" ∧ yX6_begins.cls ≠ "java/lang/invoke/VarHandle" ∧ (parseMethodDescriptor yX6_begins.desc).map (fun d => d.parameters.length) = some 2 := by decide +kernel
theorem pn_X6_begins : plainName yX6_begins.cls = true := by decide +kernel
theorem hy_X6_leaves : yX6_leaves.cls ≠ "java/lang/invoke/MethodHandle" ∧ yX6_leaves.cls ≠ "java/lang/invoke/VarHandle" ∧ (parseMethodDescriptor yX6_leaves.desc).map (fun d => d.parameters.length) = some 2 := by decide +kernel
theorem pn_X6_leaves : plainName yX6_leaves.cls = true := by decide +kernel
theorem hy_X6_lossOf : yX6_lossOf.cls ≠ "java/lang/invoke/MethodHandle" ∧ yX6_lossOf.cls ≠ "java/lang/invoke/VarHandle" ∧ (parseMethodDescriptor yX6_lossOf.desc).map (fun d => d.parameters.length) = some 2 := by decide +kernel
theorem pn_X6_lossOf : plainName yX6_lossOf.cls = true := by decide +kernel
theorem hy_X6_beatsBest : yX6_beatsBest.cls ≠ "java/lang/invoke/MethodHandle" ∧ yX6_beatsBest.cls ≠ "java/lang/invoke/VarHandle" ∧ (parseMethodDescriptor yX6_beatsBest.desc).map (fun d => d.parameters.length) = some 2 := by decide +kernel
theorem pn_X6_beatsBest : plainName yX6_beatsBest.cls = true := by decide +kernel
theorem hy_X6_keepAsBest : yX6_keepAsBest.cls ≠ "java/lang/invoke/MethodHandle" ∧ yX6_keepAsBest.cls ≠ "java/lang/invoke/VarHandle" ∧ (parseMethodDescriptor yX6_keepAsBest.desc).map (fun d => d.parameters.length) = some 2 := by decide +kernel
theorem pn_X6_keepAsBest : plainName yX6_keepAsBest.cls = true := by decide +kernel
theorem hy_X6_isWaiting : yX6_isWaiting.cls ≠ "java/lang/invoke/MethodHandle" ∧ yX6_isWaiting.cls ≠ "java/lang/invoke/VarHandle" ∧ (parseMethodDescriptor yX6_isWaiting.desc).map (fun d => d.parameters.length) = some 1 := by decide +kernel
theorem pn_X6_isWaiting : plainName yX6_isWaiting.cls = true := by decide +kernel
theorem hy_X6_setWaits : yX6_setWaits.cls ≠ "java/lang/invoke/MethodHandle" ∧ yX6_setWaits.cls ≠ "java/lang/invoke/VarHandle" ∧ (parseMethodDescriptor yX6_setWaits.desc).map (fun d => d.parameters.length) = some 2 := by decide +kernel
theorem pn_X6_setWaits : plainName yX6_setWaits.cls = true := by decide +kernel
theorem hy_X7_init : yX7_init.cls ≠ "java/lang/invoke/MethodHandle" ∧ yX7_init.cls ≠ "java/lang/invoke/VarHandle" ∧ (parseMethodDescriptor yX7_init.desc).map (fun d => d.parameters.length) = some 0 := by decide +kernel
theorem pn_X7_init : plainName yX7_init.cls = true := by decide +kernel
theorem hy_X7_hasRoomFor : yX7_hasRoomFor.cls ≠ "java/lang/invoke/MethodHandle" ∧ yX7_hasRoomFor.cls ≠ "java/lang/invoke/VarHandle" ∧ (parseMethodDescriptor yX7_hasRoomFor.desc).map (fun d => d.parameters.length) = some 1 := by decide +kernel
theorem pn_X7_hasRoomFor : plainName yX7_hasRoomFor.cls = true := by decide +kernel
theorem hy_X7_append : yX7_append.cls ≠ "java/lang/invoke/MethodHandle" ∧ yX7_append.cls ≠ "java/lang/invoke/VarHandle" ∧ (parseMethodDescriptor yX7_append.desc).map (fun d => d.parameters.length) = some 1 := by decide +kernel
theorem pn_X7_append : plainName yX7_append.cls = true := by decide +kernel
theorem hy_X7_readFirst : yX7_readFirst.cls ≠ "java/lang/invoke/MethodHandle" ∧ yX7_readFirst.cls ≠ "java/lang/invoke/VarHandle" ∧ (parseMethodDescriptor yX7_readFirst.desc).map (fun d => d.parameters.length) = some 1 := by decide +kernel
theorem pn_X7_readFirst : plainName yX7_readFirst.cls = true := by decide +kernel
theorem hy_X7_isAtEnd : yX7_isAtEnd.cls ≠ "java/lang/invoke/MethodHandle" ∧ yX7_isAtEnd.cls ≠ "java/lang/invoke/VarHandle" ∧ (parseMethodDescriptor yX7_isAtEnd.desc).map (fun d => d.parameters.length) = some 0 := by decide +kernel
theorem pn_X7_isAtEnd : plainName yX7_isAtEnd.cls = true := by decide +kernel
theorem hy_X7_byteAt : yX7_byteAt.cls ≠ "java/lang/invoke/MethodHandle" ∧ yX7_byteAt.cls ≠ "java/lang/invoke/VarHandle" ∧ (parseMethodDescriptor yX7_byteAt.desc).map (fun d => d.parameters.length) = some 1 := by decide +kernel
theorem pn_X7_byteAt : plainName yX7_byteAt.cls = true := by decide +kernel
theorem hy_X7_skipBlanks : yX7_skipBlanks.cls ≠ "java/lang/invoke/MethodHandle" ∧ yX7_skipBlanks.cls ≠ "java/lang/invoke/VarHandle" ∧ (parseMethodDescriptor yX7_skipBlanks.desc).map (fun d => d.parameters.length) = some 0 := by decide +kernel
theorem pn_X7_skipBlanks : plainName yX7_skipBlanks.cls = true := by decide +kernel
theorem hy_X7_endOfRow : yX7_endOfRow.cls ≠ "java/lang/invoke/MethodHandle" ∧ yX7_endOfRow.cls ≠ "java/lang/invoke/VarHandle" ∧ (parseMethodDescriptor yX7_endOfRow.desc).map (fun d => d.parameters.length) = some 2 := by decide +kernel
theorem pn_X7_endOfRow : plainName yX7_endOfRow.cls = true := by decide +kernel
theorem hy_X7_numberUpTo : yX7_numberUpTo.cls ≠ "java/lang/invoke/MethodHandle" ∧ yX7_numberUpTo.cls ≠ "java/lang/invoke/VarHandle" ∧ (parseMethodDescriptor yX7_numberUpTo.desc).map (fun d => d.parameters.length) = some 1 := by decide +kernel
theorem pn_X7_numberUpTo : plainName yX7_numberUpTo.cls = true := by decide +kernel
theorem hy_X7_isWordUpTo : yX7_isWordUpTo.cls ≠ "java/lang/invoke/MethodHandle" ∧ yX7_isWordUpTo.cls ≠ "java/lang/invoke/VarHandle" ∧ (parseMethodDescriptor yX7_isWordUpTo.desc).map (fun d => d.parameters.length) = some 2 := by decide +kernel
theorem pn_X7_isWordUpTo : plainName yX7_isWordUpTo.cls = true := by decide +kernel
theorem hy_X8_init : yX8_init.cls ≠ "java/lang/invoke/MethodHandle" ∧ yX8_init.cls ≠ "java/lang/invoke/VarHandle" ∧ (parseMethodDescriptor yX8_init.desc).map (fun d => d.parameters.length) = some 0 := by decide +kernel
theorem pn_X8_init : plainName yX8_init.cls = true := by decide +kernel
theorem hy_X8_feed : yX8_feed.cls ≠ "java/lang/invoke/MethodHandle" ∧ yX8_feed.cls ≠ "java/lang/invoke/VarHandle" ∧ (parseMethodDescriptor yX8_feed.desc).map (fun d => d.parameters.length) = some 5 := by decide +kernel
theorem pn_X8_feed : plainName yX8_feed.cls = true := by decide +kernel
theorem hy_X8_customs : yX8_customs.cls ≠ "java/lang/invoke/MethodHandle" ∧ yX8_customs.cls ≠ "java/lang/invoke/VarHandle" ∧ (parseMethodDescriptor yX8_customs.desc).map (fun d => d.parameters.length) = some 1 := by decide +kernel
theorem pn_X8_customs : plainName yX8_customs.cls = true := by decide +kernel
theorem hy_X8_fault : yX8_fault.cls ≠ "java/lang/invoke/MethodHandle" ∧ yX8_fault.cls ≠ "java/lang/invoke/VarHandle" ∧ (parseMethodDescriptor yX8_fault.desc).map (fun d => d.parameters.length) = some 1 := by decide +kernel
theorem pn_X8_fault : plainName yX8_fault.cls = true := by decide +kernel
theorem hy_X8_farm : yX8_farm.cls ≠ "java/lang/invoke/MethodHandle" ∧ yX8_farm.cls ≠ "java/lang/invoke/VarHandle" ∧ (parseMethodDescriptor yX8_farm.desc).map (fun d => d.parameters.length) = some 6 := by decide +kernel
theorem pn_X8_farm : plainName yX8_farm.cls = true := by decide +kernel
theorem hy_X8_way : yX8_way.cls ≠ "java/lang/invoke/MethodHandle" ∧ yX8_way.cls ≠ "java/lang/invoke/VarHandle" ∧ (parseMethodDescriptor yX8_way.desc).map (fun d => d.parameters.length) = some 3 := by decide +kernel
theorem pn_X8_way : plainName yX8_way.cls = true := by decide +kernel
theorem hy_X8_bargain : yX8_bargain.cls ≠ "java/lang/invoke/MethodHandle" ∧ yX8_bargain.cls ≠ "java/lang/invoke/VarHandle" ∧ (parseMethodDescriptor yX8_bargain.desc).map (fun d => d.parameters.length) = some 3 := by decide +kernel
theorem pn_X8_bargain : plainName yX8_bargain.cls = true := by decide +kernel
theorem hy_X8_plan : yX8_plan.cls ≠ "java/lang/invoke/MethodHandle" ∧ yX8_plan.cls ≠ "java/lang/invoke/VarHandle" ∧ (parseMethodDescriptor yX8_plan.desc).map (fun d => d.parameters.length) = some 0 := by decide +kernel
theorem pn_X8_plan : plainName yX8_plan.cls = true := by decide +kernel
theorem hy_X8_planned : yX8_planned.cls ≠ "java/lang/invoke/MethodHandle" ∧ yX8_planned.cls ≠ "java/lang/invoke/VarHandle" ∧ (parseMethodDescriptor yX8_planned.desc).map (fun d => d.parameters.length) = some 2 := by decide +kernel
theorem pn_X8_planned : plainName yX8_planned.cls = true := by decide +kernel
theorem hy_X8_out : yX8_out.cls ≠ "java/lang/invoke/MethodHandle" ∧ yX8_out.cls ≠ "java/lang/invoke/VarHandle" ∧ (parseMethodDescriptor yX8_out.desc).map (fun d => d.parameters.length) = some 0 := by decide +kernel
theorem pn_X8_out : plainName yX8_out.cls = true := by decide +kernel
theorem hy_X8_breaks : yX8_breaks.cls ≠ "java/lang/invoke/MethodHandle" ∧ yX8_breaks.cls ≠ "java/lang/invoke/VarHandle" ∧ (parseMethodDescriptor yX8_breaks.desc).map (fun d => d.parameters.length) = some 1 := by decide +kernel
theorem pn_X8_breaks : plainName yX8_breaks.cls = true := by decide +kernel
theorem hy_X8_day : yX8_day.cls ≠ "java/lang/invoke/MethodHandle" ∧ yX8_day.cls ≠ "java/lang/invoke/VarHandle" ∧ (parseMethodDescriptor yX8_day.desc).map (fun d => d.parameters.length) = some 1 := by decide +kernel
theorem pn_X8_day : plainName yX8_day.cls = true := by decide +kernel
theorem hy_X8_look : yX8_look.cls ≠ "java/lang/invoke/MethodHandle" ∧ yX8_look.cls ≠ "java/lang/invoke/VarHandle" ∧ (parseMethodDescriptor yX8_look.desc).map (fun d => d.parameters.length) = some 2 := by decide +kernel
theorem pn_X8_look : plainName yX8_look.cls = true := by decide +kernel
theorem hy_X8_owed : yX8_owed.cls ≠ "java/lang/invoke/MethodHandle" ∧ yX8_owed.cls ≠ "java/lang/invoke/VarHandle" ∧ (parseMethodDescriptor yX8_owed.desc).map (fun d => d.parameters.length) = some 2 := by decide +kernel
theorem pn_X8_owed : plainName yX8_owed.cls = true := by decide +kernel
theorem hy_X8_lent : yX8_lent.cls ≠ "java/lang/invoke/MethodHandle" ∧ yX8_lent.cls ≠ "java/lang/invoke/VarHandle" ∧ (parseMethodDescriptor yX8_lent.desc).map (fun d => d.parameters.length) = some 2 := by decide +kernel
theorem pn_X8_lent : plainName yX8_lent.cls = true := by decide +kernel
theorem hy_X8_count : yX8_count.cls ≠ "java/lang/invoke/MethodHandle" ∧ yX8_count.cls ≠ "java/lang/invoke/VarHandle" ∧ (parseMethodDescriptor yX8_count.desc).map (fun d => d.parameters.length) = some 1 := by decide +kernel
theorem pn_X8_count : plainName yX8_count.cls = true := by decide +kernel
theorem hy_X8_isPlace : yX8_isPlace.cls ≠ "java/lang/invoke/MethodHandle" ∧ yX8_isPlace.cls ≠ "java/lang/invoke/VarHandle" ∧ (parseMethodDescriptor yX8_isPlace.desc).map (fun d => d.parameters.length) = some 1 := by decide +kernel
theorem pn_X8_isPlace : plainName yX8_isPlace.cls = true := by decide +kernel
theorem hy_X8_areTwoFarms : yX8_areTwoFarms.cls ≠ "java/lang/invoke/MethodHandle" ∧ yX8_areTwoFarms.cls ≠ "java/lang/invoke/VarHandle" ∧ (parseMethodDescriptor yX8_areTwoFarms.desc).map (fun d => d.parameters.length) = some 2 := by decide +kernel
theorem pn_X8_areTwoFarms : plainName yX8_areTwoFarms.cls = true := by decide +kernel
theorem hy_X8_prepareSearch : yX8_prepareSearch.cls ≠ "java/lang/invoke/MethodHandle" ∧ yX8_prepareSearch.cls ≠ "java/lang/invoke/VarHandle" ∧ (parseMethodDescriptor yX8_prepareSearch.desc).map (fun d => d.parameters.length) = some 0 := by decide +kernel
theorem pn_X8_prepareSearch : plainName yX8_prepareSearch.cls = true := by decide +kernel
theorem hy_X8_gangOf : yX8_gangOf.cls ≠ "java/lang/invoke/MethodHandle" ∧ yX8_gangOf.cls ≠ "java/lang/invoke/VarHandle" ∧ (parseMethodDescriptor yX8_gangOf.desc).map (fun d => d.parameters.length) = some 1 := by decide +kernel
theorem pn_X8_gangOf : plainName yX8_gangOf.cls = true := by decide +kernel
theorem hy_X8_speedOf : yX8_speedOf.cls ≠ "java/lang/invoke/MethodHandle" ∧ yX8_speedOf.cls ≠ "java/lang/invoke/VarHandle" ∧ (parseMethodDescriptor yX8_speedOf.desc).map (fun d => d.parameters.length) = some 1 := by decide +kernel
theorem pn_X8_speedOf : plainName yX8_speedOf.cls = true := by decide +kernel
theorem hy_X8_sacksOf : yX8_sacksOf.cls ≠ "java/lang/invoke/MethodHandle" ∧ yX8_sacksOf.cls ≠ "java/lang/invoke/VarHandle" ∧ (parseMethodDescriptor yX8_sacksOf.desc).map (fun d => d.parameters.length) = some 1 := by decide +kernel
theorem pn_X8_sacksOf : plainName yX8_sacksOf.cls = true := by decide +kernel
theorem hy_X8_priceOf : yX8_priceOf.cls ≠ "java/lang/invoke/MethodHandle" ∧ yX8_priceOf.cls ≠ "java/lang/invoke/VarHandle" ∧ (parseMethodDescriptor yX8_priceOf.desc).map (fun d => d.parameters.length) = some 1 := by decide +kernel
theorem pn_X8_priceOf : plainName yX8_priceOf.cls = true := by decide +kernel
theorem hy_X8_lossOf : yX8_lossOf.cls ≠ "java/lang/invoke/MethodHandle" ∧ yX8_lossOf.cls ≠ "java/lang/invoke/VarHandle" ∧ (parseMethodDescriptor yX8_lossOf.desc).map (fun d => d.parameters.length) = some 1 := by decide +kernel
theorem pn_X8_lossOf : plainName yX8_lossOf.cls = true := by decide +kernel
theorem hy_X8_howItIs : yX8_howItIs.cls ≠ "java/lang/invoke/MethodHandle" ∧ yX8_howItIs.cls ≠ "java/lang/invoke/VarHandle" ∧ (parseMethodDescriptor yX8_howItIs.desc).map (fun d => d.parameters.length) = some 0 := by decide +kernel
theorem pn_X8_howItIs : plainName yX8_howItIs.cls = true := by decide +kernel
theorem hy_X8_isAheadOfFrom : yX8_isAheadOfFrom.cls ≠ "java/lang/invoke/MethodHandle" ∧ yX8_isAheadOfFrom.cls ≠ "java/lang/invoke/VarHandle" ∧ (parseMethodDescriptor yX8_isAheadOfFrom.desc).map (fun d => d.parameters.length) = some 0 := by decide +kernel
theorem pn_X8_isAheadOfFrom : plainName yX8_isAheadOfFrom.cls = true := by decide +kernel
theorem hy_X8_passDay : yX8_passDay.cls ≠ "java/lang/invoke/MethodHandle" ∧ yX8_passDay.cls ≠ "java/lang/invoke/VarHandle" ∧ (parseMethodDescriptor yX8_passDay.desc).map (fun d => d.parameters.length) = some 0 := by decide +kernel
theorem pn_X8_passDay : plainName yX8_passDay.cls = true := by decide +kernel
theorem hy_X8_thresh : yX8_thresh.cls ≠ "java/lang/invoke/MethodHandle" ∧ yX8_thresh.cls ≠ "java/lang/invoke/VarHandle" ∧ (parseMethodDescriptor yX8_thresh.desc).map (fun d => d.parameters.length) = some 1 := by decide +kernel
theorem pn_X8_thresh : plainName yX8_thresh.cls = true := by decide +kernel
theorem hy_X8_goOn : yX8_goOn.cls ≠ "java/lang/invoke/MethodHandle" ∧ yX8_goOn.cls ≠ "java/lang/invoke/VarHandle" ∧ (parseMethodDescriptor yX8_goOn.desc).map (fun d => d.parameters.length) = some 0 := by decide +kernel
theorem pn_X8_goOn : plainName yX8_goOn.cls = true := by decide +kernel
theorem hy_X8_setOutFor : yX8_setOutFor.cls ≠ "java/lang/invoke/MethodHandle" ∧ yX8_setOutFor.cls ≠ "java/lang/invoke/VarHandle" ∧ (parseMethodDescriptor yX8_setOutFor.desc).map (fun d => d.parameters.length) = some 1 := by decide +kernel
theorem pn_X8_setOutFor : plainName yX8_setOutFor.cls = true := by decide +kernel
theorem hy_X8_within : yX8_within.cls ≠ "java/lang/invoke/MethodHandle" ∧ yX8_within.cls ≠ "java/lang/invoke/VarHandle" ∧ (parseMethodDescriptor yX8_within.desc).map (fun d => d.parameters.length) = some 3 := by decide +kernel
theorem pn_X8_within : plainName yX8_within.cls = true := by decide +kernel
theorem hy_X8_at : yX8_at.cls ≠ "java/lang/invoke/MethodHandle" ∧ yX8_at.cls ≠ "java/lang/invoke/VarHandle" ∧ (parseMethodDescriptor yX8_at.desc).map (fun d => d.parameters.length) = some 2 := by decide +kernel
theorem pn_X8_at : plainName yX8_at.cls = true := by decide +kernel
theorem hy_X8_put : yX8_put.cls ≠ "java/lang/invoke/MethodHandle" ∧ yX8_put.cls ≠ "java/lang/invoke/VarHandle" ∧ (parseMethodDescriptor yX8_put.desc).map (fun d => d.parameters.length) = some 3 := by decide +kernel
theorem pn_X8_put : plainName yX8_put.cls = true := by decide +kernel
theorem hy_X8_at_ : yX8_at_.cls ≠ "java/lang/invoke/MethodHandle" ∧ yX8_at_.cls ≠ "java/lang/invoke/VarHandle" ∧ (parseMethodDescriptor yX8_at_.desc).map (fun d => d.parameters.length) = some 3 := by decide +kernel
theorem pn_X8_at_ : plainName yX8_at_.cls = true := by decide +kernel
theorem hy_X8_put_ : yX8_put_.cls ≠ "java/lang/invoke/MethodHandle" ∧ yX8_put_.cls ≠ "java/lang/invoke/VarHandle" ∧ (parseMethodDescriptor yX8_put_.desc).map (fun d => d.parameters.length) = some 4 := by decide +kernel
theorem pn_X8_put_ : plainName yX8_put_.cls = true := by decide +kernel
theorem hy_X8_cut : yX8_cut.cls ≠ "java/lang/invoke/MethodHandle" ∧ yX8_cut.cls ≠ "java/lang/invoke/VarHandle" ∧ (parseMethodDescriptor yX8_cut.desc).map (fun d => d.parameters.length) = some 2 := by decide +kernel
theorem pn_X8_cut : plainName yX8_cut.cls = true := by decide +kernel
theorem hy_X8_upwards : yX8_upwards.cls ≠ "java/lang/invoke/MethodHandle" ∧ yX8_upwards.cls ≠ "java/lang/invoke/VarHandle" ∧ (parseMethodDescriptor yX8_upwards.desc).map (fun d => d.parameters.length) = some 2 := by decide +kernel
theorem pn_X8_upwards : plainName yX8_upwards.cls = true := by decide +kernel
theorem hy_X9_init : yX9_init.cls ≠ "java/lang/invoke/MethodHandle" ∧ yX9_init.cls ≠ "java/lang/invoke/VarHandle" ∧ (parseMethodDescriptor yX9_init.desc).map (fun d => d.parameters.length) = some 0 := by decide +kernel
theorem pn_X9_init : plainName yX9_init.cls = true := by decide +kernel
theorem hy_X9_feed : yX9_feed.cls ≠ "java/lang/invoke/MethodHandle" ∧ yX9_feed.cls ≠ "java/lang/invoke/VarHandle" ∧ (parseMethodDescriptor yX9_feed.desc).map (fun d => d.parameters.length) = some 5 := by decide +kernel
theorem pn_X9_feed : plainName yX9_feed.cls = true := by decide +kernel
theorem hy_X9_here : yX9_here.cls ≠ "java/lang/invoke/MethodHandle" ∧ yX9_here.cls ≠ "java/lang/invoke/VarHandle" ∧ (parseMethodDescriptor yX9_here.desc).map (fun d => d.parameters.length) = some 0 := by decide +kernel
theorem pn_X9_here : plainName yX9_here.cls = true := by decide +kernel
theorem hy_X9_isSmall : yX9_isSmall.cls ≠ "java/lang/invoke/MethodHandle" ∧ yX9_isSmall.cls ≠ "java/lang/invoke/VarHandle" ∧ (parseMethodDescriptor yX9_isSmall.desc).map (fun d => d.parameters.length) = some 1 := by decide +kernel
theorem pn_X9_isSmall : plainName yX9_isSmall.cls = true := by decide +kernel
theorem hy_X9_isDigit : yX9_isDigit.cls ≠ "java/lang/invoke/MethodHandle" ∧ yX9_isDigit.cls ≠ "java/lang/invoke/VarHandle" ∧ (parseMethodDescriptor yX9_isDigit.desc).map (fun d => d.parameters.length) = some 1 := by decide +kernel
theorem pn_X9_isDigit : plainName yX9_isDigit.cls = true := by decide +kernel
theorem hy_X9_next : yX9_next.cls ≠ "java/lang/invoke/MethodHandle" ∧ yX9_next.cls ≠ "java/lang/invoke/VarHandle" ∧ (parseMethodDescriptor yX9_next.desc).map (fun d => d.parameters.length) = some 0 := by decide +kernel
theorem pn_X9_next : plainName yX9_next.cls = true := by decide +kernel
theorem hy_X9_wordOf : yX9_wordOf.cls ≠ "java/lang/invoke/MethodHandle" ∧ yX9_wordOf.cls ≠ "java/lang/invoke/VarHandle" ∧ (parseMethodDescriptor yX9_wordOf.desc).map (fun d => d.parameters.length) = some 0 := by decide +kernel
theorem pn_X9_wordOf : plainName yX9_wordOf.cls = true := by decide +kernel
theorem hy_X9_wrong : yX9_wrong.cls ≠ "java/lang/invoke/MethodHandle" ∧ yX9_wrong.cls ≠ "java/lang/invoke/VarHandle" ∧ (parseMethodDescriptor yX9_wrong.desc).map (fun d => d.parameters.length) = some 1 := by decide +kernel
theorem pn_X9_wrong : plainName yX9_wrong.cls = true := by decide +kernel
theorem hy_X9_line : yX9_line.cls ≠ "java/lang/invoke/MethodHandle" ∧ yX9_line.cls ≠ "java/lang/invoke/VarHandle" ∧ (parseMethodDescriptor yX9_line.desc).map (fun d => d.parameters.length) = some 0 := by decide +kernel
theorem pn_X9_line : plainName yX9_line.cls = true := by decide +kernel
theorem hy_X9_customs : yX9_customs.cls ≠ "java/lang/invoke/MethodHandle" ∧ yX9_customs.cls ≠ "java/lang/invoke/VarHandle" ∧ (parseMethodDescriptor yX9_customs.desc).map (fun d => d.parameters.length) = some 1 := by decide +kernel
theorem pn_X9_customs : plainName yX9_customs.cls = true := by decide +kernel
theorem hy_X9_fault : yX9_fault.cls ≠ "java/lang/invoke/MethodHandle" ∧ yX9_fault.cls ≠ "java/lang/invoke/VarHandle" ∧ (parseMethodDescriptor yX9_fault.desc).map (fun d => d.parameters.length) = some 1 := by decide +kernel
theorem pn_X9_fault : plainName yX9_fault.cls = true := by decide +kernel
theorem hy_X9_isFarm : yX9_isFarm.cls ≠ "java/lang/invoke/MethodHandle" ∧ yX9_isFarm.cls ≠ "java/lang/invoke/VarHandle" ∧ (parseMethodDescriptor yX9_isFarm.desc).map (fun d => d.parameters.length) = some 1 := by decide +kernel
theorem pn_X9_isFarm : plainName yX9_isFarm.cls = true := by decide +kernel
theorem hy_X9_isTwelve : yX9_isTwelve.cls ≠ "java/lang/invoke/MethodHandle" ∧ yX9_isTwelve.cls ≠ "java/lang/invoke/VarHandle" ∧ (parseMethodDescriptor yX9_isTwelve.desc).map (fun d => d.parameters.length) = some 1 := by decide +kernel
theorem pn_X9_isTwelve : plainName yX9_isTwelve.cls = true := by decide +kernel
theorem hy_X9_farm : yX9_farm.cls ≠ "java/lang/invoke/MethodHandle" ∧ yX9_farm.cls ≠ "java/lang/invoke/VarHandle" ∧ (parseMethodDescriptor yX9_farm.desc).map (fun d => d.parameters.length) = some 6 := by decide +kernel
theorem pn_X9_farm : plainName yX9_farm.cls = true := by decide +kernel
theorem hy_X9_way : yX9_way.cls ≠ "java/lang/invoke/MethodHandle" ∧ yX9_way.cls ≠ "java/lang/invoke/VarHandle" ∧ (parseMethodDescriptor yX9_way.desc).map (fun d => d.parameters.length) = some 3 := by decide +kernel
theorem pn_X9_way : plainName yX9_way.cls = true := by decide +kernel
theorem hy_X9_bargain : yX9_bargain.cls ≠ "java/lang/invoke/MethodHandle" ∧ yX9_bargain.cls ≠ "java/lang/invoke/VarHandle" ∧ (parseMethodDescriptor yX9_bargain.desc).map (fun d => d.parameters.length) = some 3 := by decide +kernel
theorem pn_X9_bargain : plainName yX9_bargain.cls = true := by decide +kernel
theorem hy_X9_gangs : yX9_gangs.cls ≠ "java/lang/invoke/MethodHandle" ∧ yX9_gangs.cls ≠ "java/lang/invoke/VarHandle" ∧ (parseMethodDescriptor yX9_gangs.desc).map (fun d => d.parameters.length) = some 1 := by decide +kernel
theorem pn_X9_gangs : plainName yX9_gangs.cls = true := by decide +kernel
theorem hy_X9_speedOf : yX9_speedOf.cls ≠ "java/lang/invoke/MethodHandle" ∧ yX9_speedOf.cls ≠ "java/lang/invoke/VarHandle" ∧ (parseMethodDescriptor yX9_speedOf.desc).map (fun d => d.parameters.length) = some 1 := by decide +kernel
theorem pn_X9_speedOf : plainName yX9_speedOf.cls = true := by decide +kernel
theorem hy_X9_isDone : yX9_isDone.cls ≠ "java/lang/invoke/MethodHandle" ∧ yX9_isDone.cls ≠ "java/lang/invoke/VarHandle" ∧ (parseMethodDescriptor yX9_isDone.desc).map (fun d => d.parameters.length) = some 1 := by decide +kernel
theorem pn_X9_isDone : plainName yX9_isDone.cls = true := by decide +kernel
theorem hy_X9_goes : yX9_goes.cls ≠ "java/lang/invoke/MethodHandle" ∧ yX9_goes.cls ≠ "java/lang/invoke/VarHandle" ∧ (parseMethodDescriptor yX9_goes.desc).map (fun d => d.parameters.length) = some 0 := by decide +kernel
theorem pn_X9_goes : plainName yX9_goes.cls = true := by decide +kernel
theorem hy_X9_lossOf : yX9_lossOf.cls ≠ "java/lang/invoke/MethodHandle" ∧ yX9_lossOf.cls ≠ "java/lang/invoke/VarHandle" ∧ (parseMethodDescriptor yX9_lossOf.desc).map (fun d => d.parameters.length) = some 2 := by decide +kernel
theorem pn_X9_lossOf : plainName yX9_lossOf.cls = true := by decide +kernel
theorem hy_X9_goesOn : yX9_goesOn.cls ≠ "java/lang/invoke/MethodHandle" ∧ yX9_goesOn.cls ≠ "java/lang/invoke/VarHandle" ∧ (parseMethodDescriptor yX9_goesOn.desc).map (fun d => d.parameters.length) = some 0 := by decide +kernel
theorem pn_X9_goesOn : plainName yX9_goesOn.cls = true := by decide +kernel
theorem hy_X9_swaps : yX9_swaps.cls ≠ "java/lang/invoke/MethodHandle" ∧ yX9_swaps.cls ≠ "java/lang/invoke/VarHandle" ∧ (parseMethodDescriptor yX9_swaps.desc).map (fun d => d.parameters.length) = some 2 := by decide +kernel
theorem pn_X9_swaps : plainName yX9_swaps.cls = true := by decide +kernel
theorem hy_X9_firstOrder : yX9_firstOrder.cls ≠ "java/lang/invoke/MethodHandle" ∧ yX9_firstOrder.cls ≠ "java/lang/invoke/VarHandle" ∧ (parseMethodDescriptor yX9_firstOrder.desc).map (fun d => d.parameters.length) = some 0 := by decide +kernel
theorem pn_X9_firstOrder : plainName yX9_firstOrder.cls = true := by decide +kernel
theorem hy_X9_plan : yX9_plan.cls ≠ "java/lang/invoke/MethodHandle" ∧ yX9_plan.cls ≠ "java/lang/invoke/VarHandle" ∧ (parseMethodDescriptor yX9_plan.desc).map (fun d => d.parameters.length) = some 0 := by decide +kernel
theorem pn_X9_plan : plainName yX9_plan.cls = true := by decide +kernel
theorem hy_X9_comes : yX9_comes.cls ≠ "java/lang/invoke/MethodHandle" ∧ yX9_comes.cls ≠ "java/lang/invoke/VarHandle" ∧ (parseMethodDescriptor yX9_comes.desc).map (fun d => d.parameters.length) = some 0 := by decide +kernel
theorem pn_X9_comes : plainName yX9_comes.cls = true := by decide +kernel
theorem hy_X9_planned : yX9_planned.cls ≠ "java/lang/invoke/MethodHandle" ∧ yX9_planned.cls ≠ "java/lang/invoke/VarHandle" ∧ (parseMethodDescriptor yX9_planned.desc).map (fun d => d.parameters.length) = some 2 := by decide +kernel
theorem pn_X9_planned : plainName yX9_planned.cls = true := by decide +kernel
theorem hy_X9_setsOut : yX9_setsOut.cls ≠ "java/lang/invoke/MethodHandle" ∧ yX9_setsOut.cls ≠ "java/lang/invoke/VarHandle" ∧ (parseMethodDescriptor yX9_setsOut.desc).map (fun d => d.parameters.length) = some 0 := by decide +kernel
theorem pn_X9_setsOut : plainName yX9_setsOut.cls = true := by decide +kernel
theorem hy_X9_out : yX9_out.cls ≠ "java/lang/invoke/MethodHandle" ∧ yX9_out.cls ≠ "java/lang/invoke/VarHandle" ∧ (parseMethodDescriptor yX9_out.desc).map (fun d => d.parameters.length) = some 0 := by decide +kernel
theorem pn_X9_out : plainName yX9_out.cls = true := by decide +kernel
theorem hy_X9_breaks : yX9_breaks.cls ≠ "java/lang/invoke/MethodHandle" ∧ yX9_breaks.cls ≠ "java/lang/invoke/VarHandle" ∧ (parseMethodDescriptor yX9_breaks.desc).map (fun d => d.parameters.length) = some 1 := by decide +kernel
theorem pn_X9_breaks : plainName yX9_breaks.cls = true := by decide +kernel
theorem hy_X9_isAtWork : yX9_isAtWork.cls ≠ "java/lang/invoke/MethodHandle" ∧ yX9_isAtWork.cls ≠ "java/lang/invoke/VarHandle" ∧ (parseMethodDescriptor yX9_isAtWork.desc).map (fun d => d.parameters.length) = some 0 := by decide +kernel
theorem pn_X9_isAtWork : plainName yX9_isAtWork.cls = true := by decide +kernel
theorem hy_X9_threshes : yX9_threshes.cls ≠ "java/lang/invoke/MethodHandle" ∧ yX9_threshes.cls ≠ "java/lang/invoke/VarHandle" ∧ (parseMethodDescriptor yX9_threshes.desc).map (fun d => d.parameters.length) = some 1 := by decide +kernel
theorem pn_X9_threshes : plainName yX9_threshes.cls = true := by decide +kernel
theorem hy_X9_oneDay : yX9_oneDay.cls ≠ "java/lang/invoke/MethodHandle" ∧ yX9_oneDay.cls ≠ "java/lang/invoke/VarHandle" ∧ (parseMethodDescriptor yX9_oneDay.desc).map (fun d => d.parameters.length) = some 0 := by decide +kernel
theorem pn_X9_oneDay : plainName yX9_oneDay.cls = true := by decide +kernel
theorem hy_X9_day : yX9_day.cls ≠ "java/lang/invoke/MethodHandle" ∧ yX9_day.cls ≠ "java/lang/invoke/VarHandle" ∧ (parseMethodDescriptor yX9_day.desc).map (fun d => d.parameters.length) = some 1 := by decide +kernel
theorem pn_X9_day : plainName yX9_day.cls = true := by decide +kernel
theorem hy_X9_sacksOf : yX9_sacksOf.cls ≠ "java/lang/invoke/MethodHandle" ∧ yX9_sacksOf.cls ≠ "java/lang/invoke/VarHandle" ∧ (parseMethodDescriptor yX9_sacksOf.desc).map (fun d => d.parameters.length) = some 1 := by decide +kernel
theorem pn_X9_sacksOf : plainName yX9_sacksOf.cls = true := by decide +kernel
theorem hy_X9_look : yX9_look.cls ≠ "java/lang/invoke/MethodHandle" ∧ yX9_look.cls ≠ "java/lang/invoke/VarHandle" ∧ (parseMethodDescriptor yX9_look.desc).map (fun d => d.parameters.length) = some 2 := by decide +kernel
theorem pn_X9_look : plainName yX9_look.cls = true := by decide +kernel
theorem hy_X9_owed : yX9_owed.cls ≠ "java/lang/invoke/MethodHandle" ∧ yX9_owed.cls ≠ "java/lang/invoke/VarHandle" ∧ (parseMethodDescriptor yX9_owed.desc).map (fun d => d.parameters.length) = some 2 := by decide +kernel
theorem pn_X9_owed : plainName yX9_owed.cls = true := by decide +kernel
theorem hy_X9_lent : yX9_lent.cls ≠ "java/lang/invoke/MethodHandle" ∧ yX9_lent.cls ≠ "java/lang/invoke/VarHandle" ∧ (parseMethodDescriptor yX9_lent.desc).map (fun d => d.parameters.length) = some 2 := by decide +kernel
theorem pn_X9_lent : plainName yX9_lent.cls = true := by decide +kernel
theorem hy_X9_count : yX9_count.cls ≠ "java/lang/invoke/MethodHandle" ∧ yX9_count.cls ≠ "java/lang/invoke/VarHandle" ∧ (parseMethodDescriptor yX9_count.desc).map (fun d => d.parameters.length) = some 1 := by decide +kernel
theorem pn_X9_count : plainName yX9_count.cls = true := by decide +kernel
theorem hy_J0_length_8abf5 : yJ0_length_8abf5.cls ≠ "java/lang/invoke/MethodHandle" ∧ yJ0_length_8abf5.cls ≠ "java/lang/invoke/VarHandle" ∧ (parseMethodDescriptor yJ0_length_8abf5.desc).map (fun d => d.parameters.length) = some 0 := by decide +kernel
theorem pn_J0_length_8abf5 : plainName yJ0_length_8abf5.cls = true := by decide +kernel
theorem hy_J0_charAt_5068e : yJ0_charAt_5068e.cls ≠ "java/lang/invoke/MethodHandle" ∧ yJ0_charAt_5068e.cls ≠ "java/lang/invoke/VarHandle" ∧ (parseMethodDescriptor yJ0_charAt_5068e.desc).map (fun d => d.parameters.length) = some 1 := by decide +kernel
theorem pn_J0_charAt_5068e : plainName yJ0_charAt_5068e.cls = true := by decide +kernel
theorem hy_J0_coder_7d493 : yJ0_coder_7d493.cls ≠ "java/lang/invoke/MethodHandle" ∧ yJ0_coder_7d493.cls ≠ "java/lang/invoke/VarHandle" ∧ (parseMethodDescriptor yJ0_coder_7d493.desc).map (fun d => d.parameters.length) = some 0 := by decide +kernel
theorem pn_J0_coder_7d493 : plainName yJ0_coder_7d493.cls = true := by decide +kernel
theorem hy_J0_isLatin1_aae02 : yJ0_isLatin1_aae02.cls ≠ "java/lang/invoke/MethodHandle" ∧ yJ0_isLatin1_aae02.cls ≠ "java/lang/invoke/VarHandle" ∧ (parseMethodDescriptor yJ0_isLatin1_aae02.desc).map (fun d => d.parameters.length) = some 0 := by decide +kernel
theorem pn_J0_isLatin1_aae02 : plainName yJ0_isLatin1_aae02.cls = true := by decide +kernel
theorem hy_J0_checkIndex_df160 : yJ0_checkIndex_df160.cls ≠ "java/lang/invoke/MethodHandle" ∧ yJ0_checkIndex_df160.cls ≠ "java/lang/invoke/VarHandle" ∧ (parseMethodDescriptor yJ0_checkIndex_df160.desc).map (fun d => d.parameters.length) = some 2 := by decide +kernel
theorem pn_J0_checkIndex_df160 : plainName yJ0_checkIndex_df160.cls = true := by decide +kernel
theorem hy_J1_charAt_3b067 : yJ1_charAt_3b067.cls ≠ "java/lang/invoke/MethodHandle" ∧ yJ1_charAt_3b067.cls ≠ "java/lang/invoke/VarHandle" ∧ (parseMethodDescriptor yJ1_charAt_3b067.desc).map (fun d => d.parameters.length) = some 2 := by decide +kernel
theorem pn_J1_charAt_3b067 : plainName yJ1_charAt_3b067.cls = true := by decide +kernel
theorem hy_J2_getChar_3b067 : yJ2_getChar_3b067.cls ≠ "java/lang/invoke/MethodHandle" ∧ yJ2_getChar_3b067.cls ≠ "java/lang/invoke/VarHandle" ∧ (parseMethodDescriptor yJ2_getChar_3b067.desc).map (fun d => d.parameters.length) = some 2 := by decide +kernel
theorem pn_J2_getChar_3b067 : plainName yJ2_getChar_3b067.cls = true := by decide +kernel
theorem hy_J2_length_9d52b : yJ2_length_9d52b.cls ≠ "java/lang/invoke/MethodHandle" ∧ yJ2_length_9d52b.cls ≠ "java/lang/invoke/VarHandle" ∧ (parseMethodDescriptor yJ2_length_9d52b.desc).map (fun d => d.parameters.length) = some 1 := by decide +kernel
theorem pn_J2_length_9d52b : plainName yJ2_length_9d52b.cls = true := by decide +kernel
theorem hy_J2_charAt_3b067 : yJ2_charAt_3b067.cls ≠ "java/lang/invoke/MethodHandle" ∧ yJ2_charAt_3b067.cls ≠ "java/lang/invoke/VarHandle" ∧ (parseMethodDescriptor yJ2_charAt_3b067.desc).map (fun d => d.parameters.length) = some 2 := by decide +kernel
theorem pn_J2_charAt_3b067 : plainName yJ2_charAt_3b067.cls = true := by decide +kernel
theorem hy_J2_checkIndex_2214a : yJ2_checkIndex_2214a.cls ≠ "java/lang/invoke/MethodHandle" ∧ yJ2_checkIndex_2214a.cls ≠ "java/lang/invoke/VarHandle" ∧ (parseMethodDescriptor yJ2_checkIndex_2214a.desc).map (fun d => d.parameters.length) = some 2 := by decide +kernel
theorem pn_J2_checkIndex_2214a : plainName yJ2_checkIndex_2214a.cls = true := by decide +kernel
theorem hy_J3_checkIndex_8e157 : yJ3_checkIndex_8e157.cls ≠ "java/lang/invoke/MethodHandle" ∧ yJ3_checkIndex_8e157.cls ≠ "java/lang/invoke/VarHandle" ∧ (parseMethodDescriptor yJ3_checkIndex_8e157.desc).map (fun d => d.parameters.length) = some 3 := by decide +kernel
theorem pn_J3_checkIndex_8e157 : plainName yJ3_checkIndex_8e157.cls = true := by decide +kernel
theorem vx_pst {Post : vx_P} {ad : Nat → Nat} {N : Nat} {Λ : vx_L} {r r0 : Option vx_v} {m m0 : vx_mem} (h : Post r0 ad N Λ m0) (e1 : r = r0) (e2 : m = m0) : Post r ad N Λ m := by
  subst e1; subst e2; exact h
end
end
section
section
variable {own : String} {cc : ByteArray} {nL : Nat} {ret : Option FieldType} {ini : Bool} {d mc ms : Nat} {Post : vx_P} {ad : Nat → Nat} {kc ks N : Nat} {Λ : vx_L} {μ : vx_mem} {pc : Nat} {ls : List (Nat × vx_v)} {st : List vx_v}
/-- a text's byte -/
def vx_tb (i j : Nat) : Int32 := (vx_lb.getD i []).getD j 0
theorem vx_i2c {x v : Int32} (hd : decode cc pc = .ok (.i2c, 1)) (hv : (x.toUInt32 % 65536).toInt32 = v) (k : vx_J own cc nL ret ini d mc ms Post ad kc ks N Λ μ (pc + 1) (ls) (.inl v :: st)) : vx_J own cc nL ret ini d mc ms Post ad kc ks N Λ μ (pc) (ls) (.inl x :: st) := by
  intro p l e s m args below meth c D dA A H locs LS hC hS hA hK hP hD hX hl
  exact lv_i2c hC.1 hC.2.1 hd hv (k p l e s m args below meth c D dA A H locs LS hC hS hA hK hP hD hX hl)
theorem vx_getCo {index i : Nat} (hd : decode cc pc = .ok (.getfield index, 3)) (hlk : Cond.fieldLink own index "java/lang/String" "coder" "B" ∈ vx_tbl) (hi : i < 7) (k : vx_J own cc nL ret ini d mc ms Post ad kc ks N Λ μ (pc + 3) (ls) (.inl 0 :: st)) : vx_J own cc nL ret ini d mc ms Post ad kc ks N Λ μ (pc) (ls) (vx_r (1000 + i) :: st) := by
  intro p l e s m args below meth c D dA A H locs LS hC hS hA hK hP hD hX hl
  exact vk_getf hC.1 hC.2.1 (hX.2.2.1.1 i hi).2.1 hS hC.2.2.2.2.1 (hC.2.2.2.2.2.1 _ hlk) (fun _ h9 => h9) hd (k p l e s m args below meth c D dA A H locs LS hC hS hA hK hP hD hX hl)
theorem vx_getVa {index i : Nat} (hd : decode cc pc = .ok (.getfield index, 3)) (hlk : Cond.fieldLink own index "java/lang/String" "value" "[B" ∈ vx_tbl) (hi : i < 7) (k : vx_J own cc nL ret ini d mc ms Post ad kc ks N Λ μ (pc + 3) (ls) (vx_r (1100 + i) :: st)) : vx_J own cc nL ret ini d mc ms Post ad kc ks N Λ μ (pc) (ls) (vx_r (1000 + i) :: st) := by
  intro p l e s m args below meth c D dA A H locs LS hC hS hA hK hP hD hX hl
  exact vk_getf hC.1 hC.2.1 (hX.2.2.1.1 i hi).2.2.1 hS hC.2.2.2.2.1 (hC.2.2.2.2.2.1 _ hlk) (fun _ h9 => h9) hd (k p l e s m args below meth c D dA A H locs LS hC hS hA hK hP hD hX hl)
theorem vx_getCS {index : Nat} (hd : decode cc pc = .ok (.getstatic index, 3)) (hlk : Cond.fieldLink own index "java/lang/String" "COMPACT_STRINGS" "Z" ∈ vx_tbl) (k : vx_J own cc nL ret ini d mc ms Post ad kc ks N Λ μ (pc + 3) (ls) (.inl 1 :: st)) : vx_J own cc nL ret ini d mc ms Post ad kc ks N Λ μ (pc) (ls) (st) := by
  intro p l e s m args below meth c D dA A H locs LS hC hS hA hK hP hD hX hl
  exact va_gets hC.1 hC.2.1 hX.2.2.2.2.1 hS hC.2.2.2.2.1 (hC.2.2.2.2.2.1 _ hlk) (fun _ h9 => h9) hd (k p l e s m args below meth c D dA A H locs LS hC hS hA hK hP hD hX hl)
theorem vx_getFm {index : Nat} (hd : decode cc pc = .ok (.getstatic index, 3)) (hlk : Cond.fieldLink own index "jdk/internal/util/Preconditions" "SIOOBE_FORMATTER" "Ljava/util/function/BiFunction;" ∈ vx_tbl) (k : ∀ v : vx_v, vx_J own cc nL ret ini d mc ms Post ad kc ks N Λ μ (pc + 3) (ls) (v :: st)) : vx_J own cc nL ret ini d mc ms Post ad kc ks N Λ μ (pc) (ls) (st) := by
  intro p l e s m args below meth c D dA A H locs LS hC hS hA hK hP hD hX hl
  rcases hX.2.2.2.2.2.1 with hz | hz
  · exact va_gets hC.1 hC.2.1 hz hS hC.2.2.2.2.1 (hC.2.2.2.2.2.1 _ hlk) (fun _ h9 => h9) hd (k (Sum.inr none) p l e s m args below meth c D dA A H locs LS hC hS hA hK hP hD hX hl)
  · exact va_gets hC.1 hC.2.1 hz hS hC.2.2.2.2.1 (hC.2.2.2.2.2.1 _ hlk) (fun _ h9 => h9) hd (k (vx_r 1300) p l e s m args below meth c D dA A H locs LS hC hS hA hK hP hD hX hl)
theorem vx_baldX {i : Nat} {j v : Int32} (hd : decode cc pc = .ok (.baload, 1)) (hi : i < 7) (hj : vp_in j (vx_ll.getD i 0)) (hv : vx_tb i j.toNatClampNeg = v) (k : vx_J own cc nL ret ini d mc ms Post ad kc ks N Λ μ (pc + 1) (ls) (.inl v :: st)) : vx_J own cc nL ret ini d mc ms Post ad kc ks N Λ μ (pc) (ls) (.inl j :: vx_r (1100 + i) :: st) := by
  intro p l e s m args below meth c D dA A H locs LS hC hS hA hK hP hD hX hl
  exact va_tb hC.1 hC.2.1 (hX.2.2.1.1 i hi).2.2.2 hS hj (v := .int v) (by show Value.int _ = Value.int _; rw [← hv]; rfl) hd (k p l e s m args below meth c D dA A H locs LS hC hS hA hK hP hD hX hl)
theorem vx_alenB {i : Nat} {v : Int32} (hd : decode cc pc = .ok (.arraylength, 1)) (hi : i < 7) (hv : Int32.ofNat (vx_ll.getD i 0) = v) (k : vx_J own cc nL ret ini d mc ms Post ad kc ks N Λ μ (pc + 1) (ls) (.inl v :: st)) : vx_J own cc nL ret ini d mc ms Post ad kc ks N Λ μ (pc) (ls) (vx_r (1100 + i) :: st) := by
  intro p l e s m args below meth c D dA A H locs LS hC hS hA hK hP hD hX hl
  exact va_tlen hC.1 hC.2.1 (hX.2.2.1.1 i hi).2.2.2 hS hv hd (k p l e s m args below meth c D dA A H locs LS hC hS hA hK hP hD hX hl)

variable {y : MethodName} {cc2 : ByteArray} {nL2 : Nat} {ret2 : Option FieldType} {d2 index : Nat} {vs : List vx_v}
theorem vx_callK {i : Nat} {r0 : Option vx_v} {μ0 : vx_mem} (hd : decode cc pc = .ok (.invokevirtual index, 3)) (hM : vx_Mf y cc2 nL2 ret2 d2 ad N Λ μ (vx_r (1000 + i) :: vs) r0 μ0) (hl : Cond.methodLink own index y ∈ vx_tbl) (hc : Cond.code y cc2 nL2 ret2 ∈ vx_tbl) (hn : Cond.initialized y.cls ∈ vx_tbl) (hy : y.cls ≠ "java/lang/invoke/MethodHandle" ∧ y.cls ≠ "java/lang/invoke/VarHandle" ∧ (parseMethodDescriptor y.desc).map (fun d => d.parameters.length) = some vs.length) (hi : Cond.instanceMethod y ∈ vx_tbl) (hs : Cond.selects y.cls y y ∈ vx_tbl) (hi7 : i < 7) (hcl : y.cls = "java/lang/String") (hd2 : d2 < d) (hnl : nL2 ≤ 45) (hst : st.length ≤ 8) (hmc : kc ≤ mc) (hms : ks ≤ ms)
    (kk : vx_J own cc nL ret ini d mc ms Post ad kc ks N Λ μ0 (pc + 3) (ls) (r0.toList ++ st)) : vx_J own cc nL ret ini d mc ms Post ad kc ks N Λ μ (pc) (ls) (vs.reverse ++ vx_r (1000 + i) :: st) := by
  intro p l e s m args below meth c D dA A H locs LS hC hS hA hK hP hD hX hl'
  have hts : ∀ w ∈ vx_tbl, w.before args s = true := hC.2.2.2.2.2.1
  have hs8 := vx_cat ad st
  have hrcv := vk_recv hX.2.2.1 hi7 hS
  rw [← hcl] at hrcv
  have hrun := va_runV (As := vs.map (vx_V ad)) (rest := st.map (vx_V ad)) (g := F0 m pc LS ((vs.reverse ++ vx_r (1000 + i) :: st).map (vx_V ad))) (locs := locs) (cells := kc) (slots := ks) (below := below) (e := e) (meth := meth) (l := l) ⟨hC.1, hC.2.1, hC.2.2.1, hC.2.2.2.2.1, hts⟩ (hM l D dA H.size) ⟨callB_of (n := vs.length) (rm := vx_R d2 0 0) (R := vx_R d mc ms) hts (vx_good hc) rfl rfl rfl (hts _ hn) (hts _ hl) hy ⟨Nat.succ_le_of_lt hd2, by show 8 + (nL2 + 11) + 64 * d2 ≤ 64 * d; omega⟩, hts _ hi, hts _ hs⟩ ⟨vx_blind, hrcv, vx_pre (vs := vx_r (1000 + i) :: vs) hS hA hK hP hD hX⟩ rfl (by rw [List.length_map]) hl'.1 (by simp [List.map_append, List.map_reverse, vx_V, va_rf]) (lv_room (by rw [hs8]; exact hst)) hd ⟨hmc, hms⟩
  refine vx_after hrun hS (fun q _ h => vx_sub_A (D := D) hS hA hD q h) (fun q h => vx_sub_A (D := D) hS hA hD q h) (fun r ad' N' Λ' μ' H1 locs1 hp hP1 hD1 hS1 => ?_)
  obtain ⟨rfl, rfl, rfl, rfl, rfl⟩ := hp
  have hw := kk p l e s m args below meth c D dA A H1 locs1 LS hC hS1 hA hK hP1 (hD1.weaken (fun k q _ h => vx_sub_A (D := D) hS hA hD q.1 h)) hX hl'
  have e1 : (r.toList ++ st).map (vx_V ad') = (r.map (vx_V ad')).toList ++ st.map (vx_V ad') := by
    rw [List.map_append]
    cases r <;> rfl
  rw [e1] at hw
  exact hw
end
end
