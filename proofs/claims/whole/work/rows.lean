section
-- ===== PART A: goes FIRST, ahead of the names: the tables' words, and 'selects' of the private methods out of them =====
/-- a private method of a class that the tables say can be made, by its rows of tables_1 -/
def lw_okq (q : MethodName × Nat) : Prop := (q.1.cls ≠ "java/lang/invoke/MethodHandle" ∧ q.1.cls ≠ "java/lang/invoke/VarHandle") ∧ Cond.instantiable q.1.cls q.2 ∈ tables_1 ∧ Cond.privateMethod q.1 ∈ tables_1 ∧ Cond.instanceMethod q.1 ∈ tables_1
theorem lw_p0 : lw_okq (⟨"ChallengeAuthority", "draw", "()I"⟩, 14) := ⟨⟨by decide +kernel, by decide +kernel⟩, List.mem_of_getElem? (i := 20) (by decide +kernel), List.mem_of_getElem? (i := 252) (by decide +kernel), List.mem_of_getElem? (i := 253) (by decide +kernel)⟩
theorem lw_p1 : lw_okq (⟨"ChallengeAuthority$Nonces", "removeAt", "(I)V"⟩, 2) := ⟨⟨by decide +kernel, by decide +kernel⟩, List.mem_of_getElem? (i := 38) (by decide +kernel), List.mem_of_getElem? (i := 261) (by decide +kernel), List.mem_of_getElem? (i := 262) (by decide +kernel)⟩
theorem lw_p2 : lw_okq (⟨"java/lang/Throwable", "fillInStackTrace", "(I)Ljava/lang/Throwable;"⟩, 6) := ⟨⟨by decide +kernel, by decide +kernel⟩, List.mem_of_getElem? (i := 362) (by decide +kernel), List.mem_of_getElem? (i := 360) (by decide +kernel), List.mem_of_getElem? (i := 361) (by decide +kernel)⟩
theorem lw_p3 : lw_okq (⟨"ChallengeAuthority", "accountWithKey", "(I)I"⟩, 14) := ⟨⟨by decide +kernel, by decide +kernel⟩, List.mem_of_getElem? (i := 20) (by decide +kernel), List.mem_of_getElem? (i := 410) (by decide +kernel), List.mem_of_getElem? (i := 411) (by decide +kernel)⟩
theorem lw_p4 : lw_okq (⟨"ChallengeAuthority", "makeAccount", "(I)I"⟩, 14) := ⟨⟨by decide +kernel, by decide +kernel⟩, List.mem_of_getElem? (i := 20) (by decide +kernel), List.mem_of_getElem? (i := 429) (by decide +kernel), List.mem_of_getElem? (i := 430) (by decide +kernel)⟩
theorem lw_p5 : lw_okq (⟨"ChallengeAuthority", "acceptSigned", "(IIII)V"⟩, 14) := ⟨⟨by decide +kernel, by decide +kernel⟩, List.mem_of_getElem? (i := 20) (by decide +kernel), List.mem_of_getElem? (i := 441) (by decide +kernel), List.mem_of_getElem? (i := 442) (by decide +kernel)⟩
theorem lw_p6 : lw_okq (⟨"ChallengeAuthority", "missingAuthorizations", "(II)I"⟩, 14) := ⟨⟨by decide +kernel, by decide +kernel⟩, List.mem_of_getElem? (i := 20) (by decide +kernel), List.mem_of_getElem? (i := 470) (by decide +kernel), List.mem_of_getElem? (i := 471) (by decide +kernel)⟩
theorem lw_p7 : lw_okq (⟨"ChallengeAuthority", "newestValid", "(II)I"⟩, 14) := ⟨⟨by decide +kernel, by decide +kernel⟩, List.mem_of_getElem? (i := 20) (by decide +kernel), List.mem_of_getElem? (i := 477) (by decide +kernel), List.mem_of_getElem? (i := 478) (by decide +kernel)⟩
theorem lw_p8 : lw_okq (⟨"ChallengeAuthority", "makeOrder", "(III)I"⟩, 14) := ⟨⟨by decide +kernel, by decide +kernel⟩, List.mem_of_getElem? (i := 20) (by decide +kernel), List.mem_of_getElem? (i := 481) (by decide +kernel), List.mem_of_getElem? (i := 482) (by decide +kernel)⟩
theorem lw_p9 : lw_okq (⟨"ChallengeAuthority", "makeAuthorization", "(III)I"⟩, 14) := ⟨⟨by decide +kernel, by decide +kernel⟩, List.mem_of_getElem? (i := 20) (by decide +kernel), List.mem_of_getElem? (i := 485) (by decide +kernel), List.mem_of_getElem? (i := 486) (by decide +kernel)⟩
theorem lw_p10 : lw_okq (⟨"ChallengeAuthority", "settleOrders", "()V"⟩, 14) := ⟨⟨by decide +kernel, by decide +kernel⟩, List.mem_of_getElem? (i := 20) (by decide +kernel), List.mem_of_getElem? (i := 493) (by decide +kernel), List.mem_of_getElem? (i := 494) (by decide +kernel)⟩
theorem lw_p11 : lw_okq (⟨"ChallengeAuthority", "settle", "(LChallengeAuthority$Order;)V"⟩, 14) := ⟨⟨by decide +kernel, by decide +kernel⟩, List.mem_of_getElem? (i := 20) (by decide +kernel), List.mem_of_getElem? (i := 501) (by decide +kernel), List.mem_of_getElem? (i := 502) (by decide +kernel)⟩
theorem lw_p12 : lw_okq (⟨"ChallengeAuthority", "challengeOf", "(II)LChallengeAuthority$Challenge;"⟩, 14) := ⟨⟨by decide +kernel, by decide +kernel⟩, List.mem_of_getElem? (i := 20) (by decide +kernel), List.mem_of_getElem? (i := 516) (by decide +kernel), List.mem_of_getElem? (i := 517) (by decide +kernel)⟩
theorem lw_p13 : lw_okq (⟨"ChallengeAuthority$Request", "readRowEnd", "(LChallengeAuthority$Text;I)I"⟩, 4) := ⟨⟨by decide +kernel, by decide +kernel⟩, List.mem_of_getElem? (i := 70) (by decide +kernel), List.mem_of_getElem? (i := 542) (by decide +kernel), List.mem_of_getElem? (i := 543) (by decide +kernel)⟩
theorem lw_p14 : lw_okq (⟨"ChallengeAuthority$Request", "skipTag", "(LChallengeAuthority$Text;II)V"⟩, 4) := ⟨⟨by decide +kernel, by decide +kernel⟩, List.mem_of_getElem? (i := 70) (by decide +kernel), List.mem_of_getElem? (i := 546) (by decide +kernel), List.mem_of_getElem? (i := 547) (by decide +kernel)⟩
theorem lw_p15 : lw_okq (⟨"ChallengeAuthority$Request", "readByte", "(LChallengeAuthority$Text;I)I"⟩, 4) := ⟨⟨by decide +kernel, by decide +kernel⟩, List.mem_of_getElem? (i := 70) (by decide +kernel), List.mem_of_getElem? (i := 550) (by decide +kernel), List.mem_of_getElem? (i := 551) (by decide +kernel)⟩
def lw_privs_1 : List (MethodName × Nat) := [(⟨"ChallengeAuthority", "draw", "()I"⟩, 14), (⟨"ChallengeAuthority$Nonces", "removeAt", "(I)V"⟩, 2), (⟨"java/lang/Throwable", "fillInStackTrace", "(I)Ljava/lang/Throwable;"⟩, 6), (⟨"ChallengeAuthority", "accountWithKey", "(I)I"⟩, 14), (⟨"ChallengeAuthority", "makeAccount", "(I)I"⟩, 14), (⟨"ChallengeAuthority", "acceptSigned", "(IIII)V"⟩, 14), (⟨"ChallengeAuthority", "missingAuthorizations", "(II)I"⟩, 14), (⟨"ChallengeAuthority", "newestValid", "(II)I"⟩, 14), (⟨"ChallengeAuthority", "makeOrder", "(III)I"⟩, 14), (⟨"ChallengeAuthority", "makeAuthorization", "(III)I"⟩, 14), (⟨"ChallengeAuthority", "settleOrders", "()V"⟩, 14), (⟨"ChallengeAuthority", "settle", "(LChallengeAuthority$Order;)V"⟩, 14), (⟨"ChallengeAuthority", "challengeOf", "(II)LChallengeAuthority$Challenge;"⟩, 14), (⟨"ChallengeAuthority$Request", "readRowEnd", "(LChallengeAuthority$Text;I)I"⟩, 4), (⟨"ChallengeAuthority$Request", "skipTag", "(LChallengeAuthority$Text;II)V"⟩, 4), (⟨"ChallengeAuthority$Request", "readByte", "(LChallengeAuthority$Text;I)I"⟩, 4)]
theorem lw_r1 : ∀ q ∈ lw_privs_1, lw_okq q := List.forall_mem_cons.mpr ⟨lw_p0, List.forall_mem_cons.mpr ⟨lw_p1, List.forall_mem_cons.mpr ⟨lw_p2, List.forall_mem_cons.mpr ⟨lw_p3, List.forall_mem_cons.mpr ⟨lw_p4, List.forall_mem_cons.mpr ⟨lw_p5, List.forall_mem_cons.mpr ⟨lw_p6, List.forall_mem_cons.mpr ⟨lw_p7, List.forall_mem_cons.mpr ⟨lw_p8, List.forall_mem_cons.mpr ⟨lw_p9, List.forall_mem_cons.mpr ⟨lw_p10, List.forall_mem_cons.mpr ⟨lw_p11, List.forall_mem_cons.mpr ⟨lw_p12, List.forall_mem_cons.mpr ⟨lw_p13, List.forall_mem_cons.mpr ⟨lw_p14, List.forall_mem_cons.mpr ⟨lw_p15, fun _ h => absurd h List.not_mem_nil⟩⟩⟩⟩⟩⟩⟩⟩⟩⟩⟩⟩⟩⟩⟩⟩
theorem lw_p16 : lw_okq (⟨"ChallengeAuthority$Request", "readLength", "(LChallengeAuthority$Text;I)I"⟩, 4) := ⟨⟨by decide +kernel, by decide +kernel⟩, List.mem_of_getElem? (i := 70) (by decide +kernel), List.mem_of_getElem? (i := 554) (by decide +kernel), List.mem_of_getElem? (i := 555) (by decide +kernel)⟩
theorem lw_p17 : lw_okq (⟨"ChallengeAuthority$Request", "readNumber", "(LChallengeAuthority$Text;I)I"⟩, 4) := ⟨⟨by decide +kernel, by decide +kernel⟩, List.mem_of_getElem? (i := 70) (by decide +kernel), List.mem_of_getElem? (i := 558) (by decide +kernel), List.mem_of_getElem? (i := 559) (by decide +kernel)⟩
theorem lw_p18 : lw_okq (⟨"ChallengeAuthority$Request", "readNames", "(LChallengeAuthority$Text;I)I"⟩, 4) := ⟨⟨by decide +kernel, by decide +kernel⟩, List.mem_of_getElem? (i := 70) (by decide +kernel), List.mem_of_getElem? (i := 562) (by decide +kernel), List.mem_of_getElem? (i := 563) (by decide +kernel)⟩
theorem lw_p19 : lw_okq (⟨"ChallengeAuthority$Request", "signedDigest", "()I"⟩, 4) := ⟨⟨by decide +kernel, by decide +kernel⟩, List.mem_of_getElem? (i := 70) (by decide +kernel), List.mem_of_getElem? (i := 567) (by decide +kernel), List.mem_of_getElem? (i := 568) (by decide +kernel)⟩
theorem lw_p20 : lw_okq (⟨"ChallengeAuthority", "makeCertificate", "(III)I"⟩, 14) := ⟨⟨by decide +kernel, by decide +kernel⟩, List.mem_of_getElem? (i := 20) (by decide +kernel), List.mem_of_getElem? (i := 574) (by decide +kernel), List.mem_of_getElem? (i := 575) (by decide +kernel)⟩
theorem lw_p21 : lw_okq (⟨"ChallengeAuthority", "goodCertificates", "()I"⟩, 14) := ⟨⟨by decide +kernel, by decide +kernel⟩, List.mem_of_getElem? (i := 20) (by decide +kernel), List.mem_of_getElem? (i := 585) (by decide +kernel), List.mem_of_getElem? (i := 586) (by decide +kernel)⟩
theorem lw_p22 : lw_okq (⟨"ChallengeAuthority", "closeAccount", "(I)I"⟩, 14) := ⟨⟨by decide +kernel, by decide +kernel⟩, List.mem_of_getElem? (i := 20) (by decide +kernel), List.mem_of_getElem? (i := 596) (by decide +kernel), List.mem_of_getElem? (i := 597) (by decide +kernel)⟩
theorem lw_p23 : lw_okq (⟨"ChallengeAuthority", "deactivateOne", "(II)I"⟩, 14) := ⟨⟨by decide +kernel, by decide +kernel⟩, List.mem_of_getElem? (i := 20) (by decide +kernel), List.mem_of_getElem? (i := 600) (by decide +kernel), List.mem_of_getElem? (i := 601) (by decide +kernel)⟩
theorem lw_p24 : lw_okq (⟨"ChallengeAuthority", "requireThere", "(II)V"⟩, 14) := ⟨⟨by decide +kernel, by decide +kernel⟩, List.mem_of_getElem? (i := 20) (by decide +kernel), List.mem_of_getElem? (i := 635) (by decide +kernel), List.mem_of_getElem? (i := 636) (by decide +kernel)⟩
theorem lw_p25 : lw_okq (⟨"ChallengeAuthority", "accountDetail", "(II)I"⟩, 14) := ⟨⟨by decide +kernel, by decide +kernel⟩, List.mem_of_getElem? (i := 20) (by decide +kernel), List.mem_of_getElem? (i := 647) (by decide +kernel), List.mem_of_getElem? (i := 648) (by decide +kernel)⟩
theorem lw_p26 : lw_okq (⟨"ChallengeAuthority", "ordersOf", "(I)I"⟩, 14) := ⟨⟨by decide +kernel, by decide +kernel⟩, List.mem_of_getElem? (i := 20) (by decide +kernel), List.mem_of_getElem? (i := 651) (by decide +kernel), List.mem_of_getElem? (i := 652) (by decide +kernel)⟩
theorem lw_p27 : lw_okq (⟨"ChallengeAuthority$Order", "authorizationTold", "(I)I"⟩, 7) := ⟨⟨by decide +kernel, by decide +kernel⟩, List.mem_of_getElem? (i := 102) (by decide +kernel), List.mem_of_getElem? (i := 659) (by decide +kernel), List.mem_of_getElem? (i := 660) (by decide +kernel)⟩
theorem lw_p28 : lw_okq (⟨"ChallengeAuthorityModel", "draw", "()I"⟩, 36) := ⟨⟨by decide +kernel, by decide +kernel⟩, List.mem_of_getElem? (i := 675) (by decide +kernel), List.mem_of_getElem? (i := 799) (by decide +kernel), List.mem_of_getElem? (i := 800) (by decide +kernel)⟩
theorem lw_p29 : lw_okq (⟨"ChallengeAuthorityModel", "take", "(I)V"⟩, 36) := ⟨⟨by decide +kernel, by decide +kernel⟩, List.mem_of_getElem? (i := 675) (by decide +kernel), List.mem_of_getElem? (i := 804) (by decide +kernel), List.mem_of_getElem? (i := 805) (by decide +kernel)⟩
theorem lw_p30 : lw_okq (⟨"ChallengeAuthorityModel", "five", "(IIIII)I"⟩, 36) := ⟨⟨by decide +kernel, by decide +kernel⟩, List.mem_of_getElem? (i := 675) (by decide +kernel), List.mem_of_getElem? (i := 822) (by decide +kernel), List.mem_of_getElem? (i := 823) (by decide +kernel)⟩
theorem lw_p31 : lw_okq (⟨"ChallengeAuthorityModel", "mix", "(I)V"⟩, 36) := ⟨⟨by decide +kernel, by decide +kernel⟩, List.mem_of_getElem? (i := 675) (by decide +kernel), List.mem_of_getElem? (i := 826) (by decide +kernel), List.mem_of_getElem? (i := 827) (by decide +kernel)⟩
def lw_privs_2 : List (MethodName × Nat) := [(⟨"ChallengeAuthority$Request", "readLength", "(LChallengeAuthority$Text;I)I"⟩, 4), (⟨"ChallengeAuthority$Request", "readNumber", "(LChallengeAuthority$Text;I)I"⟩, 4), (⟨"ChallengeAuthority$Request", "readNames", "(LChallengeAuthority$Text;I)I"⟩, 4), (⟨"ChallengeAuthority$Request", "signedDigest", "()I"⟩, 4), (⟨"ChallengeAuthority", "makeCertificate", "(III)I"⟩, 14), (⟨"ChallengeAuthority", "goodCertificates", "()I"⟩, 14), (⟨"ChallengeAuthority", "closeAccount", "(I)I"⟩, 14), (⟨"ChallengeAuthority", "deactivateOne", "(II)I"⟩, 14), (⟨"ChallengeAuthority", "requireThere", "(II)V"⟩, 14), (⟨"ChallengeAuthority", "accountDetail", "(II)I"⟩, 14), (⟨"ChallengeAuthority", "ordersOf", "(I)I"⟩, 14), (⟨"ChallengeAuthority$Order", "authorizationTold", "(I)I"⟩, 7), (⟨"ChallengeAuthorityModel", "draw", "()I"⟩, 36), (⟨"ChallengeAuthorityModel", "take", "(I)V"⟩, 36), (⟨"ChallengeAuthorityModel", "five", "(IIIII)I"⟩, 36), (⟨"ChallengeAuthorityModel", "mix", "(I)V"⟩, 36)]
theorem lw_r2 : ∀ q ∈ lw_privs_2, lw_okq q := List.forall_mem_cons.mpr ⟨lw_p16, List.forall_mem_cons.mpr ⟨lw_p17, List.forall_mem_cons.mpr ⟨lw_p18, List.forall_mem_cons.mpr ⟨lw_p19, List.forall_mem_cons.mpr ⟨lw_p20, List.forall_mem_cons.mpr ⟨lw_p21, List.forall_mem_cons.mpr ⟨lw_p22, List.forall_mem_cons.mpr ⟨lw_p23, List.forall_mem_cons.mpr ⟨lw_p24, List.forall_mem_cons.mpr ⟨lw_p25, List.forall_mem_cons.mpr ⟨lw_p26, List.forall_mem_cons.mpr ⟨lw_p27, List.forall_mem_cons.mpr ⟨lw_p28, List.forall_mem_cons.mpr ⟨lw_p29, List.forall_mem_cons.mpr ⟨lw_p30, List.forall_mem_cons.mpr ⟨lw_p31, fun _ h => absurd h List.not_mem_nil⟩⟩⟩⟩⟩⟩⟩⟩⟩⟩⟩⟩⟩⟩⟩⟩
theorem lw_p32 : lw_okq (⟨"ChallengeAuthorityModel", "mixedDigest", "()I"⟩, 36) := ⟨⟨by decide +kernel, by decide +kernel⟩, List.mem_of_getElem? (i := 675) (by decide +kernel), List.mem_of_getElem? (i := 831) (by decide +kernel), List.mem_of_getElem? (i := 832) (by decide +kernel)⟩
theorem lw_p33 : lw_okq (⟨"ChallengeAuthorityModel", "find", "(I)I"⟩, 36) := ⟨⟨by decide +kernel, by decide +kernel⟩, List.mem_of_getElem? (i := 675) (by decide +kernel), List.mem_of_getElem? (i := 839) (by decide +kernel), List.mem_of_getElem? (i := 840) (by decide +kernel)⟩
theorem lw_p34 : lw_okq (⟨"ChallengeAuthorityModel", "holder", "(I)I"⟩, 36) := ⟨⟨by decide +kernel, by decide +kernel⟩, List.mem_of_getElem? (i := 675) (by decide +kernel), List.mem_of_getElem? (i := 846) (by decide +kernel), List.mem_of_getElem? (i := 847) (by decide +kernel)⟩
theorem lw_p35 : lw_okq (⟨"ChallengeAuthorityModel", "signed", "(IIII)I"⟩, 36) := ⟨⟨by decide +kernel, by decide +kernel⟩, List.mem_of_getElem? (i := 675) (by decide +kernel), List.mem_of_getElem? (i := 854) (by decide +kernel), List.mem_of_getElem? (i := 855) (by decide +kernel)⟩
theorem lw_p36 : lw_okq (⟨"ChallengeAuthorityModel", "fresh", "(II)I"⟩, 36) := ⟨⟨by decide +kernel, by decide +kernel⟩, List.mem_of_getElem? (i := 675) (by decide +kernel), List.mem_of_getElem? (i := 865) (by decide +kernel), List.mem_of_getElem? (i := 866) (by decide +kernel)⟩
theorem lw_p37 : lw_okq (⟨"ChallengeAuthorityModel", "valid", "(II)I"⟩, 36) := ⟨⟨by decide +kernel, by decide +kernel⟩, List.mem_of_getElem? (i := 675) (by decide +kernel), List.mem_of_getElem? (i := 869) (by decide +kernel), List.mem_of_getElem? (i := 870) (by decide +kernel)⟩
theorem lw_p38 : lw_okq (⟨"ChallengeAuthorityModel", "authorize", "(III)I"⟩, 36) := ⟨⟨by decide +kernel, by decide +kernel⟩, List.mem_of_getElem? (i := 675) (by decide +kernel), List.mem_of_getElem? (i := 873) (by decide +kernel), List.mem_of_getElem? (i := 874) (by decide +kernel)⟩
theorem lw_p39 : lw_okq (⟨"ChallengeAuthorityModel", "settle", "()V"⟩, 36) := ⟨⟨by decide +kernel, by decide +kernel⟩, List.mem_of_getElem? (i := 675) (by decide +kernel), List.mem_of_getElem? (i := 877) (by decide +kernel), List.mem_of_getElem? (i := 878) (by decide +kernel)⟩
theorem lw_p40 : lw_okq (⟨"ChallengeAuthorityModel", "isAuth", "(I)Z"⟩, 36) := ⟨⟨by decide +kernel, by decide +kernel⟩, List.mem_of_getElem? (i := 675) (by decide +kernel), List.mem_of_getElem? (i := 885) (by decide +kernel), List.mem_of_getElem? (i := 886) (by decide +kernel)⟩
theorem lw_p41 : lw_okq (⟨"ChallengeAuthorityModel", "textDigest", "()I"⟩, 36) := ⟨⟨by decide +kernel, by decide +kernel⟩, List.mem_of_getElem? (i := 675) (by decide +kernel), List.mem_of_getElem? (i := 900) (by decide +kernel), List.mem_of_getElem? (i := 901) (by decide +kernel)⟩
theorem lw_p42 : lw_okq (⟨"ChallengeAuthorityModel", "readRequest", "()V"⟩, 36) := ⟨⟨by decide +kernel, by decide +kernel⟩, List.mem_of_getElem? (i := 675) (by decide +kernel), List.mem_of_getElem? (i := 908) (by decide +kernel), List.mem_of_getElem? (i := 909) (by decide +kernel)⟩
theorem lw_p43 : lw_okq (⟨"ChallengeAuthorityModel", "must", "(I)V"⟩, 36) := ⟨⟨by decide +kernel, by decide +kernel⟩, List.mem_of_getElem? (i := 675) (by decide +kernel), List.mem_of_getElem? (i := 912) (by decide +kernel), List.mem_of_getElem? (i := 913) (by decide +kernel)⟩
theorem lw_p44 : lw_okq (⟨"ChallengeAuthorityModel", "next", "()I"⟩, 36) := ⟨⟨by decide +kernel, by decide +kernel⟩, List.mem_of_getElem? (i := 675) (by decide +kernel), List.mem_of_getElem? (i := 916) (by decide +kernel), List.mem_of_getElem? (i := 917) (by decide +kernel)⟩
theorem lw_p45 : lw_okq (⟨"ChallengeAuthorityModel", "takeLength", "()I"⟩, 36) := ⟨⟨by decide +kernel, by decide +kernel⟩, List.mem_of_getElem? (i := 675) (by decide +kernel), List.mem_of_getElem? (i := 920) (by decide +kernel), List.mem_of_getElem? (i := 921) (by decide +kernel)⟩
theorem lw_p46 : lw_okq (⟨"ChallengeAuthorityModel", "takeNumber", "()I"⟩, 36) := ⟨⟨by decide +kernel, by decide +kernel⟩, List.mem_of_getElem? (i := 675) (by decide +kernel), List.mem_of_getElem? (i := 924) (by decide +kernel), List.mem_of_getElem? (i := 925) (by decide +kernel)⟩
theorem lw_p47 : lw_okq (⟨"ChallengeAuthorityModel", "may", "(II)Z"⟩, 36) := ⟨⟨by decide +kernel, by decide +kernel⟩, List.mem_of_getElem? (i := 675) (by decide +kernel), List.mem_of_getElem? (i := 936) (by decide +kernel), List.mem_of_getElem? (i := 937) (by decide +kernel)⟩
def lw_privs_3 : List (MethodName × Nat) := [(⟨"ChallengeAuthorityModel", "mixedDigest", "()I"⟩, 36), (⟨"ChallengeAuthorityModel", "find", "(I)I"⟩, 36), (⟨"ChallengeAuthorityModel", "holder", "(I)I"⟩, 36), (⟨"ChallengeAuthorityModel", "signed", "(IIII)I"⟩, 36), (⟨"ChallengeAuthorityModel", "fresh", "(II)I"⟩, 36), (⟨"ChallengeAuthorityModel", "valid", "(II)I"⟩, 36), (⟨"ChallengeAuthorityModel", "authorize", "(III)I"⟩, 36), (⟨"ChallengeAuthorityModel", "settle", "()V"⟩, 36), (⟨"ChallengeAuthorityModel", "isAuth", "(I)Z"⟩, 36), (⟨"ChallengeAuthorityModel", "textDigest", "()I"⟩, 36), (⟨"ChallengeAuthorityModel", "readRequest", "()V"⟩, 36), (⟨"ChallengeAuthorityModel", "must", "(I)V"⟩, 36), (⟨"ChallengeAuthorityModel", "next", "()I"⟩, 36), (⟨"ChallengeAuthorityModel", "takeLength", "()I"⟩, 36), (⟨"ChallengeAuthorityModel", "takeNumber", "()I"⟩, 36), (⟨"ChallengeAuthorityModel", "may", "(II)Z"⟩, 36)]
theorem lw_r3 : ∀ q ∈ lw_privs_3, lw_okq q := List.forall_mem_cons.mpr ⟨lw_p32, List.forall_mem_cons.mpr ⟨lw_p33, List.forall_mem_cons.mpr ⟨lw_p34, List.forall_mem_cons.mpr ⟨lw_p35, List.forall_mem_cons.mpr ⟨lw_p36, List.forall_mem_cons.mpr ⟨lw_p37, List.forall_mem_cons.mpr ⟨lw_p38, List.forall_mem_cons.mpr ⟨lw_p39, List.forall_mem_cons.mpr ⟨lw_p40, List.forall_mem_cons.mpr ⟨lw_p41, List.forall_mem_cons.mpr ⟨lw_p42, List.forall_mem_cons.mpr ⟨lw_p43, List.forall_mem_cons.mpr ⟨lw_p44, List.forall_mem_cons.mpr ⟨lw_p45, List.forall_mem_cons.mpr ⟨lw_p46, List.forall_mem_cons.mpr ⟨lw_p47, fun _ h => absurd h List.not_mem_nil⟩⟩⟩⟩⟩⟩⟩⟩⟩⟩⟩⟩⟩⟩⟩⟩
theorem lw_p48 : lw_okq (⟨"ChallengeAuthorityModel", "give", "(I)I"⟩, 36) := ⟨⟨by decide +kernel, by decide +kernel⟩, List.mem_of_getElem? (i := 675) (by decide +kernel), List.mem_of_getElem? (i := 944) (by decide +kernel), List.mem_of_getElem? (i := 945) (by decide +kernel)⟩
theorem lw_p49 : lw_okq (⟨"ChallengeAuthorityModel", "counted", "(I)I"⟩, 36) := ⟨⟨by decide +kernel, by decide +kernel⟩, List.mem_of_getElem? (i := 675) (by decide +kernel), List.mem_of_getElem? (i := 969) (by decide +kernel), List.mem_of_getElem? (i := 970) (by decide +kernel)⟩
theorem lw_p50 : lw_okq (⟨"ChallengeAuthorityModel", "look", "(II)V"⟩, 36) := ⟨⟨by decide +kernel, by decide +kernel⟩, List.mem_of_getElem? (i := 675) (by decide +kernel), List.mem_of_getElem? (i := 977) (by decide +kernel), List.mem_of_getElem? (i := 978) (by decide +kernel)⟩
theorem lw_p51 : lw_okq (⟨"ChallengeAuthorityModel", "ofAccount", "(II)I"⟩, 36) := ⟨⟨by decide +kernel, by decide +kernel⟩, List.mem_of_getElem? (i := 675) (by decide +kernel), List.mem_of_getElem? (i := 985) (by decide +kernel), List.mem_of_getElem? (i := 986) (by decide +kernel)⟩
theorem lw_p52 : lw_okq (⟨"ChallengeAuthorityModel", "ofOrder", "(II)I"⟩, 36) := ⟨⟨by decide +kernel, by decide +kernel⟩, List.mem_of_getElem? (i := 675) (by decide +kernel), List.mem_of_getElem? (i := 989) (by decide +kernel), List.mem_of_getElem? (i := 990) (by decide +kernel)⟩
theorem lw_p53 : lw_okq (⟨"ChallengeAuthorityModel", "ofPaper", "(II)I"⟩, 36) := ⟨⟨by decide +kernel, by decide +kernel⟩, List.mem_of_getElem? (i := 675) (by decide +kernel), List.mem_of_getElem? (i := 993) (by decide +kernel), List.mem_of_getElem? (i := 994) (by decide +kernel)⟩
def lw_privs_4 : List (MethodName × Nat) := [(⟨"ChallengeAuthorityModel", "give", "(I)I"⟩, 36), (⟨"ChallengeAuthorityModel", "counted", "(I)I"⟩, 36), (⟨"ChallengeAuthorityModel", "look", "(II)V"⟩, 36), (⟨"ChallengeAuthorityModel", "ofAccount", "(II)I"⟩, 36), (⟨"ChallengeAuthorityModel", "ofOrder", "(II)I"⟩, 36), (⟨"ChallengeAuthorityModel", "ofPaper", "(II)I"⟩, 36)]
theorem lw_r4 : ∀ q ∈ lw_privs_4, lw_okq q := List.forall_mem_cons.mpr ⟨lw_p48, List.forall_mem_cons.mpr ⟨lw_p49, List.forall_mem_cons.mpr ⟨lw_p50, List.forall_mem_cons.mpr ⟨lw_p51, List.forall_mem_cons.mpr ⟨lw_p52, List.forall_mem_cons.mpr ⟨lw_p53, fun _ h => absurd h List.not_mem_nil⟩⟩⟩⟩⟩⟩
def lw_privs : List (MethodName × Nat) := lw_privs_1 ++ (lw_privs_2 ++ (lw_privs_3 ++ (lw_privs_4)))
def lw_tbl : List Cond := k2_sels lw_privs ++ tables_1
theorem lw_privs_ok : ∀ q ∈ lw_privs, lw_okq q := by
  show ∀ q ∈ lw_privs_1 ++ (lw_privs_2 ++ (lw_privs_3 ++ (lw_privs_4))), lw_okq q
  exact List.forall_mem_append.mpr ⟨lw_r1, List.forall_mem_append.mpr ⟨lw_r2, List.forall_mem_append.mpr ⟨lw_r3, lw_r4⟩⟩⟩
end
section
abbrev c_CA_draw : ByteArray := prog_1_method_28_code
def y_CA_draw : MethodName := ⟨"ChallengeAuthority", "draw", "()I"⟩
abbrev c_Non_removeAt : ByteArray := prog_6_method_4_code
def y_Non_removeAt : MethodName := ⟨"ChallengeAuthority$Nonces", "removeAt", "(I)V"⟩
abbrev c_Non_putOut : ByteArray := prog_6_method_2_code
def y_Non_putOut : MethodName := ⟨"ChallengeAuthority$Nonces", "putOut", "(I)V"⟩
abbrev c_CA_nonce : ByteArray := prog_1_method_2_code
def y_CA_nonce : MethodName := ⟨"ChallengeAuthority", "nonce", "()I"⟩
abbrev c_CA_isKey : ByteArray := prog_1_method_21_code
def y_CA_isKey : MethodName := ⟨"ChallengeAuthority", "isKey", "(I)Z"⟩
abbrev c_CA_powerModulo : ByteArray := prog_1_method_22_code
def y_CA_powerModulo : MethodName := ⟨"ChallengeAuthority", "powerModulo", "(III)I"⟩
abbrev c_CA_power : ByteArray := prog_1_method_3_code
def y_CA_power : MethodName := ⟨"ChallengeAuthority", "power", "(III)I"⟩
abbrev c_CA_mix : ByteArray := prog_1_method_24_code
def y_CA_mix : MethodName := ⟨"ChallengeAuthority", "mix", "(JI)J"⟩
abbrev c_CA_digestEnd : ByteArray := prog_1_method_25_code
def y_CA_digestEnd : MethodName := ⟨"ChallengeAuthority", "digestEnd", "(J)I"⟩
abbrev c_CA_digest : ByteArray := prog_1_method_4_code
def y_CA_digest : MethodName := ⟨"ChallengeAuthority", "digest", "(IIIII)I"⟩
abbrev c_CA_isRight : ByteArray := prog_1_method_23_code
def y_CA_isRight : MethodName := ⟨"ChallengeAuthority", "isRight", "(III)Z"⟩
abbrev c_Non_takeBack : ByteArray := prog_6_method_3_code
def y_Non_takeBack : MethodName := ⟨"ChallengeAuthority$Nonces", "takeBack", "(I)Z"⟩
abbrev c_CA_accountWithKey : ByteArray := prog_1_method_30_code
def y_CA_accountWithKey : MethodName := ⟨"ChallengeAuthority", "accountWithKey", "(I)I"⟩
abbrev c_CA_makeAccount : ByteArray := prog_1_method_31_code
def y_CA_makeAccount : MethodName := ⟨"ChallengeAuthority", "makeAccount", "(I)I"⟩
abbrev c_CA_account : ByteArray := prog_1_method_5_code
def y_CA_account : MethodName := ⟨"ChallengeAuthority", "account", "(III)I"⟩
abbrev c_CA_acceptSigned : ByteArray := prog_1_method_29_code
def y_CA_acceptSigned : MethodName := ⟨"ChallengeAuthority", "acceptSigned", "(IIII)V"⟩
abbrev c_Int_bitCount : ByteArray := prog_15_method_49_code
def y_Int_bitCount : MethodName := ⟨"java/lang/Integer", "bitCount", "(I)I"⟩
abbrev c_CA_canBeOrdered : ByteArray := prog_1_method_27_code
def y_CA_canBeOrdered : MethodName := ⟨"ChallengeAuthority", "canBeOrdered", "(I)Z"⟩
abbrev c_CA_hasName : ByteArray := prog_1_method_26_code
def y_CA_hasName : MethodName := ⟨"ChallengeAuthority", "hasName", "(II)Z"⟩
abbrev c_CA_newestValid : ByteArray := prog_1_method_32_code
def y_CA_newestValid : MethodName := ⟨"ChallengeAuthority", "newestValid", "(II)I"⟩
abbrev c_CA_missingAuthorizations : ByteArray := prog_1_method_33_code
def y_CA_missingAuthorizations : MethodName := ⟨"ChallengeAuthority", "missingAuthorizations", "(II)I"⟩
abbrev c_CA_makeAuthorization : ByteArray := prog_1_method_35_code
def y_CA_makeAuthorization : MethodName := ⟨"ChallengeAuthority", "makeAuthorization", "(III)I"⟩
abbrev c_Ord_attach : ByteArray := prog_7_method_3_code
def y_Ord_attach : MethodName := ⟨"ChallengeAuthority$Order", "attach", "(I)V"⟩
abbrev c_CA_makeOrder : ByteArray := prog_1_method_34_code
def y_CA_makeOrder : MethodName := ⟨"ChallengeAuthority", "makeOrder", "(III)I"⟩
abbrev c_Ord_isOpen : ByteArray := prog_7_method_2_code
def y_Ord_isOpen : MethodName := ⟨"ChallengeAuthority$Order", "isOpen", "()Z"⟩
abbrev c_Aut_isLive : ByteArray := prog_3_method_2_code
def y_Aut_isLive : MethodName := ⟨"ChallengeAuthority$Authorization", "isLive", "()Z"⟩
abbrev c_CA_settle : ByteArray := prog_1_method_43_code
def y_CA_settle : MethodName := ⟨"ChallengeAuthority", "settle", "(LChallengeAuthority$Order;)V"⟩
abbrev c_CA_settleOrders : ByteArray := prog_1_method_42_code
def y_CA_settleOrders : MethodName := ⟨"ChallengeAuthority", "settleOrders", "()V"⟩
abbrev c_CA_order : ByteArray := prog_1_method_6_code
def y_CA_order : MethodName := ⟨"ChallengeAuthority", "order", "(IIIII)I"⟩
abbrev c_CA_challengeOf : ByteArray := prog_1_method_36_code
def y_CA_challengeOf : MethodName := ⟨"ChallengeAuthority", "challengeOf", "(II)LChallengeAuthority$Challenge;"⟩
abbrev c_CA_answer : ByteArray := prog_1_method_7_code
def y_CA_answer : MethodName := ⟨"ChallengeAuthority", "answer", "(IIIII)I"⟩
abbrev c_CA_countWrong : ByteArray := prog_1_method_37_code
def y_CA_countWrong : MethodName := ⟨"ChallengeAuthority", "countWrong", "(LChallengeAuthority$Challenge;LChallengeAuthority$Authorization;)V"⟩
abbrev c_CA_probe : ByteArray := prog_1_method_8_code
def y_CA_probe : MethodName := ⟨"ChallengeAuthority", "probe", "(III)I"⟩
abbrev c_CA_csr : ByteArray := prog_1_method_16_code
def y_CA_csr : MethodName := ⟨"ChallengeAuthority", "csr", "()I"⟩
abbrev c_Req_readByte : ByteArray := prog_8_method_9_code
def y_Req_readByte : MethodName := ⟨"ChallengeAuthority$Request", "readByte", "(LChallengeAuthority$Text;I)I"⟩
abbrev c_Req_skipTag : ByteArray := prog_8_method_7_code
def y_Req_skipTag : MethodName := ⟨"ChallengeAuthority$Request", "skipTag", "(LChallengeAuthority$Text;II)V"⟩
abbrev c_Req_readLength : ByteArray := prog_8_method_8_code
def y_Req_readLength : MethodName := ⟨"ChallengeAuthority$Request", "readLength", "(LChallengeAuthority$Text;I)I"⟩
abbrev c_Req_readRowEnd : ByteArray := prog_8_method_6_code
def y_Req_readRowEnd : MethodName := ⟨"ChallengeAuthority$Request", "readRowEnd", "(LChallengeAuthority$Text;I)I"⟩
abbrev c_Req_readNumber : ByteArray := prog_8_method_5_code
def y_Req_readNumber : MethodName := ⟨"ChallengeAuthority$Request", "readNumber", "(LChallengeAuthority$Text;I)I"⟩
abbrev c_Req_readNames : ByteArray := prog_8_method_4_code
def y_Req_readNames : MethodName := ⟨"ChallengeAuthority$Request", "readNames", "(LChallengeAuthority$Text;I)I"⟩
abbrev c_Req_signedDigest : ByteArray := prog_8_method_3_code
def y_Req_signedDigest : MethodName := ⟨"ChallengeAuthority$Request", "signedDigest", "()I"⟩
abbrev c_Req_readFrom : ByteArray := prog_8_method_2_code
def y_Req_readFrom : MethodName := ⟨"ChallengeAuthority$Request", "readFrom", "(LChallengeAuthority$Text;)Z"⟩
abbrev c_CA_makeCertificate : ByteArray := prog_1_method_38_code
def y_CA_makeCertificate : MethodName := ⟨"ChallengeAuthority", "makeCertificate", "(III)I"⟩
abbrev c_CA_finish : ByteArray := prog_1_method_9_code
def y_CA_finish : MethodName := ⟨"ChallengeAuthority", "finish", "(IIII)I"⟩
abbrev c_CA_publish : ByteArray := prog_1_method_10_code
def y_CA_publish : MethodName := ⟨"ChallengeAuthority", "publish", "()I"⟩
abbrev c_CA_goodCertificates : ByteArray := prog_1_method_39_code
def y_CA_goodCertificates : MethodName := ⟨"ChallengeAuthority", "goodCertificates", "()I"⟩
abbrev c_CA_revoke : ByteArray := prog_1_method_11_code
def y_CA_revoke : MethodName := ⟨"ChallengeAuthority", "revoke", "(IIIII)I"⟩
abbrev c_CA_closeAccount : ByteArray := prog_1_method_40_code
def y_CA_closeAccount : MethodName := ⟨"ChallengeAuthority", "closeAccount", "(I)I"⟩
abbrev c_CA_deactivateOne : ByteArray := prog_1_method_41_code
def y_CA_deactivateOne : MethodName := ⟨"ChallengeAuthority", "deactivateOne", "(II)I"⟩
abbrev c_CA_deactivate : ByteArray := prog_1_method_12_code
def y_CA_deactivate : MethodName := ⟨"ChallengeAuthority", "deactivate", "(IIII)I"⟩
abbrev c_CA_rollover : ByteArray := prog_1_method_13_code
def y_CA_rollover : MethodName := ⟨"ChallengeAuthority", "rollover", "(IIIII)I"⟩
abbrev c_Txt_append : ByteArray := prog_9_method_2_code
def y_Txt_append : MethodName := ⟨"ChallengeAuthority$Text", "append", "(JI)Z"⟩
abbrev c_CA_feed : ByteArray := prog_1_method_14_code
def y_CA_feed : MethodName := ⟨"ChallengeAuthority", "feed", "(JI)Z"⟩
abbrev c_CA_clear : ByteArray := prog_1_method_15_code
def y_CA_clear : MethodName := ⟨"ChallengeAuthority", "clear", "()I"⟩
abbrev c_Aut_expireAt : ByteArray := prog_3_method_3_code
def y_Aut_expireAt : MethodName := ⟨"ChallengeAuthority$Authorization", "expireAt", "(I)V"⟩
abbrev c_Ord_expireAt : ByteArray := prog_7_method_4_code
def y_Ord_expireAt : MethodName := ⟨"ChallengeAuthority$Order", "expireAt", "(I)V"⟩
abbrev c_CA_tick : ByteArray := prog_1_method_17_code
def y_CA_tick : MethodName := ⟨"ChallengeAuthority", "tick", "(I)I"⟩
abbrev c_CA_there : ByteArray := prog_1_method_18_code
def y_CA_there : MethodName := ⟨"ChallengeAuthority", "there", "(I)I"⟩
abbrev c_CA_requireThere : ByteArray := prog_1_method_44_code
def y_CA_requireThere : MethodName := ⟨"ChallengeAuthority", "requireThere", "(II)V"⟩
abbrev c_CA_state : ByteArray := prog_1_method_19_code
def y_CA_state : MethodName := ⟨"ChallengeAuthority", "state", "(II)I"⟩
abbrev c_CA_ordersOf : ByteArray := prog_1_method_46_code
def y_CA_ordersOf : MethodName := ⟨"ChallengeAuthority", "ordersOf", "(I)I"⟩
abbrev c_CA_accountDetail : ByteArray := prog_1_method_45_code
def y_CA_accountDetail : MethodName := ⟨"ChallengeAuthority", "accountDetail", "(II)I"⟩
abbrev c_Ord_authorizationTold : ByteArray := prog_7_method_6_code
def y_Ord_authorizationTold : MethodName := ⟨"ChallengeAuthority$Order", "authorizationTold", "(I)I"⟩
abbrev c_Ord_told : ByteArray := prog_7_method_5_code
def y_Ord_told : MethodName := ⟨"ChallengeAuthority$Order", "told", "(I)I"⟩
abbrev c_Aut_told : ByteArray := prog_3_method_4_code
def y_Aut_told : MethodName := ⟨"ChallengeAuthority$Authorization", "told", "(I)I"⟩
abbrev c_Cha_told : ByteArray := prog_5_method_2_code
def y_Cha_told : MethodName := ⟨"ChallengeAuthority$Challenge", "told", "(I)I"⟩
abbrev c_Cer_told : ByteArray := prog_4_method_2_code
def y_Cer_told : MethodName := ⟨"ChallengeAuthority$Certificate", "told", "(I)I"⟩
abbrev c_CA_detail : ByteArray := prog_1_method_20_code
def y_CA_detail : MethodName := ⟨"ChallengeAuthority", "detail", "(III)I"⟩
abbrev c_MO_thrown : ByteArray := prog_11_method_2_code
def y_MO_thrown : MethodName := ⟨"ChallengeAuthorityModel", "thrown", "()I"⟩
abbrev c_MO_draw : ByteArray := prog_11_method_3_code
def y_MO_draw : MethodName := ⟨"ChallengeAuthorityModel", "draw", "()I"⟩
abbrev c_MO_isKey : ByteArray := prog_11_method_4_code
def y_MO_isKey : MethodName := ⟨"ChallengeAuthorityModel", "isKey", "(I)Z"⟩
abbrev c_MO_mix : ByteArray := prog_11_method_5_code
def y_MO_mix : MethodName := ⟨"ChallengeAuthorityModel", "mix", "(I)V"⟩
abbrev c_MO_mixedDigest : ByteArray := prog_11_method_6_code
def y_MO_mixedDigest : MethodName := ⟨"ChallengeAuthorityModel", "mixedDigest", "()I"⟩
abbrev c_MO_five : ByteArray := prog_11_method_7_code
def y_MO_five : MethodName := ⟨"ChallengeAuthorityModel", "five", "(IIIII)I"⟩
abbrev c_MO_raised : ByteArray := prog_11_method_8_code
def y_MO_raised : MethodName := ⟨"ChallengeAuthorityModel", "raised", "(JII)J"⟩
abbrev c_MO_isRight : ByteArray := prog_11_method_9_code
def y_MO_isRight : MethodName := ⟨"ChallengeAuthorityModel", "isRight", "(III)Z"⟩
abbrev c_MO_take : ByteArray := prog_11_method_11_code
def y_MO_take : MethodName := ⟨"ChallengeAuthorityModel", "take", "(I)V"⟩
abbrev c_MO_nonce : ByteArray := prog_11_method_10_code
def y_MO_nonce : MethodName := ⟨"ChallengeAuthorityModel", "nonce", "()I"⟩
abbrev c_MO_find : ByteArray := prog_11_method_12_code
def y_MO_find : MethodName := ⟨"ChallengeAuthorityModel", "find", "(I)I"⟩
abbrev c_MO_power : ByteArray := prog_11_method_13_code
def y_MO_power : MethodName := ⟨"ChallengeAuthorityModel", "power", "(III)I"⟩
abbrev c_MO_digest : ByteArray := prog_11_method_14_code
def y_MO_digest : MethodName := ⟨"ChallengeAuthorityModel", "digest", "(IIIII)I"⟩
abbrev c_MO_signed : ByteArray := prog_11_method_15_code
def y_MO_signed : MethodName := ⟨"ChallengeAuthorityModel", "signed", "(IIII)I"⟩
abbrev c_MO_holder : ByteArray := prog_11_method_16_code
def y_MO_holder : MethodName := ⟨"ChallengeAuthorityModel", "holder", "(I)I"⟩
abbrev c_MO_account : ByteArray := prog_11_method_17_code
def y_MO_account : MethodName := ⟨"ChallengeAuthorityModel", "account", "(III)I"⟩
abbrev c_MO_settle : ByteArray := prog_11_method_18_code
def y_MO_settle : MethodName := ⟨"ChallengeAuthorityModel", "settle", "()V"⟩
abbrev c_MO_valid : ByteArray := prog_11_method_19_code
def y_MO_valid : MethodName := ⟨"ChallengeAuthorityModel", "valid", "(II)I"⟩
abbrev c_MO_has : ByteArray := prog_11_method_20_code
def y_MO_has : MethodName := ⟨"ChallengeAuthorityModel", "has", "(II)Z"⟩
abbrev c_MO_many : ByteArray := prog_11_method_21_code
def y_MO_many : MethodName := ⟨"ChallengeAuthorityModel", "many", "(I)I"⟩
abbrev c_MO_authorize : ByteArray := prog_11_method_22_code
def y_MO_authorize : MethodName := ⟨"ChallengeAuthorityModel", "authorize", "(III)I"⟩
abbrev c_MO_fresh : ByteArray := prog_11_method_23_code
def y_MO_fresh : MethodName := ⟨"ChallengeAuthorityModel", "fresh", "(II)I"⟩
abbrev c_MO_order : ByteArray := prog_11_method_24_code
def y_MO_order : MethodName := ⟨"ChallengeAuthorityModel", "order", "(IIIII)I"⟩
abbrev c_MO_isAuth : ByteArray := prog_11_method_25_code
def y_MO_isAuth : MethodName := ⟨"ChallengeAuthorityModel", "isAuth", "(I)Z"⟩
abbrev c_MO_isWhich : ByteArray := prog_11_method_26_code
def y_MO_isWhich : MethodName := ⟨"ChallengeAuthorityModel", "isWhich", "(I)Z"⟩
abbrev c_MO_answer : ByteArray := prog_11_method_27_code
def y_MO_answer : MethodName := ⟨"ChallengeAuthorityModel", "answer", "(IIIII)I"⟩
abbrev c_MO_probe : ByteArray := prog_11_method_28_code
def y_MO_probe : MethodName := ⟨"ChallengeAuthorityModel", "probe", "(III)I"⟩
abbrev c_MO_next : ByteArray := prog_11_method_29_code
def y_MO_next : MethodName := ⟨"ChallengeAuthorityModel", "next", "()I"⟩
abbrev c_MO_must : ByteArray := prog_11_method_30_code
def y_MO_must : MethodName := ⟨"ChallengeAuthorityModel", "must", "(I)V"⟩
abbrev c_MO_takeLength : ByteArray := prog_11_method_31_code
def y_MO_takeLength : MethodName := ⟨"ChallengeAuthorityModel", "takeLength", "()I"⟩
abbrev c_MO_takeNumber : ByteArray := prog_11_method_32_code
def y_MO_takeNumber : MethodName := ⟨"ChallengeAuthorityModel", "takeNumber", "()I"⟩
abbrev c_MO_readRequest : ByteArray := prog_11_method_33_code
def y_MO_readRequest : MethodName := ⟨"ChallengeAuthorityModel", "readRequest", "()V"⟩
abbrev c_MO_textDigest : ByteArray := prog_11_method_34_code
def y_MO_textDigest : MethodName := ⟨"ChallengeAuthorityModel", "textDigest", "()I"⟩
abbrev c_MO_csr : ByteArray := prog_11_method_35_code
def y_MO_csr : MethodName := ⟨"ChallengeAuthorityModel", "csr", "()I"⟩
abbrev c_MO_finish : ByteArray := prog_11_method_36_code
def y_MO_finish : MethodName := ⟨"ChallengeAuthorityModel", "finish", "(IIII)I"⟩
abbrev c_MO_publish : ByteArray := prog_11_method_37_code
def y_MO_publish : MethodName := ⟨"ChallengeAuthorityModel", "publish", "()I"⟩
abbrev c_MO_may : ByteArray := prog_11_method_38_code
def y_MO_may : MethodName := ⟨"ChallengeAuthorityModel", "may", "(II)Z"⟩
abbrev c_MO_revoke : ByteArray := prog_11_method_39_code
def y_MO_revoke : MethodName := ⟨"ChallengeAuthorityModel", "revoke", "(IIIII)I"⟩
abbrev c_MO_give : ByteArray := prog_11_method_40_code
def y_MO_give : MethodName := ⟨"ChallengeAuthorityModel", "give", "(I)I"⟩
abbrev c_MO_deactivate : ByteArray := prog_11_method_41_code
def y_MO_deactivate : MethodName := ⟨"ChallengeAuthorityModel", "deactivate", "(IIII)I"⟩
abbrev c_MO_rollover : ByteArray := prog_11_method_42_code
def y_MO_rollover : MethodName := ⟨"ChallengeAuthorityModel", "rollover", "(IIIII)I"⟩
abbrev c_MO_feed : ByteArray := prog_11_method_43_code
def y_MO_feed : MethodName := ⟨"ChallengeAuthorityModel", "feed", "(JI)Z"⟩
abbrev c_MO_clear : ByteArray := prog_11_method_44_code
def y_MO_clear : MethodName := ⟨"ChallengeAuthorityModel", "clear", "()I"⟩
abbrev c_MO_tick : ByteArray := prog_11_method_45_code
def y_MO_tick : MethodName := ⟨"ChallengeAuthorityModel", "tick", "(I)I"⟩
abbrev c_MO_counted : ByteArray := prog_11_method_46_code
def y_MO_counted : MethodName := ⟨"ChallengeAuthorityModel", "counted", "(I)I"⟩
abbrev c_MO_there : ByteArray := prog_11_method_47_code
def y_MO_there : MethodName := ⟨"ChallengeAuthorityModel", "there", "(I)I"⟩
abbrev c_MO_look : ByteArray := prog_11_method_48_code
def y_MO_look : MethodName := ⟨"ChallengeAuthorityModel", "look", "(II)V"⟩
abbrev c_MO_state : ByteArray := prog_11_method_49_code
def y_MO_state : MethodName := ⟨"ChallengeAuthorityModel", "state", "(II)I"⟩
abbrev c_MO_ofAccount : ByteArray := prog_11_method_50_code
def y_MO_ofAccount : MethodName := ⟨"ChallengeAuthorityModel", "ofAccount", "(II)I"⟩
abbrev c_MO_ofOrder : ByteArray := prog_11_method_51_code
def y_MO_ofOrder : MethodName := ⟨"ChallengeAuthorityModel", "ofOrder", "(II)I"⟩
abbrev c_MO_ofPaper : ByteArray := prog_11_method_52_code
def y_MO_ofPaper : MethodName := ⟨"ChallengeAuthorityModel", "ofPaper", "(II)I"⟩
abbrev c_MO_detail : ByteArray := prog_11_method_53_code
def y_MO_detail : MethodName := ⟨"ChallengeAuthorityModel", "detail", "(III)I"⟩
def y_Non_init : MethodName := ⟨"ChallengeAuthority$Nonces", "<init>", "()V"⟩
def y_Txt_init : MethodName := ⟨"ChallengeAuthority$Text", "<init>", "()V"⟩
def y_Req_init : MethodName := ⟨"ChallengeAuthority$Request", "<init>", "()V"⟩
def y_Acc_init : MethodName := ⟨"ChallengeAuthority$Account", "<init>", "()V"⟩
def y_Ord_init : MethodName := ⟨"ChallengeAuthority$Order", "<init>", "()V"⟩
def y_Aut_init : MethodName := ⟨"ChallengeAuthority$Authorization", "<init>", "()V"⟩
def y_Cha_init : MethodName := ⟨"ChallengeAuthority$Challenge", "<init>", "()V"⟩
def y_Cer_init : MethodName := ⟨"ChallengeAuthority$Certificate", "<init>", "()V"⟩
theorem tb_1 {w : Cond} (h : w ∈ tables_1_1) : w ∈ tables_1 := by
  unfold tables_1
  simp only [List.mem_append, h, true_or, or_true]
theorem tb_2 {w : Cond} (h : w ∈ tables_1_2) : w ∈ tables_1 := by
  unfold tables_1
  simp only [List.mem_append, h, true_or, or_true]
theorem tb_3 {w : Cond} (h : w ∈ tables_1_3) : w ∈ tables_1 := by
  unfold tables_1
  simp only [List.mem_append, h, true_or, or_true]
theorem tb_4 {w : Cond} (h : w ∈ tables_1_4) : w ∈ tables_1 := by
  unfold tables_1
  simp only [List.mem_append, h, true_or, or_true]
theorem tb_5 {w : Cond} (h : w ∈ tables_1_5) : w ∈ tables_1 := by
  unfold tables_1
  simp only [List.mem_append, h, true_or, or_true]
def GW : List Cond := lw_tbl.filter goodWord
theorem gw_t {w : Cond} (h : w ∈ tables_1) (g : goodWord w = true) : w ∈ GW := List.mem_filter.mpr ⟨List.mem_append_right _ h, g⟩
theorem gw_p {w : Cond} (h : w ∈ k2_sels lw_privs) (g : goodWord w = true) : w ∈ GW := List.mem_filter.mpr ⟨List.mem_append_left _ h, g⟩
theorem gw_ok {w : Cond} (h : w ∈ GW) : (w.onTables && w.keeps) = true ∨ ∃ ty, w = .arrayClass ty := good_of_word (List.mem_filter.mp h).2
theorem gN {y : MethodName} {b : ByteArray} {n : Nat} {r : Option FieldType} (h : Cond.code y b n r ∈ GW) : GoodIn GW (Cond.code y b n r :: GW) := fun w hw => by
  rcases List.mem_cons.mp hw with rfl | hw
  · exact ⟨h, gw_ok h⟩
  · exact ⟨hw, gw_ok hw⟩
theorem gS {own : String} {idx : Nat} {y : MethodName} {b : ByteArray} {n : Nat} {r : Option FieldType} (h1 : Cond.methodLink own idx y ∈ GW) (h2 : Cond.static y ∈ GW) (h3 : Cond.initialized y.cls ∈ GW) (h : Cond.code y b n r ∈ GW) : GoodIn GW (va_wsS own idx y (Cond.code y b n r :: GW)) := fun w hw => by
  rcases List.mem_append.mp hw with hw | hw
  · simp only [List.mem_cons, List.not_mem_nil, or_false] at hw
    rcases hw with rfl | rfl | rfl
    · exact ⟨h1, gw_ok h1⟩
    · exact ⟨h2, gw_ok h2⟩
    · exact ⟨h3, gw_ok h3⟩
  · exact gN h w hw
theorem gV {own C : String} {idx : Nat} {y : MethodName} {b : ByteArray} {n : Nat} {r : Option FieldType} (h1 : Cond.methodLink own idx y ∈ GW) (h2 : Cond.instanceMethod y ∈ GW) (h3 : Cond.selects C y y ∈ GW) (h4 : Cond.initialized C ∈ GW) (h : Cond.code y b n r ∈ GW) : GoodIn GW (wsV own idx C y (Cond.code y b n r :: GW)) := fun w hw => by
  rcases List.mem_append.mp hw with hw | hw
  · simp only [List.mem_cons, List.not_mem_nil, or_false] at hw
    rcases hw with rfl | rfl | rfl | rfl
    · exact ⟨h1, gw_ok h1⟩
    · exact ⟨h2, gw_ok h2⟩
    · exact ⟨h3, gw_ok h3⟩
    · exact ⟨h4, gw_ok h4⟩
  · exact gN h w hw
end
section
theorem gw_0 : Cond.fieldLink "ChallengeAuthority" 60 "ChallengeAuthority" "drawState" "I" ∈ GW := gw_t (tb_1 (List.mem_of_getElem? (i := 204) rfl)) rfl
theorem gw_1 : Cond.constant "ChallengeAuthority" 256 1103515245 ∈ GW := gw_t (tb_2 (List.mem_of_getElem? (i := 15) rfl)) rfl
theorem gw_2 : Cond.fieldLink "ChallengeAuthority$Nonces" 15 "ChallengeAuthority$Nonces" "count" "I" ∈ GW := gw_t (tb_1 (List.mem_of_getElem? (i := 43) rfl)) rfl
theorem gw_3 : Cond.fieldLink "ChallengeAuthority$Nonces" 9 "ChallengeAuthority$Nonces" "out" "[I" ∈ GW := gw_t (tb_1 (List.mem_of_getElem? (i := 45) rfl)) rfl
theorem gw_4 : Cond.code y_Non_removeAt prog_6_method_4_code 3 (Option.none : Option Jvm.ClassFile.FieldType) ∈ GW := gw_t (tb_2 (List.mem_of_getElem? (i := 23) rfl)) rfl
theorem gw_5 : Cond.methodLink "ChallengeAuthority$Nonces" 19 y_Non_removeAt ∈ GW := gw_t (tb_2 (List.mem_of_getElem? (i := 20) rfl)) rfl
theorem gw_6 : Cond.instanceMethod y_Non_removeAt ∈ GW := gw_t (tb_2 (List.mem_of_getElem? (i := 22) rfl)) rfl
theorem gw_7 : Cond.selects "ChallengeAuthority$Nonces" y_Non_removeAt y_Non_removeAt ∈ GW := gw_p (List.mem_of_getElem? (i := 1) rfl) rfl
theorem gw_8 : Cond.initialized "ChallengeAuthority$Nonces" ∈ GW := gw_t (tb_1 (List.mem_of_getElem? (i := 2) rfl)) rfl
theorem gw_9 : Cond.code y_CA_draw prog_1_method_28_code 1 (Option.some Jvm.ClassFile.FieldType.int) ∈ GW := gw_t (tb_2 (List.mem_of_getElem? (i := 14) rfl)) rfl
theorem gw_10 : Cond.methodLink "ChallengeAuthority" 69 y_CA_draw ∈ GW := gw_t (tb_2 (List.mem_of_getElem? (i := 11) rfl)) rfl
theorem gw_11 : Cond.instanceMethod y_CA_draw ∈ GW := gw_t (tb_2 (List.mem_of_getElem? (i := 13) rfl)) rfl
theorem gw_12 : Cond.selects "ChallengeAuthority" y_CA_draw y_CA_draw ∈ GW := gw_p (List.mem_of_getElem? (i := 0) rfl) rfl
theorem gw_13 : Cond.initialized "ChallengeAuthority" ∈ GW := gw_t (tb_1 (List.mem_of_getElem? (i := 1) rfl)) rfl
theorem gw_14 : Cond.fieldLink "ChallengeAuthority" 42 "ChallengeAuthority" "nonces" "LChallengeAuthority$Nonces;" ∈ GW := gw_t (tb_1 (List.mem_of_getElem? (i := 215) rfl)) rfl
theorem gw_15 : Cond.code y_Non_putOut prog_6_method_2_code 2 (Option.none : Option Jvm.ClassFile.FieldType) ∈ GW := gw_t (tb_2 (List.mem_of_getElem? (i := 19) rfl)) rfl
theorem gw_16 : Cond.methodLink "ChallengeAuthority" 73 y_Non_putOut ∈ GW := gw_t (tb_2 (List.mem_of_getElem? (i := 16) rfl)) rfl
theorem gw_17 : Cond.instanceMethod y_Non_putOut ∈ GW := gw_t (tb_2 (List.mem_of_getElem? (i := 17) rfl)) rfl
theorem gw_18 : Cond.selects "ChallengeAuthority$Nonces" y_Non_putOut y_Non_putOut ∈ GW := gw_t (tb_2 (List.mem_of_getElem? (i := 18) rfl)) rfl
theorem gw_19 : Cond.code y_CA_isKey prog_1_method_21_code 1 (Option.some Jvm.ClassFile.FieldType.boolean) ∈ GW := gw_t (tb_2 (List.mem_of_getElem? (i := 30) rfl)) rfl
theorem gw_20 : Cond.methodLink "ChallengeAuthority" 77 y_CA_isKey ∈ GW := gw_t (tb_2 (List.mem_of_getElem? (i := 28) rfl)) rfl
theorem gw_21 : Cond.static y_CA_isKey ∈ GW := gw_t (tb_2 (List.mem_of_getElem? (i := 29) rfl)) rfl
theorem gw_22 : Cond.code y_CA_powerModulo prog_1_method_22_code 6 (Option.some Jvm.ClassFile.FieldType.int) ∈ GW := gw_t (tb_2 (List.mem_of_getElem? (i := 33) rfl)) rfl
theorem gw_23 : Cond.methodLink "ChallengeAuthority" 81 y_CA_powerModulo ∈ GW := gw_t (tb_2 (List.mem_of_getElem? (i := 31) rfl)) rfl
theorem gw_24 : Cond.static y_CA_powerModulo ∈ GW := gw_t (tb_2 (List.mem_of_getElem? (i := 32) rfl)) rfl
theorem gw_25 : Cond.constantLong "ChallengeAuthority" 248 (-7046029254386353131) ∈ GW := gw_t (tb_2 (List.mem_of_getElem? (i := 41) rfl)) rfl
theorem gw_26 : Cond.code y_CA_mix prog_1_method_24_code 5 (Option.some Jvm.ClassFile.FieldType.long) ∈ GW := gw_t (tb_2 (List.mem_of_getElem? (i := 40) rfl)) rfl
theorem gw_27 : Cond.methodLink "ChallengeAuthority" 85 y_CA_mix ∈ GW := gw_t (tb_2 (List.mem_of_getElem? (i := 38) rfl)) rfl
theorem gw_28 : Cond.static y_CA_mix ∈ GW := gw_t (tb_2 (List.mem_of_getElem? (i := 39) rfl)) rfl
theorem gw_29 : Cond.code y_CA_digestEnd prog_1_method_25_code 2 (Option.some Jvm.ClassFile.FieldType.int) ∈ GW := gw_t (tb_2 (List.mem_of_getElem? (i := 44) rfl)) rfl
theorem gw_30 : Cond.methodLink "ChallengeAuthority" 89 y_CA_digestEnd ∈ GW := gw_t (tb_2 (List.mem_of_getElem? (i := 42) rfl)) rfl
theorem gw_31 : Cond.static y_CA_digestEnd ∈ GW := gw_t (tb_2 (List.mem_of_getElem? (i := 43) rfl)) rfl
theorem gw_32 : Cond.fieldLink "ChallengeAuthority" 114 "ChallengeAuthority" "accountCount" "I" ∈ GW := gw_t (tb_1 (List.mem_of_getElem? (i := 206) rfl)) rfl
theorem gw_33 : Cond.fieldLink "ChallengeAuthority" 11 "ChallengeAuthority" "accounts" "[LChallengeAuthority$Account;" ∈ GW := gw_t (tb_1 (List.mem_of_getElem? (i := 210) rfl)) rfl
theorem gw_34 : Cond.fieldLink "ChallengeAuthority" 164 "ChallengeAuthority$Account" "key" "I" ∈ GW := gw_t (tb_1 (List.mem_of_getElem? (i := 96) rfl)) rfl
theorem gw_35 : Cond.code y_CA_makeAccount prog_1_method_31_code 2 (Option.some Jvm.ClassFile.FieldType.int) ∈ GW := gw_t (tb_2 (List.mem_of_getElem? (i := 191) rfl)) rfl
theorem gw_36 : Cond.methodLink "ChallengeAuthority" 123 y_CA_makeAccount ∈ GW := gw_t (tb_2 (List.mem_of_getElem? (i := 188) rfl)) rfl
theorem gw_37 : Cond.instanceMethod y_CA_makeAccount ∈ GW := gw_t (tb_2 (List.mem_of_getElem? (i := 190) rfl)) rfl
theorem gw_38 : Cond.selects "ChallengeAuthority" y_CA_makeAccount y_CA_makeAccount ∈ GW := gw_p (List.mem_of_getElem? (i := 4) rfl) rfl
theorem gw_39 : Cond.classLink "ChallengeAuthority" 93 "java/lang/IllegalArgumentException" ∈ GW := gw_t (tb_2 (List.mem_of_getElem? (i := 82) rfl)) rfl
theorem gw_40 : Cond.initialized "java/lang/IllegalArgumentException" ∈ GW := gw_t (tb_1 (List.mem_of_getElem? (i := 14) rfl)) rfl
theorem gw_41 : Cond.instantiable "java/lang/IllegalArgumentException" 6 ∈ GW := gw_t (tb_2 (List.mem_of_getElem? (i := 83) rfl)) rfl
theorem gw_42 : Cond.code y_CA_digest prog_1_method_4_code 6 (Option.some Jvm.ClassFile.FieldType.int) ∈ GW := gw_t (tb_2 (List.mem_of_getElem? (i := 37) rfl)) rfl
theorem gw_43 : Cond.methodLink "ChallengeAuthority" 96 y_CA_digest ∈ GW := gw_t (tb_2 (List.mem_of_getElem? (i := 146) rfl)) rfl
theorem gw_44 : Cond.instanceMethod y_CA_digest ∈ GW := gw_t (tb_2 (List.mem_of_getElem? (i := 35) rfl)) rfl
theorem gw_45 : Cond.selects "ChallengeAuthority" y_CA_digest y_CA_digest ∈ GW := gw_t (tb_2 (List.mem_of_getElem? (i := 36) rfl)) rfl
theorem gw_46 : Cond.code y_CA_isRight prog_1_method_23_code 3 (Option.some Jvm.ClassFile.FieldType.boolean) ∈ GW := gw_t (tb_2 (List.mem_of_getElem? (i := 149) rfl)) rfl
theorem gw_47 : Cond.methodLink "ChallengeAuthority" 100 y_CA_isRight ∈ GW := gw_t (tb_2 (List.mem_of_getElem? (i := 147) rfl)) rfl
theorem gw_48 : Cond.static y_CA_isRight ∈ GW := gw_t (tb_2 (List.mem_of_getElem? (i := 148) rfl)) rfl
theorem gw_49 : Cond.classLink "ChallengeAuthority" 104 "java/lang/UnsupportedOperationException" ∈ GW := gw_t (tb_2 (List.mem_of_getElem? (i := 150) rfl)) rfl
theorem gw_50 : Cond.initialized "java/lang/UnsupportedOperationException" ∈ GW := gw_t (tb_1 (List.mem_of_getElem? (i := 15) rfl)) rfl
theorem gw_51 : Cond.instantiable "java/lang/UnsupportedOperationException" 6 ∈ GW := gw_t (tb_2 (List.mem_of_getElem? (i := 151) rfl)) rfl
theorem gw_52 : Cond.code y_Non_takeBack prog_6_method_3_code 3 (Option.some Jvm.ClassFile.FieldType.boolean) ∈ GW := gw_t (tb_2 (List.mem_of_getElem? (i := 168) rfl)) rfl
theorem gw_53 : Cond.methodLink "ChallengeAuthority" 107 y_Non_takeBack ∈ GW := gw_t (tb_2 (List.mem_of_getElem? (i := 165) rfl)) rfl
theorem gw_54 : Cond.instanceMethod y_Non_takeBack ∈ GW := gw_t (tb_2 (List.mem_of_getElem? (i := 166) rfl)) rfl
theorem gw_55 : Cond.selects "ChallengeAuthority$Nonces" y_Non_takeBack y_Non_takeBack ∈ GW := gw_t (tb_2 (List.mem_of_getElem? (i := 167) rfl)) rfl
theorem gw_56 : Cond.code y_CA_accountWithKey prog_1_method_30_code 3 (Option.some Jvm.ClassFile.FieldType.int) ∈ GW := gw_t (tb_2 (List.mem_of_getElem? (i := 172) rfl)) rfl
theorem gw_57 : Cond.methodLink "ChallengeAuthority" 110 y_CA_accountWithKey ∈ GW := gw_t (tb_2 (List.mem_of_getElem? (i := 169) rfl)) rfl
theorem gw_58 : Cond.instanceMethod y_CA_accountWithKey ∈ GW := gw_t (tb_2 (List.mem_of_getElem? (i := 171) rfl)) rfl
theorem gw_59 : Cond.selects "ChallengeAuthority" y_CA_accountWithKey y_CA_accountWithKey ∈ GW := gw_p (List.mem_of_getElem? (i := 3) rfl) rfl
theorem gw_60 : Cond.classLink "ChallengeAuthority" 120 "java/lang/IllegalStateException" ∈ GW := gw_t (tb_2 (List.mem_of_getElem? (i := 173) rfl)) rfl
theorem gw_61 : Cond.initialized "java/lang/IllegalStateException" ∈ GW := gw_t (tb_1 (List.mem_of_getElem? (i := 16) rfl)) rfl
theorem gw_62 : Cond.instantiable "java/lang/IllegalStateException" 6 ∈ GW := gw_t (tb_2 (List.mem_of_getElem? (i := 174) rfl)) rfl
theorem gw_63 : Cond.fieldLink "ChallengeAuthority" 117 "ChallengeAuthority$Account" "state" "I" ∈ GW := gw_t (tb_1 (List.mem_of_getElem? (i := 95) rfl)) rfl
theorem gw_64 : Cond.classLink "ChallengeAuthority" 177 "java/util/NoSuchElementException" ∈ GW := gw_t (tb_2 (List.mem_of_getElem? (i := 204) rfl)) rfl
theorem gw_65 : Cond.initialized "java/util/NoSuchElementException" ∈ GW := gw_t (tb_1 (List.mem_of_getElem? (i := 17) rfl)) rfl
theorem gw_66 : Cond.instantiable "java/util/NoSuchElementException" 6 ∈ GW := gw_t (tb_2 (List.mem_of_getElem? (i := 205) rfl)) rfl
theorem gw_67 : Cond.constant "java/lang/Integer" 265 1431655765 ∈ GW := gw_t (tb_2 (List.mem_of_getElem? (i := 226) rfl)) rfl
theorem gw_68 : Cond.constant "java/lang/Integer" 266 858993459 ∈ GW := gw_t (tb_2 (List.mem_of_getElem? (i := 227) rfl)) rfl
theorem gw_69 : Cond.constant "java/lang/Integer" 267 252645135 ∈ GW := gw_t (tb_2 (List.mem_of_getElem? (i := 228) rfl)) rfl
theorem gw_70 : Cond.constant "ChallengeAuthority" 250 65536 ∈ GW := gw_t (tb_2 (List.mem_of_getElem? (i := 222) rfl)) rfl
theorem gw_71 : Cond.code y_Int_bitCount prog_15_method_49_code 1 (Option.some Jvm.ClassFile.FieldType.int) ∈ GW := gw_t (tb_2 (List.mem_of_getElem? (i := 225) rfl)) rfl
theorem gw_72 : Cond.methodLink "ChallengeAuthority" 251 y_Int_bitCount ∈ GW := gw_t (tb_2 (List.mem_of_getElem? (i := 223) rfl)) rfl
theorem gw_73 : Cond.static y_Int_bitCount ∈ GW := gw_t (tb_2 (List.mem_of_getElem? (i := 224) rfl)) rfl
theorem gw_74 : Cond.initialized "java/lang/Integer" ∈ GW := gw_t (tb_1 (List.mem_of_getElem? (i := 18) rfl)) rfl
theorem gw_75 : Cond.fieldLink "ChallengeAuthority" 23 "ChallengeAuthority" "authorizations" "[LChallengeAuthority$Authorization;" ∈ GW := gw_t (tb_1 (List.mem_of_getElem? (i := 212) rfl)) rfl
theorem gw_76 : Cond.fieldLink "ChallengeAuthority" 156 "ChallengeAuthority$Authorization" "owner" "I" ∈ GW := gw_t (tb_1 (List.mem_of_getElem? (i := 144) rfl)) rfl
theorem gw_77 : Cond.fieldLink "ChallengeAuthority" 257 "ChallengeAuthority$Authorization" "name" "I" ∈ GW := gw_t (tb_1 (List.mem_of_getElem? (i := 146) rfl)) rfl
theorem gw_78 : Cond.fieldLink "ChallengeAuthority" 159 "ChallengeAuthority$Authorization" "state" "I" ∈ GW := gw_t (tb_1 (List.mem_of_getElem? (i := 142) rfl)) rfl
theorem gw_79 : Cond.fieldLink "ChallengeAuthority" 136 "ChallengeAuthority" "authorizationCount" "I" ∈ GW := gw_t (tb_1 (List.mem_of_getElem? (i := 208) rfl)) rfl
theorem gw_80 : Cond.code y_CA_hasName prog_1_method_26_code 2 (Option.some Jvm.ClassFile.FieldType.boolean) ∈ GW := gw_t (tb_2 (List.mem_of_getElem? (i := 235) rfl)) rfl
theorem gw_81 : Cond.methodLink "ChallengeAuthority" 260 y_CA_hasName ∈ GW := gw_t (tb_2 (List.mem_of_getElem? (i := 233) rfl)) rfl
theorem gw_82 : Cond.static y_CA_hasName ∈ GW := gw_t (tb_2 (List.mem_of_getElem? (i := 234) rfl)) rfl
theorem gw_83 : Cond.code y_CA_newestValid prog_1_method_32_code 5 (Option.some Jvm.ClassFile.FieldType.int) ∈ GW := gw_t (tb_2 (List.mem_of_getElem? (i := 239) rfl)) rfl
theorem gw_84 : Cond.methodLink "ChallengeAuthority" 264 y_CA_newestValid ∈ GW := gw_t (tb_2 (List.mem_of_getElem? (i := 236) rfl)) rfl
theorem gw_85 : Cond.instanceMethod y_CA_newestValid ∈ GW := gw_t (tb_2 (List.mem_of_getElem? (i := 238) rfl)) rfl
theorem gw_86 : Cond.selects "ChallengeAuthority" y_CA_newestValid y_CA_newestValid ∈ GW := gw_p (List.mem_of_getElem? (i := 7) rfl) rfl
theorem gw_87 : Cond.fieldLink "ChallengeAuthority" 29 "ChallengeAuthority" "challenges" "[LChallengeAuthority$Challenge;" ∈ GW := gw_t (tb_1 (List.mem_of_getElem? (i := 213) rfl)) rfl
theorem gw_88 : Cond.fieldLink "ChallengeAuthority" 161 "ChallengeAuthority$Challenge" "token" "I" ∈ GW := gw_t (tb_1 (List.mem_of_getElem? (i := 165) rfl)) rfl
theorem gw_89 : Cond.fieldLink "ChallengeAuthority" 167 "ChallengeAuthority$Authorization" "expires" "I" ∈ GW := gw_t (tb_1 (List.mem_of_getElem? (i := 148) rfl)) rfl
theorem gw_90 : Cond.fieldLink "ChallengeAuthority$Order" 22 "ChallengeAuthority$Order" "attached" "I" ∈ GW := gw_t (tb_1 (List.mem_of_getElem? (i := 117) rfl)) rfl
theorem gw_91 : Cond.fieldLink "ChallengeAuthority$Order" 15 "ChallengeAuthority$Order" "authorizations" "[I" ∈ GW := gw_t (tb_1 (List.mem_of_getElem? (i := 119) rfl)) rfl
theorem gw_92 : Cond.code y_Ord_attach prog_7_method_3_code 2 (Option.none : Option Jvm.ClassFile.FieldType) ∈ GW := gw_t (tb_3 (List.mem_of_getElem? (i := 11) rfl)) rfl
theorem gw_93 : Cond.methodLink "ChallengeAuthority" 271 y_Ord_attach ∈ GW := gw_t (tb_3 (List.mem_of_getElem? (i := 8) rfl)) rfl
theorem gw_94 : Cond.instanceMethod y_Ord_attach ∈ GW := gw_t (tb_3 (List.mem_of_getElem? (i := 9) rfl)) rfl
theorem gw_95 : Cond.selects "ChallengeAuthority$Order" y_Ord_attach y_Ord_attach ∈ GW := gw_t (tb_3 (List.mem_of_getElem? (i := 10) rfl)) rfl
theorem gw_96 : Cond.initialized "ChallengeAuthority$Order" ∈ GW := gw_t (tb_1 (List.mem_of_getElem? (i := 6) rfl)) rfl
theorem gw_97 : Cond.fieldLink "ChallengeAuthority" 133 "ChallengeAuthority" "orderCount" "I" ∈ GW := gw_t (tb_1 (List.mem_of_getElem? (i := 207) rfl)) rfl
theorem gw_98 : Cond.code y_CA_makeAuthorization prog_1_method_35_code 6 (Option.some Jvm.ClassFile.FieldType.int) ∈ GW := gw_t (tb_3 (List.mem_of_getElem? (i := 7) rfl)) rfl
theorem gw_99 : Cond.methodLink "ChallengeAuthority" 268 y_CA_makeAuthorization ∈ GW := gw_t (tb_3 (List.mem_of_getElem? (i := 4) rfl)) rfl
theorem gw_100 : Cond.instanceMethod y_CA_makeAuthorization ∈ GW := gw_t (tb_3 (List.mem_of_getElem? (i := 6) rfl)) rfl
theorem gw_101 : Cond.selects "ChallengeAuthority" y_CA_makeAuthorization y_CA_makeAuthorization ∈ GW := gw_p (List.mem_of_getElem? (i := 9) rfl) rfl
theorem gw_102 : Cond.fieldLink "ChallengeAuthority" 17 "ChallengeAuthority" "orders" "[LChallengeAuthority$Order;" ∈ GW := gw_t (tb_1 (List.mem_of_getElem? (i := 211) rfl)) rfl
theorem gw_103 : Cond.fieldLink "ChallengeAuthority" 180 "ChallengeAuthority$Order" "owner" "I" ∈ GW := gw_t (tb_1 (List.mem_of_getElem? (i := 110) rfl)) rfl
theorem gw_104 : Cond.fieldLink "ChallengeAuthority" 192 "ChallengeAuthority$Order" "names" "I" ∈ GW := gw_t (tb_1 (List.mem_of_getElem? (i := 112) rfl)) rfl
theorem gw_105 : Cond.fieldLink "ChallengeAuthority" 267 "ChallengeAuthority$Order" "expires" "I" ∈ GW := gw_t (tb_1 (List.mem_of_getElem? (i := 114) rfl)) rfl
theorem gw_106 : Cond.fieldLink "ChallengeAuthority$Order" 19 "ChallengeAuthority$Order" "state" "I" ∈ GW := gw_t (tb_1 (List.mem_of_getElem? (i := 107) rfl)) rfl
theorem gw_107 : Cond.fieldLink "ChallengeAuthority$Authorization" 7 "ChallengeAuthority$Authorization" "state" "I" ∈ GW := gw_t (tb_1 (List.mem_of_getElem? (i := 141) rfl)) rfl
theorem gw_108 : Cond.fieldLink "ChallengeAuthority" 292 "ChallengeAuthority$Order" "attached" "I" ∈ GW := gw_t (tb_1 (List.mem_of_getElem? (i := 118) rfl)) rfl
theorem gw_109 : Cond.fieldLink "ChallengeAuthority" 181 "ChallengeAuthority$Order" "state" "I" ∈ GW := gw_t (tb_1 (List.mem_of_getElem? (i := 108) rfl)) rfl
theorem gw_110 : Cond.fieldLink "ChallengeAuthority" 295 "ChallengeAuthority$Order" "authorizations" "[I" ∈ GW := gw_t (tb_1 (List.mem_of_getElem? (i := 120) rfl)) rfl
theorem gw_111 : Cond.code y_Aut_isLive prog_3_method_2_code 1 (Option.some Jvm.ClassFile.FieldType.boolean) ∈ GW := gw_t (tb_3 (List.mem_of_getElem? (i := 27) rfl)) rfl
theorem gw_112 : Cond.methodLink "ChallengeAuthority" 281 y_Aut_isLive ∈ GW := gw_t (tb_3 (List.mem_of_getElem? (i := 24) rfl)) rfl
theorem gw_113 : Cond.instanceMethod y_Aut_isLive ∈ GW := gw_t (tb_3 (List.mem_of_getElem? (i := 25) rfl)) rfl
theorem gw_114 : Cond.selects "ChallengeAuthority$Authorization" y_Aut_isLive y_Aut_isLive ∈ GW := gw_t (tb_3 (List.mem_of_getElem? (i := 26) rfl)) rfl
theorem gw_115 : Cond.initialized "ChallengeAuthority$Authorization" ∈ GW := gw_t (tb_1 (List.mem_of_getElem? (i := 7) rfl)) rfl
theorem gw_116 : Cond.code y_Ord_isOpen prog_7_method_2_code 1 (Option.some Jvm.ClassFile.FieldType.boolean) ∈ GW := gw_t (tb_3 (List.mem_of_getElem? (i := 19) rfl)) rfl
theorem gw_117 : Cond.methodLink "ChallengeAuthority" 285 y_Ord_isOpen ∈ GW := gw_t (tb_3 (List.mem_of_getElem? (i := 16) rfl)) rfl
theorem gw_118 : Cond.instanceMethod y_Ord_isOpen ∈ GW := gw_t (tb_3 (List.mem_of_getElem? (i := 17) rfl)) rfl
theorem gw_119 : Cond.selects "ChallengeAuthority$Order" y_Ord_isOpen y_Ord_isOpen ∈ GW := gw_t (tb_3 (List.mem_of_getElem? (i := 18) rfl)) rfl
theorem gw_120 : Cond.code y_CA_settle prog_1_method_43_code 5 (Option.none : Option Jvm.ClassFile.FieldType) ∈ GW := gw_t (tb_3 (List.mem_of_getElem? (i := 23) rfl)) rfl
theorem gw_121 : Cond.methodLink "ChallengeAuthority" 288 y_CA_settle ∈ GW := gw_t (tb_3 (List.mem_of_getElem? (i := 20) rfl)) rfl
theorem gw_122 : Cond.instanceMethod y_CA_settle ∈ GW := gw_t (tb_3 (List.mem_of_getElem? (i := 22) rfl)) rfl
theorem gw_123 : Cond.selects "ChallengeAuthority" y_CA_settle y_CA_settle ∈ GW := gw_p (List.mem_of_getElem? (i := 11) rfl) rfl
theorem gw_124 : Cond.code y_CA_acceptSigned prog_1_method_29_code 5 (Option.none : Option Jvm.ClassFile.FieldType) ∈ GW := gw_t (tb_2 (List.mem_of_getElem? (i := 203) rfl)) rfl
theorem gw_125 : Cond.methodLink "ChallengeAuthority" 126 y_CA_acceptSigned ∈ GW := gw_t (tb_2 (List.mem_of_getElem? (i := 200) rfl)) rfl
theorem gw_126 : Cond.instanceMethod y_CA_acceptSigned ∈ GW := gw_t (tb_2 (List.mem_of_getElem? (i := 202) rfl)) rfl
theorem gw_127 : Cond.selects "ChallengeAuthority" y_CA_acceptSigned y_CA_acceptSigned ∈ GW := gw_p (List.mem_of_getElem? (i := 5) rfl) rfl
theorem gw_128 : Cond.code y_CA_canBeOrdered prog_1_method_27_code 1 (Option.some Jvm.ClassFile.FieldType.boolean) ∈ GW := gw_t (tb_2 (List.mem_of_getElem? (i := 221) rfl)) rfl
theorem gw_129 : Cond.methodLink "ChallengeAuthority" 130 y_CA_canBeOrdered ∈ GW := gw_t (tb_2 (List.mem_of_getElem? (i := 219) rfl)) rfl
theorem gw_130 : Cond.static y_CA_canBeOrdered ∈ GW := gw_t (tb_2 (List.mem_of_getElem? (i := 220) rfl)) rfl
theorem gw_131 : Cond.code y_CA_missingAuthorizations prog_1_method_33_code 5 (Option.some Jvm.ClassFile.FieldType.int) ∈ GW := gw_t (tb_2 (List.mem_of_getElem? (i := 232) rfl)) rfl
theorem gw_132 : Cond.methodLink "ChallengeAuthority" 139 y_CA_missingAuthorizations ∈ GW := gw_t (tb_2 (List.mem_of_getElem? (i := 229) rfl)) rfl
theorem gw_133 : Cond.instanceMethod y_CA_missingAuthorizations ∈ GW := gw_t (tb_2 (List.mem_of_getElem? (i := 231) rfl)) rfl
theorem gw_134 : Cond.selects "ChallengeAuthority" y_CA_missingAuthorizations y_CA_missingAuthorizations ∈ GW := gw_p (List.mem_of_getElem? (i := 6) rfl) rfl
theorem gw_135 : Cond.fieldLink "ChallengeAuthority" 143 "ChallengeAuthority" "time" "I" ∈ GW := gw_t (tb_1 (List.mem_of_getElem? (i := 205) rfl)) rfl
theorem gw_136 : Cond.code y_CA_makeOrder prog_1_method_34_code 7 (Option.some Jvm.ClassFile.FieldType.int) ∈ GW := gw_t (tb_3 (List.mem_of_getElem? (i := 3) rfl)) rfl
theorem gw_137 : Cond.methodLink "ChallengeAuthority" 146 y_CA_makeOrder ∈ GW := gw_t (tb_3 (List.mem_of_getElem? (i := 0) rfl)) rfl
theorem gw_138 : Cond.instanceMethod y_CA_makeOrder ∈ GW := gw_t (tb_3 (List.mem_of_getElem? (i := 2) rfl)) rfl
theorem gw_139 : Cond.selects "ChallengeAuthority" y_CA_makeOrder y_CA_makeOrder ∈ GW := gw_p (List.mem_of_getElem? (i := 8) rfl) rfl
theorem gw_140 : Cond.code y_CA_settleOrders prog_1_method_42_code 2 (Option.none : Option Jvm.ClassFile.FieldType) ∈ GW := gw_t (tb_3 (List.mem_of_getElem? (i := 15) rfl)) rfl
theorem gw_141 : Cond.methodLink "ChallengeAuthority" 149 y_CA_settleOrders ∈ GW := gw_t (tb_3 (List.mem_of_getElem? (i := 12) rfl)) rfl
theorem gw_142 : Cond.instanceMethod y_CA_settleOrders ∈ GW := gw_t (tb_3 (List.mem_of_getElem? (i := 14) rfl)) rfl
theorem gw_143 : Cond.selects "ChallengeAuthority" y_CA_settleOrders y_CA_settleOrders ∈ GW := gw_p (List.mem_of_getElem? (i := 10) rfl) rfl
theorem gw_144 : Cond.code y_CA_challengeOf prog_1_method_36_code 3 (Option.some (Jvm.ClassFile.FieldType.object "ChallengeAuthority$Challenge")) ∈ GW := gw_t (tb_3 (List.mem_of_getElem? (i := 38) rfl)) rfl
theorem gw_145 : Cond.methodLink "ChallengeAuthority" 152 y_CA_challengeOf ∈ GW := gw_t (tb_3 (List.mem_of_getElem? (i := 35) rfl)) rfl
theorem gw_146 : Cond.instanceMethod y_CA_challengeOf ∈ GW := gw_t (tb_3 (List.mem_of_getElem? (i := 37) rfl)) rfl
theorem gw_147 : Cond.selects "ChallengeAuthority" y_CA_challengeOf y_CA_challengeOf ∈ GW := gw_p (List.mem_of_getElem? (i := 12) rfl) rfl
theorem gw_148 : Cond.fieldLink "ChallengeAuthority" 160 "ChallengeAuthority$Challenge" "state" "I" ∈ GW := gw_t (tb_1 (List.mem_of_getElem? (i := 163) rfl)) rfl
theorem gw_149 : Cond.fieldLink "ChallengeAuthority" 274 "ChallengeAuthority$Challenge" "wrong" "I" ∈ GW := gw_t (tb_1 (List.mem_of_getElem? (i := 167) rfl)) rfl
theorem gw_150 : Cond.code y_CA_countWrong prog_1_method_37_code 2 (Option.none : Option Jvm.ClassFile.FieldType) ∈ GW := gw_t (tb_3 (List.mem_of_getElem? (i := 48) rfl)) rfl
theorem gw_151 : Cond.methodLink "ChallengeAuthority" 170 y_CA_countWrong ∈ GW := gw_t (tb_3 (List.mem_of_getElem? (i := 46) rfl)) rfl
theorem gw_152 : Cond.static y_CA_countWrong ∈ GW := gw_t (tb_3 (List.mem_of_getElem? (i := 47) rfl)) rfl
theorem gw_153 : Cond.fieldLink "ChallengeAuthority" 49 "ChallengeAuthority" "text" "LChallengeAuthority$Text;" ∈ GW := gw_t (tb_1 (List.mem_of_getElem? (i := 216) rfl)) rfl
theorem gw_154 : Cond.fieldLink "ChallengeAuthority" 221 "ChallengeAuthority$Text" "size" "I" ∈ GW := gw_t (tb_1 (List.mem_of_getElem? (i := 60) rfl)) rfl
theorem gw_155 : Cond.fieldLink "ChallengeAuthority" 224 "ChallengeAuthority$Text" "bytes" "[I" ∈ GW := gw_t (tb_1 (List.mem_of_getElem? (i := 63) rfl)) rfl
theorem gw_156 : Cond.fieldLink "ChallengeAuthority$Request" 15 "ChallengeAuthority$Request" "sound" "Z" ∈ GW := gw_t (tb_1 (List.mem_of_getElem? (i := 80) rfl)) rfl
theorem gw_157 : Cond.fieldLink "ChallengeAuthority$Request" 70 "ChallengeAuthority$Text" "bytes" "[I" ∈ GW := gw_t (tb_1 (List.mem_of_getElem? (i := 62) rfl)) rfl
theorem gw_158 : Cond.fieldLink "ChallengeAuthority$Request" 9 "ChallengeAuthority$Request" "at" "I" ∈ GW := gw_t (tb_1 (List.mem_of_getElem? (i := 79) rfl)) rfl
theorem gw_159 : Cond.fieldLink "ChallengeAuthority$Request" 19 "ChallengeAuthority$Text" "size" "I" ∈ GW := gw_t (tb_1 (List.mem_of_getElem? (i := 59) rfl)) rfl
theorem gw_160 : Cond.code y_Req_readByte prog_8_method_9_code 3 (Option.some Jvm.ClassFile.FieldType.int) ∈ GW := gw_t (tb_3 (List.mem_of_getElem? (i := 72) rfl)) rfl
theorem gw_161 : Cond.methodLink "ChallengeAuthority$Request" 67 y_Req_readByte ∈ GW := gw_t (tb_3 (List.mem_of_getElem? (i := 69) rfl)) rfl
theorem gw_162 : Cond.instanceMethod y_Req_readByte ∈ GW := gw_t (tb_3 (List.mem_of_getElem? (i := 71) rfl)) rfl
theorem gw_163 : Cond.selects "ChallengeAuthority$Request" y_Req_readByte y_Req_readByte ∈ GW := gw_p (List.mem_of_getElem? (i := 15) rfl) rfl
theorem gw_164 : Cond.initialized "ChallengeAuthority$Request" ∈ GW := gw_t (tb_1 (List.mem_of_getElem? (i := 4) rfl)) rfl
theorem gw_165 : Cond.code y_Req_skipTag prog_8_method_7_code 5 (Option.none : Option Jvm.ClassFile.FieldType) ∈ GW := gw_t (tb_3 (List.mem_of_getElem? (i := 68) rfl)) rfl
theorem gw_166 : Cond.methodLink "ChallengeAuthority$Request" 60 y_Req_skipTag ∈ GW := gw_t (tb_3 (List.mem_of_getElem? (i := 65) rfl)) rfl
theorem gw_167 : Cond.instanceMethod y_Req_skipTag ∈ GW := gw_t (tb_3 (List.mem_of_getElem? (i := 67) rfl)) rfl
theorem gw_168 : Cond.selects "ChallengeAuthority$Request" y_Req_skipTag y_Req_skipTag ∈ GW := gw_p (List.mem_of_getElem? (i := 14) rfl) rfl
theorem gw_169 : Cond.code y_Req_readLength prog_8_method_8_code 4 (Option.some Jvm.ClassFile.FieldType.int) ∈ GW := gw_t (tb_3 (List.mem_of_getElem? (i := 76) rfl)) rfl
theorem gw_170 : Cond.methodLink "ChallengeAuthority$Request" 64 y_Req_readLength ∈ GW := gw_t (tb_3 (List.mem_of_getElem? (i := 73) rfl)) rfl
theorem gw_171 : Cond.instanceMethod y_Req_readLength ∈ GW := gw_t (tb_3 (List.mem_of_getElem? (i := 75) rfl)) rfl
theorem gw_172 : Cond.selects "ChallengeAuthority$Request" y_Req_readLength y_Req_readLength ∈ GW := gw_p (List.mem_of_getElem? (i := 16) rfl) rfl
theorem gw_173 : Cond.code y_Req_readNumber prog_8_method_5_code 8 (Option.some Jvm.ClassFile.FieldType.int) ∈ GW := gw_t (tb_3 (List.mem_of_getElem? (i := 80) rfl)) rfl
theorem gw_174 : Cond.methodLink "ChallengeAuthority$Request" 28 y_Req_readNumber ∈ GW := gw_t (tb_3 (List.mem_of_getElem? (i := 77) rfl)) rfl
theorem gw_175 : Cond.instanceMethod y_Req_readNumber ∈ GW := gw_t (tb_3 (List.mem_of_getElem? (i := 79) rfl)) rfl
theorem gw_176 : Cond.selects "ChallengeAuthority$Request" y_Req_readNumber y_Req_readNumber ∈ GW := gw_p (List.mem_of_getElem? (i := 17) rfl) rfl
theorem gw_177 : Cond.fieldLink "ChallengeAuthority$Request" 31 "ChallengeAuthority$Request" "key" "I" ∈ GW := gw_t (tb_1 (List.mem_of_getElem? (i := 75) rfl)) rfl
theorem gw_178 : Cond.fieldLink "ChallengeAuthority$Request" 37 "ChallengeAuthority$Request" "names" "I" ∈ GW := gw_t (tb_1 (List.mem_of_getElem? (i := 77) rfl)) rfl
theorem gw_179 : Cond.code y_Req_readRowEnd prog_8_method_6_code 4 (Option.some Jvm.ClassFile.FieldType.int) ∈ GW := gw_t (tb_3 (List.mem_of_getElem? (i := 64) rfl)) rfl
theorem gw_180 : Cond.methodLink "ChallengeAuthority$Request" 24 y_Req_readRowEnd ∈ GW := gw_t (tb_3 (List.mem_of_getElem? (i := 61) rfl)) rfl
theorem gw_181 : Cond.instanceMethod y_Req_readRowEnd ∈ GW := gw_t (tb_3 (List.mem_of_getElem? (i := 63) rfl)) rfl
theorem gw_182 : Cond.selects "ChallengeAuthority$Request" y_Req_readRowEnd y_Req_readRowEnd ∈ GW := gw_p (List.mem_of_getElem? (i := 13) rfl) rfl
theorem gw_183 : Cond.code y_Req_readNames prog_8_method_4_code 7 (Option.some Jvm.ClassFile.FieldType.int) ∈ GW := gw_t (tb_3 (List.mem_of_getElem? (i := 84) rfl)) rfl
theorem gw_184 : Cond.methodLink "ChallengeAuthority$Request" 34 y_Req_readNames ∈ GW := gw_t (tb_3 (List.mem_of_getElem? (i := 81) rfl)) rfl
theorem gw_185 : Cond.instanceMethod y_Req_readNames ∈ GW := gw_t (tb_3 (List.mem_of_getElem? (i := 83) rfl)) rfl
theorem gw_186 : Cond.selects "ChallengeAuthority$Request" y_Req_readNames y_Req_readNames ∈ GW := gw_p (List.mem_of_getElem? (i := 18) rfl) rfl
theorem gw_187 : Cond.code y_Req_signedDigest prog_8_method_3_code 1 (Option.some Jvm.ClassFile.FieldType.int) ∈ GW := gw_t (tb_3 (List.mem_of_getElem? (i := 89) rfl)) rfl
theorem gw_188 : Cond.methodLink "ChallengeAuthority$Request" 44 y_Req_signedDigest ∈ GW := gw_t (tb_3 (List.mem_of_getElem? (i := 86) rfl)) rfl
theorem gw_189 : Cond.instanceMethod y_Req_signedDigest ∈ GW := gw_t (tb_3 (List.mem_of_getElem? (i := 88) rfl)) rfl
theorem gw_190 : Cond.selects "ChallengeAuthority$Request" y_Req_signedDigest y_Req_signedDigest ∈ GW := gw_p (List.mem_of_getElem? (i := 19) rfl) rfl
theorem gw_191 : Cond.fieldLink "ChallengeAuthority" 35 "ChallengeAuthority" "certificates" "[LChallengeAuthority$Certificate;" ∈ GW := gw_t (tb_1 (List.mem_of_getElem? (i := 214) rfl)) rfl
theorem gw_192 : Cond.fieldLink "ChallengeAuthority" 182 "ChallengeAuthority" "certificateCount" "I" ∈ GW := gw_t (tb_1 (List.mem_of_getElem? (i := 209) rfl)) rfl
theorem gw_193 : Cond.fieldLink "ChallengeAuthority" 200 "ChallengeAuthority$Certificate" "order" "I" ∈ GW := gw_t (tb_1 (List.mem_of_getElem? (i := 182) rfl)) rfl
theorem gw_194 : Cond.fieldLink "ChallengeAuthority" 203 "ChallengeAuthority$Certificate" "names" "I" ∈ GW := gw_t (tb_1 (List.mem_of_getElem? (i := 184) rfl)) rfl
theorem gw_195 : Cond.fieldLink "ChallengeAuthority" 277 "ChallengeAuthority$Certificate" "key" "I" ∈ GW := gw_t (tb_1 (List.mem_of_getElem? (i := 186) rfl)) rfl
theorem gw_196 : Cond.fieldLink "ChallengeAuthority" 278 "ChallengeAuthority$Certificate" "issued" "I" ∈ GW := gw_t (tb_1 (List.mem_of_getElem? (i := 188) rfl)) rfl
theorem gw_197 : Cond.code y_CA_csr prog_1_method_16_code 4 (Option.some Jvm.ClassFile.FieldType.int) ∈ GW := gw_t (tb_2 (List.mem_of_getElem? (i := 64) rfl)) rfl
theorem gw_198 : Cond.methodLink "ChallengeAuthority" 174 y_CA_csr ∈ GW := gw_t (tb_3 (List.mem_of_getElem? (i := 56) rfl)) rfl
theorem gw_199 : Cond.instanceMethod y_CA_csr ∈ GW := gw_t (tb_2 (List.mem_of_getElem? (i := 62) rfl)) rfl
theorem gw_200 : Cond.selects "ChallengeAuthority" y_CA_csr y_CA_csr ∈ GW := gw_t (tb_2 (List.mem_of_getElem? (i := 63) rfl)) rfl
theorem gw_201 : Cond.fieldLink "ChallengeAuthority" 56 "ChallengeAuthority" "request" "LChallengeAuthority$Request;" ∈ GW := gw_t (tb_1 (List.mem_of_getElem? (i := 217) rfl)) rfl
theorem gw_202 : Cond.code y_Req_readFrom prog_8_method_2_code 4 (Option.some Jvm.ClassFile.FieldType.boolean) ∈ GW := gw_t (tb_3 (List.mem_of_getElem? (i := 60) rfl)) rfl
theorem gw_203 : Cond.methodLink "ChallengeAuthority" 185 y_Req_readFrom ∈ GW := gw_t (tb_3 (List.mem_of_getElem? (i := 57) rfl)) rfl
theorem gw_204 : Cond.instanceMethod y_Req_readFrom ∈ GW := gw_t (tb_3 (List.mem_of_getElem? (i := 58) rfl)) rfl
theorem gw_205 : Cond.selects "ChallengeAuthority$Request" y_Req_readFrom y_Req_readFrom ∈ GW := gw_t (tb_3 (List.mem_of_getElem? (i := 59) rfl)) rfl
theorem gw_206 : Cond.fieldLink "ChallengeAuthority" 189 "ChallengeAuthority$Request" "names" "I" ∈ GW := gw_t (tb_1 (List.mem_of_getElem? (i := 78) rfl)) rfl
theorem gw_207 : Cond.fieldLink "ChallengeAuthority" 193 "ChallengeAuthority$Request" "key" "I" ∈ GW := gw_t (tb_1 (List.mem_of_getElem? (i := 76) rfl)) rfl
theorem gw_208 : Cond.code y_CA_makeCertificate prog_1_method_38_code 5 (Option.some Jvm.ClassFile.FieldType.int) ∈ GW := gw_t (tb_3 (List.mem_of_getElem? (i := 96) rfl)) rfl
theorem gw_209 : Cond.methodLink "ChallengeAuthority" 194 y_CA_makeCertificate ∈ GW := gw_t (tb_3 (List.mem_of_getElem? (i := 93) rfl)) rfl
theorem gw_210 : Cond.instanceMethod y_CA_makeCertificate ∈ GW := gw_t (tb_3 (List.mem_of_getElem? (i := 95) rfl)) rfl
theorem gw_211 : Cond.selects "ChallengeAuthority" y_CA_makeCertificate y_CA_makeCertificate ∈ GW := gw_p (List.mem_of_getElem? (i := 20) rfl) rfl
theorem gw_212 : Cond.fieldLink "ChallengeAuthority" 197 "ChallengeAuthority$Order" "certificate" "I" ∈ GW := gw_t (tb_1 (List.mem_of_getElem? (i := 116) rfl)) rfl
theorem gw_213 : Cond.fieldLink "ChallengeAuthority" 204 "ChallengeAuthority$Certificate" "state" "I" ∈ GW := gw_t (tb_1 (List.mem_of_getElem? (i := 180) rfl)) rfl
theorem gw_214 : Cond.fieldLink "ChallengeAuthority" 205 "ChallengeAuthority$Certificate" "reason" "I" ∈ GW := gw_t (tb_1 (List.mem_of_getElem? (i := 190) rfl)) rfl
theorem gw_215 : Cond.code y_CA_goodCertificates prog_1_method_39_code 3 (Option.some Jvm.ClassFile.FieldType.int) ∈ GW := gw_t (tb_3 (List.mem_of_getElem? (i := 107) rfl)) rfl
theorem gw_216 : Cond.methodLink "ChallengeAuthority" 208 y_CA_goodCertificates ∈ GW := gw_t (tb_3 (List.mem_of_getElem? (i := 104) rfl)) rfl
theorem gw_217 : Cond.instanceMethod y_CA_goodCertificates ∈ GW := gw_t (tb_3 (List.mem_of_getElem? (i := 106) rfl)) rfl
theorem gw_218 : Cond.selects "ChallengeAuthority" y_CA_goodCertificates y_CA_goodCertificates ∈ GW := gw_p (List.mem_of_getElem? (i := 21) rfl) rfl
theorem gw_219 : Cond.code y_CA_closeAccount prog_1_method_40_code 4 (Option.some Jvm.ClassFile.FieldType.int) ∈ GW := gw_t (tb_3 (List.mem_of_getElem? (i := 118) rfl)) rfl
theorem gw_220 : Cond.methodLink "ChallengeAuthority" 211 y_CA_closeAccount ∈ GW := gw_t (tb_3 (List.mem_of_getElem? (i := 115) rfl)) rfl
theorem gw_221 : Cond.instanceMethod y_CA_closeAccount ∈ GW := gw_t (tb_3 (List.mem_of_getElem? (i := 117) rfl)) rfl
theorem gw_222 : Cond.selects "ChallengeAuthority" y_CA_closeAccount y_CA_closeAccount ∈ GW := gw_p (List.mem_of_getElem? (i := 22) rfl) rfl
theorem gw_223 : Cond.code y_CA_deactivateOne prog_1_method_41_code 3 (Option.some Jvm.ClassFile.FieldType.int) ∈ GW := gw_t (tb_3 (List.mem_of_getElem? (i := 122) rfl)) rfl
theorem gw_224 : Cond.methodLink "ChallengeAuthority" 214 y_CA_deactivateOne ∈ GW := gw_t (tb_3 (List.mem_of_getElem? (i := 119) rfl)) rfl
theorem gw_225 : Cond.instanceMethod y_CA_deactivateOne ∈ GW := gw_t (tb_3 (List.mem_of_getElem? (i := 121) rfl)) rfl
theorem gw_226 : Cond.selects "ChallengeAuthority" y_CA_deactivateOne y_CA_deactivateOne ∈ GW := gw_p (List.mem_of_getElem? (i := 23) rfl) rfl
theorem gw_227 : Cond.fieldLink "ChallengeAuthority$Text" 9 "ChallengeAuthority$Text" "bytes" "[I" ∈ GW := gw_t (tb_1 (List.mem_of_getElem? (i := 61) rfl)) rfl
theorem gw_228 : Cond.fieldLink "ChallengeAuthority$Text" 15 "ChallengeAuthority$Text" "size" "I" ∈ GW := gw_t (tb_1 (List.mem_of_getElem? (i := 58) rfl)) rfl
theorem gw_229 : Cond.code y_Txt_append prog_9_method_2_code 5 (Option.some Jvm.ClassFile.FieldType.boolean) ∈ GW := gw_t (tb_2 (List.mem_of_getElem? (i := 56) rfl)) rfl
theorem gw_230 : Cond.methodLink "ChallengeAuthority" 217 y_Txt_append ∈ GW := gw_t (tb_2 (List.mem_of_getElem? (i := 53) rfl)) rfl
theorem gw_231 : Cond.instanceMethod y_Txt_append ∈ GW := gw_t (tb_2 (List.mem_of_getElem? (i := 54) rfl)) rfl
theorem gw_232 : Cond.selects "ChallengeAuthority$Text" y_Txt_append y_Txt_append ∈ GW := gw_t (tb_2 (List.mem_of_getElem? (i := 55) rfl)) rfl
theorem gw_233 : Cond.initialized "ChallengeAuthority$Text" ∈ GW := gw_t (tb_1 (List.mem_of_getElem? (i := 3) rfl)) rfl
theorem gw_234 : Cond.methodLink "ChallengeAuthority$Authorization" 13 y_Aut_isLive ∈ GW := gw_t (tb_3 (List.mem_of_getElem? (i := 141) rfl)) rfl
theorem gw_235 : Cond.fieldLink "ChallengeAuthority$Authorization" 17 "ChallengeAuthority$Authorization" "expires" "I" ∈ GW := gw_t (tb_1 (List.mem_of_getElem? (i := 147) rfl)) rfl
theorem gw_236 : Cond.methodLink "ChallengeAuthority$Order" 25 y_Ord_isOpen ∈ GW := gw_t (tb_3 (List.mem_of_getElem? (i := 146) rfl)) rfl
theorem gw_237 : Cond.fieldLink "ChallengeAuthority$Order" 29 "ChallengeAuthority$Order" "expires" "I" ∈ GW := gw_t (tb_1 (List.mem_of_getElem? (i := 113) rfl)) rfl
theorem gw_238 : Cond.code y_Ord_expireAt prog_7_method_4_code 2 (Option.none : Option Jvm.ClassFile.FieldType) ∈ GW := gw_t (tb_3 (List.mem_of_getElem? (i := 145) rfl)) rfl
theorem gw_239 : Cond.methodLink "ChallengeAuthority" 231 y_Ord_expireAt ∈ GW := gw_t (tb_3 (List.mem_of_getElem? (i := 142) rfl)) rfl
theorem gw_240 : Cond.instanceMethod y_Ord_expireAt ∈ GW := gw_t (tb_3 (List.mem_of_getElem? (i := 143) rfl)) rfl
theorem gw_241 : Cond.selects "ChallengeAuthority$Order" y_Ord_expireAt y_Ord_expireAt ∈ GW := gw_t (tb_3 (List.mem_of_getElem? (i := 144) rfl)) rfl
theorem gw_242 : Cond.code y_Aut_expireAt prog_3_method_3_code 2 (Option.none : Option Jvm.ClassFile.FieldType) ∈ GW := gw_t (tb_3 (List.mem_of_getElem? (i := 140) rfl)) rfl
theorem gw_243 : Cond.methodLink "ChallengeAuthority" 228 y_Aut_expireAt ∈ GW := gw_t (tb_3 (List.mem_of_getElem? (i := 137) rfl)) rfl
theorem gw_244 : Cond.instanceMethod y_Aut_expireAt ∈ GW := gw_t (tb_3 (List.mem_of_getElem? (i := 138) rfl)) rfl
theorem gw_245 : Cond.selects "ChallengeAuthority$Authorization" y_Aut_expireAt y_Aut_expireAt ∈ GW := gw_t (tb_3 (List.mem_of_getElem? (i := 139) rfl)) rfl
theorem gw_246 : Cond.fieldLink "ChallengeAuthority" 232 "ChallengeAuthority$Nonces" "count" "I" ∈ GW := gw_t (tb_1 (List.mem_of_getElem? (i := 44) rfl)) rfl
theorem gw_247 : Cond.code y_CA_there prog_1_method_18_code 2 (Option.some Jvm.ClassFile.FieldType.int) ∈ GW := gw_t (tb_2 (List.mem_of_getElem? (i := 68) rfl)) rfl
theorem gw_248 : Cond.methodLink "ChallengeAuthority" 297 y_CA_there ∈ GW := gw_t (tb_3 (List.mem_of_getElem? (i := 158) rfl)) rfl
theorem gw_249 : Cond.instanceMethod y_CA_there ∈ GW := gw_t (tb_2 (List.mem_of_getElem? (i := 66) rfl)) rfl
theorem gw_250 : Cond.selects "ChallengeAuthority" y_CA_there y_CA_there ∈ GW := gw_t (tb_2 (List.mem_of_getElem? (i := 67) rfl)) rfl
theorem gw_251 : Cond.code y_CA_requireThere prog_1_method_44_code 4 (Option.none : Option Jvm.ClassFile.FieldType) ∈ GW := gw_t (tb_3 (List.mem_of_getElem? (i := 157) rfl)) rfl
theorem gw_252 : Cond.methodLink "ChallengeAuthority" 235 y_CA_requireThere ∈ GW := gw_t (tb_3 (List.mem_of_getElem? (i := 154) rfl)) rfl
theorem gw_253 : Cond.instanceMethod y_CA_requireThere ∈ GW := gw_t (tb_3 (List.mem_of_getElem? (i := 156) rfl)) rfl
theorem gw_254 : Cond.selects "ChallengeAuthority" y_CA_requireThere y_CA_requireThere ∈ GW := gw_p (List.mem_of_getElem? (i := 24) rfl) rfl
theorem gw_255 : Cond.code y_CA_ordersOf prog_1_method_46_code 4 (Option.some Jvm.ClassFile.FieldType.int) ∈ GW := gw_t (tb_3 (List.mem_of_getElem? (i := 173) rfl)) rfl
theorem gw_256 : Cond.methodLink "ChallengeAuthority" 300 y_CA_ordersOf ∈ GW := gw_t (tb_3 (List.mem_of_getElem? (i := 170) rfl)) rfl
theorem gw_257 : Cond.instanceMethod y_CA_ordersOf ∈ GW := gw_t (tb_3 (List.mem_of_getElem? (i := 172) rfl)) rfl
theorem gw_258 : Cond.selects "ChallengeAuthority" y_CA_ordersOf y_CA_ordersOf ∈ GW := gw_p (List.mem_of_getElem? (i := 26) rfl) rfl
theorem gw_259 : Cond.code y_Ord_authorizationTold prog_7_method_6_code 2 (Option.some Jvm.ClassFile.FieldType.int) ∈ GW := gw_t (tb_3 (List.mem_of_getElem? (i := 181) rfl)) rfl
theorem gw_260 : Cond.methodLink "ChallengeAuthority$Order" 38 y_Ord_authorizationTold ∈ GW := gw_t (tb_3 (List.mem_of_getElem? (i := 178) rfl)) rfl
theorem gw_261 : Cond.instanceMethod y_Ord_authorizationTold ∈ GW := gw_t (tb_3 (List.mem_of_getElem? (i := 180) rfl)) rfl
theorem gw_262 : Cond.selects "ChallengeAuthority$Order" y_Ord_authorizationTold y_Ord_authorizationTold ∈ GW := gw_p (List.mem_of_getElem? (i := 27) rfl) rfl
theorem gw_263 : Cond.fieldLink "ChallengeAuthority$Order" 32 "ChallengeAuthority$Order" "owner" "I" ∈ GW := gw_t (tb_1 (List.mem_of_getElem? (i := 109) rfl)) rfl
theorem gw_264 : Cond.fieldLink "ChallengeAuthority$Order" 35 "ChallengeAuthority$Order" "names" "I" ∈ GW := gw_t (tb_1 (List.mem_of_getElem? (i := 111) rfl)) rfl
theorem gw_265 : Cond.fieldLink "ChallengeAuthority$Order" 9 "ChallengeAuthority$Order" "certificate" "I" ∈ GW := gw_t (tb_1 (List.mem_of_getElem? (i := 115) rfl)) rfl
theorem gw_266 : Cond.fieldLink "ChallengeAuthority$Authorization" 20 "ChallengeAuthority$Authorization" "owner" "I" ∈ GW := gw_t (tb_1 (List.mem_of_getElem? (i := 143) rfl)) rfl
theorem gw_267 : Cond.fieldLink "ChallengeAuthority$Authorization" 23 "ChallengeAuthority$Authorization" "name" "I" ∈ GW := gw_t (tb_1 (List.mem_of_getElem? (i := 145) rfl)) rfl
theorem gw_268 : Cond.fieldLink "ChallengeAuthority$Challenge" 7 "ChallengeAuthority$Challenge" "token" "I" ∈ GW := gw_t (tb_1 (List.mem_of_getElem? (i := 164) rfl)) rfl
theorem gw_269 : Cond.fieldLink "ChallengeAuthority$Challenge" 13 "ChallengeAuthority$Challenge" "wrong" "I" ∈ GW := gw_t (tb_1 (List.mem_of_getElem? (i := 166) rfl)) rfl
theorem gw_270 : Cond.fieldLink "ChallengeAuthority$Certificate" 15 "ChallengeAuthority$Certificate" "order" "I" ∈ GW := gw_t (tb_1 (List.mem_of_getElem? (i := 181) rfl)) rfl
theorem gw_271 : Cond.fieldLink "ChallengeAuthority$Certificate" 18 "ChallengeAuthority$Certificate" "names" "I" ∈ GW := gw_t (tb_1 (List.mem_of_getElem? (i := 183) rfl)) rfl
theorem gw_272 : Cond.fieldLink "ChallengeAuthority$Certificate" 21 "ChallengeAuthority$Certificate" "key" "I" ∈ GW := gw_t (tb_1 (List.mem_of_getElem? (i := 185) rfl)) rfl
theorem gw_273 : Cond.fieldLink "ChallengeAuthority$Certificate" 24 "ChallengeAuthority$Certificate" "issued" "I" ∈ GW := gw_t (tb_1 (List.mem_of_getElem? (i := 187) rfl)) rfl
theorem gw_274 : Cond.fieldLink "ChallengeAuthority$Certificate" 9 "ChallengeAuthority$Certificate" "reason" "I" ∈ GW := gw_t (tb_1 (List.mem_of_getElem? (i := 189) rfl)) rfl
theorem gw_275 : Cond.code y_Cer_told prog_4_method_2_code 2 (Option.some Jvm.ClassFile.FieldType.int) ∈ GW := gw_t (tb_3 (List.mem_of_getElem? (i := 193) rfl)) rfl
theorem gw_276 : Cond.methodLink "ChallengeAuthority" 247 y_Cer_told ∈ GW := gw_t (tb_3 (List.mem_of_getElem? (i := 190) rfl)) rfl
theorem gw_277 : Cond.instanceMethod y_Cer_told ∈ GW := gw_t (tb_3 (List.mem_of_getElem? (i := 191) rfl)) rfl
theorem gw_278 : Cond.selects "ChallengeAuthority$Certificate" y_Cer_told y_Cer_told ∈ GW := gw_t (tb_3 (List.mem_of_getElem? (i := 192) rfl)) rfl
theorem gw_279 : Cond.initialized "ChallengeAuthority$Certificate" ∈ GW := gw_t (tb_1 (List.mem_of_getElem? (i := 9) rfl)) rfl
theorem gw_280 : Cond.code y_CA_accountDetail prog_1_method_45_code 3 (Option.some Jvm.ClassFile.FieldType.int) ∈ GW := gw_t (tb_3 (List.mem_of_getElem? (i := 169) rfl)) rfl
theorem gw_281 : Cond.methodLink "ChallengeAuthority" 239 y_CA_accountDetail ∈ GW := gw_t (tb_3 (List.mem_of_getElem? (i := 166) rfl)) rfl
theorem gw_282 : Cond.instanceMethod y_CA_accountDetail ∈ GW := gw_t (tb_3 (List.mem_of_getElem? (i := 168) rfl)) rfl
theorem gw_283 : Cond.selects "ChallengeAuthority" y_CA_accountDetail y_CA_accountDetail ∈ GW := gw_p (List.mem_of_getElem? (i := 25) rfl) rfl
theorem gw_284 : Cond.code y_Ord_told prog_7_method_5_code 2 (Option.some Jvm.ClassFile.FieldType.int) ∈ GW := gw_t (tb_3 (List.mem_of_getElem? (i := 177) rfl)) rfl
theorem gw_285 : Cond.methodLink "ChallengeAuthority" 242 y_Ord_told ∈ GW := gw_t (tb_3 (List.mem_of_getElem? (i := 174) rfl)) rfl
theorem gw_286 : Cond.instanceMethod y_Ord_told ∈ GW := gw_t (tb_3 (List.mem_of_getElem? (i := 175) rfl)) rfl
theorem gw_287 : Cond.selects "ChallengeAuthority$Order" y_Ord_told y_Ord_told ∈ GW := gw_t (tb_3 (List.mem_of_getElem? (i := 176) rfl)) rfl
theorem gw_288 : Cond.code y_Aut_told prog_3_method_4_code 2 (Option.some Jvm.ClassFile.FieldType.int) ∈ GW := gw_t (tb_3 (List.mem_of_getElem? (i := 185) rfl)) rfl
theorem gw_289 : Cond.methodLink "ChallengeAuthority" 245 y_Aut_told ∈ GW := gw_t (tb_3 (List.mem_of_getElem? (i := 182) rfl)) rfl
theorem gw_290 : Cond.instanceMethod y_Aut_told ∈ GW := gw_t (tb_3 (List.mem_of_getElem? (i := 183) rfl)) rfl
theorem gw_291 : Cond.selects "ChallengeAuthority$Authorization" y_Aut_told y_Aut_told ∈ GW := gw_t (tb_3 (List.mem_of_getElem? (i := 184) rfl)) rfl
theorem gw_292 : Cond.code y_Cha_told prog_5_method_2_code 2 (Option.some Jvm.ClassFile.FieldType.int) ∈ GW := gw_t (tb_3 (List.mem_of_getElem? (i := 189) rfl)) rfl
theorem gw_293 : Cond.methodLink "ChallengeAuthority" 246 y_Cha_told ∈ GW := gw_t (tb_3 (List.mem_of_getElem? (i := 186) rfl)) rfl
theorem gw_294 : Cond.instanceMethod y_Cha_told ∈ GW := gw_t (tb_3 (List.mem_of_getElem? (i := 187) rfl)) rfl
theorem gw_295 : Cond.selects "ChallengeAuthority$Challenge" y_Cha_told y_Cha_told ∈ GW := gw_t (tb_3 (List.mem_of_getElem? (i := 188) rfl)) rfl
theorem gw_296 : Cond.initialized "ChallengeAuthority$Challenge" ∈ GW := gw_t (tb_1 (List.mem_of_getElem? (i := 8) rfl)) rfl
theorem gw_297 : Cond.fieldLink "ChallengeAuthorityModel" 81 "ChallengeAuthorityModel" "thrown" "I" ∈ GW := gw_t (tb_3 (List.mem_of_getElem? (i := 200) rfl)) rfl
theorem gw_298 : Cond.fieldLink "ChallengeAuthorityModel" 77 "ChallengeAuthorityModel" "seed" "I" ∈ GW := gw_t (tb_3 (List.mem_of_getElem? (i := 201) rfl)) rfl
theorem gw_299 : Cond.constant "ChallengeAuthorityModel" 84 1103515245 ∈ GW := gw_t (tb_4 (List.mem_of_getElem? (i := 82) rfl)) rfl
theorem gw_300 : Cond.fieldLink "ChallengeAuthorityModel" 85 "ChallengeAuthorityModel" "mixed" "J" ∈ GW := gw_t (tb_3 (List.mem_of_getElem? (i := 235) rfl)) rfl
theorem gw_301 : Cond.constantLong "ChallengeAuthorityModel" 89 (-7046029254386353131) ∈ GW := gw_t (tb_4 (List.mem_of_getElem? (i := 109) rfl)) rfl
theorem gw_302 : Cond.code y_MO_mix prog_11_method_5_code 4 (Option.none : Option Jvm.ClassFile.FieldType) ∈ GW := gw_t (tb_4 (List.mem_of_getElem? (i := 108) rfl)) rfl
theorem gw_303 : Cond.methodLink "ChallengeAuthorityModel" 91 y_MO_mix ∈ GW := gw_t (tb_4 (List.mem_of_getElem? (i := 105) rfl)) rfl
theorem gw_304 : Cond.instanceMethod y_MO_mix ∈ GW := gw_t (tb_4 (List.mem_of_getElem? (i := 107) rfl)) rfl
theorem gw_305 : Cond.selects "ChallengeAuthorityModel" y_MO_mix y_MO_mix ∈ GW := gw_p (List.mem_of_getElem? (i := 31) rfl) rfl
theorem gw_306 : Cond.initialized "ChallengeAuthorityModel" ∈ GW := gw_t (tb_1 (List.mem_of_getElem? (i := 10) rfl)) rfl
theorem gw_307 : Cond.code y_MO_mixedDigest prog_11_method_6_code 1 (Option.some Jvm.ClassFile.FieldType.int) ∈ GW := gw_t (tb_4 (List.mem_of_getElem? (i := 113) rfl)) rfl
theorem gw_308 : Cond.methodLink "ChallengeAuthorityModel" 95 y_MO_mixedDigest ∈ GW := gw_t (tb_4 (List.mem_of_getElem? (i := 110) rfl)) rfl
theorem gw_309 : Cond.instanceMethod y_MO_mixedDigest ∈ GW := gw_t (tb_4 (List.mem_of_getElem? (i := 112) rfl)) rfl
theorem gw_310 : Cond.selects "ChallengeAuthorityModel" y_MO_mixedDigest y_MO_mixedDigest ∈ GW := gw_p (List.mem_of_getElem? (i := 32) rfl) rfl
theorem gw_311 : Cond.code y_MO_raised prog_11_method_8_code 7 (Option.some Jvm.ClassFile.FieldType.long) ∈ GW := gw_t (tb_4 (List.mem_of_getElem? (i := 96) rfl)) rfl
theorem gw_312 : Cond.methodLink "ChallengeAuthorityModel" 99 y_MO_raised ∈ GW := gw_t (tb_4 (List.mem_of_getElem? (i := 94) rfl)) rfl
theorem gw_313 : Cond.static y_MO_raised ∈ GW := gw_t (tb_4 (List.mem_of_getElem? (i := 95) rfl)) rfl
theorem gw_314 : Cond.fieldLink "ChallengeAuthorityModel" 103 "ChallengeAuthorityModel" "out" "I" ∈ GW := gw_t (tb_3 (List.mem_of_getElem? (i := 227) rfl)) rfl
theorem gw_315 : Cond.fieldLink "ChallengeAuthorityModel" 71 "ChallengeAuthorityModel" "nonces" "[I" ∈ GW := gw_t (tb_3 (List.mem_of_getElem? (i := 228) rfl)) rfl
theorem gw_316 : Cond.code y_MO_draw prog_11_method_3_code 1 (Option.some Jvm.ClassFile.FieldType.int) ∈ GW := gw_t (tb_4 (List.mem_of_getElem? (i := 81) rfl)) rfl
theorem gw_317 : Cond.methodLink "ChallengeAuthorityModel" 106 y_MO_draw ∈ GW := gw_t (tb_4 (List.mem_of_getElem? (i := 78) rfl)) rfl
theorem gw_318 : Cond.instanceMethod y_MO_draw ∈ GW := gw_t (tb_4 (List.mem_of_getElem? (i := 80) rfl)) rfl
theorem gw_319 : Cond.selects "ChallengeAuthorityModel" y_MO_draw y_MO_draw ∈ GW := gw_p (List.mem_of_getElem? (i := 28) rfl) rfl
theorem gw_320 : Cond.code y_MO_take prog_11_method_11_code 3 (Option.none : Option Jvm.ClassFile.FieldType) ∈ GW := gw_t (tb_4 (List.mem_of_getElem? (i := 86) rfl)) rfl
theorem gw_321 : Cond.methodLink "ChallengeAuthorityModel" 109 y_MO_take ∈ GW := gw_t (tb_4 (List.mem_of_getElem? (i := 83) rfl)) rfl
theorem gw_322 : Cond.instanceMethod y_MO_take ∈ GW := gw_t (tb_4 (List.mem_of_getElem? (i := 85) rfl)) rfl
theorem gw_323 : Cond.selects "ChallengeAuthorityModel" y_MO_take y_MO_take ∈ GW := gw_p (List.mem_of_getElem? (i := 29) rfl) rfl
theorem gw_324 : Cond.code y_MO_isKey prog_11_method_4_code 1 (Option.some Jvm.ClassFile.FieldType.boolean) ∈ GW := gw_t (tb_4 (List.mem_of_getElem? (i := 93) rfl)) rfl
theorem gw_325 : Cond.methodLink "ChallengeAuthorityModel" 112 y_MO_isKey ∈ GW := gw_t (tb_4 (List.mem_of_getElem? (i := 91) rfl)) rfl
theorem gw_326 : Cond.static y_MO_isKey ∈ GW := gw_t (tb_4 (List.mem_of_getElem? (i := 92) rfl)) rfl
theorem gw_327 : Cond.code y_MO_five prog_11_method_7_code 6 (Option.some Jvm.ClassFile.FieldType.int) ∈ GW := gw_t (tb_4 (List.mem_of_getElem? (i := 104) rfl)) rfl
theorem gw_328 : Cond.methodLink "ChallengeAuthorityModel" 116 y_MO_five ∈ GW := gw_t (tb_4 (List.mem_of_getElem? (i := 101) rfl)) rfl
theorem gw_329 : Cond.instanceMethod y_MO_five ∈ GW := gw_t (tb_4 (List.mem_of_getElem? (i := 103) rfl)) rfl
theorem gw_330 : Cond.selects "ChallengeAuthorityModel" y_MO_five y_MO_five ∈ GW := gw_p (List.mem_of_getElem? (i := 30) rfl) rfl
theorem gw_331 : Cond.fieldLink "ChallengeAuthorityModel" 120 "ChallengeAuthorityModel" "accounts" "I" ∈ GW := gw_t (tb_3 (List.mem_of_getElem? (i := 203) rfl)) rfl
theorem gw_332 : Cond.fieldLink "ChallengeAuthorityModel" 13 "ChallengeAuthorityModel" "closed" "[Z" ∈ GW := gw_t (tb_3 (List.mem_of_getElem? (i := 205) rfl)) rfl
theorem gw_333 : Cond.fieldLink "ChallengeAuthorityModel" 7 "ChallengeAuthorityModel" "keys" "[I" ∈ GW := gw_t (tb_3 (List.mem_of_getElem? (i := 204) rfl)) rfl
theorem gw_334 : Cond.code y_MO_isRight prog_11_method_9_code 3 (Option.some Jvm.ClassFile.FieldType.boolean) ∈ GW := gw_t (tb_4 (List.mem_of_getElem? (i := 124) rfl)) rfl
theorem gw_335 : Cond.methodLink "ChallengeAuthorityModel" 123 y_MO_isRight ∈ GW := gw_t (tb_4 (List.mem_of_getElem? (i := 122) rfl)) rfl
theorem gw_336 : Cond.static y_MO_isRight ∈ GW := gw_t (tb_4 (List.mem_of_getElem? (i := 123) rfl)) rfl
theorem gw_337 : Cond.code y_MO_find prog_11_method_12_code 3 (Option.some Jvm.ClassFile.FieldType.int) ∈ GW := gw_t (tb_4 (List.mem_of_getElem? (i := 121) rfl)) rfl
theorem gw_338 : Cond.methodLink "ChallengeAuthorityModel" 127 y_MO_find ∈ GW := gw_t (tb_4 (List.mem_of_getElem? (i := 118) rfl)) rfl
theorem gw_339 : Cond.instanceMethod y_MO_find ∈ GW := gw_t (tb_4 (List.mem_of_getElem? (i := 120) rfl)) rfl
theorem gw_340 : Cond.selects "ChallengeAuthorityModel" y_MO_find y_MO_find ∈ GW := gw_p (List.mem_of_getElem? (i := 33) rfl) rfl
theorem gw_341 : Cond.code y_MO_holder prog_11_method_16_code 3 (Option.some Jvm.ClassFile.FieldType.int) ∈ GW := gw_t (tb_4 (List.mem_of_getElem? (i := 128) rfl)) rfl
theorem gw_342 : Cond.methodLink "ChallengeAuthorityModel" 131 y_MO_holder ∈ GW := gw_t (tb_4 (List.mem_of_getElem? (i := 125) rfl)) rfl
theorem gw_343 : Cond.instanceMethod y_MO_holder ∈ GW := gw_t (tb_4 (List.mem_of_getElem? (i := 127) rfl)) rfl
theorem gw_344 : Cond.selects "ChallengeAuthorityModel" y_MO_holder y_MO_holder ∈ GW := gw_p (List.mem_of_getElem? (i := 34) rfl) rfl
theorem gw_345 : Cond.fieldLink "ChallengeAuthorityModel" 26 "ChallengeAuthorityModel" "orderState" "[I" ∈ GW := gw_t (tb_3 (List.mem_of_getElem? (i := 210) rfl)) rfl
theorem gw_346 : Cond.fieldLink "ChallengeAuthorityModel" 32 "ChallengeAuthorityModel" "orderMany" "[I" ∈ GW := gw_t (tb_3 (List.mem_of_getElem? (i := 212) rfl)) rfl
theorem gw_347 : Cond.fieldLink "ChallengeAuthorityModel" 47 "ChallengeAuthorityModel" "authState" "[I" ∈ GW := gw_t (tb_3 (List.mem_of_getElem? (i := 218) rfl)) rfl
theorem gw_348 : Cond.fieldLink "ChallengeAuthorityModel" 35 "ChallengeAuthorityModel" "orderAuths" "[I" ∈ GW := gw_t (tb_3 (List.mem_of_getElem? (i := 213) rfl)) rfl
theorem gw_349 : Cond.fieldLink "ChallengeAuthorityModel" 134 "ChallengeAuthorityModel" "orders" "I" ∈ GW := gw_t (tb_3 (List.mem_of_getElem? (i := 206) rfl)) rfl
theorem gw_350 : Cond.fieldLink "ChallengeAuthorityModel" 137 "ChallengeAuthorityModel" "auths" "I" ∈ GW := gw_t (tb_3 (List.mem_of_getElem? (i := 214) rfl)) rfl
theorem gw_351 : Cond.fieldLink "ChallengeAuthorityModel" 38 "ChallengeAuthorityModel" "authAccount" "[I" ∈ GW := gw_t (tb_3 (List.mem_of_getElem? (i := 215) rfl)) rfl
theorem gw_352 : Cond.fieldLink "ChallengeAuthorityModel" 41 "ChallengeAuthorityModel" "authName" "[I" ∈ GW := gw_t (tb_3 (List.mem_of_getElem? (i := 216) rfl)) rfl
theorem gw_353 : Cond.code y_MO_has prog_11_method_20_code 2 (Option.some Jvm.ClassFile.FieldType.boolean) ∈ GW := gw_t (tb_4 (List.mem_of_getElem? (i := 143) rfl)) rfl
theorem gw_354 : Cond.methodLink "ChallengeAuthorityModel" 140 y_MO_has ∈ GW := gw_t (tb_4 (List.mem_of_getElem? (i := 141) rfl)) rfl
theorem gw_355 : Cond.static y_MO_has ∈ GW := gw_t (tb_4 (List.mem_of_getElem? (i := 142) rfl)) rfl
theorem gw_356 : Cond.fieldLink "ChallengeAuthorityModel" 50 "ChallengeAuthorityModel" "token" "[I" ∈ GW := gw_t (tb_3 (List.mem_of_getElem? (i := 219) rfl)) rfl
theorem gw_357 : Cond.fieldLink "ChallengeAuthorityModel" 53 "ChallengeAuthorityModel" "stage" "[I" ∈ GW := gw_t (tb_3 (List.mem_of_getElem? (i := 220) rfl)) rfl
theorem gw_358 : Cond.fieldLink "ChallengeAuthorityModel" 56 "ChallengeAuthorityModel" "wrong" "[I" ∈ GW := gw_t (tb_3 (List.mem_of_getElem? (i := 221) rfl)) rfl
theorem gw_359 : Cond.fieldLink "ChallengeAuthorityModel" 44 "ChallengeAuthorityModel" "authEnds" "[I" ∈ GW := gw_t (tb_3 (List.mem_of_getElem? (i := 217) rfl)) rfl
theorem gw_360 : Cond.fieldLink "ChallengeAuthorityModel" 144 "ChallengeAuthorityModel" "time" "I" ∈ GW := gw_t (tb_3 (List.mem_of_getElem? (i := 202) rfl)) rfl
theorem gw_361 : Cond.code y_MO_valid prog_11_method_19_code 5 (Option.some Jvm.ClassFile.FieldType.int) ∈ GW := gw_t (tb_4 (List.mem_of_getElem? (i := 151) rfl)) rfl
theorem gw_362 : Cond.methodLink "ChallengeAuthorityModel" 147 y_MO_valid ∈ GW := gw_t (tb_4 (List.mem_of_getElem? (i := 148) rfl)) rfl
theorem gw_363 : Cond.instanceMethod y_MO_valid ∈ GW := gw_t (tb_4 (List.mem_of_getElem? (i := 150) rfl)) rfl
theorem gw_364 : Cond.selects "ChallengeAuthorityModel" y_MO_valid y_MO_valid ∈ GW := gw_p (List.mem_of_getElem? (i := 37) rfl) rfl
theorem gw_365 : Cond.code y_MO_settle prog_11_method_18_code 6 (Option.none : Option Jvm.ClassFile.FieldType) ∈ GW := gw_t (tb_4 (List.mem_of_getElem? (i := 159) rfl)) rfl
theorem gw_366 : Cond.methodLink "ChallengeAuthorityModel" 166 y_MO_settle ∈ GW := gw_t (tb_4 (List.mem_of_getElem? (i := 156) rfl)) rfl
theorem gw_367 : Cond.instanceMethod y_MO_settle ∈ GW := gw_t (tb_4 (List.mem_of_getElem? (i := 158) rfl)) rfl
theorem gw_368 : Cond.selects "ChallengeAuthorityModel" y_MO_settle y_MO_settle ∈ GW := gw_p (List.mem_of_getElem? (i := 39) rfl) rfl
theorem gw_369 : Cond.code y_MO_authorize prog_11_method_22_code 6 (Option.some Jvm.ClassFile.FieldType.int) ∈ GW := gw_t (tb_4 (List.mem_of_getElem? (i := 155) rfl)) rfl
theorem gw_370 : Cond.methodLink "ChallengeAuthorityModel" 162 y_MO_authorize ∈ GW := gw_t (tb_4 (List.mem_of_getElem? (i := 152) rfl)) rfl
theorem gw_371 : Cond.instanceMethod y_MO_authorize ∈ GW := gw_t (tb_4 (List.mem_of_getElem? (i := 154) rfl)) rfl
theorem gw_372 : Cond.selects "ChallengeAuthorityModel" y_MO_authorize y_MO_authorize ∈ GW := gw_p (List.mem_of_getElem? (i := 38) rfl) rfl
theorem gw_373 : Cond.fieldLink "ChallengeAuthorityModel" 17 "ChallengeAuthorityModel" "orderAccount" "[I" ∈ GW := gw_t (tb_3 (List.mem_of_getElem? (i := 207) rfl)) rfl
theorem gw_374 : Cond.fieldLink "ChallengeAuthorityModel" 20 "ChallengeAuthorityModel" "orderNames" "[I" ∈ GW := gw_t (tb_3 (List.mem_of_getElem? (i := 208) rfl)) rfl
theorem gw_375 : Cond.fieldLink "ChallengeAuthorityModel" 23 "ChallengeAuthorityModel" "orderEnds" "[I" ∈ GW := gw_t (tb_3 (List.mem_of_getElem? (i := 209) rfl)) rfl
theorem gw_376 : Cond.fieldLink "ChallengeAuthorityModel" 29 "ChallengeAuthorityModel" "orderPaper" "[I" ∈ GW := gw_t (tb_3 (List.mem_of_getElem? (i := 211) rfl)) rfl
theorem gw_377 : Cond.code y_MO_fresh prog_11_method_23_code 5 (Option.some Jvm.ClassFile.FieldType.int) ∈ GW := gw_t (tb_4 (List.mem_of_getElem? (i := 147) rfl)) rfl
theorem gw_378 : Cond.methodLink "ChallengeAuthorityModel" 159 y_MO_fresh ∈ GW := gw_t (tb_4 (List.mem_of_getElem? (i := 144) rfl)) rfl
theorem gw_379 : Cond.instanceMethod y_MO_fresh ∈ GW := gw_t (tb_4 (List.mem_of_getElem? (i := 146) rfl)) rfl
theorem gw_380 : Cond.selects "ChallengeAuthorityModel" y_MO_fresh y_MO_fresh ∈ GW := gw_p (List.mem_of_getElem? (i := 36) rfl) rfl
theorem gw_381 : Cond.code y_MO_signed prog_11_method_15_code 6 (Option.some Jvm.ClassFile.FieldType.int) ∈ GW := gw_t (tb_4 (List.mem_of_getElem? (i := 136) rfl)) rfl
theorem gw_382 : Cond.methodLink "ChallengeAuthorityModel" 151 y_MO_signed ∈ GW := gw_t (tb_4 (List.mem_of_getElem? (i := 133) rfl)) rfl
theorem gw_383 : Cond.instanceMethod y_MO_signed ∈ GW := gw_t (tb_4 (List.mem_of_getElem? (i := 135) rfl)) rfl
theorem gw_384 : Cond.selects "ChallengeAuthorityModel" y_MO_signed y_MO_signed ∈ GW := gw_p (List.mem_of_getElem? (i := 35) rfl) rfl
theorem gw_385 : Cond.constant "ChallengeAuthorityModel" 155 65536 ∈ GW := gw_t (tb_4 (List.mem_of_getElem? (i := 137) rfl)) rfl
theorem gw_386 : Cond.code y_MO_many prog_11_method_21_code 3 (Option.some Jvm.ClassFile.FieldType.int) ∈ GW := gw_t (tb_4 (List.mem_of_getElem? (i := 140) rfl)) rfl
theorem gw_387 : Cond.methodLink "ChallengeAuthorityModel" 156 y_MO_many ∈ GW := gw_t (tb_4 (List.mem_of_getElem? (i := 138) rfl)) rfl
theorem gw_388 : Cond.static y_MO_many ∈ GW := gw_t (tb_4 (List.mem_of_getElem? (i := 139) rfl)) rfl
theorem gw_389 : Cond.code y_MO_isAuth prog_11_method_25_code 2 (Option.some Jvm.ClassFile.FieldType.boolean) ∈ GW := gw_t (tb_4 (List.mem_of_getElem? (i := 167) rfl)) rfl
theorem gw_390 : Cond.methodLink "ChallengeAuthorityModel" 169 y_MO_isAuth ∈ GW := gw_t (tb_4 (List.mem_of_getElem? (i := 164) rfl)) rfl
theorem gw_391 : Cond.instanceMethod y_MO_isAuth ∈ GW := gw_t (tb_4 (List.mem_of_getElem? (i := 166) rfl)) rfl
theorem gw_392 : Cond.selects "ChallengeAuthorityModel" y_MO_isAuth y_MO_isAuth ∈ GW := gw_p (List.mem_of_getElem? (i := 40) rfl) rfl
theorem gw_393 : Cond.code y_MO_isWhich prog_11_method_26_code 1 (Option.some Jvm.ClassFile.FieldType.boolean) ∈ GW := gw_t (tb_4 (List.mem_of_getElem? (i := 170) rfl)) rfl
theorem gw_394 : Cond.methodLink "ChallengeAuthorityModel" 172 y_MO_isWhich ∈ GW := gw_t (tb_4 (List.mem_of_getElem? (i := 168) rfl)) rfl
theorem gw_395 : Cond.static y_MO_isWhich ∈ GW := gw_t (tb_4 (List.mem_of_getElem? (i := 169) rfl)) rfl
theorem gw_396 : Cond.fieldLink "ChallengeAuthorityModel" 179 "ChallengeAuthorityModel" "at" "I" ∈ GW := gw_t (tb_3 (List.mem_of_getElem? (i := 231) rfl)) rfl
theorem gw_397 : Cond.fieldLink "ChallengeAuthorityModel" 175 "ChallengeAuthorityModel" "good" "Z" ∈ GW := gw_t (tb_3 (List.mem_of_getElem? (i := 232) rfl)) rfl
theorem gw_398 : Cond.fieldLink "ChallengeAuthorityModel" 74 "ChallengeAuthorityModel" "text" "[I" ∈ GW := gw_t (tb_3 (List.mem_of_getElem? (i := 229) rfl)) rfl
theorem gw_399 : Cond.fieldLink "ChallengeAuthorityModel" 182 "ChallengeAuthorityModel" "size" "I" ∈ GW := gw_t (tb_3 (List.mem_of_getElem? (i := 230) rfl)) rfl
theorem gw_400 : Cond.code y_MO_next prog_11_method_29_code 2 (Option.some Jvm.ClassFile.FieldType.int) ∈ GW := gw_t (tb_4 (List.mem_of_getElem? (i := 198) rfl)) rfl
theorem gw_401 : Cond.methodLink "ChallengeAuthorityModel" 185 y_MO_next ∈ GW := gw_t (tb_4 (List.mem_of_getElem? (i := 195) rfl)) rfl
theorem gw_402 : Cond.instanceMethod y_MO_next ∈ GW := gw_t (tb_4 (List.mem_of_getElem? (i := 197) rfl)) rfl
theorem gw_403 : Cond.selects "ChallengeAuthorityModel" y_MO_next y_MO_next ∈ GW := gw_p (List.mem_of_getElem? (i := 44) rfl) rfl
theorem gw_404 : Cond.code y_MO_must prog_11_method_30_code 3 (Option.none : Option Jvm.ClassFile.FieldType) ∈ GW := gw_t (tb_4 (List.mem_of_getElem? (i := 194) rfl)) rfl
theorem gw_405 : Cond.methodLink "ChallengeAuthorityModel" 188 y_MO_must ∈ GW := gw_t (tb_4 (List.mem_of_getElem? (i := 191) rfl)) rfl
theorem gw_406 : Cond.instanceMethod y_MO_must ∈ GW := gw_t (tb_4 (List.mem_of_getElem? (i := 193) rfl)) rfl
theorem gw_407 : Cond.selects "ChallengeAuthorityModel" y_MO_must y_MO_must ∈ GW := gw_p (List.mem_of_getElem? (i := 43) rfl) rfl
theorem gw_408 : Cond.code y_MO_takeLength prog_11_method_31_code 2 (Option.some Jvm.ClassFile.FieldType.int) ∈ GW := gw_t (tb_4 (List.mem_of_getElem? (i := 202) rfl)) rfl
theorem gw_409 : Cond.methodLink "ChallengeAuthorityModel" 191 y_MO_takeLength ∈ GW := gw_t (tb_4 (List.mem_of_getElem? (i := 199) rfl)) rfl
theorem gw_410 : Cond.instanceMethod y_MO_takeLength ∈ GW := gw_t (tb_4 (List.mem_of_getElem? (i := 201) rfl)) rfl
theorem gw_411 : Cond.selects "ChallengeAuthorityModel" y_MO_takeLength y_MO_takeLength ∈ GW := gw_p (List.mem_of_getElem? (i := 45) rfl) rfl
theorem gw_412 : Cond.code y_MO_takeNumber prog_11_method_32_code 6 (Option.some Jvm.ClassFile.FieldType.int) ∈ GW := gw_t (tb_4 (List.mem_of_getElem? (i := 206) rfl)) rfl
theorem gw_413 : Cond.methodLink "ChallengeAuthorityModel" 194 y_MO_takeNumber ∈ GW := gw_t (tb_4 (List.mem_of_getElem? (i := 203) rfl)) rfl
theorem gw_414 : Cond.instanceMethod y_MO_takeNumber ∈ GW := gw_t (tb_4 (List.mem_of_getElem? (i := 205) rfl)) rfl
theorem gw_415 : Cond.selects "ChallengeAuthorityModel" y_MO_takeNumber y_MO_takeNumber ∈ GW := gw_p (List.mem_of_getElem? (i := 46) rfl) rfl
theorem gw_416 : Cond.fieldLink "ChallengeAuthorityModel" 197 "ChallengeAuthorityModel" "wantedKey" "I" ∈ GW := gw_t (tb_3 (List.mem_of_getElem? (i := 233) rfl)) rfl
theorem gw_417 : Cond.fieldLink "ChallengeAuthorityModel" 200 "ChallengeAuthorityModel" "wantedNames" "I" ∈ GW := gw_t (tb_3 (List.mem_of_getElem? (i := 234) rfl)) rfl
theorem gw_418 : Cond.code y_MO_textDigest prog_11_method_34_code 2 (Option.some Jvm.ClassFile.FieldType.int) ∈ GW := gw_t (tb_4 (List.mem_of_getElem? (i := 182) rfl)) rfl
theorem gw_419 : Cond.methodLink "ChallengeAuthorityModel" 203 y_MO_textDigest ∈ GW := gw_t (tb_4 (List.mem_of_getElem? (i := 179) rfl)) rfl
theorem gw_420 : Cond.instanceMethod y_MO_textDigest ∈ GW := gw_t (tb_4 (List.mem_of_getElem? (i := 181) rfl)) rfl
theorem gw_421 : Cond.selects "ChallengeAuthorityModel" y_MO_textDigest y_MO_textDigest ∈ GW := gw_p (List.mem_of_getElem? (i := 41) rfl) rfl
theorem gw_422 : Cond.code y_MO_readRequest prog_11_method_33_code 5 (Option.none : Option Jvm.ClassFile.FieldType) ∈ GW := gw_t (tb_4 (List.mem_of_getElem? (i := 190) rfl)) rfl
theorem gw_423 : Cond.methodLink "ChallengeAuthorityModel" 209 y_MO_readRequest ∈ GW := gw_t (tb_4 (List.mem_of_getElem? (i := 187) rfl)) rfl
theorem gw_424 : Cond.instanceMethod y_MO_readRequest ∈ GW := gw_t (tb_4 (List.mem_of_getElem? (i := 189) rfl)) rfl
theorem gw_425 : Cond.selects "ChallengeAuthorityModel" y_MO_readRequest y_MO_readRequest ∈ GW := gw_p (List.mem_of_getElem? (i := 42) rfl) rfl
theorem gw_426 : Cond.fieldLink "ChallengeAuthorityModel" 206 "ChallengeAuthorityModel" "papers" "I" ∈ GW := gw_t (tb_3 (List.mem_of_getElem? (i := 222) rfl)) rfl
theorem gw_427 : Cond.fieldLink "ChallengeAuthorityModel" 59 "ChallengeAuthorityModel" "paperOrder" "[I" ∈ GW := gw_t (tb_3 (List.mem_of_getElem? (i := 223) rfl)) rfl
theorem gw_428 : Cond.fieldLink "ChallengeAuthorityModel" 62 "ChallengeAuthorityModel" "paperKey" "[I" ∈ GW := gw_t (tb_3 (List.mem_of_getElem? (i := 224) rfl)) rfl
theorem gw_429 : Cond.fieldLink "ChallengeAuthorityModel" 65 "ChallengeAuthorityModel" "paperTime" "[I" ∈ GW := gw_t (tb_3 (List.mem_of_getElem? (i := 225) rfl)) rfl
theorem gw_430 : Cond.fieldLink "ChallengeAuthorityModel" 68 "ChallengeAuthorityModel" "paperReason" "[I" ∈ GW := gw_t (tb_3 (List.mem_of_getElem? (i := 226) rfl)) rfl
theorem gw_431 : Cond.code y_MO_may prog_11_method_38_code 5 (Option.some Jvm.ClassFile.FieldType.boolean) ∈ GW := gw_t (tb_4 (List.mem_of_getElem? (i := 218) rfl)) rfl
theorem gw_432 : Cond.methodLink "ChallengeAuthorityModel" 212 y_MO_may ∈ GW := gw_t (tb_4 (List.mem_of_getElem? (i := 215) rfl)) rfl
theorem gw_433 : Cond.instanceMethod y_MO_may ∈ GW := gw_t (tb_4 (List.mem_of_getElem? (i := 217) rfl)) rfl
theorem gw_434 : Cond.selects "ChallengeAuthorityModel" y_MO_may y_MO_may ∈ GW := gw_p (List.mem_of_getElem? (i := 47) rfl) rfl
theorem gw_435 : Cond.code y_MO_give prog_11_method_40_code 3 (Option.some Jvm.ClassFile.FieldType.int) ∈ GW := gw_t (tb_4 (List.mem_of_getElem? (i := 226) rfl)) rfl
theorem gw_436 : Cond.methodLink "ChallengeAuthorityModel" 215 y_MO_give ∈ GW := gw_t (tb_4 (List.mem_of_getElem? (i := 223) rfl)) rfl
theorem gw_437 : Cond.instanceMethod y_MO_give ∈ GW := gw_t (tb_4 (List.mem_of_getElem? (i := 225) rfl)) rfl
theorem gw_438 : Cond.selects "ChallengeAuthorityModel" y_MO_give y_MO_give ∈ GW := gw_p (List.mem_of_getElem? (i := 48) rfl) rfl
theorem gw_439 : Cond.constantLong "ChallengeAuthorityModel" 218 255 ∈ GW := gw_t (tb_4 (List.mem_of_getElem? (i := 235) rfl)) rfl
theorem gw_440 : Cond.code y_MO_counted prog_11_method_46_code 2 (Option.some Jvm.ClassFile.FieldType.int) ∈ GW := gw_t (tb_5 (List.mem_of_getElem? (i := 11) rfl)) rfl
theorem gw_441 : Cond.methodLink "ChallengeAuthorityModel" 220 y_MO_counted ∈ GW := gw_t (tb_5 (List.mem_of_getElem? (i := 8) rfl)) rfl
theorem gw_442 : Cond.instanceMethod y_MO_counted ∈ GW := gw_t (tb_5 (List.mem_of_getElem? (i := 10) rfl)) rfl
theorem gw_443 : Cond.selects "ChallengeAuthorityModel" y_MO_counted y_MO_counted ∈ GW := gw_p (List.mem_of_getElem? (i := 49) rfl) rfl
theorem gw_444 : Cond.code y_MO_look prog_11_method_48_code 4 (Option.none : Option Jvm.ClassFile.FieldType) ∈ GW := gw_t (tb_5 (List.mem_of_getElem? (i := 19) rfl)) rfl
theorem gw_445 : Cond.methodLink "ChallengeAuthorityModel" 223 y_MO_look ∈ GW := gw_t (tb_5 (List.mem_of_getElem? (i := 16) rfl)) rfl
theorem gw_446 : Cond.instanceMethod y_MO_look ∈ GW := gw_t (tb_5 (List.mem_of_getElem? (i := 18) rfl)) rfl
theorem gw_447 : Cond.selects "ChallengeAuthorityModel" y_MO_look y_MO_look ∈ GW := gw_p (List.mem_of_getElem? (i := 50) rfl) rfl
theorem gw_448 : Cond.code y_MO_ofPaper prog_11_method_52_code 3 (Option.some Jvm.ClassFile.FieldType.int) ∈ GW := gw_t (tb_5 (List.mem_of_getElem? (i := 35) rfl)) rfl
theorem gw_449 : Cond.methodLink "ChallengeAuthorityModel" 233 y_MO_ofPaper ∈ GW := gw_t (tb_5 (List.mem_of_getElem? (i := 32) rfl)) rfl
theorem gw_450 : Cond.instanceMethod y_MO_ofPaper ∈ GW := gw_t (tb_5 (List.mem_of_getElem? (i := 34) rfl)) rfl
theorem gw_451 : Cond.selects "ChallengeAuthorityModel" y_MO_ofPaper y_MO_ofPaper ∈ GW := gw_p (List.mem_of_getElem? (i := 53) rfl) rfl
theorem gw_452 : Cond.code y_MO_ofAccount prog_11_method_50_code 5 (Option.some Jvm.ClassFile.FieldType.int) ∈ GW := gw_t (tb_5 (List.mem_of_getElem? (i := 27) rfl)) rfl
theorem gw_453 : Cond.methodLink "ChallengeAuthorityModel" 227 y_MO_ofAccount ∈ GW := gw_t (tb_5 (List.mem_of_getElem? (i := 24) rfl)) rfl
theorem gw_454 : Cond.instanceMethod y_MO_ofAccount ∈ GW := gw_t (tb_5 (List.mem_of_getElem? (i := 26) rfl)) rfl
theorem gw_455 : Cond.selects "ChallengeAuthorityModel" y_MO_ofAccount y_MO_ofAccount ∈ GW := gw_p (List.mem_of_getElem? (i := 51) rfl) rfl
theorem gw_456 : Cond.code y_MO_ofOrder prog_11_method_51_code 3 (Option.some Jvm.ClassFile.FieldType.int) ∈ GW := gw_t (tb_5 (List.mem_of_getElem? (i := 31) rfl)) rfl
theorem gw_457 : Cond.methodLink "ChallengeAuthorityModel" 230 y_MO_ofOrder ∈ GW := gw_t (tb_5 (List.mem_of_getElem? (i := 28) rfl)) rfl
theorem gw_458 : Cond.instanceMethod y_MO_ofOrder ∈ GW := gw_t (tb_5 (List.mem_of_getElem? (i := 30) rfl)) rfl
theorem gw_459 : Cond.selects "ChallengeAuthorityModel" y_MO_ofOrder y_MO_ofOrder ∈ GW := gw_p (List.mem_of_getElem? (i := 52) rfl) rfl
theorem gw_460 : Cond.lays "ChallengeAuthority" "ChallengeAuthority" "drawState" "I" ∈ GW := gw_t (tb_1 (List.mem_of_getElem? (i := 218) rfl)) rfl
theorem gw_461 : Cond.lays "ChallengeAuthority" "ChallengeAuthority" "time" "I" ∈ GW := gw_t (tb_1 (List.mem_of_getElem? (i := 220) rfl)) rfl
theorem gw_462 : Cond.lays "ChallengeAuthority" "ChallengeAuthority" "accountCount" "I" ∈ GW := gw_t (tb_1 (List.mem_of_getElem? (i := 222) rfl)) rfl
theorem gw_463 : Cond.lays "ChallengeAuthority" "ChallengeAuthority" "orderCount" "I" ∈ GW := gw_t (tb_1 (List.mem_of_getElem? (i := 224) rfl)) rfl
theorem gw_464 : Cond.lays "ChallengeAuthority" "ChallengeAuthority" "authorizationCount" "I" ∈ GW := gw_t (tb_1 (List.mem_of_getElem? (i := 226) rfl)) rfl
theorem gw_465 : Cond.lays "ChallengeAuthority" "ChallengeAuthority" "certificateCount" "I" ∈ GW := gw_t (tb_1 (List.mem_of_getElem? (i := 228) rfl)) rfl
theorem gw_466 : Cond.laysFinal "ChallengeAuthority" "ChallengeAuthority" "accounts" "[LChallengeAuthority$Account;" ∈ GW := gw_t (tb_1 (List.mem_of_getElem? (i := 230) rfl)) rfl
theorem gw_467 : Cond.laysFinal "ChallengeAuthority" "ChallengeAuthority" "orders" "[LChallengeAuthority$Order;" ∈ GW := gw_t (tb_1 (List.mem_of_getElem? (i := 232) rfl)) rfl
theorem gw_468 : Cond.laysFinal "ChallengeAuthority" "ChallengeAuthority" "authorizations" "[LChallengeAuthority$Authorization;" ∈ GW := gw_t (tb_1 (List.mem_of_getElem? (i := 234) rfl)) rfl
theorem gw_469 : Cond.laysFinal "ChallengeAuthority" "ChallengeAuthority" "challenges" "[LChallengeAuthority$Challenge;" ∈ GW := gw_t (tb_1 (List.mem_of_getElem? (i := 236) rfl)) rfl
theorem gw_470 : Cond.laysFinal "ChallengeAuthority" "ChallengeAuthority" "certificates" "[LChallengeAuthority$Certificate;" ∈ GW := gw_t (tb_1 (List.mem_of_getElem? (i := 238) rfl)) rfl
theorem gw_471 : Cond.laysFinal "ChallengeAuthority" "ChallengeAuthority" "nonces" "LChallengeAuthority$Nonces;" ∈ GW := gw_t (tb_2 (List.mem_of_getElem? (i := 0) rfl)) rfl
theorem gw_472 : Cond.laysFinal "ChallengeAuthority" "ChallengeAuthority" "text" "LChallengeAuthority$Text;" ∈ GW := gw_t (tb_2 (List.mem_of_getElem? (i := 2) rfl)) rfl
theorem gw_473 : Cond.laysFinal "ChallengeAuthority" "ChallengeAuthority" "request" "LChallengeAuthority$Request;" ∈ GW := gw_t (tb_2 (List.mem_of_getElem? (i := 4) rfl)) rfl
theorem gw_474 : Cond.lays "ChallengeAuthority$Nonces" "ChallengeAuthority$Nonces" "count" "I" ∈ GW := gw_t (tb_1 (List.mem_of_getElem? (i := 46) rfl)) rfl
theorem gw_475 : Cond.laysFinal "ChallengeAuthority$Nonces" "ChallengeAuthority$Nonces" "out" "[I" ∈ GW := gw_t (tb_1 (List.mem_of_getElem? (i := 48) rfl)) rfl
theorem gw_476 : Cond.lays "ChallengeAuthority$Text" "ChallengeAuthority$Text" "size" "I" ∈ GW := gw_t (tb_1 (List.mem_of_getElem? (i := 64) rfl)) rfl
theorem gw_477 : Cond.laysFinal "ChallengeAuthority$Text" "ChallengeAuthority$Text" "bytes" "[I" ∈ GW := gw_t (tb_1 (List.mem_of_getElem? (i := 66) rfl)) rfl
theorem gw_478 : Cond.lays "ChallengeAuthority$Request" "ChallengeAuthority$Request" "key" "I" ∈ GW := gw_t (tb_1 (List.mem_of_getElem? (i := 81) rfl)) rfl
theorem gw_479 : Cond.lays "ChallengeAuthority$Request" "ChallengeAuthority$Request" "names" "I" ∈ GW := gw_t (tb_1 (List.mem_of_getElem? (i := 83) rfl)) rfl
theorem gw_480 : Cond.lays "ChallengeAuthority$Request" "ChallengeAuthority$Request" "at" "I" ∈ GW := gw_t (tb_1 (List.mem_of_getElem? (i := 85) rfl)) rfl
theorem gw_481 : Cond.lays "ChallengeAuthority$Request" "ChallengeAuthority$Request" "sound" "Z" ∈ GW := gw_t (tb_1 (List.mem_of_getElem? (i := 87) rfl)) rfl
theorem gw_482 : Cond.lays "ChallengeAuthority$Account" "ChallengeAuthority$Account" "state" "I" ∈ GW := gw_t (tb_1 (List.mem_of_getElem? (i := 97) rfl)) rfl
theorem gw_483 : Cond.lays "ChallengeAuthority$Account" "ChallengeAuthority$Account" "key" "I" ∈ GW := gw_t (tb_1 (List.mem_of_getElem? (i := 99) rfl)) rfl
theorem gw_484 : Cond.lays "ChallengeAuthority$Order" "ChallengeAuthority$Order" "state" "I" ∈ GW := gw_t (tb_1 (List.mem_of_getElem? (i := 121) rfl)) rfl
theorem gw_485 : Cond.lays "ChallengeAuthority$Order" "ChallengeAuthority$Order" "owner" "I" ∈ GW := gw_t (tb_1 (List.mem_of_getElem? (i := 123) rfl)) rfl
theorem gw_486 : Cond.lays "ChallengeAuthority$Order" "ChallengeAuthority$Order" "names" "I" ∈ GW := gw_t (tb_1 (List.mem_of_getElem? (i := 125) rfl)) rfl
theorem gw_487 : Cond.lays "ChallengeAuthority$Order" "ChallengeAuthority$Order" "expires" "I" ∈ GW := gw_t (tb_1 (List.mem_of_getElem? (i := 127) rfl)) rfl
theorem gw_488 : Cond.lays "ChallengeAuthority$Order" "ChallengeAuthority$Order" "certificate" "I" ∈ GW := gw_t (tb_1 (List.mem_of_getElem? (i := 129) rfl)) rfl
theorem gw_489 : Cond.lays "ChallengeAuthority$Order" "ChallengeAuthority$Order" "attached" "I" ∈ GW := gw_t (tb_1 (List.mem_of_getElem? (i := 131) rfl)) rfl
theorem gw_490 : Cond.laysFinal "ChallengeAuthority$Order" "ChallengeAuthority$Order" "authorizations" "[I" ∈ GW := gw_t (tb_1 (List.mem_of_getElem? (i := 133) rfl)) rfl
theorem gw_491 : Cond.lays "ChallengeAuthority$Authorization" "ChallengeAuthority$Authorization" "state" "I" ∈ GW := gw_t (tb_1 (List.mem_of_getElem? (i := 149) rfl)) rfl
theorem gw_492 : Cond.lays "ChallengeAuthority$Authorization" "ChallengeAuthority$Authorization" "owner" "I" ∈ GW := gw_t (tb_1 (List.mem_of_getElem? (i := 151) rfl)) rfl
theorem gw_493 : Cond.lays "ChallengeAuthority$Authorization" "ChallengeAuthority$Authorization" "name" "I" ∈ GW := gw_t (tb_1 (List.mem_of_getElem? (i := 153) rfl)) rfl
theorem gw_494 : Cond.lays "ChallengeAuthority$Authorization" "ChallengeAuthority$Authorization" "expires" "I" ∈ GW := gw_t (tb_1 (List.mem_of_getElem? (i := 155) rfl)) rfl
theorem gw_495 : Cond.lays "ChallengeAuthority$Challenge" "ChallengeAuthority$Challenge" "state" "I" ∈ GW := gw_t (tb_1 (List.mem_of_getElem? (i := 168) rfl)) rfl
theorem gw_496 : Cond.lays "ChallengeAuthority$Challenge" "ChallengeAuthority$Challenge" "token" "I" ∈ GW := gw_t (tb_1 (List.mem_of_getElem? (i := 170) rfl)) rfl
theorem gw_497 : Cond.lays "ChallengeAuthority$Challenge" "ChallengeAuthority$Challenge" "wrong" "I" ∈ GW := gw_t (tb_1 (List.mem_of_getElem? (i := 172) rfl)) rfl
theorem gw_498 : Cond.lays "ChallengeAuthority$Certificate" "ChallengeAuthority$Certificate" "state" "I" ∈ GW := gw_t (tb_1 (List.mem_of_getElem? (i := 191) rfl)) rfl
theorem gw_499 : Cond.lays "ChallengeAuthority$Certificate" "ChallengeAuthority$Certificate" "order" "I" ∈ GW := gw_t (tb_1 (List.mem_of_getElem? (i := 193) rfl)) rfl
theorem gw_500 : Cond.lays "ChallengeAuthority$Certificate" "ChallengeAuthority$Certificate" "names" "I" ∈ GW := gw_t (tb_1 (List.mem_of_getElem? (i := 195) rfl)) rfl
theorem gw_501 : Cond.lays "ChallengeAuthority$Certificate" "ChallengeAuthority$Certificate" "key" "I" ∈ GW := gw_t (tb_1 (List.mem_of_getElem? (i := 197) rfl)) rfl
theorem gw_502 : Cond.lays "ChallengeAuthority$Certificate" "ChallengeAuthority$Certificate" "issued" "I" ∈ GW := gw_t (tb_1 (List.mem_of_getElem? (i := 199) rfl)) rfl
theorem gw_503 : Cond.lays "ChallengeAuthority$Certificate" "ChallengeAuthority$Certificate" "reason" "I" ∈ GW := gw_t (tb_1 (List.mem_of_getElem? (i := 201) rfl)) rfl
theorem gw_504 : Cond.lays "ChallengeAuthorityModel" "ChallengeAuthorityModel" "thrown" "I" ∈ GW := gw_t (tb_3 (List.mem_of_getElem? (i := 236) rfl)) rfl
theorem gw_505 : Cond.lays "ChallengeAuthorityModel" "ChallengeAuthorityModel" "seed" "I" ∈ GW := gw_t (tb_3 (List.mem_of_getElem? (i := 238) rfl)) rfl
theorem gw_506 : Cond.lays "ChallengeAuthorityModel" "ChallengeAuthorityModel" "time" "I" ∈ GW := gw_t (tb_4 (List.mem_of_getElem? (i := 0) rfl)) rfl
theorem gw_507 : Cond.lays "ChallengeAuthorityModel" "ChallengeAuthorityModel" "accounts" "I" ∈ GW := gw_t (tb_4 (List.mem_of_getElem? (i := 2) rfl)) rfl
theorem gw_508 : Cond.laysFinal "ChallengeAuthorityModel" "ChallengeAuthorityModel" "keys" "[I" ∈ GW := gw_t (tb_4 (List.mem_of_getElem? (i := 4) rfl)) rfl
theorem gw_509 : Cond.laysFinal "ChallengeAuthorityModel" "ChallengeAuthorityModel" "closed" "[Z" ∈ GW := gw_t (tb_4 (List.mem_of_getElem? (i := 6) rfl)) rfl
theorem gw_510 : Cond.lays "ChallengeAuthorityModel" "ChallengeAuthorityModel" "orders" "I" ∈ GW := gw_t (tb_4 (List.mem_of_getElem? (i := 8) rfl)) rfl
theorem gw_511 : Cond.laysFinal "ChallengeAuthorityModel" "ChallengeAuthorityModel" "orderAccount" "[I" ∈ GW := gw_t (tb_4 (List.mem_of_getElem? (i := 10) rfl)) rfl
theorem gw_512 : Cond.laysFinal "ChallengeAuthorityModel" "ChallengeAuthorityModel" "orderNames" "[I" ∈ GW := gw_t (tb_4 (List.mem_of_getElem? (i := 12) rfl)) rfl
theorem gw_513 : Cond.laysFinal "ChallengeAuthorityModel" "ChallengeAuthorityModel" "orderEnds" "[I" ∈ GW := gw_t (tb_4 (List.mem_of_getElem? (i := 14) rfl)) rfl
theorem gw_514 : Cond.laysFinal "ChallengeAuthorityModel" "ChallengeAuthorityModel" "orderState" "[I" ∈ GW := gw_t (tb_4 (List.mem_of_getElem? (i := 16) rfl)) rfl
theorem gw_515 : Cond.laysFinal "ChallengeAuthorityModel" "ChallengeAuthorityModel" "orderPaper" "[I" ∈ GW := gw_t (tb_4 (List.mem_of_getElem? (i := 18) rfl)) rfl
theorem gw_516 : Cond.laysFinal "ChallengeAuthorityModel" "ChallengeAuthorityModel" "orderMany" "[I" ∈ GW := gw_t (tb_4 (List.mem_of_getElem? (i := 20) rfl)) rfl
theorem gw_517 : Cond.laysFinal "ChallengeAuthorityModel" "ChallengeAuthorityModel" "orderAuths" "[I" ∈ GW := gw_t (tb_4 (List.mem_of_getElem? (i := 22) rfl)) rfl
theorem gw_518 : Cond.lays "ChallengeAuthorityModel" "ChallengeAuthorityModel" "auths" "I" ∈ GW := gw_t (tb_4 (List.mem_of_getElem? (i := 24) rfl)) rfl
theorem gw_519 : Cond.laysFinal "ChallengeAuthorityModel" "ChallengeAuthorityModel" "authAccount" "[I" ∈ GW := gw_t (tb_4 (List.mem_of_getElem? (i := 26) rfl)) rfl
theorem gw_520 : Cond.laysFinal "ChallengeAuthorityModel" "ChallengeAuthorityModel" "authName" "[I" ∈ GW := gw_t (tb_4 (List.mem_of_getElem? (i := 28) rfl)) rfl
theorem gw_521 : Cond.laysFinal "ChallengeAuthorityModel" "ChallengeAuthorityModel" "authEnds" "[I" ∈ GW := gw_t (tb_4 (List.mem_of_getElem? (i := 30) rfl)) rfl
theorem gw_522 : Cond.laysFinal "ChallengeAuthorityModel" "ChallengeAuthorityModel" "authState" "[I" ∈ GW := gw_t (tb_4 (List.mem_of_getElem? (i := 32) rfl)) rfl
theorem gw_523 : Cond.laysFinal "ChallengeAuthorityModel" "ChallengeAuthorityModel" "token" "[I" ∈ GW := gw_t (tb_4 (List.mem_of_getElem? (i := 34) rfl)) rfl
theorem gw_524 : Cond.laysFinal "ChallengeAuthorityModel" "ChallengeAuthorityModel" "stage" "[I" ∈ GW := gw_t (tb_4 (List.mem_of_getElem? (i := 36) rfl)) rfl
theorem gw_525 : Cond.laysFinal "ChallengeAuthorityModel" "ChallengeAuthorityModel" "wrong" "[I" ∈ GW := gw_t (tb_4 (List.mem_of_getElem? (i := 38) rfl)) rfl
theorem gw_526 : Cond.lays "ChallengeAuthorityModel" "ChallengeAuthorityModel" "papers" "I" ∈ GW := gw_t (tb_4 (List.mem_of_getElem? (i := 40) rfl)) rfl
theorem gw_527 : Cond.laysFinal "ChallengeAuthorityModel" "ChallengeAuthorityModel" "paperOrder" "[I" ∈ GW := gw_t (tb_4 (List.mem_of_getElem? (i := 42) rfl)) rfl
theorem gw_528 : Cond.laysFinal "ChallengeAuthorityModel" "ChallengeAuthorityModel" "paperKey" "[I" ∈ GW := gw_t (tb_4 (List.mem_of_getElem? (i := 44) rfl)) rfl
theorem gw_529 : Cond.laysFinal "ChallengeAuthorityModel" "ChallengeAuthorityModel" "paperTime" "[I" ∈ GW := gw_t (tb_4 (List.mem_of_getElem? (i := 46) rfl)) rfl
theorem gw_530 : Cond.laysFinal "ChallengeAuthorityModel" "ChallengeAuthorityModel" "paperReason" "[I" ∈ GW := gw_t (tb_4 (List.mem_of_getElem? (i := 48) rfl)) rfl
theorem gw_531 : Cond.lays "ChallengeAuthorityModel" "ChallengeAuthorityModel" "out" "I" ∈ GW := gw_t (tb_4 (List.mem_of_getElem? (i := 50) rfl)) rfl
theorem gw_532 : Cond.laysFinal "ChallengeAuthorityModel" "ChallengeAuthorityModel" "nonces" "[I" ∈ GW := gw_t (tb_4 (List.mem_of_getElem? (i := 52) rfl)) rfl
theorem gw_533 : Cond.laysFinal "ChallengeAuthorityModel" "ChallengeAuthorityModel" "text" "[I" ∈ GW := gw_t (tb_4 (List.mem_of_getElem? (i := 54) rfl)) rfl
theorem gw_534 : Cond.lays "ChallengeAuthorityModel" "ChallengeAuthorityModel" "size" "I" ∈ GW := gw_t (tb_4 (List.mem_of_getElem? (i := 56) rfl)) rfl
theorem gw_535 : Cond.lays "ChallengeAuthorityModel" "ChallengeAuthorityModel" "at" "I" ∈ GW := gw_t (tb_4 (List.mem_of_getElem? (i := 58) rfl)) rfl
theorem gw_536 : Cond.lays "ChallengeAuthorityModel" "ChallengeAuthorityModel" "good" "Z" ∈ GW := gw_t (tb_4 (List.mem_of_getElem? (i := 60) rfl)) rfl
theorem gw_537 : Cond.lays "ChallengeAuthorityModel" "ChallengeAuthorityModel" "wantedKey" "I" ∈ GW := gw_t (tb_4 (List.mem_of_getElem? (i := 62) rfl)) rfl
theorem gw_538 : Cond.lays "ChallengeAuthorityModel" "ChallengeAuthorityModel" "wantedNames" "I" ∈ GW := gw_t (tb_4 (List.mem_of_getElem? (i := 64) rfl)) rfl
theorem gw_539 : Cond.lays "ChallengeAuthorityModel" "ChallengeAuthorityModel" "mixed" "J" ∈ GW := gw_t (tb_4 (List.mem_of_getElem? (i := 66) rfl)) rfl
end
section
def R_CA : String := "ChallengeAuthority"
def T_CA : u_T := fun k => match k with
  | 0 => ("ChallengeAuthority", "drawState", "I", false)
  | 1 => ("ChallengeAuthority", "time", "I", false)
  | 2 => ("ChallengeAuthority", "accountCount", "I", false)
  | 3 => ("ChallengeAuthority", "orderCount", "I", false)
  | 4 => ("ChallengeAuthority", "authorizationCount", "I", false)
  | 5 => ("ChallengeAuthority", "certificateCount", "I", false)
  | 6 => ("ChallengeAuthority", "accounts", "[LChallengeAuthority$Account;", true)
  | 7 => ("ChallengeAuthority", "orders", "[LChallengeAuthority$Order;", true)
  | 8 => ("ChallengeAuthority", "authorizations", "[LChallengeAuthority$Authorization;", true)
  | 9 => ("ChallengeAuthority", "challenges", "[LChallengeAuthority$Challenge;", true)
  | 10 => ("ChallengeAuthority", "certificates", "[LChallengeAuthority$Certificate;", true)
  | 11 => ("ChallengeAuthority", "nonces", "LChallengeAuthority$Nonces;", true)
  | 12 => ("ChallengeAuthority", "text", "LChallengeAuthority$Text;", true)
  | _ => ("ChallengeAuthority", "request", "LChallengeAuthority$Request;", true)
def ty_CA : Nat → FieldType := fun k => match k with
  | 0 => .int
  | 1 => .int
  | 2 => .int
  | 3 => .int
  | 4 => .int
  | 5 => .int
  | 6 => .array (.object "ChallengeAuthority$Account")
  | 7 => .array (.object "ChallengeAuthority$Order")
  | 8 => .array (.object "ChallengeAuthority$Authorization")
  | 9 => .array (.object "ChallengeAuthority$Challenge")
  | 10 => .array (.object "ChallengeAuthority$Certificate")
  | 11 => .object "ChallengeAuthority$Nonces"
  | 12 => .object "ChallengeAuthority$Text"
  | _ => .object "ChallengeAuthority$Request"
theorem ty_CA_ok : ∀ k, k < 14 → parseFieldDescriptor (T_CA k).2.2.1 = some (ty_CA k) := by decide +kernel
theorem nm_CA : ∀ a, a < 14 → ∀ b, b < 14 → a ≠ b → (T_CA a).2.1 ≠ (T_CA b).2.1 := by decide +kernel
theorem in_CA : ∀ w ∈ u_ws R_CA T_CA 14, w ∈ GW := by
  intro w hw
  obtain ⟨k, hk, rfl⟩ := List.mem_map.mp hw
  have hk := List.mem_range.mp hk
  rcases (show k = 0 ∨ k = 1 ∨ k = 2 ∨ k = 3 ∨ k = 4 ∨ k = 5 ∨ k = 6 ∨ k = 7 ∨ k = 8 ∨ k = 9 ∨ k = 10 ∨ k = 11 ∨ k = 12 ∨ k = 13 by omega) with rfl | rfl | rfl | rfl | rfl | rfl | rfl | rfl | rfl | rfl | rfl | rfl | rfl | rfl
  · exact gw_460
  · exact gw_461
  · exact gw_462
  · exact gw_463
  · exact gw_464
  · exact gw_465
  · exact gw_466
  · exact gw_467
  · exact gw_468
  · exact gw_469
  · exact gw_470
  · exact gw_471
  · exact gw_472
  · exact gw_473
def R_Non : String := "ChallengeAuthority$Nonces"
def T_Non : u_T := fun k => match k with
  | 0 => ("ChallengeAuthority$Nonces", "count", "I", false)
  | _ => ("ChallengeAuthority$Nonces", "out", "[I", true)
def ty_Non : Nat → FieldType := fun k => match k with
  | 0 => .int
  | _ => .array (.int)
theorem ty_Non_ok : ∀ k, k < 2 → parseFieldDescriptor (T_Non k).2.2.1 = some (ty_Non k) := by decide +kernel
theorem nm_Non : ∀ a, a < 2 → ∀ b, b < 2 → a ≠ b → (T_Non a).2.1 ≠ (T_Non b).2.1 := by decide +kernel
theorem in_Non : ∀ w ∈ u_ws R_Non T_Non 2, w ∈ GW := by
  intro w hw
  obtain ⟨k, hk, rfl⟩ := List.mem_map.mp hw
  have hk := List.mem_range.mp hk
  rcases (show k = 0 ∨ k = 1 by omega) with rfl | rfl
  · exact gw_474
  · exact gw_475
def R_Txt : String := "ChallengeAuthority$Text"
def T_Txt : u_T := fun k => match k with
  | 0 => ("ChallengeAuthority$Text", "size", "I", false)
  | _ => ("ChallengeAuthority$Text", "bytes", "[I", true)
def ty_Txt : Nat → FieldType := fun k => match k with
  | 0 => .int
  | _ => .array (.int)
theorem ty_Txt_ok : ∀ k, k < 2 → parseFieldDescriptor (T_Txt k).2.2.1 = some (ty_Txt k) := by decide +kernel
theorem nm_Txt : ∀ a, a < 2 → ∀ b, b < 2 → a ≠ b → (T_Txt a).2.1 ≠ (T_Txt b).2.1 := by decide +kernel
theorem in_Txt : ∀ w ∈ u_ws R_Txt T_Txt 2, w ∈ GW := by
  intro w hw
  obtain ⟨k, hk, rfl⟩ := List.mem_map.mp hw
  have hk := List.mem_range.mp hk
  rcases (show k = 0 ∨ k = 1 by omega) with rfl | rfl
  · exact gw_476
  · exact gw_477
def R_Req : String := "ChallengeAuthority$Request"
def T_Req : u_T := fun k => match k with
  | 0 => ("ChallengeAuthority$Request", "key", "I", false)
  | 1 => ("ChallengeAuthority$Request", "names", "I", false)
  | 2 => ("ChallengeAuthority$Request", "at", "I", false)
  | _ => ("ChallengeAuthority$Request", "sound", "Z", false)
def ty_Req : Nat → FieldType := fun k => match k with
  | 0 => .int
  | 1 => .int
  | 2 => .int
  | _ => .boolean
theorem ty_Req_ok : ∀ k, k < 4 → parseFieldDescriptor (T_Req k).2.2.1 = some (ty_Req k) := by decide +kernel
theorem nm_Req : ∀ a, a < 4 → ∀ b, b < 4 → a ≠ b → (T_Req a).2.1 ≠ (T_Req b).2.1 := by decide +kernel
theorem in_Req : ∀ w ∈ u_ws R_Req T_Req 4, w ∈ GW := by
  intro w hw
  obtain ⟨k, hk, rfl⟩ := List.mem_map.mp hw
  have hk := List.mem_range.mp hk
  rcases (show k = 0 ∨ k = 1 ∨ k = 2 ∨ k = 3 by omega) with rfl | rfl | rfl | rfl
  · exact gw_478
  · exact gw_479
  · exact gw_480
  · exact gw_481
def R_Acc : String := "ChallengeAuthority$Account"
def T_Acc : u_T := fun k => match k with
  | 0 => ("ChallengeAuthority$Account", "state", "I", false)
  | _ => ("ChallengeAuthority$Account", "key", "I", false)
def ty_Acc : Nat → FieldType := fun k => match k with
  | 0 => .int
  | _ => .int
theorem ty_Acc_ok : ∀ k, k < 2 → parseFieldDescriptor (T_Acc k).2.2.1 = some (ty_Acc k) := by decide +kernel
theorem nm_Acc : ∀ a, a < 2 → ∀ b, b < 2 → a ≠ b → (T_Acc a).2.1 ≠ (T_Acc b).2.1 := by decide +kernel
theorem in_Acc : ∀ w ∈ u_ws R_Acc T_Acc 2, w ∈ GW := by
  intro w hw
  obtain ⟨k, hk, rfl⟩ := List.mem_map.mp hw
  have hk := List.mem_range.mp hk
  rcases (show k = 0 ∨ k = 1 by omega) with rfl | rfl
  · exact gw_482
  · exact gw_483
def R_Ord : String := "ChallengeAuthority$Order"
def T_Ord : u_T := fun k => match k with
  | 0 => ("ChallengeAuthority$Order", "state", "I", false)
  | 1 => ("ChallengeAuthority$Order", "owner", "I", false)
  | 2 => ("ChallengeAuthority$Order", "names", "I", false)
  | 3 => ("ChallengeAuthority$Order", "expires", "I", false)
  | 4 => ("ChallengeAuthority$Order", "certificate", "I", false)
  | 5 => ("ChallengeAuthority$Order", "attached", "I", false)
  | _ => ("ChallengeAuthority$Order", "authorizations", "[I", true)
def ty_Ord : Nat → FieldType := fun k => match k with
  | 0 => .int
  | 1 => .int
  | 2 => .int
  | 3 => .int
  | 4 => .int
  | 5 => .int
  | _ => .array (.int)
theorem ty_Ord_ok : ∀ k, k < 7 → parseFieldDescriptor (T_Ord k).2.2.1 = some (ty_Ord k) := by decide +kernel
theorem nm_Ord : ∀ a, a < 7 → ∀ b, b < 7 → a ≠ b → (T_Ord a).2.1 ≠ (T_Ord b).2.1 := by decide +kernel
theorem in_Ord : ∀ w ∈ u_ws R_Ord T_Ord 7, w ∈ GW := by
  intro w hw
  obtain ⟨k, hk, rfl⟩ := List.mem_map.mp hw
  have hk := List.mem_range.mp hk
  rcases (show k = 0 ∨ k = 1 ∨ k = 2 ∨ k = 3 ∨ k = 4 ∨ k = 5 ∨ k = 6 by omega) with rfl | rfl | rfl | rfl | rfl | rfl | rfl
  · exact gw_484
  · exact gw_485
  · exact gw_486
  · exact gw_487
  · exact gw_488
  · exact gw_489
  · exact gw_490
def R_Aut : String := "ChallengeAuthority$Authorization"
def T_Aut : u_T := fun k => match k with
  | 0 => ("ChallengeAuthority$Authorization", "state", "I", false)
  | 1 => ("ChallengeAuthority$Authorization", "owner", "I", false)
  | 2 => ("ChallengeAuthority$Authorization", "name", "I", false)
  | _ => ("ChallengeAuthority$Authorization", "expires", "I", false)
def ty_Aut : Nat → FieldType := fun k => match k with
  | 0 => .int
  | 1 => .int
  | 2 => .int
  | _ => .int
theorem ty_Aut_ok : ∀ k, k < 4 → parseFieldDescriptor (T_Aut k).2.2.1 = some (ty_Aut k) := by decide +kernel
theorem nm_Aut : ∀ a, a < 4 → ∀ b, b < 4 → a ≠ b → (T_Aut a).2.1 ≠ (T_Aut b).2.1 := by decide +kernel
theorem in_Aut : ∀ w ∈ u_ws R_Aut T_Aut 4, w ∈ GW := by
  intro w hw
  obtain ⟨k, hk, rfl⟩ := List.mem_map.mp hw
  have hk := List.mem_range.mp hk
  rcases (show k = 0 ∨ k = 1 ∨ k = 2 ∨ k = 3 by omega) with rfl | rfl | rfl | rfl
  · exact gw_491
  · exact gw_492
  · exact gw_493
  · exact gw_494
def R_Cha : String := "ChallengeAuthority$Challenge"
def T_Cha : u_T := fun k => match k with
  | 0 => ("ChallengeAuthority$Challenge", "state", "I", false)
  | 1 => ("ChallengeAuthority$Challenge", "token", "I", false)
  | _ => ("ChallengeAuthority$Challenge", "wrong", "I", false)
def ty_Cha : Nat → FieldType := fun k => match k with
  | 0 => .int
  | 1 => .int
  | _ => .int
theorem ty_Cha_ok : ∀ k, k < 3 → parseFieldDescriptor (T_Cha k).2.2.1 = some (ty_Cha k) := by decide +kernel
theorem nm_Cha : ∀ a, a < 3 → ∀ b, b < 3 → a ≠ b → (T_Cha a).2.1 ≠ (T_Cha b).2.1 := by decide +kernel
theorem in_Cha : ∀ w ∈ u_ws R_Cha T_Cha 3, w ∈ GW := by
  intro w hw
  obtain ⟨k, hk, rfl⟩ := List.mem_map.mp hw
  have hk := List.mem_range.mp hk
  rcases (show k = 0 ∨ k = 1 ∨ k = 2 by omega) with rfl | rfl | rfl
  · exact gw_495
  · exact gw_496
  · exact gw_497
def R_Cer : String := "ChallengeAuthority$Certificate"
def T_Cer : u_T := fun k => match k with
  | 0 => ("ChallengeAuthority$Certificate", "state", "I", false)
  | 1 => ("ChallengeAuthority$Certificate", "order", "I", false)
  | 2 => ("ChallengeAuthority$Certificate", "names", "I", false)
  | 3 => ("ChallengeAuthority$Certificate", "key", "I", false)
  | 4 => ("ChallengeAuthority$Certificate", "issued", "I", false)
  | _ => ("ChallengeAuthority$Certificate", "reason", "I", false)
def ty_Cer : Nat → FieldType := fun k => match k with
  | 0 => .int
  | 1 => .int
  | 2 => .int
  | 3 => .int
  | 4 => .int
  | _ => .int
theorem ty_Cer_ok : ∀ k, k < 6 → parseFieldDescriptor (T_Cer k).2.2.1 = some (ty_Cer k) := by decide +kernel
theorem nm_Cer : ∀ a, a < 6 → ∀ b, b < 6 → a ≠ b → (T_Cer a).2.1 ≠ (T_Cer b).2.1 := by decide +kernel
theorem in_Cer : ∀ w ∈ u_ws R_Cer T_Cer 6, w ∈ GW := by
  intro w hw
  obtain ⟨k, hk, rfl⟩ := List.mem_map.mp hw
  have hk := List.mem_range.mp hk
  rcases (show k = 0 ∨ k = 1 ∨ k = 2 ∨ k = 3 ∨ k = 4 ∨ k = 5 by omega) with rfl | rfl | rfl | rfl | rfl | rfl
  · exact gw_498
  · exact gw_499
  · exact gw_500
  · exact gw_501
  · exact gw_502
  · exact gw_503
def R_MO : String := "ChallengeAuthorityModel"
def T_MO : u_T := fun k => match k with
  | 0 => ("ChallengeAuthorityModel", "thrown", "I", false)
  | 1 => ("ChallengeAuthorityModel", "seed", "I", false)
  | 2 => ("ChallengeAuthorityModel", "time", "I", false)
  | 3 => ("ChallengeAuthorityModel", "accounts", "I", false)
  | 4 => ("ChallengeAuthorityModel", "keys", "[I", true)
  | 5 => ("ChallengeAuthorityModel", "closed", "[Z", true)
  | 6 => ("ChallengeAuthorityModel", "orders", "I", false)
  | 7 => ("ChallengeAuthorityModel", "orderAccount", "[I", true)
  | 8 => ("ChallengeAuthorityModel", "orderNames", "[I", true)
  | 9 => ("ChallengeAuthorityModel", "orderEnds", "[I", true)
  | 10 => ("ChallengeAuthorityModel", "orderState", "[I", true)
  | 11 => ("ChallengeAuthorityModel", "orderPaper", "[I", true)
  | 12 => ("ChallengeAuthorityModel", "orderMany", "[I", true)
  | 13 => ("ChallengeAuthorityModel", "orderAuths", "[I", true)
  | 14 => ("ChallengeAuthorityModel", "auths", "I", false)
  | 15 => ("ChallengeAuthorityModel", "authAccount", "[I", true)
  | 16 => ("ChallengeAuthorityModel", "authName", "[I", true)
  | 17 => ("ChallengeAuthorityModel", "authEnds", "[I", true)
  | 18 => ("ChallengeAuthorityModel", "authState", "[I", true)
  | 19 => ("ChallengeAuthorityModel", "token", "[I", true)
  | 20 => ("ChallengeAuthorityModel", "stage", "[I", true)
  | 21 => ("ChallengeAuthorityModel", "wrong", "[I", true)
  | 22 => ("ChallengeAuthorityModel", "papers", "I", false)
  | 23 => ("ChallengeAuthorityModel", "paperOrder", "[I", true)
  | 24 => ("ChallengeAuthorityModel", "paperKey", "[I", true)
  | 25 => ("ChallengeAuthorityModel", "paperTime", "[I", true)
  | 26 => ("ChallengeAuthorityModel", "paperReason", "[I", true)
  | 27 => ("ChallengeAuthorityModel", "out", "I", false)
  | 28 => ("ChallengeAuthorityModel", "nonces", "[I", true)
  | 29 => ("ChallengeAuthorityModel", "text", "[I", true)
  | 30 => ("ChallengeAuthorityModel", "size", "I", false)
  | 31 => ("ChallengeAuthorityModel", "at", "I", false)
  | 32 => ("ChallengeAuthorityModel", "good", "Z", false)
  | 33 => ("ChallengeAuthorityModel", "wantedKey", "I", false)
  | 34 => ("ChallengeAuthorityModel", "wantedNames", "I", false)
  | _ => ("ChallengeAuthorityModel", "mixed", "J", false)
def ty_MO : Nat → FieldType := fun k => match k with
  | 0 => .int
  | 1 => .int
  | 2 => .int
  | 3 => .int
  | 4 => .array (.int)
  | 5 => .array (.boolean)
  | 6 => .int
  | 7 => .array (.int)
  | 8 => .array (.int)
  | 9 => .array (.int)
  | 10 => .array (.int)
  | 11 => .array (.int)
  | 12 => .array (.int)
  | 13 => .array (.int)
  | 14 => .int
  | 15 => .array (.int)
  | 16 => .array (.int)
  | 17 => .array (.int)
  | 18 => .array (.int)
  | 19 => .array (.int)
  | 20 => .array (.int)
  | 21 => .array (.int)
  | 22 => .int
  | 23 => .array (.int)
  | 24 => .array (.int)
  | 25 => .array (.int)
  | 26 => .array (.int)
  | 27 => .int
  | 28 => .array (.int)
  | 29 => .array (.int)
  | 30 => .int
  | 31 => .int
  | 32 => .boolean
  | 33 => .int
  | 34 => .int
  | _ => .long
theorem ty_MO_ok : ∀ k, k < 36 → parseFieldDescriptor (T_MO k).2.2.1 = some (ty_MO k) := by decide +kernel
theorem nm_MO : ∀ a, a < 36 → ∀ b, b < 36 → a ≠ b → (T_MO a).2.1 ≠ (T_MO b).2.1 := by decide +kernel
theorem in_MO : ∀ w ∈ u_ws R_MO T_MO 36, w ∈ GW := by
  intro w hw
  obtain ⟨k, hk, rfl⟩ := List.mem_map.mp hw
  have hk := List.mem_range.mp hk
  rcases (show k = 0 ∨ k = 1 ∨ k = 2 ∨ k = 3 ∨ k = 4 ∨ k = 5 ∨ k = 6 ∨ k = 7 ∨ k = 8 ∨ k = 9 ∨ k = 10 ∨ k = 11 ∨ k = 12 ∨ k = 13 ∨ k = 14 ∨ k = 15 ∨ k = 16 ∨ k = 17 ∨ k = 18 ∨ k = 19 ∨ k = 20 ∨ k = 21 ∨ k = 22 ∨ k = 23 ∨ k = 24 ∨ k = 25 ∨ k = 26 ∨ k = 27 ∨ k = 28 ∨ k = 29 ∨ k = 30 ∨ k = 31 ∨ k = 32 ∨ k = 33 ∨ k = 34 ∨ k = 35 by omega) with rfl | rfl | rfl | rfl | rfl | rfl | rfl | rfl | rfl | rfl | rfl | rfl | rfl | rfl | rfl | rfl | rfl | rfl | rfl | rfl | rfl | rfl | rfl | rfl | rfl | rfl | rfl | rfl | rfl | rfl | rfl | rfl | rfl | rfl | rfl | rfl
  · exact gw_504
  · exact gw_505
  · exact gw_506
  · exact gw_507
  · exact gw_508
  · exact gw_509
  · exact gw_510
  · exact gw_511
  · exact gw_512
  · exact gw_513
  · exact gw_514
  · exact gw_515
  · exact gw_516
  · exact gw_517
  · exact gw_518
  · exact gw_519
  · exact gw_520
  · exact gw_521
  · exact gw_522
  · exact gw_523
  · exact gw_524
  · exact gw_525
  · exact gw_526
  · exact gw_527
  · exact gw_528
  · exact gw_529
  · exact gw_530
  · exact gw_531
  · exact gw_532
  · exact gw_533
  · exact gw_534
  · exact gw_535
  · exact gw_536
  · exact gw_537
  · exact gw_538
  · exact gw_539
abbrev vwCl : List vw_C := [(R_CA, T_CA, 14), (R_Non, T_Non, 2), (R_Txt, T_Txt, 2), (R_Req, T_Req, 4), (R_Acc, T_Acc, 2), (R_Ord, T_Ord, 7), (R_Aut, T_Aut, 4), (R_Cha, T_Cha, 3), (R_Cer, T_Cer, 6), (R_MO, T_MO, 36)]
abbrev tyC (cA : Nat → ClassId) : List (ClassId × FieldType) := [(cA 0, .object "ChallengeAuthority$Account"), (cA 1, .object "ChallengeAuthority$Order"), (cA 2, .object "ChallengeAuthority$Authorization"), (cA 3, .object "ChallengeAuthority$Challenge"), (cA 4, .object "ChallengeAuthority$Certificate"), (cA 5, .int), (cA 6, .int), (cA 7, .int)]
abbrev tyM (cA : Nat → ClassId) : List (ClassId × FieldType) := [(cA 0, .int), (cA 1, .boolean), (cA 2, .int), (cA 3, .int), (cA 4, .int), (cA 5, .int), (cA 6, .int), (cA 7, .int), (cA 8, .int), (cA 9, .int), (cA 10, .int), (cA 11, .int), (cA 12, .int), (cA 13, .int), (cA 14, .int), (cA 15, .int), (cA 16, .int), (cA 17, .int), (cA 18, .int), (cA 19, .int), (cA 20, .int), (cA 21, .int)]
def NGL : List Cond := [.methodLinkNest "ChallengeAuthority" 41 y_Non_init "ChallengeAuthority", .methodLinkNest "ChallengeAuthority" 48 y_Txt_init "ChallengeAuthority", .methodLinkNest "ChallengeAuthority" 55 y_Req_init "ChallengeAuthority", .methodLinkNest "ChallengeAuthority" 64 y_Acc_init "ChallengeAuthority", .methodLinkNest "ChallengeAuthority" 65 y_Ord_init "ChallengeAuthority", .methodLinkNest "ChallengeAuthority" 66 y_Aut_init "ChallengeAuthority", .methodLinkNest "ChallengeAuthority" 67 y_Cha_init "ChallengeAuthority", .methodLinkNest "ChallengeAuthority" 68 y_Cer_init "ChallengeAuthority", .castable "java/lang/IllegalArgumentException" "java/lang/IllegalArgumentException", .declares (⟨"java/lang/RuntimeException", "<init>", "()V"⟩ : MethodName), .declares (⟨"java/lang/RuntimeException", "<init>", "(Ljava/lang/String;)V"⟩ : MethodName), .declares (⟨"java/lang/Exception", "<init>", "()V"⟩ : MethodName), .declares (⟨"java/lang/Exception", "<init>", "(Ljava/lang/String;)V"⟩ : MethodName), .declares (⟨"java/lang/Throwable", "<init>", "()V"⟩ : MethodName), .declares (⟨"java/lang/Throwable", "<init>", "(Ljava/lang/String;)V"⟩ : MethodName), .castable "java/lang/UnsupportedOperationException" "java/lang/UnsupportedOperationException", .castable "java/lang/IllegalStateException" "java/lang/IllegalStateException", .castable "java/util/NoSuchElementException" "java/util/NoSuchElementException", .methodLinkNest "ChallengeAuthority$Request" 40 y_CA_isKey "ChallengeAuthority", .methodLinkNest "ChallengeAuthority$Request" 52 y_CA_mix "ChallengeAuthority", .methodLinkNest "ChallengeAuthority$Request" 56 y_CA_digestEnd "ChallengeAuthority", .methodLinkNest "ChallengeAuthority$Request" 48 y_CA_isRight "ChallengeAuthority"]
end
section
abbrev ST : Type := Nat → Nat → Int32
def up (X : ST) (f i : Nat) (v : Int32) : ST := fun g j => if g = f ∧ j = i then v else X g j
theorem up_eq (X : ST) (f i : Nat) (v : Int32) : up X f i v f i = v := by simp [up]
theorem up_ne {X : ST} {f i g j : Nat} {v : Int32} (h : ¬ (g = f ∧ j = i)) : up X f i v g j = X g j := by simp [up, h]
theorem up_upd (X : ST) (f i : Nat) (v : Int32) : up X f i v f = upd (X f) i v := by
  funext j
  simp [up, upd]
theorem up_off {X : ST} {f i g : Nat} {v : Int32} (h : g ≠ f) : up X f i v g = X g := by
  funext j
  simp [up, h]
def INJ (ad : Nat → Nat) (n : Nat) : Prop := ∀ i j : Nat, i < n → j < n → ad i = ad j → i = j
def CA (ad : Nat → Nat) (n sz : Nat) : Nat → Prop := fun q => (∃ k : Nat, k < n ∧ q = ad k) ∨ sz ≤ q
theorem CA_le {ad : Nat → Nat} {n a b : Nat} (h : a ≤ b) (q : Nat) (hq : CA ad n b q) : CA ad n a q := by
  rcases hq with hq | hq
  · exact Or.inl hq
  · exact Or.inr (Nat.le_trans h hq)
theorem zw_lt {e : Int32} {n : Nat} (h : vp_in e n) : e.toNatClampNeg < n := Nat.not_le.mp fun q => h (Or.inr q)
theorem zw_bn {e : Int32} (h : e = 0 ∨ e = 1) : narrow .boolean (.int e) = .int e := by rcases h with rfl | rfl <;> rfl
theorem zw_bf {e : Int32} (h : e = 0 ∨ e = 1) : fits .boolean (.int e) = true := by rcases h with rfl | rfl <;> rfl
theorem zw_keep {D : va_G} {cl : List vw_C} {ws : va_W} {H H1 : Heap} (hP : va_P D cl ws H) (hk : ∀ q : Nat, q < H.size → H1[q]? = H[q]?) : va_P D cl ws H1 := fun k q hq => (hP k q hq).kept (hk _ (hP k q hq).lt)
theorem zw_F {A : Nat → Prop} {s t : State} {H : Heap} {locs : List Loc} (hS : va_S A s.heap H locs) (hz : H.size ≤ t.heap.size) (hk : ∀ q : Nat, q < H.size → t.heap[q]? = H[q]?) : va_F A s t :=
  ⟨Nat.le_trans hS.1 hz, fun q h1 h2 => (hk q (Nat.lt_of_lt_of_le h1 hS.1)).trans (hS.2.1 q h1 h2)⟩
def cC (cA : Nat → ClassId) (ad : Nat → Nat) (X : ST) (c : Nat) : va_E :=
  if c = 0 then .inr (0, [.int (X 0 0), .int (X 1 0), .int (X 2 0), .int (X 3 0), .int (X 4 0), .int (X 5 0), .ref (ad 1), .ref (ad 2), .ref (ad 3), .ref (ad 4), .ref (ad 5), .ref (ad 6), .ref (ad 8), .ref (ad 10)])
  else if c = 1 then .inl (cA 0, 6, .inr (.inr (.inr (.inr (fun j => some (ad (11 + j)))))))
  else if c = 2 then .inl (cA 1, 12, .inr (.inr (.inr (.inr (fun j => some (ad (17 + j)))))))
  else if c = 3 then .inl (cA 2, 24, .inr (.inr (.inr (.inr (fun j => some (ad (41 + j)))))))
  else if c = 4 then .inl (cA 3, 48, .inr (.inr (.inr (.inr (fun j => some (ad (65 + j)))))))
  else if c = 5 then .inl (cA 4, 12, .inr (.inr (.inr (.inr (fun j => some (ad (113 + j)))))))
  else if c = 6 then .inr (1, [.int (X 6 0), .ref (ad 7)])
  else if c = 7 then .inl (cA 5, 8, .inl (X 61))
  else if c = 8 then .inr (2, [.int (X 7 0), .ref (ad 9)])
  else if c = 9 then .inl (cA 6, 96, .inl (X 63))
  else if c = 10 then .inr (3, [.int (X 64 0), .int (X 65 0), .int (X 66 0), .int (X 67 0)])
  else if c < 17 then .inr (4, [.int (X 10 (c - 11)), .int (X 11 (c - 11))])
  else if c < 29 then .inr (5, [.int (X 20 (c - 17)), .int (X 21 (c - 17)), .int (X 22 (c - 17)), .int (X 23 (c - 17)), .int (X 24 (c - 17)), .int (X 25 (c - 17)), .ref (ad (29 + (c - 17)))])
  else if c < 41 then .inl (cA 7, 4, .inl (fun j => X (1000 + j) (c - 29)))
  else if c < 65 then .inr (6, [.int (X 30 (c - 41)), .int (X 31 (c - 41)), .int (X 32 (c - 41)), .int (X 33 (c - 41))])
  else if c < 113 then .inr (7, [.int (X 40 (c - 65)), .int (X 41 (c - 65)), .int (X 42 (c - 65))])
  else .inr (8, [.int (X 50 (c - 113)), .int (X 51 (c - 113)), .int (X 52 (c - 113)), .int (X 53 (c - 113)), .int (X 54 (c - 113)), .int (X 55 (c - 113))])
def wdC (cA : Nat → ClassId) (ad : Nat → Nat) (X : ST) : va_W := (List.range 125).map (fun c => (ad c, cC cA ad X c))
theorem zwC_at {cA : Nat → ClassId} {ad : Nat → Nat} {X : ST} {c : Nat} (h : c < 125) : (wdC cA ad X)[c]? = some (ad c, cC cA ad X c) := by
  unfold wdC
  rw [List.getElem?_map, List.getElem?_range h]
  rfl
theorem zwC_no {cA : Nat → ClassId} {ad : Nat → Nat} {X : ST} {c : Nat} (h : 125 ≤ c) : (wdC cA ad X)[c]? = none := by
  unfold wdC
  rw [List.getElem?_map, List.getElem?_eq_none (by rw [List.length_range]; exact h)]
  rfl
theorem zwC_D {cA : Nat → ClassId} {ad : Nat → Nat} {X : ST} {sz : Nat} (hI : INJ ad 125) : va_D (CA ad 125 sz) (wdC cA ad X) := by
  refine ⟨fun i j p q hp hq he => ?_, fun k q hk => ?_⟩
  · rcases Nat.lt_or_ge i 125 with hi | hi
    · rcases Nat.lt_or_ge j 125 with hj | hj
      · rw [zwC_at hi] at hp
        rw [zwC_at hj] at hq
        cases hp
        cases hq
        exact hI i j hi hj he
      · rw [zwC_no hj] at hq
        cases hq
    · rw [zwC_no hi] at hp
      cases hp
  · rcases Nat.lt_or_ge k 125 with hi | hi
    · rw [zwC_at hi] at hk
      cases hk
      exact Or.inl ⟨k, hi, rfl⟩
    · rw [zwC_no hi] at hk
      cases hk
theorem zwC_set {cA : Nat → ClassId} {ad : Nat → Nat} {X : ST} {X' : ST} {c : Nat} {e : va_E} (h : c < 125) (he : cC cA ad X' c = e) (hn : ∀ d : Nat, d < 125 → d ≠ c → cC cA ad X' d = cC cA ad X d) : (wdC cA ad X).set c (ad c, e) = wdC cA ad X' := by
  refine List.ext_getElem? fun k => ?_
  rw [List.getElem?_set]
  rcases Nat.lt_or_ge k 125 with hk | hk
  · by_cases hc : c = k
    · subst hc
      rw [if_pos rfl, if_pos (by rw [wdC, List.length_map, List.length_range]; exact h), zwC_at hk, he]
    · rw [if_neg hc, zwC_at hk, zwC_at hk, hn k hk (fun q => hc q.symm)]
  · rw [if_neg (by omega), zwC_no hk, zwC_no hk]
theorem atC_CA {cA : Nat → ClassId} {ad : Nat → Nat} {X : ST} : (wdC cA ad X)[0]? = some (ad 0, .inr (0, [.int (X 0 0), .int (X 1 0), .int (X 2 0), .int (X 3 0), .int (X 4 0), .int (X 5 0), .ref (ad 1), .ref (ad 2), .ref (ad 3), .ref (ad 4), .ref (ad 5), .ref (ad 6), .ref (ad 8), .ref (ad 10)])) := zwC_at (by decide)
theorem atC_aAcc {cA : Nat → ClassId} {ad : Nat → Nat} {X : ST} : (wdC cA ad X)[1]? = some (ad 1, .inl (cA 0, 6, .inr (.inr (.inr (.inr (fun j => some (ad (11 + j)))))))) := zwC_at (by decide)
theorem atC_aOrd {cA : Nat → ClassId} {ad : Nat → Nat} {X : ST} : (wdC cA ad X)[2]? = some (ad 2, .inl (cA 1, 12, .inr (.inr (.inr (.inr (fun j => some (ad (17 + j)))))))) := zwC_at (by decide)
theorem atC_aAut {cA : Nat → ClassId} {ad : Nat → Nat} {X : ST} : (wdC cA ad X)[3]? = some (ad 3, .inl (cA 2, 24, .inr (.inr (.inr (.inr (fun j => some (ad (41 + j)))))))) := zwC_at (by decide)
theorem atC_aCha {cA : Nat → ClassId} {ad : Nat → Nat} {X : ST} : (wdC cA ad X)[4]? = some (ad 4, .inl (cA 3, 48, .inr (.inr (.inr (.inr (fun j => some (ad (65 + j)))))))) := zwC_at (by decide)
theorem atC_aCer {cA : Nat → ClassId} {ad : Nat → Nat} {X : ST} : (wdC cA ad X)[5]? = some (ad 5, .inl (cA 4, 12, .inr (.inr (.inr (.inr (fun j => some (ad (113 + j)))))))) := zwC_at (by decide)
theorem atC_Non {cA : Nat → ClassId} {ad : Nat → Nat} {X : ST} : (wdC cA ad X)[6]? = some (ad 6, .inr (1, [.int (X 6 0), .ref (ad 7)])) := zwC_at (by decide)
theorem atC_iNon {cA : Nat → ClassId} {ad : Nat → Nat} {X : ST} : (wdC cA ad X)[7]? = some (ad 7, .inl (cA 5, 8, .inl (X 61))) := zwC_at (by decide)
theorem atC_Txt {cA : Nat → ClassId} {ad : Nat → Nat} {X : ST} : (wdC cA ad X)[8]? = some (ad 8, .inr (2, [.int (X 7 0), .ref (ad 9)])) := zwC_at (by decide)
theorem atC_iTxt {cA : Nat → ClassId} {ad : Nat → Nat} {X : ST} : (wdC cA ad X)[9]? = some (ad 9, .inl (cA 6, 96, .inl (X 63))) := zwC_at (by decide)
theorem atC_Req {cA : Nat → ClassId} {ad : Nat → Nat} {X : ST} : (wdC cA ad X)[10]? = some (ad 10, .inr (3, [.int (X 64 0), .int (X 65 0), .int (X 66 0), .int (X 67 0)])) := zwC_at (by decide)
theorem cC_Acc {cA : Nat → ClassId} {ad : Nat → Nat} {X : ST} {i : Nat} (h : i < 6) : cC cA ad X (11 + i) = .inr (4, [.int (X 10 i), .int (X 11 i)]) := by
  unfold cC
  rw [if_neg (show ¬ 11 + i = 0 by omega), if_neg (show ¬ 11 + i = 1 by omega), if_neg (show ¬ 11 + i = 2 by omega), if_neg (show ¬ 11 + i = 3 by omega), if_neg (show ¬ 11 + i = 4 by omega), if_neg (show ¬ 11 + i = 5 by omega), if_neg (show ¬ 11 + i = 6 by omega), if_neg (show ¬ 11 + i = 7 by omega), if_neg (show ¬ 11 + i = 8 by omega), if_neg (show ¬ 11 + i = 9 by omega), if_neg (show ¬ 11 + i = 10 by omega), if_pos (show 11 + i < 17 by omega), Nat.add_sub_cancel_left]
theorem atC_Acc {cA : Nat → ClassId} {ad : Nat → Nat} {X : ST} {i : Nat} (h : i < 6) : (wdC cA ad X)[11 + i]? = some (ad (11 + i), .inr (4, [.int (X 10 i), .int (X 11 i)])) := by
  rw [zwC_at (show 11 + i < 125 by omega), cC_Acc h]
theorem cC_Ord {cA : Nat → ClassId} {ad : Nat → Nat} {X : ST} {i : Nat} (h : i < 12) : cC cA ad X (17 + i) = .inr (5, [.int (X 20 i), .int (X 21 i), .int (X 22 i), .int (X 23 i), .int (X 24 i), .int (X 25 i), .ref (ad (29 + i))]) := by
  unfold cC
  rw [if_neg (show ¬ 17 + i = 0 by omega), if_neg (show ¬ 17 + i = 1 by omega), if_neg (show ¬ 17 + i = 2 by omega), if_neg (show ¬ 17 + i = 3 by omega), if_neg (show ¬ 17 + i = 4 by omega), if_neg (show ¬ 17 + i = 5 by omega), if_neg (show ¬ 17 + i = 6 by omega), if_neg (show ¬ 17 + i = 7 by omega), if_neg (show ¬ 17 + i = 8 by omega), if_neg (show ¬ 17 + i = 9 by omega), if_neg (show ¬ 17 + i = 10 by omega), if_neg (show ¬ 17 + i < 17 by omega), if_pos (show 17 + i < 29 by omega), Nat.add_sub_cancel_left]
theorem atC_Ord {cA : Nat → ClassId} {ad : Nat → Nat} {X : ST} {i : Nat} (h : i < 12) : (wdC cA ad X)[17 + i]? = some (ad (17 + i), .inr (5, [.int (X 20 i), .int (X 21 i), .int (X 22 i), .int (X 23 i), .int (X 24 i), .int (X 25 i), .ref (ad (29 + i))])) := by
  rw [zwC_at (show 17 + i < 125 by omega), cC_Ord h]
theorem cC_iOrd {cA : Nat → ClassId} {ad : Nat → Nat} {X : ST} {i : Nat} (h : i < 12) : cC cA ad X (29 + i) = .inl (cA 7, 4, .inl (fun j => X (1000 + j) i)) := by
  unfold cC
  rw [if_neg (show ¬ 29 + i = 0 by omega), if_neg (show ¬ 29 + i = 1 by omega), if_neg (show ¬ 29 + i = 2 by omega), if_neg (show ¬ 29 + i = 3 by omega), if_neg (show ¬ 29 + i = 4 by omega), if_neg (show ¬ 29 + i = 5 by omega), if_neg (show ¬ 29 + i = 6 by omega), if_neg (show ¬ 29 + i = 7 by omega), if_neg (show ¬ 29 + i = 8 by omega), if_neg (show ¬ 29 + i = 9 by omega), if_neg (show ¬ 29 + i = 10 by omega), if_neg (show ¬ 29 + i < 17 by omega), if_neg (show ¬ 29 + i < 29 by omega), if_pos (show 29 + i < 41 by omega), Nat.add_sub_cancel_left]
theorem atC_iOrd {cA : Nat → ClassId} {ad : Nat → Nat} {X : ST} {i : Nat} (h : i < 12) : (wdC cA ad X)[29 + i]? = some (ad (29 + i), .inl (cA 7, 4, .inl (fun j => X (1000 + j) i))) := by
  rw [zwC_at (show 29 + i < 125 by omega), cC_iOrd h]
theorem cC_Aut {cA : Nat → ClassId} {ad : Nat → Nat} {X : ST} {i : Nat} (h : i < 24) : cC cA ad X (41 + i) = .inr (6, [.int (X 30 i), .int (X 31 i), .int (X 32 i), .int (X 33 i)]) := by
  unfold cC
  rw [if_neg (show ¬ 41 + i = 0 by omega), if_neg (show ¬ 41 + i = 1 by omega), if_neg (show ¬ 41 + i = 2 by omega), if_neg (show ¬ 41 + i = 3 by omega), if_neg (show ¬ 41 + i = 4 by omega), if_neg (show ¬ 41 + i = 5 by omega), if_neg (show ¬ 41 + i = 6 by omega), if_neg (show ¬ 41 + i = 7 by omega), if_neg (show ¬ 41 + i = 8 by omega), if_neg (show ¬ 41 + i = 9 by omega), if_neg (show ¬ 41 + i = 10 by omega), if_neg (show ¬ 41 + i < 17 by omega), if_neg (show ¬ 41 + i < 29 by omega), if_neg (show ¬ 41 + i < 41 by omega), if_pos (show 41 + i < 65 by omega), Nat.add_sub_cancel_left]
theorem atC_Aut {cA : Nat → ClassId} {ad : Nat → Nat} {X : ST} {i : Nat} (h : i < 24) : (wdC cA ad X)[41 + i]? = some (ad (41 + i), .inr (6, [.int (X 30 i), .int (X 31 i), .int (X 32 i), .int (X 33 i)])) := by
  rw [zwC_at (show 41 + i < 125 by omega), cC_Aut h]
theorem cC_Cha {cA : Nat → ClassId} {ad : Nat → Nat} {X : ST} {i : Nat} (h : i < 48) : cC cA ad X (65 + i) = .inr (7, [.int (X 40 i), .int (X 41 i), .int (X 42 i)]) := by
  unfold cC
  rw [if_neg (show ¬ 65 + i = 0 by omega), if_neg (show ¬ 65 + i = 1 by omega), if_neg (show ¬ 65 + i = 2 by omega), if_neg (show ¬ 65 + i = 3 by omega), if_neg (show ¬ 65 + i = 4 by omega), if_neg (show ¬ 65 + i = 5 by omega), if_neg (show ¬ 65 + i = 6 by omega), if_neg (show ¬ 65 + i = 7 by omega), if_neg (show ¬ 65 + i = 8 by omega), if_neg (show ¬ 65 + i = 9 by omega), if_neg (show ¬ 65 + i = 10 by omega), if_neg (show ¬ 65 + i < 17 by omega), if_neg (show ¬ 65 + i < 29 by omega), if_neg (show ¬ 65 + i < 41 by omega), if_neg (show ¬ 65 + i < 65 by omega), if_pos (show 65 + i < 113 by omega), Nat.add_sub_cancel_left]
theorem atC_Cha {cA : Nat → ClassId} {ad : Nat → Nat} {X : ST} {i : Nat} (h : i < 48) : (wdC cA ad X)[65 + i]? = some (ad (65 + i), .inr (7, [.int (X 40 i), .int (X 41 i), .int (X 42 i)])) := by
  rw [zwC_at (show 65 + i < 125 by omega), cC_Cha h]
theorem cC_Cer {cA : Nat → ClassId} {ad : Nat → Nat} {X : ST} {i : Nat} (h : i < 12) : cC cA ad X (113 + i) = .inr (8, [.int (X 50 i), .int (X 51 i), .int (X 52 i), .int (X 53 i), .int (X 54 i), .int (X 55 i)]) := by
  unfold cC
  rw [if_neg (show ¬ 113 + i = 0 by omega), if_neg (show ¬ 113 + i = 1 by omega), if_neg (show ¬ 113 + i = 2 by omega), if_neg (show ¬ 113 + i = 3 by omega), if_neg (show ¬ 113 + i = 4 by omega), if_neg (show ¬ 113 + i = 5 by omega), if_neg (show ¬ 113 + i = 6 by omega), if_neg (show ¬ 113 + i = 7 by omega), if_neg (show ¬ 113 + i = 8 by omega), if_neg (show ¬ 113 + i = 9 by omega), if_neg (show ¬ 113 + i = 10 by omega), if_neg (show ¬ 113 + i < 17 by omega), if_neg (show ¬ 113 + i < 29 by omega), if_neg (show ¬ 113 + i < 41 by omega), if_neg (show ¬ 113 + i < 65 by omega), if_neg (show ¬ 113 + i < 113 by omega), Nat.add_sub_cancel_left]
theorem atC_Cer {cA : Nat → ClassId} {ad : Nat → Nat} {X : ST} {i : Nat} (h : i < 12) : (wdC cA ad X)[113 + i]? = some (ad (113 + i), .inr (8, [.int (X 50 i), .int (X 51 i), .int (X 52 i), .int (X 53 i), .int (X 54 i), .int (X 55 i)])) := by
  rw [zwC_at (show 113 + i < 125 by omega), cC_Cer h]
theorem stC_CA_0 {cA : Nat → ClassId} {ad : Nat → Nat} {X : ST} {v : Int32} : (wdC cA ad X).set (0) (ad (0), .inr (0, ([.int (X 0 0), .int (X 1 0), .int (X 2 0), .int (X 3 0), .int (X 4 0), .int (X 5 0), .ref (ad 1), .ref (ad 2), .ref (ad 3), .ref (ad 4), .ref (ad 5), .ref (ad 6), .ref (ad 8), .ref (ad 10)] : List Value).set 0 (.int v))) = wdC cA ad (up X 0 0 v) := by
  refine zwC_set (by decide) ?_ ?_
  · show (.inr (0, [.int ((up X 0 0 v) 0 0), .int ((up X 0 0 v) 1 0), .int ((up X 0 0 v) 2 0), .int ((up X 0 0 v) 3 0), .int ((up X 0 0 v) 4 0), .int ((up X 0 0 v) 5 0), .ref (ad 1), .ref (ad 2), .ref (ad 3), .ref (ad 4), .ref (ad 5), .ref (ad 6), .ref (ad 8), .ref (ad 10)]) : va_E) = _
    simp [up]
  · intro d hd hne
    rcases (show d = 0 ∨ d = 1 ∨ d = 2 ∨ d = 3 ∨ d = 4 ∨ d = 5 ∨ d = 6 ∨ d = 7 ∨ d = 8 ∨ d = 9 ∨ d = 10 ∨ (11 ≤ d ∧ d < 17) ∨ (17 ≤ d ∧ d < 29) ∨ (29 ≤ d ∧ d < 41) ∨ (41 ≤ d ∧ d < 65) ∨ (65 ≤ d ∧ d < 113) ∨ (113 ≤ d ∧ d < 125) by omega) with h9 | h9 | h9 | h9 | h9 | h9 | h9 | h9 | h9 | h9 | h9 | ⟨h9, h8⟩ | ⟨h9, h8⟩ | ⟨h9, h8⟩ | ⟨h9, h8⟩ | ⟨h9, h8⟩ | ⟨h9, h8⟩
    · exact absurd h9 hne
    · subst h9; rfl
    · subst h9; rfl
    · subst h9; rfl
    · subst h9; rfl
    · subst h9; rfl
    · subst h9; rfl
    · subst h9; rfl
    · subst h9; rfl
    · subst h9; rfl
    · subst h9; rfl
    · obtain ⟨j9, rfl⟩ : ∃ j9, d = 11 + j9 := ⟨d - 11, by omega⟩
      rw [cC_Acc (show j9 < 6 by omega), cC_Acc (show j9 < 6 by omega)]
      rfl
    · obtain ⟨j9, rfl⟩ : ∃ j9, d = 17 + j9 := ⟨d - 17, by omega⟩
      rw [cC_Ord (show j9 < 12 by omega), cC_Ord (show j9 < 12 by omega)]
      rfl
    · obtain ⟨j9, rfl⟩ : ∃ j9, d = 29 + j9 := ⟨d - 29, by omega⟩
      rw [cC_iOrd (show j9 < 12 by omega), cC_iOrd (show j9 < 12 by omega)]
      have e8 : (fun j8 => up X 0 0 v (1000 + j8) j9) = (fun j8 => X (1000 + j8) j9) := funext fun j8 => congrFun (up_off (by omega)) j9
      rw [e8]
    · obtain ⟨j9, rfl⟩ : ∃ j9, d = 41 + j9 := ⟨d - 41, by omega⟩
      rw [cC_Aut (show j9 < 24 by omega), cC_Aut (show j9 < 24 by omega)]
      rfl
    · obtain ⟨j9, rfl⟩ : ∃ j9, d = 65 + j9 := ⟨d - 65, by omega⟩
      rw [cC_Cha (show j9 < 48 by omega), cC_Cha (show j9 < 48 by omega)]
      rfl
    · obtain ⟨j9, rfl⟩ : ∃ j9, d = 113 + j9 := ⟨d - 113, by omega⟩
      rw [cC_Cer (show j9 < 12 by omega), cC_Cer (show j9 < 12 by omega)]
      rfl
theorem stC_CA_1 {cA : Nat → ClassId} {ad : Nat → Nat} {X : ST} {v : Int32} : (wdC cA ad X).set (0) (ad (0), .inr (0, ([.int (X 0 0), .int (X 1 0), .int (X 2 0), .int (X 3 0), .int (X 4 0), .int (X 5 0), .ref (ad 1), .ref (ad 2), .ref (ad 3), .ref (ad 4), .ref (ad 5), .ref (ad 6), .ref (ad 8), .ref (ad 10)] : List Value).set 1 (.int v))) = wdC cA ad (up X 1 0 v) := by
  refine zwC_set (by decide) ?_ ?_
  · show (.inr (0, [.int ((up X 1 0 v) 0 0), .int ((up X 1 0 v) 1 0), .int ((up X 1 0 v) 2 0), .int ((up X 1 0 v) 3 0), .int ((up X 1 0 v) 4 0), .int ((up X 1 0 v) 5 0), .ref (ad 1), .ref (ad 2), .ref (ad 3), .ref (ad 4), .ref (ad 5), .ref (ad 6), .ref (ad 8), .ref (ad 10)]) : va_E) = _
    simp [up]
  · intro d hd hne
    rcases (show d = 0 ∨ d = 1 ∨ d = 2 ∨ d = 3 ∨ d = 4 ∨ d = 5 ∨ d = 6 ∨ d = 7 ∨ d = 8 ∨ d = 9 ∨ d = 10 ∨ (11 ≤ d ∧ d < 17) ∨ (17 ≤ d ∧ d < 29) ∨ (29 ≤ d ∧ d < 41) ∨ (41 ≤ d ∧ d < 65) ∨ (65 ≤ d ∧ d < 113) ∨ (113 ≤ d ∧ d < 125) by omega) with h9 | h9 | h9 | h9 | h9 | h9 | h9 | h9 | h9 | h9 | h9 | ⟨h9, h8⟩ | ⟨h9, h8⟩ | ⟨h9, h8⟩ | ⟨h9, h8⟩ | ⟨h9, h8⟩ | ⟨h9, h8⟩
    · exact absurd h9 hne
    · subst h9; rfl
    · subst h9; rfl
    · subst h9; rfl
    · subst h9; rfl
    · subst h9; rfl
    · subst h9; rfl
    · subst h9; rfl
    · subst h9; rfl
    · subst h9; rfl
    · subst h9; rfl
    · obtain ⟨j9, rfl⟩ : ∃ j9, d = 11 + j9 := ⟨d - 11, by omega⟩
      rw [cC_Acc (show j9 < 6 by omega), cC_Acc (show j9 < 6 by omega)]
      rfl
    · obtain ⟨j9, rfl⟩ : ∃ j9, d = 17 + j9 := ⟨d - 17, by omega⟩
      rw [cC_Ord (show j9 < 12 by omega), cC_Ord (show j9 < 12 by omega)]
      rfl
    · obtain ⟨j9, rfl⟩ : ∃ j9, d = 29 + j9 := ⟨d - 29, by omega⟩
      rw [cC_iOrd (show j9 < 12 by omega), cC_iOrd (show j9 < 12 by omega)]
      have e8 : (fun j8 => up X 1 0 v (1000 + j8) j9) = (fun j8 => X (1000 + j8) j9) := funext fun j8 => congrFun (up_off (by omega)) j9
      rw [e8]
    · obtain ⟨j9, rfl⟩ : ∃ j9, d = 41 + j9 := ⟨d - 41, by omega⟩
      rw [cC_Aut (show j9 < 24 by omega), cC_Aut (show j9 < 24 by omega)]
      rfl
    · obtain ⟨j9, rfl⟩ : ∃ j9, d = 65 + j9 := ⟨d - 65, by omega⟩
      rw [cC_Cha (show j9 < 48 by omega), cC_Cha (show j9 < 48 by omega)]
      rfl
    · obtain ⟨j9, rfl⟩ : ∃ j9, d = 113 + j9 := ⟨d - 113, by omega⟩
      rw [cC_Cer (show j9 < 12 by omega), cC_Cer (show j9 < 12 by omega)]
      rfl
theorem stC_CA_2 {cA : Nat → ClassId} {ad : Nat → Nat} {X : ST} {v : Int32} : (wdC cA ad X).set (0) (ad (0), .inr (0, ([.int (X 0 0), .int (X 1 0), .int (X 2 0), .int (X 3 0), .int (X 4 0), .int (X 5 0), .ref (ad 1), .ref (ad 2), .ref (ad 3), .ref (ad 4), .ref (ad 5), .ref (ad 6), .ref (ad 8), .ref (ad 10)] : List Value).set 2 (.int v))) = wdC cA ad (up X 2 0 v) := by
  refine zwC_set (by decide) ?_ ?_
  · show (.inr (0, [.int ((up X 2 0 v) 0 0), .int ((up X 2 0 v) 1 0), .int ((up X 2 0 v) 2 0), .int ((up X 2 0 v) 3 0), .int ((up X 2 0 v) 4 0), .int ((up X 2 0 v) 5 0), .ref (ad 1), .ref (ad 2), .ref (ad 3), .ref (ad 4), .ref (ad 5), .ref (ad 6), .ref (ad 8), .ref (ad 10)]) : va_E) = _
    simp [up]
  · intro d hd hne
    rcases (show d = 0 ∨ d = 1 ∨ d = 2 ∨ d = 3 ∨ d = 4 ∨ d = 5 ∨ d = 6 ∨ d = 7 ∨ d = 8 ∨ d = 9 ∨ d = 10 ∨ (11 ≤ d ∧ d < 17) ∨ (17 ≤ d ∧ d < 29) ∨ (29 ≤ d ∧ d < 41) ∨ (41 ≤ d ∧ d < 65) ∨ (65 ≤ d ∧ d < 113) ∨ (113 ≤ d ∧ d < 125) by omega) with h9 | h9 | h9 | h9 | h9 | h9 | h9 | h9 | h9 | h9 | h9 | ⟨h9, h8⟩ | ⟨h9, h8⟩ | ⟨h9, h8⟩ | ⟨h9, h8⟩ | ⟨h9, h8⟩ | ⟨h9, h8⟩
    · exact absurd h9 hne
    · subst h9; rfl
    · subst h9; rfl
    · subst h9; rfl
    · subst h9; rfl
    · subst h9; rfl
    · subst h9; rfl
    · subst h9; rfl
    · subst h9; rfl
    · subst h9; rfl
    · subst h9; rfl
    · obtain ⟨j9, rfl⟩ : ∃ j9, d = 11 + j9 := ⟨d - 11, by omega⟩
      rw [cC_Acc (show j9 < 6 by omega), cC_Acc (show j9 < 6 by omega)]
      rfl
    · obtain ⟨j9, rfl⟩ : ∃ j9, d = 17 + j9 := ⟨d - 17, by omega⟩
      rw [cC_Ord (show j9 < 12 by omega), cC_Ord (show j9 < 12 by omega)]
      rfl
    · obtain ⟨j9, rfl⟩ : ∃ j9, d = 29 + j9 := ⟨d - 29, by omega⟩
      rw [cC_iOrd (show j9 < 12 by omega), cC_iOrd (show j9 < 12 by omega)]
      have e8 : (fun j8 => up X 2 0 v (1000 + j8) j9) = (fun j8 => X (1000 + j8) j9) := funext fun j8 => congrFun (up_off (by omega)) j9
      rw [e8]
    · obtain ⟨j9, rfl⟩ : ∃ j9, d = 41 + j9 := ⟨d - 41, by omega⟩
      rw [cC_Aut (show j9 < 24 by omega), cC_Aut (show j9 < 24 by omega)]
      rfl
    · obtain ⟨j9, rfl⟩ : ∃ j9, d = 65 + j9 := ⟨d - 65, by omega⟩
      rw [cC_Cha (show j9 < 48 by omega), cC_Cha (show j9 < 48 by omega)]
      rfl
    · obtain ⟨j9, rfl⟩ : ∃ j9, d = 113 + j9 := ⟨d - 113, by omega⟩
      rw [cC_Cer (show j9 < 12 by omega), cC_Cer (show j9 < 12 by omega)]
      rfl
theorem stC_CA_3 {cA : Nat → ClassId} {ad : Nat → Nat} {X : ST} {v : Int32} : (wdC cA ad X).set (0) (ad (0), .inr (0, ([.int (X 0 0), .int (X 1 0), .int (X 2 0), .int (X 3 0), .int (X 4 0), .int (X 5 0), .ref (ad 1), .ref (ad 2), .ref (ad 3), .ref (ad 4), .ref (ad 5), .ref (ad 6), .ref (ad 8), .ref (ad 10)] : List Value).set 3 (.int v))) = wdC cA ad (up X 3 0 v) := by
  refine zwC_set (by decide) ?_ ?_
  · show (.inr (0, [.int ((up X 3 0 v) 0 0), .int ((up X 3 0 v) 1 0), .int ((up X 3 0 v) 2 0), .int ((up X 3 0 v) 3 0), .int ((up X 3 0 v) 4 0), .int ((up X 3 0 v) 5 0), .ref (ad 1), .ref (ad 2), .ref (ad 3), .ref (ad 4), .ref (ad 5), .ref (ad 6), .ref (ad 8), .ref (ad 10)]) : va_E) = _
    simp [up]
  · intro d hd hne
    rcases (show d = 0 ∨ d = 1 ∨ d = 2 ∨ d = 3 ∨ d = 4 ∨ d = 5 ∨ d = 6 ∨ d = 7 ∨ d = 8 ∨ d = 9 ∨ d = 10 ∨ (11 ≤ d ∧ d < 17) ∨ (17 ≤ d ∧ d < 29) ∨ (29 ≤ d ∧ d < 41) ∨ (41 ≤ d ∧ d < 65) ∨ (65 ≤ d ∧ d < 113) ∨ (113 ≤ d ∧ d < 125) by omega) with h9 | h9 | h9 | h9 | h9 | h9 | h9 | h9 | h9 | h9 | h9 | ⟨h9, h8⟩ | ⟨h9, h8⟩ | ⟨h9, h8⟩ | ⟨h9, h8⟩ | ⟨h9, h8⟩ | ⟨h9, h8⟩
    · exact absurd h9 hne
    · subst h9; rfl
    · subst h9; rfl
    · subst h9; rfl
    · subst h9; rfl
    · subst h9; rfl
    · subst h9; rfl
    · subst h9; rfl
    · subst h9; rfl
    · subst h9; rfl
    · subst h9; rfl
    · obtain ⟨j9, rfl⟩ : ∃ j9, d = 11 + j9 := ⟨d - 11, by omega⟩
      rw [cC_Acc (show j9 < 6 by omega), cC_Acc (show j9 < 6 by omega)]
      rfl
    · obtain ⟨j9, rfl⟩ : ∃ j9, d = 17 + j9 := ⟨d - 17, by omega⟩
      rw [cC_Ord (show j9 < 12 by omega), cC_Ord (show j9 < 12 by omega)]
      rfl
    · obtain ⟨j9, rfl⟩ : ∃ j9, d = 29 + j9 := ⟨d - 29, by omega⟩
      rw [cC_iOrd (show j9 < 12 by omega), cC_iOrd (show j9 < 12 by omega)]
      have e8 : (fun j8 => up X 3 0 v (1000 + j8) j9) = (fun j8 => X (1000 + j8) j9) := funext fun j8 => congrFun (up_off (by omega)) j9
      rw [e8]
    · obtain ⟨j9, rfl⟩ : ∃ j9, d = 41 + j9 := ⟨d - 41, by omega⟩
      rw [cC_Aut (show j9 < 24 by omega), cC_Aut (show j9 < 24 by omega)]
      rfl
    · obtain ⟨j9, rfl⟩ : ∃ j9, d = 65 + j9 := ⟨d - 65, by omega⟩
      rw [cC_Cha (show j9 < 48 by omega), cC_Cha (show j9 < 48 by omega)]
      rfl
    · obtain ⟨j9, rfl⟩ : ∃ j9, d = 113 + j9 := ⟨d - 113, by omega⟩
      rw [cC_Cer (show j9 < 12 by omega), cC_Cer (show j9 < 12 by omega)]
      rfl
theorem stC_CA_4 {cA : Nat → ClassId} {ad : Nat → Nat} {X : ST} {v : Int32} : (wdC cA ad X).set (0) (ad (0), .inr (0, ([.int (X 0 0), .int (X 1 0), .int (X 2 0), .int (X 3 0), .int (X 4 0), .int (X 5 0), .ref (ad 1), .ref (ad 2), .ref (ad 3), .ref (ad 4), .ref (ad 5), .ref (ad 6), .ref (ad 8), .ref (ad 10)] : List Value).set 4 (.int v))) = wdC cA ad (up X 4 0 v) := by
  refine zwC_set (by decide) ?_ ?_
  · show (.inr (0, [.int ((up X 4 0 v) 0 0), .int ((up X 4 0 v) 1 0), .int ((up X 4 0 v) 2 0), .int ((up X 4 0 v) 3 0), .int ((up X 4 0 v) 4 0), .int ((up X 4 0 v) 5 0), .ref (ad 1), .ref (ad 2), .ref (ad 3), .ref (ad 4), .ref (ad 5), .ref (ad 6), .ref (ad 8), .ref (ad 10)]) : va_E) = _
    simp [up]
  · intro d hd hne
    rcases (show d = 0 ∨ d = 1 ∨ d = 2 ∨ d = 3 ∨ d = 4 ∨ d = 5 ∨ d = 6 ∨ d = 7 ∨ d = 8 ∨ d = 9 ∨ d = 10 ∨ (11 ≤ d ∧ d < 17) ∨ (17 ≤ d ∧ d < 29) ∨ (29 ≤ d ∧ d < 41) ∨ (41 ≤ d ∧ d < 65) ∨ (65 ≤ d ∧ d < 113) ∨ (113 ≤ d ∧ d < 125) by omega) with h9 | h9 | h9 | h9 | h9 | h9 | h9 | h9 | h9 | h9 | h9 | ⟨h9, h8⟩ | ⟨h9, h8⟩ | ⟨h9, h8⟩ | ⟨h9, h8⟩ | ⟨h9, h8⟩ | ⟨h9, h8⟩
    · exact absurd h9 hne
    · subst h9; rfl
    · subst h9; rfl
    · subst h9; rfl
    · subst h9; rfl
    · subst h9; rfl
    · subst h9; rfl
    · subst h9; rfl
    · subst h9; rfl
    · subst h9; rfl
    · subst h9; rfl
    · obtain ⟨j9, rfl⟩ : ∃ j9, d = 11 + j9 := ⟨d - 11, by omega⟩
      rw [cC_Acc (show j9 < 6 by omega), cC_Acc (show j9 < 6 by omega)]
      rfl
    · obtain ⟨j9, rfl⟩ : ∃ j9, d = 17 + j9 := ⟨d - 17, by omega⟩
      rw [cC_Ord (show j9 < 12 by omega), cC_Ord (show j9 < 12 by omega)]
      rfl
    · obtain ⟨j9, rfl⟩ : ∃ j9, d = 29 + j9 := ⟨d - 29, by omega⟩
      rw [cC_iOrd (show j9 < 12 by omega), cC_iOrd (show j9 < 12 by omega)]
      have e8 : (fun j8 => up X 4 0 v (1000 + j8) j9) = (fun j8 => X (1000 + j8) j9) := funext fun j8 => congrFun (up_off (by omega)) j9
      rw [e8]
    · obtain ⟨j9, rfl⟩ : ∃ j9, d = 41 + j9 := ⟨d - 41, by omega⟩
      rw [cC_Aut (show j9 < 24 by omega), cC_Aut (show j9 < 24 by omega)]
      rfl
    · obtain ⟨j9, rfl⟩ : ∃ j9, d = 65 + j9 := ⟨d - 65, by omega⟩
      rw [cC_Cha (show j9 < 48 by omega), cC_Cha (show j9 < 48 by omega)]
      rfl
    · obtain ⟨j9, rfl⟩ : ∃ j9, d = 113 + j9 := ⟨d - 113, by omega⟩
      rw [cC_Cer (show j9 < 12 by omega), cC_Cer (show j9 < 12 by omega)]
      rfl
theorem stC_CA_5 {cA : Nat → ClassId} {ad : Nat → Nat} {X : ST} {v : Int32} : (wdC cA ad X).set (0) (ad (0), .inr (0, ([.int (X 0 0), .int (X 1 0), .int (X 2 0), .int (X 3 0), .int (X 4 0), .int (X 5 0), .ref (ad 1), .ref (ad 2), .ref (ad 3), .ref (ad 4), .ref (ad 5), .ref (ad 6), .ref (ad 8), .ref (ad 10)] : List Value).set 5 (.int v))) = wdC cA ad (up X 5 0 v) := by
  refine zwC_set (by decide) ?_ ?_
  · show (.inr (0, [.int ((up X 5 0 v) 0 0), .int ((up X 5 0 v) 1 0), .int ((up X 5 0 v) 2 0), .int ((up X 5 0 v) 3 0), .int ((up X 5 0 v) 4 0), .int ((up X 5 0 v) 5 0), .ref (ad 1), .ref (ad 2), .ref (ad 3), .ref (ad 4), .ref (ad 5), .ref (ad 6), .ref (ad 8), .ref (ad 10)]) : va_E) = _
    simp [up]
  · intro d hd hne
    rcases (show d = 0 ∨ d = 1 ∨ d = 2 ∨ d = 3 ∨ d = 4 ∨ d = 5 ∨ d = 6 ∨ d = 7 ∨ d = 8 ∨ d = 9 ∨ d = 10 ∨ (11 ≤ d ∧ d < 17) ∨ (17 ≤ d ∧ d < 29) ∨ (29 ≤ d ∧ d < 41) ∨ (41 ≤ d ∧ d < 65) ∨ (65 ≤ d ∧ d < 113) ∨ (113 ≤ d ∧ d < 125) by omega) with h9 | h9 | h9 | h9 | h9 | h9 | h9 | h9 | h9 | h9 | h9 | ⟨h9, h8⟩ | ⟨h9, h8⟩ | ⟨h9, h8⟩ | ⟨h9, h8⟩ | ⟨h9, h8⟩ | ⟨h9, h8⟩
    · exact absurd h9 hne
    · subst h9; rfl
    · subst h9; rfl
    · subst h9; rfl
    · subst h9; rfl
    · subst h9; rfl
    · subst h9; rfl
    · subst h9; rfl
    · subst h9; rfl
    · subst h9; rfl
    · subst h9; rfl
    · obtain ⟨j9, rfl⟩ : ∃ j9, d = 11 + j9 := ⟨d - 11, by omega⟩
      rw [cC_Acc (show j9 < 6 by omega), cC_Acc (show j9 < 6 by omega)]
      rfl
    · obtain ⟨j9, rfl⟩ : ∃ j9, d = 17 + j9 := ⟨d - 17, by omega⟩
      rw [cC_Ord (show j9 < 12 by omega), cC_Ord (show j9 < 12 by omega)]
      rfl
    · obtain ⟨j9, rfl⟩ : ∃ j9, d = 29 + j9 := ⟨d - 29, by omega⟩
      rw [cC_iOrd (show j9 < 12 by omega), cC_iOrd (show j9 < 12 by omega)]
      have e8 : (fun j8 => up X 5 0 v (1000 + j8) j9) = (fun j8 => X (1000 + j8) j9) := funext fun j8 => congrFun (up_off (by omega)) j9
      rw [e8]
    · obtain ⟨j9, rfl⟩ : ∃ j9, d = 41 + j9 := ⟨d - 41, by omega⟩
      rw [cC_Aut (show j9 < 24 by omega), cC_Aut (show j9 < 24 by omega)]
      rfl
    · obtain ⟨j9, rfl⟩ : ∃ j9, d = 65 + j9 := ⟨d - 65, by omega⟩
      rw [cC_Cha (show j9 < 48 by omega), cC_Cha (show j9 < 48 by omega)]
      rfl
    · obtain ⟨j9, rfl⟩ : ∃ j9, d = 113 + j9 := ⟨d - 113, by omega⟩
      rw [cC_Cer (show j9 < 12 by omega), cC_Cer (show j9 < 12 by omega)]
      rfl
theorem stC_Non_0 {cA : Nat → ClassId} {ad : Nat → Nat} {X : ST} {v : Int32} : (wdC cA ad X).set (6) (ad (6), .inr (1, ([.int (X 6 0), .ref (ad 7)] : List Value).set 0 (.int v))) = wdC cA ad (up X 6 0 v) := by
  refine zwC_set (by decide) ?_ ?_
  · show (.inr (1, [.int ((up X 6 0 v) 6 0), .ref (ad 7)]) : va_E) = _
    simp [up]
  · intro d hd hne
    rcases (show d = 0 ∨ d = 1 ∨ d = 2 ∨ d = 3 ∨ d = 4 ∨ d = 5 ∨ d = 6 ∨ d = 7 ∨ d = 8 ∨ d = 9 ∨ d = 10 ∨ (11 ≤ d ∧ d < 17) ∨ (17 ≤ d ∧ d < 29) ∨ (29 ≤ d ∧ d < 41) ∨ (41 ≤ d ∧ d < 65) ∨ (65 ≤ d ∧ d < 113) ∨ (113 ≤ d ∧ d < 125) by omega) with h9 | h9 | h9 | h9 | h9 | h9 | h9 | h9 | h9 | h9 | h9 | ⟨h9, h8⟩ | ⟨h9, h8⟩ | ⟨h9, h8⟩ | ⟨h9, h8⟩ | ⟨h9, h8⟩ | ⟨h9, h8⟩
    · subst h9; rfl
    · subst h9; rfl
    · subst h9; rfl
    · subst h9; rfl
    · subst h9; rfl
    · subst h9; rfl
    · exact absurd h9 hne
    · subst h9; rfl
    · subst h9; rfl
    · subst h9; rfl
    · subst h9; rfl
    · obtain ⟨j9, rfl⟩ : ∃ j9, d = 11 + j9 := ⟨d - 11, by omega⟩
      rw [cC_Acc (show j9 < 6 by omega), cC_Acc (show j9 < 6 by omega)]
      rfl
    · obtain ⟨j9, rfl⟩ : ∃ j9, d = 17 + j9 := ⟨d - 17, by omega⟩
      rw [cC_Ord (show j9 < 12 by omega), cC_Ord (show j9 < 12 by omega)]
      rfl
    · obtain ⟨j9, rfl⟩ : ∃ j9, d = 29 + j9 := ⟨d - 29, by omega⟩
      rw [cC_iOrd (show j9 < 12 by omega), cC_iOrd (show j9 < 12 by omega)]
      have e8 : (fun j8 => up X 6 0 v (1000 + j8) j9) = (fun j8 => X (1000 + j8) j9) := funext fun j8 => congrFun (up_off (by omega)) j9
      rw [e8]
    · obtain ⟨j9, rfl⟩ : ∃ j9, d = 41 + j9 := ⟨d - 41, by omega⟩
      rw [cC_Aut (show j9 < 24 by omega), cC_Aut (show j9 < 24 by omega)]
      rfl
    · obtain ⟨j9, rfl⟩ : ∃ j9, d = 65 + j9 := ⟨d - 65, by omega⟩
      rw [cC_Cha (show j9 < 48 by omega), cC_Cha (show j9 < 48 by omega)]
      rfl
    · obtain ⟨j9, rfl⟩ : ∃ j9, d = 113 + j9 := ⟨d - 113, by omega⟩
      rw [cC_Cer (show j9 < 12 by omega), cC_Cer (show j9 < 12 by omega)]
      rfl
theorem stC_iNon {cA : Nat → ClassId} {ad : Nat → Nat} {X : ST} {j : Nat} {v : Int32} : (wdC cA ad X).set 7 (ad 7, .inl (cA 5, 8, .inl (upd (X 61) j v))) = wdC cA ad (up X 61 j v) := by
  refine zwC_set (by decide) ?_ ?_
  · show Sum.inl (cA 5, 8, Sum.inl (up X 61 j v 61)) = _
    rw [up_upd]
  · intro d hd hne
    rcases (show d = 0 ∨ d = 1 ∨ d = 2 ∨ d = 3 ∨ d = 4 ∨ d = 5 ∨ d = 6 ∨ d = 7 ∨ d = 8 ∨ d = 9 ∨ d = 10 ∨ (11 ≤ d ∧ d < 17) ∨ (17 ≤ d ∧ d < 29) ∨ (29 ≤ d ∧ d < 41) ∨ (41 ≤ d ∧ d < 65) ∨ (65 ≤ d ∧ d < 113) ∨ (113 ≤ d ∧ d < 125) by omega) with h9 | h9 | h9 | h9 | h9 | h9 | h9 | h9 | h9 | h9 | h9 | ⟨h9, h8⟩ | ⟨h9, h8⟩ | ⟨h9, h8⟩ | ⟨h9, h8⟩ | ⟨h9, h8⟩ | ⟨h9, h8⟩
    · subst h9; rfl
    · subst h9; rfl
    · subst h9; rfl
    · subst h9; rfl
    · subst h9; rfl
    · subst h9; rfl
    · subst h9; rfl
    · exact absurd h9 hne
    · subst h9; rfl
    · subst h9; rfl
    · subst h9; rfl
    · obtain ⟨j9, rfl⟩ : ∃ j9, d = 11 + j9 := ⟨d - 11, by omega⟩
      rw [cC_Acc (show j9 < 6 by omega), cC_Acc (show j9 < 6 by omega)]
      rfl
    · obtain ⟨j9, rfl⟩ : ∃ j9, d = 17 + j9 := ⟨d - 17, by omega⟩
      rw [cC_Ord (show j9 < 12 by omega), cC_Ord (show j9 < 12 by omega)]
      rfl
    · obtain ⟨j9, rfl⟩ : ∃ j9, d = 29 + j9 := ⟨d - 29, by omega⟩
      rw [cC_iOrd (show j9 < 12 by omega), cC_iOrd (show j9 < 12 by omega)]
      have e8 : (fun j8 => up X 61 j v (1000 + j8) j9) = (fun j8 => X (1000 + j8) j9) := funext fun j8 => congrFun (up_off (by omega)) j9
      rw [e8]
    · obtain ⟨j9, rfl⟩ : ∃ j9, d = 41 + j9 := ⟨d - 41, by omega⟩
      rw [cC_Aut (show j9 < 24 by omega), cC_Aut (show j9 < 24 by omega)]
      rfl
    · obtain ⟨j9, rfl⟩ : ∃ j9, d = 65 + j9 := ⟨d - 65, by omega⟩
      rw [cC_Cha (show j9 < 48 by omega), cC_Cha (show j9 < 48 by omega)]
      rfl
    · obtain ⟨j9, rfl⟩ : ∃ j9, d = 113 + j9 := ⟨d - 113, by omega⟩
      rw [cC_Cer (show j9 < 12 by omega), cC_Cer (show j9 < 12 by omega)]
      rfl
theorem stC_Txt_0 {cA : Nat → ClassId} {ad : Nat → Nat} {X : ST} {v : Int32} : (wdC cA ad X).set (8) (ad (8), .inr (2, ([.int (X 7 0), .ref (ad 9)] : List Value).set 0 (.int v))) = wdC cA ad (up X 7 0 v) := by
  refine zwC_set (by decide) ?_ ?_
  · show (.inr (2, [.int ((up X 7 0 v) 7 0), .ref (ad 9)]) : va_E) = _
    simp [up]
  · intro d hd hne
    rcases (show d = 0 ∨ d = 1 ∨ d = 2 ∨ d = 3 ∨ d = 4 ∨ d = 5 ∨ d = 6 ∨ d = 7 ∨ d = 8 ∨ d = 9 ∨ d = 10 ∨ (11 ≤ d ∧ d < 17) ∨ (17 ≤ d ∧ d < 29) ∨ (29 ≤ d ∧ d < 41) ∨ (41 ≤ d ∧ d < 65) ∨ (65 ≤ d ∧ d < 113) ∨ (113 ≤ d ∧ d < 125) by omega) with h9 | h9 | h9 | h9 | h9 | h9 | h9 | h9 | h9 | h9 | h9 | ⟨h9, h8⟩ | ⟨h9, h8⟩ | ⟨h9, h8⟩ | ⟨h9, h8⟩ | ⟨h9, h8⟩ | ⟨h9, h8⟩
    · subst h9; rfl
    · subst h9; rfl
    · subst h9; rfl
    · subst h9; rfl
    · subst h9; rfl
    · subst h9; rfl
    · subst h9; rfl
    · subst h9; rfl
    · exact absurd h9 hne
    · subst h9; rfl
    · subst h9; rfl
    · obtain ⟨j9, rfl⟩ : ∃ j9, d = 11 + j9 := ⟨d - 11, by omega⟩
      rw [cC_Acc (show j9 < 6 by omega), cC_Acc (show j9 < 6 by omega)]
      rfl
    · obtain ⟨j9, rfl⟩ : ∃ j9, d = 17 + j9 := ⟨d - 17, by omega⟩
      rw [cC_Ord (show j9 < 12 by omega), cC_Ord (show j9 < 12 by omega)]
      rfl
    · obtain ⟨j9, rfl⟩ : ∃ j9, d = 29 + j9 := ⟨d - 29, by omega⟩
      rw [cC_iOrd (show j9 < 12 by omega), cC_iOrd (show j9 < 12 by omega)]
      have e8 : (fun j8 => up X 7 0 v (1000 + j8) j9) = (fun j8 => X (1000 + j8) j9) := funext fun j8 => congrFun (up_off (by omega)) j9
      rw [e8]
    · obtain ⟨j9, rfl⟩ : ∃ j9, d = 41 + j9 := ⟨d - 41, by omega⟩
      rw [cC_Aut (show j9 < 24 by omega), cC_Aut (show j9 < 24 by omega)]
      rfl
    · obtain ⟨j9, rfl⟩ : ∃ j9, d = 65 + j9 := ⟨d - 65, by omega⟩
      rw [cC_Cha (show j9 < 48 by omega), cC_Cha (show j9 < 48 by omega)]
      rfl
    · obtain ⟨j9, rfl⟩ : ∃ j9, d = 113 + j9 := ⟨d - 113, by omega⟩
      rw [cC_Cer (show j9 < 12 by omega), cC_Cer (show j9 < 12 by omega)]
      rfl
theorem stC_iTxt {cA : Nat → ClassId} {ad : Nat → Nat} {X : ST} {j : Nat} {v : Int32} : (wdC cA ad X).set 9 (ad 9, .inl (cA 6, 96, .inl (upd (X 63) j v))) = wdC cA ad (up X 63 j v) := by
  refine zwC_set (by decide) ?_ ?_
  · show Sum.inl (cA 6, 96, Sum.inl (up X 63 j v 63)) = _
    rw [up_upd]
  · intro d hd hne
    rcases (show d = 0 ∨ d = 1 ∨ d = 2 ∨ d = 3 ∨ d = 4 ∨ d = 5 ∨ d = 6 ∨ d = 7 ∨ d = 8 ∨ d = 9 ∨ d = 10 ∨ (11 ≤ d ∧ d < 17) ∨ (17 ≤ d ∧ d < 29) ∨ (29 ≤ d ∧ d < 41) ∨ (41 ≤ d ∧ d < 65) ∨ (65 ≤ d ∧ d < 113) ∨ (113 ≤ d ∧ d < 125) by omega) with h9 | h9 | h9 | h9 | h9 | h9 | h9 | h9 | h9 | h9 | h9 | ⟨h9, h8⟩ | ⟨h9, h8⟩ | ⟨h9, h8⟩ | ⟨h9, h8⟩ | ⟨h9, h8⟩ | ⟨h9, h8⟩
    · subst h9; rfl
    · subst h9; rfl
    · subst h9; rfl
    · subst h9; rfl
    · subst h9; rfl
    · subst h9; rfl
    · subst h9; rfl
    · subst h9; rfl
    · subst h9; rfl
    · exact absurd h9 hne
    · subst h9; rfl
    · obtain ⟨j9, rfl⟩ : ∃ j9, d = 11 + j9 := ⟨d - 11, by omega⟩
      rw [cC_Acc (show j9 < 6 by omega), cC_Acc (show j9 < 6 by omega)]
      rfl
    · obtain ⟨j9, rfl⟩ : ∃ j9, d = 17 + j9 := ⟨d - 17, by omega⟩
      rw [cC_Ord (show j9 < 12 by omega), cC_Ord (show j9 < 12 by omega)]
      rfl
    · obtain ⟨j9, rfl⟩ : ∃ j9, d = 29 + j9 := ⟨d - 29, by omega⟩
      rw [cC_iOrd (show j9 < 12 by omega), cC_iOrd (show j9 < 12 by omega)]
      have e8 : (fun j8 => up X 63 j v (1000 + j8) j9) = (fun j8 => X (1000 + j8) j9) := funext fun j8 => congrFun (up_off (by omega)) j9
      rw [e8]
    · obtain ⟨j9, rfl⟩ : ∃ j9, d = 41 + j9 := ⟨d - 41, by omega⟩
      rw [cC_Aut (show j9 < 24 by omega), cC_Aut (show j9 < 24 by omega)]
      rfl
    · obtain ⟨j9, rfl⟩ : ∃ j9, d = 65 + j9 := ⟨d - 65, by omega⟩
      rw [cC_Cha (show j9 < 48 by omega), cC_Cha (show j9 < 48 by omega)]
      rfl
    · obtain ⟨j9, rfl⟩ : ∃ j9, d = 113 + j9 := ⟨d - 113, by omega⟩
      rw [cC_Cer (show j9 < 12 by omega), cC_Cer (show j9 < 12 by omega)]
      rfl
theorem stC_Req_0 {cA : Nat → ClassId} {ad : Nat → Nat} {X : ST} {v : Int32} : (wdC cA ad X).set (10) (ad (10), .inr (3, ([.int (X 64 0), .int (X 65 0), .int (X 66 0), .int (X 67 0)] : List Value).set 0 (.int v))) = wdC cA ad (up X 64 0 v) := by
  refine zwC_set (by decide) ?_ ?_
  · show (.inr (3, [.int ((up X 64 0 v) 64 0), .int ((up X 64 0 v) 65 0), .int ((up X 64 0 v) 66 0), .int ((up X 64 0 v) 67 0)]) : va_E) = _
    simp [up]
  · intro d hd hne
    rcases (show d = 0 ∨ d = 1 ∨ d = 2 ∨ d = 3 ∨ d = 4 ∨ d = 5 ∨ d = 6 ∨ d = 7 ∨ d = 8 ∨ d = 9 ∨ d = 10 ∨ (11 ≤ d ∧ d < 17) ∨ (17 ≤ d ∧ d < 29) ∨ (29 ≤ d ∧ d < 41) ∨ (41 ≤ d ∧ d < 65) ∨ (65 ≤ d ∧ d < 113) ∨ (113 ≤ d ∧ d < 125) by omega) with h9 | h9 | h9 | h9 | h9 | h9 | h9 | h9 | h9 | h9 | h9 | ⟨h9, h8⟩ | ⟨h9, h8⟩ | ⟨h9, h8⟩ | ⟨h9, h8⟩ | ⟨h9, h8⟩ | ⟨h9, h8⟩
    · subst h9; rfl
    · subst h9; rfl
    · subst h9; rfl
    · subst h9; rfl
    · subst h9; rfl
    · subst h9; rfl
    · subst h9; rfl
    · subst h9; rfl
    · subst h9; rfl
    · subst h9; rfl
    · exact absurd h9 hne
    · obtain ⟨j9, rfl⟩ : ∃ j9, d = 11 + j9 := ⟨d - 11, by omega⟩
      rw [cC_Acc (show j9 < 6 by omega), cC_Acc (show j9 < 6 by omega)]
      rfl
    · obtain ⟨j9, rfl⟩ : ∃ j9, d = 17 + j9 := ⟨d - 17, by omega⟩
      rw [cC_Ord (show j9 < 12 by omega), cC_Ord (show j9 < 12 by omega)]
      rfl
    · obtain ⟨j9, rfl⟩ : ∃ j9, d = 29 + j9 := ⟨d - 29, by omega⟩
      rw [cC_iOrd (show j9 < 12 by omega), cC_iOrd (show j9 < 12 by omega)]
      have e8 : (fun j8 => up X 64 0 v (1000 + j8) j9) = (fun j8 => X (1000 + j8) j9) := funext fun j8 => congrFun (up_off (by omega)) j9
      rw [e8]
    · obtain ⟨j9, rfl⟩ : ∃ j9, d = 41 + j9 := ⟨d - 41, by omega⟩
      rw [cC_Aut (show j9 < 24 by omega), cC_Aut (show j9 < 24 by omega)]
      rfl
    · obtain ⟨j9, rfl⟩ : ∃ j9, d = 65 + j9 := ⟨d - 65, by omega⟩
      rw [cC_Cha (show j9 < 48 by omega), cC_Cha (show j9 < 48 by omega)]
      rfl
    · obtain ⟨j9, rfl⟩ : ∃ j9, d = 113 + j9 := ⟨d - 113, by omega⟩
      rw [cC_Cer (show j9 < 12 by omega), cC_Cer (show j9 < 12 by omega)]
      rfl
theorem stC_Req_1 {cA : Nat → ClassId} {ad : Nat → Nat} {X : ST} {v : Int32} : (wdC cA ad X).set (10) (ad (10), .inr (3, ([.int (X 64 0), .int (X 65 0), .int (X 66 0), .int (X 67 0)] : List Value).set 1 (.int v))) = wdC cA ad (up X 65 0 v) := by
  refine zwC_set (by decide) ?_ ?_
  · show (.inr (3, [.int ((up X 65 0 v) 64 0), .int ((up X 65 0 v) 65 0), .int ((up X 65 0 v) 66 0), .int ((up X 65 0 v) 67 0)]) : va_E) = _
    simp [up]
  · intro d hd hne
    rcases (show d = 0 ∨ d = 1 ∨ d = 2 ∨ d = 3 ∨ d = 4 ∨ d = 5 ∨ d = 6 ∨ d = 7 ∨ d = 8 ∨ d = 9 ∨ d = 10 ∨ (11 ≤ d ∧ d < 17) ∨ (17 ≤ d ∧ d < 29) ∨ (29 ≤ d ∧ d < 41) ∨ (41 ≤ d ∧ d < 65) ∨ (65 ≤ d ∧ d < 113) ∨ (113 ≤ d ∧ d < 125) by omega) with h9 | h9 | h9 | h9 | h9 | h9 | h9 | h9 | h9 | h9 | h9 | ⟨h9, h8⟩ | ⟨h9, h8⟩ | ⟨h9, h8⟩ | ⟨h9, h8⟩ | ⟨h9, h8⟩ | ⟨h9, h8⟩
    · subst h9; rfl
    · subst h9; rfl
    · subst h9; rfl
    · subst h9; rfl
    · subst h9; rfl
    · subst h9; rfl
    · subst h9; rfl
    · subst h9; rfl
    · subst h9; rfl
    · subst h9; rfl
    · exact absurd h9 hne
    · obtain ⟨j9, rfl⟩ : ∃ j9, d = 11 + j9 := ⟨d - 11, by omega⟩
      rw [cC_Acc (show j9 < 6 by omega), cC_Acc (show j9 < 6 by omega)]
      rfl
    · obtain ⟨j9, rfl⟩ : ∃ j9, d = 17 + j9 := ⟨d - 17, by omega⟩
      rw [cC_Ord (show j9 < 12 by omega), cC_Ord (show j9 < 12 by omega)]
      rfl
    · obtain ⟨j9, rfl⟩ : ∃ j9, d = 29 + j9 := ⟨d - 29, by omega⟩
      rw [cC_iOrd (show j9 < 12 by omega), cC_iOrd (show j9 < 12 by omega)]
      have e8 : (fun j8 => up X 65 0 v (1000 + j8) j9) = (fun j8 => X (1000 + j8) j9) := funext fun j8 => congrFun (up_off (by omega)) j9
      rw [e8]
    · obtain ⟨j9, rfl⟩ : ∃ j9, d = 41 + j9 := ⟨d - 41, by omega⟩
      rw [cC_Aut (show j9 < 24 by omega), cC_Aut (show j9 < 24 by omega)]
      rfl
    · obtain ⟨j9, rfl⟩ : ∃ j9, d = 65 + j9 := ⟨d - 65, by omega⟩
      rw [cC_Cha (show j9 < 48 by omega), cC_Cha (show j9 < 48 by omega)]
      rfl
    · obtain ⟨j9, rfl⟩ : ∃ j9, d = 113 + j9 := ⟨d - 113, by omega⟩
      rw [cC_Cer (show j9 < 12 by omega), cC_Cer (show j9 < 12 by omega)]
      rfl
theorem stC_Req_2 {cA : Nat → ClassId} {ad : Nat → Nat} {X : ST} {v : Int32} : (wdC cA ad X).set (10) (ad (10), .inr (3, ([.int (X 64 0), .int (X 65 0), .int (X 66 0), .int (X 67 0)] : List Value).set 2 (.int v))) = wdC cA ad (up X 66 0 v) := by
  refine zwC_set (by decide) ?_ ?_
  · show (.inr (3, [.int ((up X 66 0 v) 64 0), .int ((up X 66 0 v) 65 0), .int ((up X 66 0 v) 66 0), .int ((up X 66 0 v) 67 0)]) : va_E) = _
    simp [up]
  · intro d hd hne
    rcases (show d = 0 ∨ d = 1 ∨ d = 2 ∨ d = 3 ∨ d = 4 ∨ d = 5 ∨ d = 6 ∨ d = 7 ∨ d = 8 ∨ d = 9 ∨ d = 10 ∨ (11 ≤ d ∧ d < 17) ∨ (17 ≤ d ∧ d < 29) ∨ (29 ≤ d ∧ d < 41) ∨ (41 ≤ d ∧ d < 65) ∨ (65 ≤ d ∧ d < 113) ∨ (113 ≤ d ∧ d < 125) by omega) with h9 | h9 | h9 | h9 | h9 | h9 | h9 | h9 | h9 | h9 | h9 | ⟨h9, h8⟩ | ⟨h9, h8⟩ | ⟨h9, h8⟩ | ⟨h9, h8⟩ | ⟨h9, h8⟩ | ⟨h9, h8⟩
    · subst h9; rfl
    · subst h9; rfl
    · subst h9; rfl
    · subst h9; rfl
    · subst h9; rfl
    · subst h9; rfl
    · subst h9; rfl
    · subst h9; rfl
    · subst h9; rfl
    · subst h9; rfl
    · exact absurd h9 hne
    · obtain ⟨j9, rfl⟩ : ∃ j9, d = 11 + j9 := ⟨d - 11, by omega⟩
      rw [cC_Acc (show j9 < 6 by omega), cC_Acc (show j9 < 6 by omega)]
      rfl
    · obtain ⟨j9, rfl⟩ : ∃ j9, d = 17 + j9 := ⟨d - 17, by omega⟩
      rw [cC_Ord (show j9 < 12 by omega), cC_Ord (show j9 < 12 by omega)]
      rfl
    · obtain ⟨j9, rfl⟩ : ∃ j9, d = 29 + j9 := ⟨d - 29, by omega⟩
      rw [cC_iOrd (show j9 < 12 by omega), cC_iOrd (show j9 < 12 by omega)]
      have e8 : (fun j8 => up X 66 0 v (1000 + j8) j9) = (fun j8 => X (1000 + j8) j9) := funext fun j8 => congrFun (up_off (by omega)) j9
      rw [e8]
    · obtain ⟨j9, rfl⟩ : ∃ j9, d = 41 + j9 := ⟨d - 41, by omega⟩
      rw [cC_Aut (show j9 < 24 by omega), cC_Aut (show j9 < 24 by omega)]
      rfl
    · obtain ⟨j9, rfl⟩ : ∃ j9, d = 65 + j9 := ⟨d - 65, by omega⟩
      rw [cC_Cha (show j9 < 48 by omega), cC_Cha (show j9 < 48 by omega)]
      rfl
    · obtain ⟨j9, rfl⟩ : ∃ j9, d = 113 + j9 := ⟨d - 113, by omega⟩
      rw [cC_Cer (show j9 < 12 by omega), cC_Cer (show j9 < 12 by omega)]
      rfl
theorem stC_Req_3 {cA : Nat → ClassId} {ad : Nat → Nat} {X : ST} {v : Int32} : (wdC cA ad X).set (10) (ad (10), .inr (3, ([.int (X 64 0), .int (X 65 0), .int (X 66 0), .int (X 67 0)] : List Value).set 3 (.int v))) = wdC cA ad (up X 67 0 v) := by
  refine zwC_set (by decide) ?_ ?_
  · show (.inr (3, [.int ((up X 67 0 v) 64 0), .int ((up X 67 0 v) 65 0), .int ((up X 67 0 v) 66 0), .int ((up X 67 0 v) 67 0)]) : va_E) = _
    simp [up]
  · intro d hd hne
    rcases (show d = 0 ∨ d = 1 ∨ d = 2 ∨ d = 3 ∨ d = 4 ∨ d = 5 ∨ d = 6 ∨ d = 7 ∨ d = 8 ∨ d = 9 ∨ d = 10 ∨ (11 ≤ d ∧ d < 17) ∨ (17 ≤ d ∧ d < 29) ∨ (29 ≤ d ∧ d < 41) ∨ (41 ≤ d ∧ d < 65) ∨ (65 ≤ d ∧ d < 113) ∨ (113 ≤ d ∧ d < 125) by omega) with h9 | h9 | h9 | h9 | h9 | h9 | h9 | h9 | h9 | h9 | h9 | ⟨h9, h8⟩ | ⟨h9, h8⟩ | ⟨h9, h8⟩ | ⟨h9, h8⟩ | ⟨h9, h8⟩ | ⟨h9, h8⟩
    · subst h9; rfl
    · subst h9; rfl
    · subst h9; rfl
    · subst h9; rfl
    · subst h9; rfl
    · subst h9; rfl
    · subst h9; rfl
    · subst h9; rfl
    · subst h9; rfl
    · subst h9; rfl
    · exact absurd h9 hne
    · obtain ⟨j9, rfl⟩ : ∃ j9, d = 11 + j9 := ⟨d - 11, by omega⟩
      rw [cC_Acc (show j9 < 6 by omega), cC_Acc (show j9 < 6 by omega)]
      rfl
    · obtain ⟨j9, rfl⟩ : ∃ j9, d = 17 + j9 := ⟨d - 17, by omega⟩
      rw [cC_Ord (show j9 < 12 by omega), cC_Ord (show j9 < 12 by omega)]
      rfl
    · obtain ⟨j9, rfl⟩ : ∃ j9, d = 29 + j9 := ⟨d - 29, by omega⟩
      rw [cC_iOrd (show j9 < 12 by omega), cC_iOrd (show j9 < 12 by omega)]
      have e8 : (fun j8 => up X 67 0 v (1000 + j8) j9) = (fun j8 => X (1000 + j8) j9) := funext fun j8 => congrFun (up_off (by omega)) j9
      rw [e8]
    · obtain ⟨j9, rfl⟩ : ∃ j9, d = 41 + j9 := ⟨d - 41, by omega⟩
      rw [cC_Aut (show j9 < 24 by omega), cC_Aut (show j9 < 24 by omega)]
      rfl
    · obtain ⟨j9, rfl⟩ : ∃ j9, d = 65 + j9 := ⟨d - 65, by omega⟩
      rw [cC_Cha (show j9 < 48 by omega), cC_Cha (show j9 < 48 by omega)]
      rfl
    · obtain ⟨j9, rfl⟩ : ∃ j9, d = 113 + j9 := ⟨d - 113, by omega⟩
      rw [cC_Cer (show j9 < 12 by omega), cC_Cer (show j9 < 12 by omega)]
      rfl
theorem stC_Acc_0 {cA : Nat → ClassId} {ad : Nat → Nat} {X : ST} {i : Nat} {v : Int32} (h : i < 6) : (wdC cA ad X).set (11 + i) (ad (11 + i), .inr (4, ([.int (X 10 i), .int (X 11 i)] : List Value).set 0 (.int v))) = wdC cA ad (up X 10 i v) := by
  refine zwC_set (show 11 + i < 125 by omega) ?_ ?_
  · rw [cC_Acc h]; simp [up]
  · intro d hd hne
    rcases (show d = 0 ∨ d = 1 ∨ d = 2 ∨ d = 3 ∨ d = 4 ∨ d = 5 ∨ d = 6 ∨ d = 7 ∨ d = 8 ∨ d = 9 ∨ d = 10 ∨ (11 ≤ d ∧ d < 17) ∨ (17 ≤ d ∧ d < 29) ∨ (29 ≤ d ∧ d < 41) ∨ (41 ≤ d ∧ d < 65) ∨ (65 ≤ d ∧ d < 113) ∨ (113 ≤ d ∧ d < 125) by omega) with h9 | h9 | h9 | h9 | h9 | h9 | h9 | h9 | h9 | h9 | h9 | ⟨h9, h8⟩ | ⟨h9, h8⟩ | ⟨h9, h8⟩ | ⟨h9, h8⟩ | ⟨h9, h8⟩ | ⟨h9, h8⟩
    · subst h9; rfl
    · subst h9; rfl
    · subst h9; rfl
    · subst h9; rfl
    · subst h9; rfl
    · subst h9; rfl
    · subst h9; rfl
    · subst h9; rfl
    · subst h9; rfl
    · subst h9; rfl
    · subst h9; rfl
    · obtain ⟨j9, rfl⟩ : ∃ j9, d = 11 + j9 := ⟨d - 11, by omega⟩
      have hj : j9 ≠ i := fun q => hne (by rw [q])
      rw [cC_Acc (show j9 < 6 by omega), cC_Acc (show j9 < 6 by omega)]
      simp [up, hj]
    · obtain ⟨j9, rfl⟩ : ∃ j9, d = 17 + j9 := ⟨d - 17, by omega⟩
      rw [cC_Ord (show j9 < 12 by omega), cC_Ord (show j9 < 12 by omega)]
      rfl
    · obtain ⟨j9, rfl⟩ : ∃ j9, d = 29 + j9 := ⟨d - 29, by omega⟩
      rw [cC_iOrd (show j9 < 12 by omega), cC_iOrd (show j9 < 12 by omega)]
      have e8 : (fun j8 => up X 10 i v (1000 + j8) j9) = (fun j8 => X (1000 + j8) j9) := funext fun j8 => congrFun (up_off (by omega)) j9
      rw [e8]
    · obtain ⟨j9, rfl⟩ : ∃ j9, d = 41 + j9 := ⟨d - 41, by omega⟩
      rw [cC_Aut (show j9 < 24 by omega), cC_Aut (show j9 < 24 by omega)]
      rfl
    · obtain ⟨j9, rfl⟩ : ∃ j9, d = 65 + j9 := ⟨d - 65, by omega⟩
      rw [cC_Cha (show j9 < 48 by omega), cC_Cha (show j9 < 48 by omega)]
      rfl
    · obtain ⟨j9, rfl⟩ : ∃ j9, d = 113 + j9 := ⟨d - 113, by omega⟩
      rw [cC_Cer (show j9 < 12 by omega), cC_Cer (show j9 < 12 by omega)]
      rfl
theorem stC_Acc_1 {cA : Nat → ClassId} {ad : Nat → Nat} {X : ST} {i : Nat} {v : Int32} (h : i < 6) : (wdC cA ad X).set (11 + i) (ad (11 + i), .inr (4, ([.int (X 10 i), .int (X 11 i)] : List Value).set 1 (.int v))) = wdC cA ad (up X 11 i v) := by
  refine zwC_set (show 11 + i < 125 by omega) ?_ ?_
  · rw [cC_Acc h]; simp [up]
  · intro d hd hne
    rcases (show d = 0 ∨ d = 1 ∨ d = 2 ∨ d = 3 ∨ d = 4 ∨ d = 5 ∨ d = 6 ∨ d = 7 ∨ d = 8 ∨ d = 9 ∨ d = 10 ∨ (11 ≤ d ∧ d < 17) ∨ (17 ≤ d ∧ d < 29) ∨ (29 ≤ d ∧ d < 41) ∨ (41 ≤ d ∧ d < 65) ∨ (65 ≤ d ∧ d < 113) ∨ (113 ≤ d ∧ d < 125) by omega) with h9 | h9 | h9 | h9 | h9 | h9 | h9 | h9 | h9 | h9 | h9 | ⟨h9, h8⟩ | ⟨h9, h8⟩ | ⟨h9, h8⟩ | ⟨h9, h8⟩ | ⟨h9, h8⟩ | ⟨h9, h8⟩
    · subst h9; rfl
    · subst h9; rfl
    · subst h9; rfl
    · subst h9; rfl
    · subst h9; rfl
    · subst h9; rfl
    · subst h9; rfl
    · subst h9; rfl
    · subst h9; rfl
    · subst h9; rfl
    · subst h9; rfl
    · obtain ⟨j9, rfl⟩ : ∃ j9, d = 11 + j9 := ⟨d - 11, by omega⟩
      have hj : j9 ≠ i := fun q => hne (by rw [q])
      rw [cC_Acc (show j9 < 6 by omega), cC_Acc (show j9 < 6 by omega)]
      simp [up, hj]
    · obtain ⟨j9, rfl⟩ : ∃ j9, d = 17 + j9 := ⟨d - 17, by omega⟩
      rw [cC_Ord (show j9 < 12 by omega), cC_Ord (show j9 < 12 by omega)]
      rfl
    · obtain ⟨j9, rfl⟩ : ∃ j9, d = 29 + j9 := ⟨d - 29, by omega⟩
      rw [cC_iOrd (show j9 < 12 by omega), cC_iOrd (show j9 < 12 by omega)]
      have e8 : (fun j8 => up X 11 i v (1000 + j8) j9) = (fun j8 => X (1000 + j8) j9) := funext fun j8 => congrFun (up_off (by omega)) j9
      rw [e8]
    · obtain ⟨j9, rfl⟩ : ∃ j9, d = 41 + j9 := ⟨d - 41, by omega⟩
      rw [cC_Aut (show j9 < 24 by omega), cC_Aut (show j9 < 24 by omega)]
      rfl
    · obtain ⟨j9, rfl⟩ : ∃ j9, d = 65 + j9 := ⟨d - 65, by omega⟩
      rw [cC_Cha (show j9 < 48 by omega), cC_Cha (show j9 < 48 by omega)]
      rfl
    · obtain ⟨j9, rfl⟩ : ∃ j9, d = 113 + j9 := ⟨d - 113, by omega⟩
      rw [cC_Cer (show j9 < 12 by omega), cC_Cer (show j9 < 12 by omega)]
      rfl
theorem stC_Ord_0 {cA : Nat → ClassId} {ad : Nat → Nat} {X : ST} {i : Nat} {v : Int32} (h : i < 12) : (wdC cA ad X).set (17 + i) (ad (17 + i), .inr (5, ([.int (X 20 i), .int (X 21 i), .int (X 22 i), .int (X 23 i), .int (X 24 i), .int (X 25 i), .ref (ad (29 + i))] : List Value).set 0 (.int v))) = wdC cA ad (up X 20 i v) := by
  refine zwC_set (show 17 + i < 125 by omega) ?_ ?_
  · rw [cC_Ord h]; simp [up]
  · intro d hd hne
    rcases (show d = 0 ∨ d = 1 ∨ d = 2 ∨ d = 3 ∨ d = 4 ∨ d = 5 ∨ d = 6 ∨ d = 7 ∨ d = 8 ∨ d = 9 ∨ d = 10 ∨ (11 ≤ d ∧ d < 17) ∨ (17 ≤ d ∧ d < 29) ∨ (29 ≤ d ∧ d < 41) ∨ (41 ≤ d ∧ d < 65) ∨ (65 ≤ d ∧ d < 113) ∨ (113 ≤ d ∧ d < 125) by omega) with h9 | h9 | h9 | h9 | h9 | h9 | h9 | h9 | h9 | h9 | h9 | ⟨h9, h8⟩ | ⟨h9, h8⟩ | ⟨h9, h8⟩ | ⟨h9, h8⟩ | ⟨h9, h8⟩ | ⟨h9, h8⟩
    · subst h9; rfl
    · subst h9; rfl
    · subst h9; rfl
    · subst h9; rfl
    · subst h9; rfl
    · subst h9; rfl
    · subst h9; rfl
    · subst h9; rfl
    · subst h9; rfl
    · subst h9; rfl
    · subst h9; rfl
    · obtain ⟨j9, rfl⟩ : ∃ j9, d = 11 + j9 := ⟨d - 11, by omega⟩
      rw [cC_Acc (show j9 < 6 by omega), cC_Acc (show j9 < 6 by omega)]
      rfl
    · obtain ⟨j9, rfl⟩ : ∃ j9, d = 17 + j9 := ⟨d - 17, by omega⟩
      have hj : j9 ≠ i := fun q => hne (by rw [q])
      rw [cC_Ord (show j9 < 12 by omega), cC_Ord (show j9 < 12 by omega)]
      simp [up, hj]
    · obtain ⟨j9, rfl⟩ : ∃ j9, d = 29 + j9 := ⟨d - 29, by omega⟩
      rw [cC_iOrd (show j9 < 12 by omega), cC_iOrd (show j9 < 12 by omega)]
      have e8 : (fun j8 => up X 20 i v (1000 + j8) j9) = (fun j8 => X (1000 + j8) j9) := funext fun j8 => congrFun (up_off (by omega)) j9
      rw [e8]
    · obtain ⟨j9, rfl⟩ : ∃ j9, d = 41 + j9 := ⟨d - 41, by omega⟩
      rw [cC_Aut (show j9 < 24 by omega), cC_Aut (show j9 < 24 by omega)]
      rfl
    · obtain ⟨j9, rfl⟩ : ∃ j9, d = 65 + j9 := ⟨d - 65, by omega⟩
      rw [cC_Cha (show j9 < 48 by omega), cC_Cha (show j9 < 48 by omega)]
      rfl
    · obtain ⟨j9, rfl⟩ : ∃ j9, d = 113 + j9 := ⟨d - 113, by omega⟩
      rw [cC_Cer (show j9 < 12 by omega), cC_Cer (show j9 < 12 by omega)]
      rfl
theorem stC_Ord_1 {cA : Nat → ClassId} {ad : Nat → Nat} {X : ST} {i : Nat} {v : Int32} (h : i < 12) : (wdC cA ad X).set (17 + i) (ad (17 + i), .inr (5, ([.int (X 20 i), .int (X 21 i), .int (X 22 i), .int (X 23 i), .int (X 24 i), .int (X 25 i), .ref (ad (29 + i))] : List Value).set 1 (.int v))) = wdC cA ad (up X 21 i v) := by
  refine zwC_set (show 17 + i < 125 by omega) ?_ ?_
  · rw [cC_Ord h]; simp [up]
  · intro d hd hne
    rcases (show d = 0 ∨ d = 1 ∨ d = 2 ∨ d = 3 ∨ d = 4 ∨ d = 5 ∨ d = 6 ∨ d = 7 ∨ d = 8 ∨ d = 9 ∨ d = 10 ∨ (11 ≤ d ∧ d < 17) ∨ (17 ≤ d ∧ d < 29) ∨ (29 ≤ d ∧ d < 41) ∨ (41 ≤ d ∧ d < 65) ∨ (65 ≤ d ∧ d < 113) ∨ (113 ≤ d ∧ d < 125) by omega) with h9 | h9 | h9 | h9 | h9 | h9 | h9 | h9 | h9 | h9 | h9 | ⟨h9, h8⟩ | ⟨h9, h8⟩ | ⟨h9, h8⟩ | ⟨h9, h8⟩ | ⟨h9, h8⟩ | ⟨h9, h8⟩
    · subst h9; rfl
    · subst h9; rfl
    · subst h9; rfl
    · subst h9; rfl
    · subst h9; rfl
    · subst h9; rfl
    · subst h9; rfl
    · subst h9; rfl
    · subst h9; rfl
    · subst h9; rfl
    · subst h9; rfl
    · obtain ⟨j9, rfl⟩ : ∃ j9, d = 11 + j9 := ⟨d - 11, by omega⟩
      rw [cC_Acc (show j9 < 6 by omega), cC_Acc (show j9 < 6 by omega)]
      rfl
    · obtain ⟨j9, rfl⟩ : ∃ j9, d = 17 + j9 := ⟨d - 17, by omega⟩
      have hj : j9 ≠ i := fun q => hne (by rw [q])
      rw [cC_Ord (show j9 < 12 by omega), cC_Ord (show j9 < 12 by omega)]
      simp [up, hj]
    · obtain ⟨j9, rfl⟩ : ∃ j9, d = 29 + j9 := ⟨d - 29, by omega⟩
      rw [cC_iOrd (show j9 < 12 by omega), cC_iOrd (show j9 < 12 by omega)]
      have e8 : (fun j8 => up X 21 i v (1000 + j8) j9) = (fun j8 => X (1000 + j8) j9) := funext fun j8 => congrFun (up_off (by omega)) j9
      rw [e8]
    · obtain ⟨j9, rfl⟩ : ∃ j9, d = 41 + j9 := ⟨d - 41, by omega⟩
      rw [cC_Aut (show j9 < 24 by omega), cC_Aut (show j9 < 24 by omega)]
      rfl
    · obtain ⟨j9, rfl⟩ : ∃ j9, d = 65 + j9 := ⟨d - 65, by omega⟩
      rw [cC_Cha (show j9 < 48 by omega), cC_Cha (show j9 < 48 by omega)]
      rfl
    · obtain ⟨j9, rfl⟩ : ∃ j9, d = 113 + j9 := ⟨d - 113, by omega⟩
      rw [cC_Cer (show j9 < 12 by omega), cC_Cer (show j9 < 12 by omega)]
      rfl
theorem stC_Ord_2 {cA : Nat → ClassId} {ad : Nat → Nat} {X : ST} {i : Nat} {v : Int32} (h : i < 12) : (wdC cA ad X).set (17 + i) (ad (17 + i), .inr (5, ([.int (X 20 i), .int (X 21 i), .int (X 22 i), .int (X 23 i), .int (X 24 i), .int (X 25 i), .ref (ad (29 + i))] : List Value).set 2 (.int v))) = wdC cA ad (up X 22 i v) := by
  refine zwC_set (show 17 + i < 125 by omega) ?_ ?_
  · rw [cC_Ord h]; simp [up]
  · intro d hd hne
    rcases (show d = 0 ∨ d = 1 ∨ d = 2 ∨ d = 3 ∨ d = 4 ∨ d = 5 ∨ d = 6 ∨ d = 7 ∨ d = 8 ∨ d = 9 ∨ d = 10 ∨ (11 ≤ d ∧ d < 17) ∨ (17 ≤ d ∧ d < 29) ∨ (29 ≤ d ∧ d < 41) ∨ (41 ≤ d ∧ d < 65) ∨ (65 ≤ d ∧ d < 113) ∨ (113 ≤ d ∧ d < 125) by omega) with h9 | h9 | h9 | h9 | h9 | h9 | h9 | h9 | h9 | h9 | h9 | ⟨h9, h8⟩ | ⟨h9, h8⟩ | ⟨h9, h8⟩ | ⟨h9, h8⟩ | ⟨h9, h8⟩ | ⟨h9, h8⟩
    · subst h9; rfl
    · subst h9; rfl
    · subst h9; rfl
    · subst h9; rfl
    · subst h9; rfl
    · subst h9; rfl
    · subst h9; rfl
    · subst h9; rfl
    · subst h9; rfl
    · subst h9; rfl
    · subst h9; rfl
    · obtain ⟨j9, rfl⟩ : ∃ j9, d = 11 + j9 := ⟨d - 11, by omega⟩
      rw [cC_Acc (show j9 < 6 by omega), cC_Acc (show j9 < 6 by omega)]
      rfl
    · obtain ⟨j9, rfl⟩ : ∃ j9, d = 17 + j9 := ⟨d - 17, by omega⟩
      have hj : j9 ≠ i := fun q => hne (by rw [q])
      rw [cC_Ord (show j9 < 12 by omega), cC_Ord (show j9 < 12 by omega)]
      simp [up, hj]
    · obtain ⟨j9, rfl⟩ : ∃ j9, d = 29 + j9 := ⟨d - 29, by omega⟩
      rw [cC_iOrd (show j9 < 12 by omega), cC_iOrd (show j9 < 12 by omega)]
      have e8 : (fun j8 => up X 22 i v (1000 + j8) j9) = (fun j8 => X (1000 + j8) j9) := funext fun j8 => congrFun (up_off (by omega)) j9
      rw [e8]
    · obtain ⟨j9, rfl⟩ : ∃ j9, d = 41 + j9 := ⟨d - 41, by omega⟩
      rw [cC_Aut (show j9 < 24 by omega), cC_Aut (show j9 < 24 by omega)]
      rfl
    · obtain ⟨j9, rfl⟩ : ∃ j9, d = 65 + j9 := ⟨d - 65, by omega⟩
      rw [cC_Cha (show j9 < 48 by omega), cC_Cha (show j9 < 48 by omega)]
      rfl
    · obtain ⟨j9, rfl⟩ : ∃ j9, d = 113 + j9 := ⟨d - 113, by omega⟩
      rw [cC_Cer (show j9 < 12 by omega), cC_Cer (show j9 < 12 by omega)]
      rfl
theorem stC_Ord_3 {cA : Nat → ClassId} {ad : Nat → Nat} {X : ST} {i : Nat} {v : Int32} (h : i < 12) : (wdC cA ad X).set (17 + i) (ad (17 + i), .inr (5, ([.int (X 20 i), .int (X 21 i), .int (X 22 i), .int (X 23 i), .int (X 24 i), .int (X 25 i), .ref (ad (29 + i))] : List Value).set 3 (.int v))) = wdC cA ad (up X 23 i v) := by
  refine zwC_set (show 17 + i < 125 by omega) ?_ ?_
  · rw [cC_Ord h]; simp [up]
  · intro d hd hne
    rcases (show d = 0 ∨ d = 1 ∨ d = 2 ∨ d = 3 ∨ d = 4 ∨ d = 5 ∨ d = 6 ∨ d = 7 ∨ d = 8 ∨ d = 9 ∨ d = 10 ∨ (11 ≤ d ∧ d < 17) ∨ (17 ≤ d ∧ d < 29) ∨ (29 ≤ d ∧ d < 41) ∨ (41 ≤ d ∧ d < 65) ∨ (65 ≤ d ∧ d < 113) ∨ (113 ≤ d ∧ d < 125) by omega) with h9 | h9 | h9 | h9 | h9 | h9 | h9 | h9 | h9 | h9 | h9 | ⟨h9, h8⟩ | ⟨h9, h8⟩ | ⟨h9, h8⟩ | ⟨h9, h8⟩ | ⟨h9, h8⟩ | ⟨h9, h8⟩
    · subst h9; rfl
    · subst h9; rfl
    · subst h9; rfl
    · subst h9; rfl
    · subst h9; rfl
    · subst h9; rfl
    · subst h9; rfl
    · subst h9; rfl
    · subst h9; rfl
    · subst h9; rfl
    · subst h9; rfl
    · obtain ⟨j9, rfl⟩ : ∃ j9, d = 11 + j9 := ⟨d - 11, by omega⟩
      rw [cC_Acc (show j9 < 6 by omega), cC_Acc (show j9 < 6 by omega)]
      rfl
    · obtain ⟨j9, rfl⟩ : ∃ j9, d = 17 + j9 := ⟨d - 17, by omega⟩
      have hj : j9 ≠ i := fun q => hne (by rw [q])
      rw [cC_Ord (show j9 < 12 by omega), cC_Ord (show j9 < 12 by omega)]
      simp [up, hj]
    · obtain ⟨j9, rfl⟩ : ∃ j9, d = 29 + j9 := ⟨d - 29, by omega⟩
      rw [cC_iOrd (show j9 < 12 by omega), cC_iOrd (show j9 < 12 by omega)]
      have e8 : (fun j8 => up X 23 i v (1000 + j8) j9) = (fun j8 => X (1000 + j8) j9) := funext fun j8 => congrFun (up_off (by omega)) j9
      rw [e8]
    · obtain ⟨j9, rfl⟩ : ∃ j9, d = 41 + j9 := ⟨d - 41, by omega⟩
      rw [cC_Aut (show j9 < 24 by omega), cC_Aut (show j9 < 24 by omega)]
      rfl
    · obtain ⟨j9, rfl⟩ : ∃ j9, d = 65 + j9 := ⟨d - 65, by omega⟩
      rw [cC_Cha (show j9 < 48 by omega), cC_Cha (show j9 < 48 by omega)]
      rfl
    · obtain ⟨j9, rfl⟩ : ∃ j9, d = 113 + j9 := ⟨d - 113, by omega⟩
      rw [cC_Cer (show j9 < 12 by omega), cC_Cer (show j9 < 12 by omega)]
      rfl
theorem stC_Ord_4 {cA : Nat → ClassId} {ad : Nat → Nat} {X : ST} {i : Nat} {v : Int32} (h : i < 12) : (wdC cA ad X).set (17 + i) (ad (17 + i), .inr (5, ([.int (X 20 i), .int (X 21 i), .int (X 22 i), .int (X 23 i), .int (X 24 i), .int (X 25 i), .ref (ad (29 + i))] : List Value).set 4 (.int v))) = wdC cA ad (up X 24 i v) := by
  refine zwC_set (show 17 + i < 125 by omega) ?_ ?_
  · rw [cC_Ord h]; simp [up]
  · intro d hd hne
    rcases (show d = 0 ∨ d = 1 ∨ d = 2 ∨ d = 3 ∨ d = 4 ∨ d = 5 ∨ d = 6 ∨ d = 7 ∨ d = 8 ∨ d = 9 ∨ d = 10 ∨ (11 ≤ d ∧ d < 17) ∨ (17 ≤ d ∧ d < 29) ∨ (29 ≤ d ∧ d < 41) ∨ (41 ≤ d ∧ d < 65) ∨ (65 ≤ d ∧ d < 113) ∨ (113 ≤ d ∧ d < 125) by omega) with h9 | h9 | h9 | h9 | h9 | h9 | h9 | h9 | h9 | h9 | h9 | ⟨h9, h8⟩ | ⟨h9, h8⟩ | ⟨h9, h8⟩ | ⟨h9, h8⟩ | ⟨h9, h8⟩ | ⟨h9, h8⟩
    · subst h9; rfl
    · subst h9; rfl
    · subst h9; rfl
    · subst h9; rfl
    · subst h9; rfl
    · subst h9; rfl
    · subst h9; rfl
    · subst h9; rfl
    · subst h9; rfl
    · subst h9; rfl
    · subst h9; rfl
    · obtain ⟨j9, rfl⟩ : ∃ j9, d = 11 + j9 := ⟨d - 11, by omega⟩
      rw [cC_Acc (show j9 < 6 by omega), cC_Acc (show j9 < 6 by omega)]
      rfl
    · obtain ⟨j9, rfl⟩ : ∃ j9, d = 17 + j9 := ⟨d - 17, by omega⟩
      have hj : j9 ≠ i := fun q => hne (by rw [q])
      rw [cC_Ord (show j9 < 12 by omega), cC_Ord (show j9 < 12 by omega)]
      simp [up, hj]
    · obtain ⟨j9, rfl⟩ : ∃ j9, d = 29 + j9 := ⟨d - 29, by omega⟩
      rw [cC_iOrd (show j9 < 12 by omega), cC_iOrd (show j9 < 12 by omega)]
      have e8 : (fun j8 => up X 24 i v (1000 + j8) j9) = (fun j8 => X (1000 + j8) j9) := funext fun j8 => congrFun (up_off (by omega)) j9
      rw [e8]
    · obtain ⟨j9, rfl⟩ : ∃ j9, d = 41 + j9 := ⟨d - 41, by omega⟩
      rw [cC_Aut (show j9 < 24 by omega), cC_Aut (show j9 < 24 by omega)]
      rfl
    · obtain ⟨j9, rfl⟩ : ∃ j9, d = 65 + j9 := ⟨d - 65, by omega⟩
      rw [cC_Cha (show j9 < 48 by omega), cC_Cha (show j9 < 48 by omega)]
      rfl
    · obtain ⟨j9, rfl⟩ : ∃ j9, d = 113 + j9 := ⟨d - 113, by omega⟩
      rw [cC_Cer (show j9 < 12 by omega), cC_Cer (show j9 < 12 by omega)]
      rfl
theorem stC_Ord_5 {cA : Nat → ClassId} {ad : Nat → Nat} {X : ST} {i : Nat} {v : Int32} (h : i < 12) : (wdC cA ad X).set (17 + i) (ad (17 + i), .inr (5, ([.int (X 20 i), .int (X 21 i), .int (X 22 i), .int (X 23 i), .int (X 24 i), .int (X 25 i), .ref (ad (29 + i))] : List Value).set 5 (.int v))) = wdC cA ad (up X 25 i v) := by
  refine zwC_set (show 17 + i < 125 by omega) ?_ ?_
  · rw [cC_Ord h]; simp [up]
  · intro d hd hne
    rcases (show d = 0 ∨ d = 1 ∨ d = 2 ∨ d = 3 ∨ d = 4 ∨ d = 5 ∨ d = 6 ∨ d = 7 ∨ d = 8 ∨ d = 9 ∨ d = 10 ∨ (11 ≤ d ∧ d < 17) ∨ (17 ≤ d ∧ d < 29) ∨ (29 ≤ d ∧ d < 41) ∨ (41 ≤ d ∧ d < 65) ∨ (65 ≤ d ∧ d < 113) ∨ (113 ≤ d ∧ d < 125) by omega) with h9 | h9 | h9 | h9 | h9 | h9 | h9 | h9 | h9 | h9 | h9 | ⟨h9, h8⟩ | ⟨h9, h8⟩ | ⟨h9, h8⟩ | ⟨h9, h8⟩ | ⟨h9, h8⟩ | ⟨h9, h8⟩
    · subst h9; rfl
    · subst h9; rfl
    · subst h9; rfl
    · subst h9; rfl
    · subst h9; rfl
    · subst h9; rfl
    · subst h9; rfl
    · subst h9; rfl
    · subst h9; rfl
    · subst h9; rfl
    · subst h9; rfl
    · obtain ⟨j9, rfl⟩ : ∃ j9, d = 11 + j9 := ⟨d - 11, by omega⟩
      rw [cC_Acc (show j9 < 6 by omega), cC_Acc (show j9 < 6 by omega)]
      rfl
    · obtain ⟨j9, rfl⟩ : ∃ j9, d = 17 + j9 := ⟨d - 17, by omega⟩
      have hj : j9 ≠ i := fun q => hne (by rw [q])
      rw [cC_Ord (show j9 < 12 by omega), cC_Ord (show j9 < 12 by omega)]
      simp [up, hj]
    · obtain ⟨j9, rfl⟩ : ∃ j9, d = 29 + j9 := ⟨d - 29, by omega⟩
      rw [cC_iOrd (show j9 < 12 by omega), cC_iOrd (show j9 < 12 by omega)]
      have e8 : (fun j8 => up X 25 i v (1000 + j8) j9) = (fun j8 => X (1000 + j8) j9) := funext fun j8 => congrFun (up_off (by omega)) j9
      rw [e8]
    · obtain ⟨j9, rfl⟩ : ∃ j9, d = 41 + j9 := ⟨d - 41, by omega⟩
      rw [cC_Aut (show j9 < 24 by omega), cC_Aut (show j9 < 24 by omega)]
      rfl
    · obtain ⟨j9, rfl⟩ : ∃ j9, d = 65 + j9 := ⟨d - 65, by omega⟩
      rw [cC_Cha (show j9 < 48 by omega), cC_Cha (show j9 < 48 by omega)]
      rfl
    · obtain ⟨j9, rfl⟩ : ∃ j9, d = 113 + j9 := ⟨d - 113, by omega⟩
      rw [cC_Cer (show j9 < 12 by omega), cC_Cer (show j9 < 12 by omega)]
      rfl
theorem stC_iOrd {cA : Nat → ClassId} {ad : Nat → Nat} {X : ST} {i : Nat} {j : Nat} {v : Int32} (h : i < 12) : (wdC cA ad X).set (29 + i) (ad (29 + i), .inl (cA 7, 4, .inl (upd (fun j => X (1000 + j) i) j v))) = wdC cA ad (up X (1000 + j) i v) := by
  refine zwC_set (show 29 + i < 125 by omega) ?_ ?_
  · rw [cC_iOrd h]
    have e7 : (fun j2 => up X (1000 + j) i v (1000 + j2) i) = upd (fun j => X (1000 + j) i) j v := by
      funext j2
      by_cases h2 : j2 = j
      · subst h2
        simp [up, upd]
      · simp [up, upd, h2]
    rw [e7]
  · intro d hd hne
    have e9 : ∀ g : Nat, g < 1000 → up X (1000 + j) i v g = X g := fun g hg => up_off (by omega)
    rcases (show d = 0 ∨ d = 1 ∨ d = 2 ∨ d = 3 ∨ d = 4 ∨ d = 5 ∨ d = 6 ∨ d = 7 ∨ d = 8 ∨ d = 9 ∨ d = 10 ∨ (11 ≤ d ∧ d < 17) ∨ (17 ≤ d ∧ d < 29) ∨ (29 ≤ d ∧ d < 41) ∨ (41 ≤ d ∧ d < 65) ∨ (65 ≤ d ∧ d < 113) ∨ (113 ≤ d ∧ d < 125) by omega) with h9 | h9 | h9 | h9 | h9 | h9 | h9 | h9 | h9 | h9 | h9 | ⟨h9, h8⟩ | ⟨h9, h8⟩ | ⟨h9, h8⟩ | ⟨h9, h8⟩ | ⟨h9, h8⟩ | ⟨h9, h8⟩
    · subst h9
      show (.inr (0, [.int ((up X (1000 + j) i v) 0 0), .int ((up X (1000 + j) i v) 1 0), .int ((up X (1000 + j) i v) 2 0), .int ((up X (1000 + j) i v) 3 0), .int ((up X (1000 + j) i v) 4 0), .int ((up X (1000 + j) i v) 5 0), .ref (ad 1), .ref (ad 2), .ref (ad 3), .ref (ad 4), .ref (ad 5), .ref (ad 6), .ref (ad 8), .ref (ad 10)]) : va_E) = _
      rw [e9 0 (by decide), e9 1 (by decide), e9 2 (by decide), e9 3 (by decide), e9 4 (by decide), e9 5 (by decide)]
      rfl
    · subst h9; rfl
    · subst h9; rfl
    · subst h9; rfl
    · subst h9; rfl
    · subst h9; rfl
    · subst h9
      show (.inr (1, [.int ((up X (1000 + j) i v) 6 0), .ref (ad 7)]) : va_E) = _
      rw [e9 6 (by decide)]
      rfl
    · subst h9
      show (.inl (cA 5, 8, .inl ((up X (1000 + j) i v) 61)) : va_E) = _
      rw [e9 61 (by decide)]
      rfl
    · subst h9
      show (.inr (2, [.int ((up X (1000 + j) i v) 7 0), .ref (ad 9)]) : va_E) = _
      rw [e9 7 (by decide)]
      rfl
    · subst h9
      show (.inl (cA 6, 96, .inl ((up X (1000 + j) i v) 63)) : va_E) = _
      rw [e9 63 (by decide)]
      rfl
    · subst h9
      show (.inr (3, [.int ((up X (1000 + j) i v) 64 0), .int ((up X (1000 + j) i v) 65 0), .int ((up X (1000 + j) i v) 66 0), .int ((up X (1000 + j) i v) 67 0)]) : va_E) = _
      rw [e9 64 (by decide), e9 65 (by decide), e9 66 (by decide), e9 67 (by decide)]
      rfl
    · obtain ⟨j9, rfl⟩ : ∃ j9, d = 11 + j9 := ⟨d - 11, by omega⟩
      rw [cC_Acc (show j9 < 6 by omega), cC_Acc (show j9 < 6 by omega)]
      rw [e9 10 (by decide), e9 11 (by decide)]
    · obtain ⟨j9, rfl⟩ : ∃ j9, d = 17 + j9 := ⟨d - 17, by omega⟩
      rw [cC_Ord (show j9 < 12 by omega), cC_Ord (show j9 < 12 by omega)]
      rw [e9 20 (by decide), e9 21 (by decide), e9 22 (by decide), e9 23 (by decide), e9 24 (by decide), e9 25 (by decide)]
    · obtain ⟨j9, rfl⟩ : ∃ j9, d = 29 + j9 := ⟨d - 29, by omega⟩
      have hj : j9 ≠ i := fun q => hne (by rw [q])
      rw [cC_iOrd (show j9 < 12 by omega), cC_iOrd (show j9 < 12 by omega)]
      simp [up, hj]
    · obtain ⟨j9, rfl⟩ : ∃ j9, d = 41 + j9 := ⟨d - 41, by omega⟩
      rw [cC_Aut (show j9 < 24 by omega), cC_Aut (show j9 < 24 by omega)]
      rw [e9 30 (by decide), e9 31 (by decide), e9 32 (by decide), e9 33 (by decide)]
    · obtain ⟨j9, rfl⟩ : ∃ j9, d = 65 + j9 := ⟨d - 65, by omega⟩
      rw [cC_Cha (show j9 < 48 by omega), cC_Cha (show j9 < 48 by omega)]
      rw [e9 40 (by decide), e9 41 (by decide), e9 42 (by decide)]
    · obtain ⟨j9, rfl⟩ : ∃ j9, d = 113 + j9 := ⟨d - 113, by omega⟩
      rw [cC_Cer (show j9 < 12 by omega), cC_Cer (show j9 < 12 by omega)]
      rw [e9 50 (by decide), e9 51 (by decide), e9 52 (by decide), e9 53 (by decide), e9 54 (by decide), e9 55 (by decide)]
theorem stC_Aut_0 {cA : Nat → ClassId} {ad : Nat → Nat} {X : ST} {i : Nat} {v : Int32} (h : i < 24) : (wdC cA ad X).set (41 + i) (ad (41 + i), .inr (6, ([.int (X 30 i), .int (X 31 i), .int (X 32 i), .int (X 33 i)] : List Value).set 0 (.int v))) = wdC cA ad (up X 30 i v) := by
  refine zwC_set (show 41 + i < 125 by omega) ?_ ?_
  · rw [cC_Aut h]; simp [up]
  · intro d hd hne
    rcases (show d = 0 ∨ d = 1 ∨ d = 2 ∨ d = 3 ∨ d = 4 ∨ d = 5 ∨ d = 6 ∨ d = 7 ∨ d = 8 ∨ d = 9 ∨ d = 10 ∨ (11 ≤ d ∧ d < 17) ∨ (17 ≤ d ∧ d < 29) ∨ (29 ≤ d ∧ d < 41) ∨ (41 ≤ d ∧ d < 65) ∨ (65 ≤ d ∧ d < 113) ∨ (113 ≤ d ∧ d < 125) by omega) with h9 | h9 | h9 | h9 | h9 | h9 | h9 | h9 | h9 | h9 | h9 | ⟨h9, h8⟩ | ⟨h9, h8⟩ | ⟨h9, h8⟩ | ⟨h9, h8⟩ | ⟨h9, h8⟩ | ⟨h9, h8⟩
    · subst h9; rfl
    · subst h9; rfl
    · subst h9; rfl
    · subst h9; rfl
    · subst h9; rfl
    · subst h9; rfl
    · subst h9; rfl
    · subst h9; rfl
    · subst h9; rfl
    · subst h9; rfl
    · subst h9; rfl
    · obtain ⟨j9, rfl⟩ : ∃ j9, d = 11 + j9 := ⟨d - 11, by omega⟩
      rw [cC_Acc (show j9 < 6 by omega), cC_Acc (show j9 < 6 by omega)]
      rfl
    · obtain ⟨j9, rfl⟩ : ∃ j9, d = 17 + j9 := ⟨d - 17, by omega⟩
      rw [cC_Ord (show j9 < 12 by omega), cC_Ord (show j9 < 12 by omega)]
      rfl
    · obtain ⟨j9, rfl⟩ : ∃ j9, d = 29 + j9 := ⟨d - 29, by omega⟩
      rw [cC_iOrd (show j9 < 12 by omega), cC_iOrd (show j9 < 12 by omega)]
      have e8 : (fun j8 => up X 30 i v (1000 + j8) j9) = (fun j8 => X (1000 + j8) j9) := funext fun j8 => congrFun (up_off (by omega)) j9
      rw [e8]
    · obtain ⟨j9, rfl⟩ : ∃ j9, d = 41 + j9 := ⟨d - 41, by omega⟩
      have hj : j9 ≠ i := fun q => hne (by rw [q])
      rw [cC_Aut (show j9 < 24 by omega), cC_Aut (show j9 < 24 by omega)]
      simp [up, hj]
    · obtain ⟨j9, rfl⟩ : ∃ j9, d = 65 + j9 := ⟨d - 65, by omega⟩
      rw [cC_Cha (show j9 < 48 by omega), cC_Cha (show j9 < 48 by omega)]
      rfl
    · obtain ⟨j9, rfl⟩ : ∃ j9, d = 113 + j9 := ⟨d - 113, by omega⟩
      rw [cC_Cer (show j9 < 12 by omega), cC_Cer (show j9 < 12 by omega)]
      rfl
theorem stC_Aut_1 {cA : Nat → ClassId} {ad : Nat → Nat} {X : ST} {i : Nat} {v : Int32} (h : i < 24) : (wdC cA ad X).set (41 + i) (ad (41 + i), .inr (6, ([.int (X 30 i), .int (X 31 i), .int (X 32 i), .int (X 33 i)] : List Value).set 1 (.int v))) = wdC cA ad (up X 31 i v) := by
  refine zwC_set (show 41 + i < 125 by omega) ?_ ?_
  · rw [cC_Aut h]; simp [up]
  · intro d hd hne
    rcases (show d = 0 ∨ d = 1 ∨ d = 2 ∨ d = 3 ∨ d = 4 ∨ d = 5 ∨ d = 6 ∨ d = 7 ∨ d = 8 ∨ d = 9 ∨ d = 10 ∨ (11 ≤ d ∧ d < 17) ∨ (17 ≤ d ∧ d < 29) ∨ (29 ≤ d ∧ d < 41) ∨ (41 ≤ d ∧ d < 65) ∨ (65 ≤ d ∧ d < 113) ∨ (113 ≤ d ∧ d < 125) by omega) with h9 | h9 | h9 | h9 | h9 | h9 | h9 | h9 | h9 | h9 | h9 | ⟨h9, h8⟩ | ⟨h9, h8⟩ | ⟨h9, h8⟩ | ⟨h9, h8⟩ | ⟨h9, h8⟩ | ⟨h9, h8⟩
    · subst h9; rfl
    · subst h9; rfl
    · subst h9; rfl
    · subst h9; rfl
    · subst h9; rfl
    · subst h9; rfl
    · subst h9; rfl
    · subst h9; rfl
    · subst h9; rfl
    · subst h9; rfl
    · subst h9; rfl
    · obtain ⟨j9, rfl⟩ : ∃ j9, d = 11 + j9 := ⟨d - 11, by omega⟩
      rw [cC_Acc (show j9 < 6 by omega), cC_Acc (show j9 < 6 by omega)]
      rfl
    · obtain ⟨j9, rfl⟩ : ∃ j9, d = 17 + j9 := ⟨d - 17, by omega⟩
      rw [cC_Ord (show j9 < 12 by omega), cC_Ord (show j9 < 12 by omega)]
      rfl
    · obtain ⟨j9, rfl⟩ : ∃ j9, d = 29 + j9 := ⟨d - 29, by omega⟩
      rw [cC_iOrd (show j9 < 12 by omega), cC_iOrd (show j9 < 12 by omega)]
      have e8 : (fun j8 => up X 31 i v (1000 + j8) j9) = (fun j8 => X (1000 + j8) j9) := funext fun j8 => congrFun (up_off (by omega)) j9
      rw [e8]
    · obtain ⟨j9, rfl⟩ : ∃ j9, d = 41 + j9 := ⟨d - 41, by omega⟩
      have hj : j9 ≠ i := fun q => hne (by rw [q])
      rw [cC_Aut (show j9 < 24 by omega), cC_Aut (show j9 < 24 by omega)]
      simp [up, hj]
    · obtain ⟨j9, rfl⟩ : ∃ j9, d = 65 + j9 := ⟨d - 65, by omega⟩
      rw [cC_Cha (show j9 < 48 by omega), cC_Cha (show j9 < 48 by omega)]
      rfl
    · obtain ⟨j9, rfl⟩ : ∃ j9, d = 113 + j9 := ⟨d - 113, by omega⟩
      rw [cC_Cer (show j9 < 12 by omega), cC_Cer (show j9 < 12 by omega)]
      rfl
theorem stC_Aut_2 {cA : Nat → ClassId} {ad : Nat → Nat} {X : ST} {i : Nat} {v : Int32} (h : i < 24) : (wdC cA ad X).set (41 + i) (ad (41 + i), .inr (6, ([.int (X 30 i), .int (X 31 i), .int (X 32 i), .int (X 33 i)] : List Value).set 2 (.int v))) = wdC cA ad (up X 32 i v) := by
  refine zwC_set (show 41 + i < 125 by omega) ?_ ?_
  · rw [cC_Aut h]; simp [up]
  · intro d hd hne
    rcases (show d = 0 ∨ d = 1 ∨ d = 2 ∨ d = 3 ∨ d = 4 ∨ d = 5 ∨ d = 6 ∨ d = 7 ∨ d = 8 ∨ d = 9 ∨ d = 10 ∨ (11 ≤ d ∧ d < 17) ∨ (17 ≤ d ∧ d < 29) ∨ (29 ≤ d ∧ d < 41) ∨ (41 ≤ d ∧ d < 65) ∨ (65 ≤ d ∧ d < 113) ∨ (113 ≤ d ∧ d < 125) by omega) with h9 | h9 | h9 | h9 | h9 | h9 | h9 | h9 | h9 | h9 | h9 | ⟨h9, h8⟩ | ⟨h9, h8⟩ | ⟨h9, h8⟩ | ⟨h9, h8⟩ | ⟨h9, h8⟩ | ⟨h9, h8⟩
    · subst h9; rfl
    · subst h9; rfl
    · subst h9; rfl
    · subst h9; rfl
    · subst h9; rfl
    · subst h9; rfl
    · subst h9; rfl
    · subst h9; rfl
    · subst h9; rfl
    · subst h9; rfl
    · subst h9; rfl
    · obtain ⟨j9, rfl⟩ : ∃ j9, d = 11 + j9 := ⟨d - 11, by omega⟩
      rw [cC_Acc (show j9 < 6 by omega), cC_Acc (show j9 < 6 by omega)]
      rfl
    · obtain ⟨j9, rfl⟩ : ∃ j9, d = 17 + j9 := ⟨d - 17, by omega⟩
      rw [cC_Ord (show j9 < 12 by omega), cC_Ord (show j9 < 12 by omega)]
      rfl
    · obtain ⟨j9, rfl⟩ : ∃ j9, d = 29 + j9 := ⟨d - 29, by omega⟩
      rw [cC_iOrd (show j9 < 12 by omega), cC_iOrd (show j9 < 12 by omega)]
      have e8 : (fun j8 => up X 32 i v (1000 + j8) j9) = (fun j8 => X (1000 + j8) j9) := funext fun j8 => congrFun (up_off (by omega)) j9
      rw [e8]
    · obtain ⟨j9, rfl⟩ : ∃ j9, d = 41 + j9 := ⟨d - 41, by omega⟩
      have hj : j9 ≠ i := fun q => hne (by rw [q])
      rw [cC_Aut (show j9 < 24 by omega), cC_Aut (show j9 < 24 by omega)]
      simp [up, hj]
    · obtain ⟨j9, rfl⟩ : ∃ j9, d = 65 + j9 := ⟨d - 65, by omega⟩
      rw [cC_Cha (show j9 < 48 by omega), cC_Cha (show j9 < 48 by omega)]
      rfl
    · obtain ⟨j9, rfl⟩ : ∃ j9, d = 113 + j9 := ⟨d - 113, by omega⟩
      rw [cC_Cer (show j9 < 12 by omega), cC_Cer (show j9 < 12 by omega)]
      rfl
theorem stC_Aut_3 {cA : Nat → ClassId} {ad : Nat → Nat} {X : ST} {i : Nat} {v : Int32} (h : i < 24) : (wdC cA ad X).set (41 + i) (ad (41 + i), .inr (6, ([.int (X 30 i), .int (X 31 i), .int (X 32 i), .int (X 33 i)] : List Value).set 3 (.int v))) = wdC cA ad (up X 33 i v) := by
  refine zwC_set (show 41 + i < 125 by omega) ?_ ?_
  · rw [cC_Aut h]; simp [up]
  · intro d hd hne
    rcases (show d = 0 ∨ d = 1 ∨ d = 2 ∨ d = 3 ∨ d = 4 ∨ d = 5 ∨ d = 6 ∨ d = 7 ∨ d = 8 ∨ d = 9 ∨ d = 10 ∨ (11 ≤ d ∧ d < 17) ∨ (17 ≤ d ∧ d < 29) ∨ (29 ≤ d ∧ d < 41) ∨ (41 ≤ d ∧ d < 65) ∨ (65 ≤ d ∧ d < 113) ∨ (113 ≤ d ∧ d < 125) by omega) with h9 | h9 | h9 | h9 | h9 | h9 | h9 | h9 | h9 | h9 | h9 | ⟨h9, h8⟩ | ⟨h9, h8⟩ | ⟨h9, h8⟩ | ⟨h9, h8⟩ | ⟨h9, h8⟩ | ⟨h9, h8⟩
    · subst h9; rfl
    · subst h9; rfl
    · subst h9; rfl
    · subst h9; rfl
    · subst h9; rfl
    · subst h9; rfl
    · subst h9; rfl
    · subst h9; rfl
    · subst h9; rfl
    · subst h9; rfl
    · subst h9; rfl
    · obtain ⟨j9, rfl⟩ : ∃ j9, d = 11 + j9 := ⟨d - 11, by omega⟩
      rw [cC_Acc (show j9 < 6 by omega), cC_Acc (show j9 < 6 by omega)]
      rfl
    · obtain ⟨j9, rfl⟩ : ∃ j9, d = 17 + j9 := ⟨d - 17, by omega⟩
      rw [cC_Ord (show j9 < 12 by omega), cC_Ord (show j9 < 12 by omega)]
      rfl
    · obtain ⟨j9, rfl⟩ : ∃ j9, d = 29 + j9 := ⟨d - 29, by omega⟩
      rw [cC_iOrd (show j9 < 12 by omega), cC_iOrd (show j9 < 12 by omega)]
      have e8 : (fun j8 => up X 33 i v (1000 + j8) j9) = (fun j8 => X (1000 + j8) j9) := funext fun j8 => congrFun (up_off (by omega)) j9
      rw [e8]
    · obtain ⟨j9, rfl⟩ : ∃ j9, d = 41 + j9 := ⟨d - 41, by omega⟩
      have hj : j9 ≠ i := fun q => hne (by rw [q])
      rw [cC_Aut (show j9 < 24 by omega), cC_Aut (show j9 < 24 by omega)]
      simp [up, hj]
    · obtain ⟨j9, rfl⟩ : ∃ j9, d = 65 + j9 := ⟨d - 65, by omega⟩
      rw [cC_Cha (show j9 < 48 by omega), cC_Cha (show j9 < 48 by omega)]
      rfl
    · obtain ⟨j9, rfl⟩ : ∃ j9, d = 113 + j9 := ⟨d - 113, by omega⟩
      rw [cC_Cer (show j9 < 12 by omega), cC_Cer (show j9 < 12 by omega)]
      rfl
theorem stC_Cha_0 {cA : Nat → ClassId} {ad : Nat → Nat} {X : ST} {i : Nat} {v : Int32} (h : i < 48) : (wdC cA ad X).set (65 + i) (ad (65 + i), .inr (7, ([.int (X 40 i), .int (X 41 i), .int (X 42 i)] : List Value).set 0 (.int v))) = wdC cA ad (up X 40 i v) := by
  refine zwC_set (show 65 + i < 125 by omega) ?_ ?_
  · rw [cC_Cha h]; simp [up]
  · intro d hd hne
    rcases (show d = 0 ∨ d = 1 ∨ d = 2 ∨ d = 3 ∨ d = 4 ∨ d = 5 ∨ d = 6 ∨ d = 7 ∨ d = 8 ∨ d = 9 ∨ d = 10 ∨ (11 ≤ d ∧ d < 17) ∨ (17 ≤ d ∧ d < 29) ∨ (29 ≤ d ∧ d < 41) ∨ (41 ≤ d ∧ d < 65) ∨ (65 ≤ d ∧ d < 113) ∨ (113 ≤ d ∧ d < 125) by omega) with h9 | h9 | h9 | h9 | h9 | h9 | h9 | h9 | h9 | h9 | h9 | ⟨h9, h8⟩ | ⟨h9, h8⟩ | ⟨h9, h8⟩ | ⟨h9, h8⟩ | ⟨h9, h8⟩ | ⟨h9, h8⟩
    · subst h9; rfl
    · subst h9; rfl
    · subst h9; rfl
    · subst h9; rfl
    · subst h9; rfl
    · subst h9; rfl
    · subst h9; rfl
    · subst h9; rfl
    · subst h9; rfl
    · subst h9; rfl
    · subst h9; rfl
    · obtain ⟨j9, rfl⟩ : ∃ j9, d = 11 + j9 := ⟨d - 11, by omega⟩
      rw [cC_Acc (show j9 < 6 by omega), cC_Acc (show j9 < 6 by omega)]
      rfl
    · obtain ⟨j9, rfl⟩ : ∃ j9, d = 17 + j9 := ⟨d - 17, by omega⟩
      rw [cC_Ord (show j9 < 12 by omega), cC_Ord (show j9 < 12 by omega)]
      rfl
    · obtain ⟨j9, rfl⟩ : ∃ j9, d = 29 + j9 := ⟨d - 29, by omega⟩
      rw [cC_iOrd (show j9 < 12 by omega), cC_iOrd (show j9 < 12 by omega)]
      have e8 : (fun j8 => up X 40 i v (1000 + j8) j9) = (fun j8 => X (1000 + j8) j9) := funext fun j8 => congrFun (up_off (by omega)) j9
      rw [e8]
    · obtain ⟨j9, rfl⟩ : ∃ j9, d = 41 + j9 := ⟨d - 41, by omega⟩
      rw [cC_Aut (show j9 < 24 by omega), cC_Aut (show j9 < 24 by omega)]
      rfl
    · obtain ⟨j9, rfl⟩ : ∃ j9, d = 65 + j9 := ⟨d - 65, by omega⟩
      have hj : j9 ≠ i := fun q => hne (by rw [q])
      rw [cC_Cha (show j9 < 48 by omega), cC_Cha (show j9 < 48 by omega)]
      simp [up, hj]
    · obtain ⟨j9, rfl⟩ : ∃ j9, d = 113 + j9 := ⟨d - 113, by omega⟩
      rw [cC_Cer (show j9 < 12 by omega), cC_Cer (show j9 < 12 by omega)]
      rfl
theorem stC_Cha_1 {cA : Nat → ClassId} {ad : Nat → Nat} {X : ST} {i : Nat} {v : Int32} (h : i < 48) : (wdC cA ad X).set (65 + i) (ad (65 + i), .inr (7, ([.int (X 40 i), .int (X 41 i), .int (X 42 i)] : List Value).set 1 (.int v))) = wdC cA ad (up X 41 i v) := by
  refine zwC_set (show 65 + i < 125 by omega) ?_ ?_
  · rw [cC_Cha h]; simp [up]
  · intro d hd hne
    rcases (show d = 0 ∨ d = 1 ∨ d = 2 ∨ d = 3 ∨ d = 4 ∨ d = 5 ∨ d = 6 ∨ d = 7 ∨ d = 8 ∨ d = 9 ∨ d = 10 ∨ (11 ≤ d ∧ d < 17) ∨ (17 ≤ d ∧ d < 29) ∨ (29 ≤ d ∧ d < 41) ∨ (41 ≤ d ∧ d < 65) ∨ (65 ≤ d ∧ d < 113) ∨ (113 ≤ d ∧ d < 125) by omega) with h9 | h9 | h9 | h9 | h9 | h9 | h9 | h9 | h9 | h9 | h9 | ⟨h9, h8⟩ | ⟨h9, h8⟩ | ⟨h9, h8⟩ | ⟨h9, h8⟩ | ⟨h9, h8⟩ | ⟨h9, h8⟩
    · subst h9; rfl
    · subst h9; rfl
    · subst h9; rfl
    · subst h9; rfl
    · subst h9; rfl
    · subst h9; rfl
    · subst h9; rfl
    · subst h9; rfl
    · subst h9; rfl
    · subst h9; rfl
    · subst h9; rfl
    · obtain ⟨j9, rfl⟩ : ∃ j9, d = 11 + j9 := ⟨d - 11, by omega⟩
      rw [cC_Acc (show j9 < 6 by omega), cC_Acc (show j9 < 6 by omega)]
      rfl
    · obtain ⟨j9, rfl⟩ : ∃ j9, d = 17 + j9 := ⟨d - 17, by omega⟩
      rw [cC_Ord (show j9 < 12 by omega), cC_Ord (show j9 < 12 by omega)]
      rfl
    · obtain ⟨j9, rfl⟩ : ∃ j9, d = 29 + j9 := ⟨d - 29, by omega⟩
      rw [cC_iOrd (show j9 < 12 by omega), cC_iOrd (show j9 < 12 by omega)]
      have e8 : (fun j8 => up X 41 i v (1000 + j8) j9) = (fun j8 => X (1000 + j8) j9) := funext fun j8 => congrFun (up_off (by omega)) j9
      rw [e8]
    · obtain ⟨j9, rfl⟩ : ∃ j9, d = 41 + j9 := ⟨d - 41, by omega⟩
      rw [cC_Aut (show j9 < 24 by omega), cC_Aut (show j9 < 24 by omega)]
      rfl
    · obtain ⟨j9, rfl⟩ : ∃ j9, d = 65 + j9 := ⟨d - 65, by omega⟩
      have hj : j9 ≠ i := fun q => hne (by rw [q])
      rw [cC_Cha (show j9 < 48 by omega), cC_Cha (show j9 < 48 by omega)]
      simp [up, hj]
    · obtain ⟨j9, rfl⟩ : ∃ j9, d = 113 + j9 := ⟨d - 113, by omega⟩
      rw [cC_Cer (show j9 < 12 by omega), cC_Cer (show j9 < 12 by omega)]
      rfl
theorem stC_Cha_2 {cA : Nat → ClassId} {ad : Nat → Nat} {X : ST} {i : Nat} {v : Int32} (h : i < 48) : (wdC cA ad X).set (65 + i) (ad (65 + i), .inr (7, ([.int (X 40 i), .int (X 41 i), .int (X 42 i)] : List Value).set 2 (.int v))) = wdC cA ad (up X 42 i v) := by
  refine zwC_set (show 65 + i < 125 by omega) ?_ ?_
  · rw [cC_Cha h]; simp [up]
  · intro d hd hne
    rcases (show d = 0 ∨ d = 1 ∨ d = 2 ∨ d = 3 ∨ d = 4 ∨ d = 5 ∨ d = 6 ∨ d = 7 ∨ d = 8 ∨ d = 9 ∨ d = 10 ∨ (11 ≤ d ∧ d < 17) ∨ (17 ≤ d ∧ d < 29) ∨ (29 ≤ d ∧ d < 41) ∨ (41 ≤ d ∧ d < 65) ∨ (65 ≤ d ∧ d < 113) ∨ (113 ≤ d ∧ d < 125) by omega) with h9 | h9 | h9 | h9 | h9 | h9 | h9 | h9 | h9 | h9 | h9 | ⟨h9, h8⟩ | ⟨h9, h8⟩ | ⟨h9, h8⟩ | ⟨h9, h8⟩ | ⟨h9, h8⟩ | ⟨h9, h8⟩
    · subst h9; rfl
    · subst h9; rfl
    · subst h9; rfl
    · subst h9; rfl
    · subst h9; rfl
    · subst h9; rfl
    · subst h9; rfl
    · subst h9; rfl
    · subst h9; rfl
    · subst h9; rfl
    · subst h9; rfl
    · obtain ⟨j9, rfl⟩ : ∃ j9, d = 11 + j9 := ⟨d - 11, by omega⟩
      rw [cC_Acc (show j9 < 6 by omega), cC_Acc (show j9 < 6 by omega)]
      rfl
    · obtain ⟨j9, rfl⟩ : ∃ j9, d = 17 + j9 := ⟨d - 17, by omega⟩
      rw [cC_Ord (show j9 < 12 by omega), cC_Ord (show j9 < 12 by omega)]
      rfl
    · obtain ⟨j9, rfl⟩ : ∃ j9, d = 29 + j9 := ⟨d - 29, by omega⟩
      rw [cC_iOrd (show j9 < 12 by omega), cC_iOrd (show j9 < 12 by omega)]
      have e8 : (fun j8 => up X 42 i v (1000 + j8) j9) = (fun j8 => X (1000 + j8) j9) := funext fun j8 => congrFun (up_off (by omega)) j9
      rw [e8]
    · obtain ⟨j9, rfl⟩ : ∃ j9, d = 41 + j9 := ⟨d - 41, by omega⟩
      rw [cC_Aut (show j9 < 24 by omega), cC_Aut (show j9 < 24 by omega)]
      rfl
    · obtain ⟨j9, rfl⟩ : ∃ j9, d = 65 + j9 := ⟨d - 65, by omega⟩
      have hj : j9 ≠ i := fun q => hne (by rw [q])
      rw [cC_Cha (show j9 < 48 by omega), cC_Cha (show j9 < 48 by omega)]
      simp [up, hj]
    · obtain ⟨j9, rfl⟩ : ∃ j9, d = 113 + j9 := ⟨d - 113, by omega⟩
      rw [cC_Cer (show j9 < 12 by omega), cC_Cer (show j9 < 12 by omega)]
      rfl
theorem stC_Cer_0 {cA : Nat → ClassId} {ad : Nat → Nat} {X : ST} {i : Nat} {v : Int32} (h : i < 12) : (wdC cA ad X).set (113 + i) (ad (113 + i), .inr (8, ([.int (X 50 i), .int (X 51 i), .int (X 52 i), .int (X 53 i), .int (X 54 i), .int (X 55 i)] : List Value).set 0 (.int v))) = wdC cA ad (up X 50 i v) := by
  refine zwC_set (show 113 + i < 125 by omega) ?_ ?_
  · rw [cC_Cer h]; simp [up]
  · intro d hd hne
    rcases (show d = 0 ∨ d = 1 ∨ d = 2 ∨ d = 3 ∨ d = 4 ∨ d = 5 ∨ d = 6 ∨ d = 7 ∨ d = 8 ∨ d = 9 ∨ d = 10 ∨ (11 ≤ d ∧ d < 17) ∨ (17 ≤ d ∧ d < 29) ∨ (29 ≤ d ∧ d < 41) ∨ (41 ≤ d ∧ d < 65) ∨ (65 ≤ d ∧ d < 113) ∨ (113 ≤ d ∧ d < 125) by omega) with h9 | h9 | h9 | h9 | h9 | h9 | h9 | h9 | h9 | h9 | h9 | ⟨h9, h8⟩ | ⟨h9, h8⟩ | ⟨h9, h8⟩ | ⟨h9, h8⟩ | ⟨h9, h8⟩ | ⟨h9, h8⟩
    · subst h9; rfl
    · subst h9; rfl
    · subst h9; rfl
    · subst h9; rfl
    · subst h9; rfl
    · subst h9; rfl
    · subst h9; rfl
    · subst h9; rfl
    · subst h9; rfl
    · subst h9; rfl
    · subst h9; rfl
    · obtain ⟨j9, rfl⟩ : ∃ j9, d = 11 + j9 := ⟨d - 11, by omega⟩
      rw [cC_Acc (show j9 < 6 by omega), cC_Acc (show j9 < 6 by omega)]
      rfl
    · obtain ⟨j9, rfl⟩ : ∃ j9, d = 17 + j9 := ⟨d - 17, by omega⟩
      rw [cC_Ord (show j9 < 12 by omega), cC_Ord (show j9 < 12 by omega)]
      rfl
    · obtain ⟨j9, rfl⟩ : ∃ j9, d = 29 + j9 := ⟨d - 29, by omega⟩
      rw [cC_iOrd (show j9 < 12 by omega), cC_iOrd (show j9 < 12 by omega)]
      have e8 : (fun j8 => up X 50 i v (1000 + j8) j9) = (fun j8 => X (1000 + j8) j9) := funext fun j8 => congrFun (up_off (by omega)) j9
      rw [e8]
    · obtain ⟨j9, rfl⟩ : ∃ j9, d = 41 + j9 := ⟨d - 41, by omega⟩
      rw [cC_Aut (show j9 < 24 by omega), cC_Aut (show j9 < 24 by omega)]
      rfl
    · obtain ⟨j9, rfl⟩ : ∃ j9, d = 65 + j9 := ⟨d - 65, by omega⟩
      rw [cC_Cha (show j9 < 48 by omega), cC_Cha (show j9 < 48 by omega)]
      rfl
    · obtain ⟨j9, rfl⟩ : ∃ j9, d = 113 + j9 := ⟨d - 113, by omega⟩
      have hj : j9 ≠ i := fun q => hne (by rw [q])
      rw [cC_Cer (show j9 < 12 by omega), cC_Cer (show j9 < 12 by omega)]
      simp [up, hj]
theorem stC_Cer_1 {cA : Nat → ClassId} {ad : Nat → Nat} {X : ST} {i : Nat} {v : Int32} (h : i < 12) : (wdC cA ad X).set (113 + i) (ad (113 + i), .inr (8, ([.int (X 50 i), .int (X 51 i), .int (X 52 i), .int (X 53 i), .int (X 54 i), .int (X 55 i)] : List Value).set 1 (.int v))) = wdC cA ad (up X 51 i v) := by
  refine zwC_set (show 113 + i < 125 by omega) ?_ ?_
  · rw [cC_Cer h]; simp [up]
  · intro d hd hne
    rcases (show d = 0 ∨ d = 1 ∨ d = 2 ∨ d = 3 ∨ d = 4 ∨ d = 5 ∨ d = 6 ∨ d = 7 ∨ d = 8 ∨ d = 9 ∨ d = 10 ∨ (11 ≤ d ∧ d < 17) ∨ (17 ≤ d ∧ d < 29) ∨ (29 ≤ d ∧ d < 41) ∨ (41 ≤ d ∧ d < 65) ∨ (65 ≤ d ∧ d < 113) ∨ (113 ≤ d ∧ d < 125) by omega) with h9 | h9 | h9 | h9 | h9 | h9 | h9 | h9 | h9 | h9 | h9 | ⟨h9, h8⟩ | ⟨h9, h8⟩ | ⟨h9, h8⟩ | ⟨h9, h8⟩ | ⟨h9, h8⟩ | ⟨h9, h8⟩
    · subst h9; rfl
    · subst h9; rfl
    · subst h9; rfl
    · subst h9; rfl
    · subst h9; rfl
    · subst h9; rfl
    · subst h9; rfl
    · subst h9; rfl
    · subst h9; rfl
    · subst h9; rfl
    · subst h9; rfl
    · obtain ⟨j9, rfl⟩ : ∃ j9, d = 11 + j9 := ⟨d - 11, by omega⟩
      rw [cC_Acc (show j9 < 6 by omega), cC_Acc (show j9 < 6 by omega)]
      rfl
    · obtain ⟨j9, rfl⟩ : ∃ j9, d = 17 + j9 := ⟨d - 17, by omega⟩
      rw [cC_Ord (show j9 < 12 by omega), cC_Ord (show j9 < 12 by omega)]
      rfl
    · obtain ⟨j9, rfl⟩ : ∃ j9, d = 29 + j9 := ⟨d - 29, by omega⟩
      rw [cC_iOrd (show j9 < 12 by omega), cC_iOrd (show j9 < 12 by omega)]
      have e8 : (fun j8 => up X 51 i v (1000 + j8) j9) = (fun j8 => X (1000 + j8) j9) := funext fun j8 => congrFun (up_off (by omega)) j9
      rw [e8]
    · obtain ⟨j9, rfl⟩ : ∃ j9, d = 41 + j9 := ⟨d - 41, by omega⟩
      rw [cC_Aut (show j9 < 24 by omega), cC_Aut (show j9 < 24 by omega)]
      rfl
    · obtain ⟨j9, rfl⟩ : ∃ j9, d = 65 + j9 := ⟨d - 65, by omega⟩
      rw [cC_Cha (show j9 < 48 by omega), cC_Cha (show j9 < 48 by omega)]
      rfl
    · obtain ⟨j9, rfl⟩ : ∃ j9, d = 113 + j9 := ⟨d - 113, by omega⟩
      have hj : j9 ≠ i := fun q => hne (by rw [q])
      rw [cC_Cer (show j9 < 12 by omega), cC_Cer (show j9 < 12 by omega)]
      simp [up, hj]
theorem stC_Cer_2 {cA : Nat → ClassId} {ad : Nat → Nat} {X : ST} {i : Nat} {v : Int32} (h : i < 12) : (wdC cA ad X).set (113 + i) (ad (113 + i), .inr (8, ([.int (X 50 i), .int (X 51 i), .int (X 52 i), .int (X 53 i), .int (X 54 i), .int (X 55 i)] : List Value).set 2 (.int v))) = wdC cA ad (up X 52 i v) := by
  refine zwC_set (show 113 + i < 125 by omega) ?_ ?_
  · rw [cC_Cer h]; simp [up]
  · intro d hd hne
    rcases (show d = 0 ∨ d = 1 ∨ d = 2 ∨ d = 3 ∨ d = 4 ∨ d = 5 ∨ d = 6 ∨ d = 7 ∨ d = 8 ∨ d = 9 ∨ d = 10 ∨ (11 ≤ d ∧ d < 17) ∨ (17 ≤ d ∧ d < 29) ∨ (29 ≤ d ∧ d < 41) ∨ (41 ≤ d ∧ d < 65) ∨ (65 ≤ d ∧ d < 113) ∨ (113 ≤ d ∧ d < 125) by omega) with h9 | h9 | h9 | h9 | h9 | h9 | h9 | h9 | h9 | h9 | h9 | ⟨h9, h8⟩ | ⟨h9, h8⟩ | ⟨h9, h8⟩ | ⟨h9, h8⟩ | ⟨h9, h8⟩ | ⟨h9, h8⟩
    · subst h9; rfl
    · subst h9; rfl
    · subst h9; rfl
    · subst h9; rfl
    · subst h9; rfl
    · subst h9; rfl
    · subst h9; rfl
    · subst h9; rfl
    · subst h9; rfl
    · subst h9; rfl
    · subst h9; rfl
    · obtain ⟨j9, rfl⟩ : ∃ j9, d = 11 + j9 := ⟨d - 11, by omega⟩
      rw [cC_Acc (show j9 < 6 by omega), cC_Acc (show j9 < 6 by omega)]
      rfl
    · obtain ⟨j9, rfl⟩ : ∃ j9, d = 17 + j9 := ⟨d - 17, by omega⟩
      rw [cC_Ord (show j9 < 12 by omega), cC_Ord (show j9 < 12 by omega)]
      rfl
    · obtain ⟨j9, rfl⟩ : ∃ j9, d = 29 + j9 := ⟨d - 29, by omega⟩
      rw [cC_iOrd (show j9 < 12 by omega), cC_iOrd (show j9 < 12 by omega)]
      have e8 : (fun j8 => up X 52 i v (1000 + j8) j9) = (fun j8 => X (1000 + j8) j9) := funext fun j8 => congrFun (up_off (by omega)) j9
      rw [e8]
    · obtain ⟨j9, rfl⟩ : ∃ j9, d = 41 + j9 := ⟨d - 41, by omega⟩
      rw [cC_Aut (show j9 < 24 by omega), cC_Aut (show j9 < 24 by omega)]
      rfl
    · obtain ⟨j9, rfl⟩ : ∃ j9, d = 65 + j9 := ⟨d - 65, by omega⟩
      rw [cC_Cha (show j9 < 48 by omega), cC_Cha (show j9 < 48 by omega)]
      rfl
    · obtain ⟨j9, rfl⟩ : ∃ j9, d = 113 + j9 := ⟨d - 113, by omega⟩
      have hj : j9 ≠ i := fun q => hne (by rw [q])
      rw [cC_Cer (show j9 < 12 by omega), cC_Cer (show j9 < 12 by omega)]
      simp [up, hj]
theorem stC_Cer_3 {cA : Nat → ClassId} {ad : Nat → Nat} {X : ST} {i : Nat} {v : Int32} (h : i < 12) : (wdC cA ad X).set (113 + i) (ad (113 + i), .inr (8, ([.int (X 50 i), .int (X 51 i), .int (X 52 i), .int (X 53 i), .int (X 54 i), .int (X 55 i)] : List Value).set 3 (.int v))) = wdC cA ad (up X 53 i v) := by
  refine zwC_set (show 113 + i < 125 by omega) ?_ ?_
  · rw [cC_Cer h]; simp [up]
  · intro d hd hne
    rcases (show d = 0 ∨ d = 1 ∨ d = 2 ∨ d = 3 ∨ d = 4 ∨ d = 5 ∨ d = 6 ∨ d = 7 ∨ d = 8 ∨ d = 9 ∨ d = 10 ∨ (11 ≤ d ∧ d < 17) ∨ (17 ≤ d ∧ d < 29) ∨ (29 ≤ d ∧ d < 41) ∨ (41 ≤ d ∧ d < 65) ∨ (65 ≤ d ∧ d < 113) ∨ (113 ≤ d ∧ d < 125) by omega) with h9 | h9 | h9 | h9 | h9 | h9 | h9 | h9 | h9 | h9 | h9 | ⟨h9, h8⟩ | ⟨h9, h8⟩ | ⟨h9, h8⟩ | ⟨h9, h8⟩ | ⟨h9, h8⟩ | ⟨h9, h8⟩
    · subst h9; rfl
    · subst h9; rfl
    · subst h9; rfl
    · subst h9; rfl
    · subst h9; rfl
    · subst h9; rfl
    · subst h9; rfl
    · subst h9; rfl
    · subst h9; rfl
    · subst h9; rfl
    · subst h9; rfl
    · obtain ⟨j9, rfl⟩ : ∃ j9, d = 11 + j9 := ⟨d - 11, by omega⟩
      rw [cC_Acc (show j9 < 6 by omega), cC_Acc (show j9 < 6 by omega)]
      rfl
    · obtain ⟨j9, rfl⟩ : ∃ j9, d = 17 + j9 := ⟨d - 17, by omega⟩
      rw [cC_Ord (show j9 < 12 by omega), cC_Ord (show j9 < 12 by omega)]
      rfl
    · obtain ⟨j9, rfl⟩ : ∃ j9, d = 29 + j9 := ⟨d - 29, by omega⟩
      rw [cC_iOrd (show j9 < 12 by omega), cC_iOrd (show j9 < 12 by omega)]
      have e8 : (fun j8 => up X 53 i v (1000 + j8) j9) = (fun j8 => X (1000 + j8) j9) := funext fun j8 => congrFun (up_off (by omega)) j9
      rw [e8]
    · obtain ⟨j9, rfl⟩ : ∃ j9, d = 41 + j9 := ⟨d - 41, by omega⟩
      rw [cC_Aut (show j9 < 24 by omega), cC_Aut (show j9 < 24 by omega)]
      rfl
    · obtain ⟨j9, rfl⟩ : ∃ j9, d = 65 + j9 := ⟨d - 65, by omega⟩
      rw [cC_Cha (show j9 < 48 by omega), cC_Cha (show j9 < 48 by omega)]
      rfl
    · obtain ⟨j9, rfl⟩ : ∃ j9, d = 113 + j9 := ⟨d - 113, by omega⟩
      have hj : j9 ≠ i := fun q => hne (by rw [q])
      rw [cC_Cer (show j9 < 12 by omega), cC_Cer (show j9 < 12 by omega)]
      simp [up, hj]
theorem stC_Cer_4 {cA : Nat → ClassId} {ad : Nat → Nat} {X : ST} {i : Nat} {v : Int32} (h : i < 12) : (wdC cA ad X).set (113 + i) (ad (113 + i), .inr (8, ([.int (X 50 i), .int (X 51 i), .int (X 52 i), .int (X 53 i), .int (X 54 i), .int (X 55 i)] : List Value).set 4 (.int v))) = wdC cA ad (up X 54 i v) := by
  refine zwC_set (show 113 + i < 125 by omega) ?_ ?_
  · rw [cC_Cer h]; simp [up]
  · intro d hd hne
    rcases (show d = 0 ∨ d = 1 ∨ d = 2 ∨ d = 3 ∨ d = 4 ∨ d = 5 ∨ d = 6 ∨ d = 7 ∨ d = 8 ∨ d = 9 ∨ d = 10 ∨ (11 ≤ d ∧ d < 17) ∨ (17 ≤ d ∧ d < 29) ∨ (29 ≤ d ∧ d < 41) ∨ (41 ≤ d ∧ d < 65) ∨ (65 ≤ d ∧ d < 113) ∨ (113 ≤ d ∧ d < 125) by omega) with h9 | h9 | h9 | h9 | h9 | h9 | h9 | h9 | h9 | h9 | h9 | ⟨h9, h8⟩ | ⟨h9, h8⟩ | ⟨h9, h8⟩ | ⟨h9, h8⟩ | ⟨h9, h8⟩ | ⟨h9, h8⟩
    · subst h9; rfl
    · subst h9; rfl
    · subst h9; rfl
    · subst h9; rfl
    · subst h9; rfl
    · subst h9; rfl
    · subst h9; rfl
    · subst h9; rfl
    · subst h9; rfl
    · subst h9; rfl
    · subst h9; rfl
    · obtain ⟨j9, rfl⟩ : ∃ j9, d = 11 + j9 := ⟨d - 11, by omega⟩
      rw [cC_Acc (show j9 < 6 by omega), cC_Acc (show j9 < 6 by omega)]
      rfl
    · obtain ⟨j9, rfl⟩ : ∃ j9, d = 17 + j9 := ⟨d - 17, by omega⟩
      rw [cC_Ord (show j9 < 12 by omega), cC_Ord (show j9 < 12 by omega)]
      rfl
    · obtain ⟨j9, rfl⟩ : ∃ j9, d = 29 + j9 := ⟨d - 29, by omega⟩
      rw [cC_iOrd (show j9 < 12 by omega), cC_iOrd (show j9 < 12 by omega)]
      have e8 : (fun j8 => up X 54 i v (1000 + j8) j9) = (fun j8 => X (1000 + j8) j9) := funext fun j8 => congrFun (up_off (by omega)) j9
      rw [e8]
    · obtain ⟨j9, rfl⟩ : ∃ j9, d = 41 + j9 := ⟨d - 41, by omega⟩
      rw [cC_Aut (show j9 < 24 by omega), cC_Aut (show j9 < 24 by omega)]
      rfl
    · obtain ⟨j9, rfl⟩ : ∃ j9, d = 65 + j9 := ⟨d - 65, by omega⟩
      rw [cC_Cha (show j9 < 48 by omega), cC_Cha (show j9 < 48 by omega)]
      rfl
    · obtain ⟨j9, rfl⟩ : ∃ j9, d = 113 + j9 := ⟨d - 113, by omega⟩
      have hj : j9 ≠ i := fun q => hne (by rw [q])
      rw [cC_Cer (show j9 < 12 by omega), cC_Cer (show j9 < 12 by omega)]
      simp [up, hj]
theorem stC_Cer_5 {cA : Nat → ClassId} {ad : Nat → Nat} {X : ST} {i : Nat} {v : Int32} (h : i < 12) : (wdC cA ad X).set (113 + i) (ad (113 + i), .inr (8, ([.int (X 50 i), .int (X 51 i), .int (X 52 i), .int (X 53 i), .int (X 54 i), .int (X 55 i)] : List Value).set 5 (.int v))) = wdC cA ad (up X 55 i v) := by
  refine zwC_set (show 113 + i < 125 by omega) ?_ ?_
  · rw [cC_Cer h]; simp [up]
  · intro d hd hne
    rcases (show d = 0 ∨ d = 1 ∨ d = 2 ∨ d = 3 ∨ d = 4 ∨ d = 5 ∨ d = 6 ∨ d = 7 ∨ d = 8 ∨ d = 9 ∨ d = 10 ∨ (11 ≤ d ∧ d < 17) ∨ (17 ≤ d ∧ d < 29) ∨ (29 ≤ d ∧ d < 41) ∨ (41 ≤ d ∧ d < 65) ∨ (65 ≤ d ∧ d < 113) ∨ (113 ≤ d ∧ d < 125) by omega) with h9 | h9 | h9 | h9 | h9 | h9 | h9 | h9 | h9 | h9 | h9 | ⟨h9, h8⟩ | ⟨h9, h8⟩ | ⟨h9, h8⟩ | ⟨h9, h8⟩ | ⟨h9, h8⟩ | ⟨h9, h8⟩
    · subst h9; rfl
    · subst h9; rfl
    · subst h9; rfl
    · subst h9; rfl
    · subst h9; rfl
    · subst h9; rfl
    · subst h9; rfl
    · subst h9; rfl
    · subst h9; rfl
    · subst h9; rfl
    · subst h9; rfl
    · obtain ⟨j9, rfl⟩ : ∃ j9, d = 11 + j9 := ⟨d - 11, by omega⟩
      rw [cC_Acc (show j9 < 6 by omega), cC_Acc (show j9 < 6 by omega)]
      rfl
    · obtain ⟨j9, rfl⟩ : ∃ j9, d = 17 + j9 := ⟨d - 17, by omega⟩
      rw [cC_Ord (show j9 < 12 by omega), cC_Ord (show j9 < 12 by omega)]
      rfl
    · obtain ⟨j9, rfl⟩ : ∃ j9, d = 29 + j9 := ⟨d - 29, by omega⟩
      rw [cC_iOrd (show j9 < 12 by omega), cC_iOrd (show j9 < 12 by omega)]
      have e8 : (fun j8 => up X 55 i v (1000 + j8) j9) = (fun j8 => X (1000 + j8) j9) := funext fun j8 => congrFun (up_off (by omega)) j9
      rw [e8]
    · obtain ⟨j9, rfl⟩ : ∃ j9, d = 41 + j9 := ⟨d - 41, by omega⟩
      rw [cC_Aut (show j9 < 24 by omega), cC_Aut (show j9 < 24 by omega)]
      rfl
    · obtain ⟨j9, rfl⟩ : ∃ j9, d = 65 + j9 := ⟨d - 65, by omega⟩
      rw [cC_Cha (show j9 < 48 by omega), cC_Cha (show j9 < 48 by omega)]
      rfl
    · obtain ⟨j9, rfl⟩ : ∃ j9, d = 113 + j9 := ⟨d - 113, by omega⟩
      have hj : j9 ≠ i := fun q => hne (by rw [q])
      rw [cC_Cer (show j9 < 12 by omega), cC_Cer (show j9 < 12 by omega)]
      simp [up, hj]
def wdM (cA : Nat → ClassId) (ad : Nat → Nat) (X : ST) (Y : Int64) : va_W := [(ad 0, .inr (9, [.int (X 90 0), .int (X 0 0), .int (X 1 0), .int (X 2 0), .ref (ad 1), .ref (ad 2), .int (X 3 0), .ref (ad 3), .ref (ad 4), .ref (ad 5), .ref (ad 6), .ref (ad 7), .ref (ad 8), .ref (ad 9), .int (X 4 0), .ref (ad 10), .ref (ad 11), .ref (ad 12), .ref (ad 13), .ref (ad 14), .ref (ad 15), .ref (ad 16), .int (X 5 0), .ref (ad 17), .ref (ad 18), .ref (ad 19), .ref (ad 20), .int (X 6 0), .ref (ad 21), .ref (ad 22), .int (X 7 0), .int (X 66 0), .int (X 67 0), .int (X 64 0), .int (X 65 0), .long Y])), (ad 1, .inl (cA 0, 6, .inl (X 11))), (ad 2, .inl (cA 1, 6, .inl (X 10))), (ad 3, .inl (cA 2, 12, .inl (X 21))), (ad 4, .inl (cA 3, 12, .inl (X 22))), (ad 5, .inl (cA 4, 12, .inl (X 23))), (ad 6, .inl (cA 5, 12, .inl (X 20))), (ad 7, .inl (cA 6, 12, .inl (X 24))), (ad 8, .inl (cA 7, 12, .inl (X 25))), (ad 9, .inl (cA 8, 48, .inl (X 26))), (ad 10, .inl (cA 9, 24, .inl (X 31))), (ad 11, .inl (cA 10, 24, .inl (X 32))), (ad 12, .inl (cA 11, 24, .inl (X 33))), (ad 13, .inl (cA 12, 24, .inl (X 30))), (ad 14, .inl (cA 13, 48, .inl (X 41))), (ad 15, .inl (cA 14, 48, .inl (X 40))), (ad 16, .inl (cA 15, 48, .inl (X 42))), (ad 17, .inl (cA 16, 12, .inl (X 51))), (ad 18, .inl (cA 17, 12, .inl (X 53))), (ad 19, .inl (cA 18, 12, .inl (X 54))), (ad 20, .inl (cA 19, 12, .inl (X 55))), (ad 21, .inl (cA 20, 9, .inl (X 61))), (ad 22, .inl (cA 21, 96, .inl (X 63)))]
theorem zwM_D {cA : Nat → ClassId} {ad : Nat → Nat} {X : ST} {Y : Int64} {sz : Nat} (hI : INJ ad 23) : va_D (CA ad 23 sz) (wdM cA ad X Y) := by
  have hm : (wdM cA ad X Y).map (fun q => q.1) = (List.range 23).map ad := rfl
  have hg : ∀ (k : Nat) (q : Nat × va_E), (wdM cA ad X Y)[k]? = some q → k < 23 ∧ q.1 = ad k := by
    intro k q hk
    have h1 : ((wdM cA ad X Y).map (fun q => q.1))[k]? = some q.1 := by rw [List.getElem?_map, hk]; rfl
    rw [hm, List.getElem?_map] at h1
    rcases Nat.lt_or_ge k 23 with h | h
    · rw [List.getElem?_range h] at h1
      exact ⟨h, (Option.some.inj h1).symm⟩
    · rw [List.getElem?_eq_none (by rw [List.length_range]; exact h)] at h1
      cases h1
  refine ⟨fun i j p q hp hq he => ?_, fun k q hk => ?_⟩
  · obtain ⟨h1, h2⟩ := hg i p hp
    obtain ⟨h3, h4⟩ := hg j q hq
    exact hI i j h1 h3 (by rw [← h2, ← h4]; exact he)
  · obtain ⟨h1, h2⟩ := hg k q hk
    exact Or.inl ⟨k, h1, h2⟩
theorem atM_MO {cA : Nat → ClassId} {ad : Nat → Nat} {X : ST} {Y : Int64} : (wdM cA ad X Y)[0]? = some (ad 0, .inr (9, [.int (X 90 0), .int (X 0 0), .int (X 1 0), .int (X 2 0), .ref (ad 1), .ref (ad 2), .int (X 3 0), .ref (ad 3), .ref (ad 4), .ref (ad 5), .ref (ad 6), .ref (ad 7), .ref (ad 8), .ref (ad 9), .int (X 4 0), .ref (ad 10), .ref (ad 11), .ref (ad 12), .ref (ad 13), .ref (ad 14), .ref (ad 15), .ref (ad 16), .int (X 5 0), .ref (ad 17), .ref (ad 18), .ref (ad 19), .ref (ad 20), .int (X 6 0), .ref (ad 21), .ref (ad 22), .int (X 7 0), .int (X 66 0), .int (X 67 0), .int (X 64 0), .int (X 65 0), .long Y])) := rfl
theorem atM_keys {cA : Nat → ClassId} {ad : Nat → Nat} {X : ST} {Y : Int64} : (wdM cA ad X Y)[1]? = some (ad 1, .inl (cA 0, 6, .inl (X 11))) := rfl
theorem atM_closed {cA : Nat → ClassId} {ad : Nat → Nat} {X : ST} {Y : Int64} : (wdM cA ad X Y)[2]? = some (ad 2, .inl (cA 1, 6, .inl (X 10))) := rfl
theorem atM_orderAccount {cA : Nat → ClassId} {ad : Nat → Nat} {X : ST} {Y : Int64} : (wdM cA ad X Y)[3]? = some (ad 3, .inl (cA 2, 12, .inl (X 21))) := rfl
theorem atM_orderNames {cA : Nat → ClassId} {ad : Nat → Nat} {X : ST} {Y : Int64} : (wdM cA ad X Y)[4]? = some (ad 4, .inl (cA 3, 12, .inl (X 22))) := rfl
theorem atM_orderEnds {cA : Nat → ClassId} {ad : Nat → Nat} {X : ST} {Y : Int64} : (wdM cA ad X Y)[5]? = some (ad 5, .inl (cA 4, 12, .inl (X 23))) := rfl
theorem atM_orderState {cA : Nat → ClassId} {ad : Nat → Nat} {X : ST} {Y : Int64} : (wdM cA ad X Y)[6]? = some (ad 6, .inl (cA 5, 12, .inl (X 20))) := rfl
theorem atM_orderPaper {cA : Nat → ClassId} {ad : Nat → Nat} {X : ST} {Y : Int64} : (wdM cA ad X Y)[7]? = some (ad 7, .inl (cA 6, 12, .inl (X 24))) := rfl
theorem atM_orderMany {cA : Nat → ClassId} {ad : Nat → Nat} {X : ST} {Y : Int64} : (wdM cA ad X Y)[8]? = some (ad 8, .inl (cA 7, 12, .inl (X 25))) := rfl
theorem atM_orderAuths {cA : Nat → ClassId} {ad : Nat → Nat} {X : ST} {Y : Int64} : (wdM cA ad X Y)[9]? = some (ad 9, .inl (cA 8, 48, .inl (X 26))) := rfl
theorem atM_authAccount {cA : Nat → ClassId} {ad : Nat → Nat} {X : ST} {Y : Int64} : (wdM cA ad X Y)[10]? = some (ad 10, .inl (cA 9, 24, .inl (X 31))) := rfl
theorem atM_authName {cA : Nat → ClassId} {ad : Nat → Nat} {X : ST} {Y : Int64} : (wdM cA ad X Y)[11]? = some (ad 11, .inl (cA 10, 24, .inl (X 32))) := rfl
theorem atM_authEnds {cA : Nat → ClassId} {ad : Nat → Nat} {X : ST} {Y : Int64} : (wdM cA ad X Y)[12]? = some (ad 12, .inl (cA 11, 24, .inl (X 33))) := rfl
theorem atM_authState {cA : Nat → ClassId} {ad : Nat → Nat} {X : ST} {Y : Int64} : (wdM cA ad X Y)[13]? = some (ad 13, .inl (cA 12, 24, .inl (X 30))) := rfl
theorem atM_token {cA : Nat → ClassId} {ad : Nat → Nat} {X : ST} {Y : Int64} : (wdM cA ad X Y)[14]? = some (ad 14, .inl (cA 13, 48, .inl (X 41))) := rfl
theorem atM_stage {cA : Nat → ClassId} {ad : Nat → Nat} {X : ST} {Y : Int64} : (wdM cA ad X Y)[15]? = some (ad 15, .inl (cA 14, 48, .inl (X 40))) := rfl
theorem atM_wrong {cA : Nat → ClassId} {ad : Nat → Nat} {X : ST} {Y : Int64} : (wdM cA ad X Y)[16]? = some (ad 16, .inl (cA 15, 48, .inl (X 42))) := rfl
theorem atM_paperOrder {cA : Nat → ClassId} {ad : Nat → Nat} {X : ST} {Y : Int64} : (wdM cA ad X Y)[17]? = some (ad 17, .inl (cA 16, 12, .inl (X 51))) := rfl
theorem atM_paperKey {cA : Nat → ClassId} {ad : Nat → Nat} {X : ST} {Y : Int64} : (wdM cA ad X Y)[18]? = some (ad 18, .inl (cA 17, 12, .inl (X 53))) := rfl
theorem atM_paperTime {cA : Nat → ClassId} {ad : Nat → Nat} {X : ST} {Y : Int64} : (wdM cA ad X Y)[19]? = some (ad 19, .inl (cA 18, 12, .inl (X 54))) := rfl
theorem atM_paperReason {cA : Nat → ClassId} {ad : Nat → Nat} {X : ST} {Y : Int64} : (wdM cA ad X Y)[20]? = some (ad 20, .inl (cA 19, 12, .inl (X 55))) := rfl
theorem atM_nonces {cA : Nat → ClassId} {ad : Nat → Nat} {X : ST} {Y : Int64} : (wdM cA ad X Y)[21]? = some (ad 21, .inl (cA 20, 9, .inl (X 61))) := rfl
theorem atM_text {cA : Nat → ClassId} {ad : Nat → Nat} {X : ST} {Y : Int64} : (wdM cA ad X Y)[22]? = some (ad 22, .inl (cA 21, 96, .inl (X 63))) := rfl
theorem stM_MO_0 {cA : Nat → ClassId} {ad : Nat → Nat} {X : ST} {Y : Int64} {v : Int32} : (wdM cA ad X Y).set 0 (ad 0, .inr (9, ([.int (X 90 0), .int (X 0 0), .int (X 1 0), .int (X 2 0), .ref (ad 1), .ref (ad 2), .int (X 3 0), .ref (ad 3), .ref (ad 4), .ref (ad 5), .ref (ad 6), .ref (ad 7), .ref (ad 8), .ref (ad 9), .int (X 4 0), .ref (ad 10), .ref (ad 11), .ref (ad 12), .ref (ad 13), .ref (ad 14), .ref (ad 15), .ref (ad 16), .int (X 5 0), .ref (ad 17), .ref (ad 18), .ref (ad 19), .ref (ad 20), .int (X 6 0), .ref (ad 21), .ref (ad 22), .int (X 7 0), .int (X 66 0), .int (X 67 0), .int (X 64 0), .int (X 65 0), .long Y] : List Value).set 0 (.int v))) = wdM cA ad (up X 90 0 v) Y := rfl
theorem stM_MO_1 {cA : Nat → ClassId} {ad : Nat → Nat} {X : ST} {Y : Int64} {v : Int32} : (wdM cA ad X Y).set 0 (ad 0, .inr (9, ([.int (X 90 0), .int (X 0 0), .int (X 1 0), .int (X 2 0), .ref (ad 1), .ref (ad 2), .int (X 3 0), .ref (ad 3), .ref (ad 4), .ref (ad 5), .ref (ad 6), .ref (ad 7), .ref (ad 8), .ref (ad 9), .int (X 4 0), .ref (ad 10), .ref (ad 11), .ref (ad 12), .ref (ad 13), .ref (ad 14), .ref (ad 15), .ref (ad 16), .int (X 5 0), .ref (ad 17), .ref (ad 18), .ref (ad 19), .ref (ad 20), .int (X 6 0), .ref (ad 21), .ref (ad 22), .int (X 7 0), .int (X 66 0), .int (X 67 0), .int (X 64 0), .int (X 65 0), .long Y] : List Value).set 1 (.int v))) = wdM cA ad (up X 0 0 v) Y := rfl
theorem stM_MO_2 {cA : Nat → ClassId} {ad : Nat → Nat} {X : ST} {Y : Int64} {v : Int32} : (wdM cA ad X Y).set 0 (ad 0, .inr (9, ([.int (X 90 0), .int (X 0 0), .int (X 1 0), .int (X 2 0), .ref (ad 1), .ref (ad 2), .int (X 3 0), .ref (ad 3), .ref (ad 4), .ref (ad 5), .ref (ad 6), .ref (ad 7), .ref (ad 8), .ref (ad 9), .int (X 4 0), .ref (ad 10), .ref (ad 11), .ref (ad 12), .ref (ad 13), .ref (ad 14), .ref (ad 15), .ref (ad 16), .int (X 5 0), .ref (ad 17), .ref (ad 18), .ref (ad 19), .ref (ad 20), .int (X 6 0), .ref (ad 21), .ref (ad 22), .int (X 7 0), .int (X 66 0), .int (X 67 0), .int (X 64 0), .int (X 65 0), .long Y] : List Value).set 2 (.int v))) = wdM cA ad (up X 1 0 v) Y := rfl
theorem stM_MO_3 {cA : Nat → ClassId} {ad : Nat → Nat} {X : ST} {Y : Int64} {v : Int32} : (wdM cA ad X Y).set 0 (ad 0, .inr (9, ([.int (X 90 0), .int (X 0 0), .int (X 1 0), .int (X 2 0), .ref (ad 1), .ref (ad 2), .int (X 3 0), .ref (ad 3), .ref (ad 4), .ref (ad 5), .ref (ad 6), .ref (ad 7), .ref (ad 8), .ref (ad 9), .int (X 4 0), .ref (ad 10), .ref (ad 11), .ref (ad 12), .ref (ad 13), .ref (ad 14), .ref (ad 15), .ref (ad 16), .int (X 5 0), .ref (ad 17), .ref (ad 18), .ref (ad 19), .ref (ad 20), .int (X 6 0), .ref (ad 21), .ref (ad 22), .int (X 7 0), .int (X 66 0), .int (X 67 0), .int (X 64 0), .int (X 65 0), .long Y] : List Value).set 3 (.int v))) = wdM cA ad (up X 2 0 v) Y := rfl
theorem stM_MO_6 {cA : Nat → ClassId} {ad : Nat → Nat} {X : ST} {Y : Int64} {v : Int32} : (wdM cA ad X Y).set 0 (ad 0, .inr (9, ([.int (X 90 0), .int (X 0 0), .int (X 1 0), .int (X 2 0), .ref (ad 1), .ref (ad 2), .int (X 3 0), .ref (ad 3), .ref (ad 4), .ref (ad 5), .ref (ad 6), .ref (ad 7), .ref (ad 8), .ref (ad 9), .int (X 4 0), .ref (ad 10), .ref (ad 11), .ref (ad 12), .ref (ad 13), .ref (ad 14), .ref (ad 15), .ref (ad 16), .int (X 5 0), .ref (ad 17), .ref (ad 18), .ref (ad 19), .ref (ad 20), .int (X 6 0), .ref (ad 21), .ref (ad 22), .int (X 7 0), .int (X 66 0), .int (X 67 0), .int (X 64 0), .int (X 65 0), .long Y] : List Value).set 6 (.int v))) = wdM cA ad (up X 3 0 v) Y := rfl
theorem stM_MO_14 {cA : Nat → ClassId} {ad : Nat → Nat} {X : ST} {Y : Int64} {v : Int32} : (wdM cA ad X Y).set 0 (ad 0, .inr (9, ([.int (X 90 0), .int (X 0 0), .int (X 1 0), .int (X 2 0), .ref (ad 1), .ref (ad 2), .int (X 3 0), .ref (ad 3), .ref (ad 4), .ref (ad 5), .ref (ad 6), .ref (ad 7), .ref (ad 8), .ref (ad 9), .int (X 4 0), .ref (ad 10), .ref (ad 11), .ref (ad 12), .ref (ad 13), .ref (ad 14), .ref (ad 15), .ref (ad 16), .int (X 5 0), .ref (ad 17), .ref (ad 18), .ref (ad 19), .ref (ad 20), .int (X 6 0), .ref (ad 21), .ref (ad 22), .int (X 7 0), .int (X 66 0), .int (X 67 0), .int (X 64 0), .int (X 65 0), .long Y] : List Value).set 14 (.int v))) = wdM cA ad (up X 4 0 v) Y := rfl
theorem stM_MO_22 {cA : Nat → ClassId} {ad : Nat → Nat} {X : ST} {Y : Int64} {v : Int32} : (wdM cA ad X Y).set 0 (ad 0, .inr (9, ([.int (X 90 0), .int (X 0 0), .int (X 1 0), .int (X 2 0), .ref (ad 1), .ref (ad 2), .int (X 3 0), .ref (ad 3), .ref (ad 4), .ref (ad 5), .ref (ad 6), .ref (ad 7), .ref (ad 8), .ref (ad 9), .int (X 4 0), .ref (ad 10), .ref (ad 11), .ref (ad 12), .ref (ad 13), .ref (ad 14), .ref (ad 15), .ref (ad 16), .int (X 5 0), .ref (ad 17), .ref (ad 18), .ref (ad 19), .ref (ad 20), .int (X 6 0), .ref (ad 21), .ref (ad 22), .int (X 7 0), .int (X 66 0), .int (X 67 0), .int (X 64 0), .int (X 65 0), .long Y] : List Value).set 22 (.int v))) = wdM cA ad (up X 5 0 v) Y := rfl
theorem stM_MO_27 {cA : Nat → ClassId} {ad : Nat → Nat} {X : ST} {Y : Int64} {v : Int32} : (wdM cA ad X Y).set 0 (ad 0, .inr (9, ([.int (X 90 0), .int (X 0 0), .int (X 1 0), .int (X 2 0), .ref (ad 1), .ref (ad 2), .int (X 3 0), .ref (ad 3), .ref (ad 4), .ref (ad 5), .ref (ad 6), .ref (ad 7), .ref (ad 8), .ref (ad 9), .int (X 4 0), .ref (ad 10), .ref (ad 11), .ref (ad 12), .ref (ad 13), .ref (ad 14), .ref (ad 15), .ref (ad 16), .int (X 5 0), .ref (ad 17), .ref (ad 18), .ref (ad 19), .ref (ad 20), .int (X 6 0), .ref (ad 21), .ref (ad 22), .int (X 7 0), .int (X 66 0), .int (X 67 0), .int (X 64 0), .int (X 65 0), .long Y] : List Value).set 27 (.int v))) = wdM cA ad (up X 6 0 v) Y := rfl
theorem stM_MO_30 {cA : Nat → ClassId} {ad : Nat → Nat} {X : ST} {Y : Int64} {v : Int32} : (wdM cA ad X Y).set 0 (ad 0, .inr (9, ([.int (X 90 0), .int (X 0 0), .int (X 1 0), .int (X 2 0), .ref (ad 1), .ref (ad 2), .int (X 3 0), .ref (ad 3), .ref (ad 4), .ref (ad 5), .ref (ad 6), .ref (ad 7), .ref (ad 8), .ref (ad 9), .int (X 4 0), .ref (ad 10), .ref (ad 11), .ref (ad 12), .ref (ad 13), .ref (ad 14), .ref (ad 15), .ref (ad 16), .int (X 5 0), .ref (ad 17), .ref (ad 18), .ref (ad 19), .ref (ad 20), .int (X 6 0), .ref (ad 21), .ref (ad 22), .int (X 7 0), .int (X 66 0), .int (X 67 0), .int (X 64 0), .int (X 65 0), .long Y] : List Value).set 30 (.int v))) = wdM cA ad (up X 7 0 v) Y := rfl
theorem stM_MO_31 {cA : Nat → ClassId} {ad : Nat → Nat} {X : ST} {Y : Int64} {v : Int32} : (wdM cA ad X Y).set 0 (ad 0, .inr (9, ([.int (X 90 0), .int (X 0 0), .int (X 1 0), .int (X 2 0), .ref (ad 1), .ref (ad 2), .int (X 3 0), .ref (ad 3), .ref (ad 4), .ref (ad 5), .ref (ad 6), .ref (ad 7), .ref (ad 8), .ref (ad 9), .int (X 4 0), .ref (ad 10), .ref (ad 11), .ref (ad 12), .ref (ad 13), .ref (ad 14), .ref (ad 15), .ref (ad 16), .int (X 5 0), .ref (ad 17), .ref (ad 18), .ref (ad 19), .ref (ad 20), .int (X 6 0), .ref (ad 21), .ref (ad 22), .int (X 7 0), .int (X 66 0), .int (X 67 0), .int (X 64 0), .int (X 65 0), .long Y] : List Value).set 31 (.int v))) = wdM cA ad (up X 66 0 v) Y := rfl
theorem stM_MO_32 {cA : Nat → ClassId} {ad : Nat → Nat} {X : ST} {Y : Int64} {v : Int32} : (wdM cA ad X Y).set 0 (ad 0, .inr (9, ([.int (X 90 0), .int (X 0 0), .int (X 1 0), .int (X 2 0), .ref (ad 1), .ref (ad 2), .int (X 3 0), .ref (ad 3), .ref (ad 4), .ref (ad 5), .ref (ad 6), .ref (ad 7), .ref (ad 8), .ref (ad 9), .int (X 4 0), .ref (ad 10), .ref (ad 11), .ref (ad 12), .ref (ad 13), .ref (ad 14), .ref (ad 15), .ref (ad 16), .int (X 5 0), .ref (ad 17), .ref (ad 18), .ref (ad 19), .ref (ad 20), .int (X 6 0), .ref (ad 21), .ref (ad 22), .int (X 7 0), .int (X 66 0), .int (X 67 0), .int (X 64 0), .int (X 65 0), .long Y] : List Value).set 32 (.int v))) = wdM cA ad (up X 67 0 v) Y := rfl
theorem stM_MO_33 {cA : Nat → ClassId} {ad : Nat → Nat} {X : ST} {Y : Int64} {v : Int32} : (wdM cA ad X Y).set 0 (ad 0, .inr (9, ([.int (X 90 0), .int (X 0 0), .int (X 1 0), .int (X 2 0), .ref (ad 1), .ref (ad 2), .int (X 3 0), .ref (ad 3), .ref (ad 4), .ref (ad 5), .ref (ad 6), .ref (ad 7), .ref (ad 8), .ref (ad 9), .int (X 4 0), .ref (ad 10), .ref (ad 11), .ref (ad 12), .ref (ad 13), .ref (ad 14), .ref (ad 15), .ref (ad 16), .int (X 5 0), .ref (ad 17), .ref (ad 18), .ref (ad 19), .ref (ad 20), .int (X 6 0), .ref (ad 21), .ref (ad 22), .int (X 7 0), .int (X 66 0), .int (X 67 0), .int (X 64 0), .int (X 65 0), .long Y] : List Value).set 33 (.int v))) = wdM cA ad (up X 64 0 v) Y := rfl
theorem stM_MO_34 {cA : Nat → ClassId} {ad : Nat → Nat} {X : ST} {Y : Int64} {v : Int32} : (wdM cA ad X Y).set 0 (ad 0, .inr (9, ([.int (X 90 0), .int (X 0 0), .int (X 1 0), .int (X 2 0), .ref (ad 1), .ref (ad 2), .int (X 3 0), .ref (ad 3), .ref (ad 4), .ref (ad 5), .ref (ad 6), .ref (ad 7), .ref (ad 8), .ref (ad 9), .int (X 4 0), .ref (ad 10), .ref (ad 11), .ref (ad 12), .ref (ad 13), .ref (ad 14), .ref (ad 15), .ref (ad 16), .int (X 5 0), .ref (ad 17), .ref (ad 18), .ref (ad 19), .ref (ad 20), .int (X 6 0), .ref (ad 21), .ref (ad 22), .int (X 7 0), .int (X 66 0), .int (X 67 0), .int (X 64 0), .int (X 65 0), .long Y] : List Value).set 34 (.int v))) = wdM cA ad (up X 65 0 v) Y := rfl
theorem stM_MO_35 {cA : Nat → ClassId} {ad : Nat → Nat} {X : ST} {Y : Int64} {v : Int64} : (wdM cA ad X Y).set 0 (ad 0, .inr (9, ([.int (X 90 0), .int (X 0 0), .int (X 1 0), .int (X 2 0), .ref (ad 1), .ref (ad 2), .int (X 3 0), .ref (ad 3), .ref (ad 4), .ref (ad 5), .ref (ad 6), .ref (ad 7), .ref (ad 8), .ref (ad 9), .int (X 4 0), .ref (ad 10), .ref (ad 11), .ref (ad 12), .ref (ad 13), .ref (ad 14), .ref (ad 15), .ref (ad 16), .int (X 5 0), .ref (ad 17), .ref (ad 18), .ref (ad 19), .ref (ad 20), .int (X 6 0), .ref (ad 21), .ref (ad 22), .int (X 7 0), .int (X 66 0), .int (X 67 0), .int (X 64 0), .int (X 65 0), .long Y] : List Value).set 35 (.long v))) = wdM cA ad X v := rfl
theorem stM_keys {cA : Nat → ClassId} {ad : Nat → Nat} {X : ST} {Y : Int64} {j : Nat} {v : Int32} : (wdM cA ad X Y).set 1 (ad 1, .inl (cA 0, 6, .inl (upd (X 11) j v))) = wdM cA ad (up X 11 j v) Y := by
  rw [← up_upd]
  rfl
theorem stM_closed {cA : Nat → ClassId} {ad : Nat → Nat} {X : ST} {Y : Int64} {j : Nat} {v : Int32} : (wdM cA ad X Y).set 2 (ad 2, .inl (cA 1, 6, .inl (upd (X 10) j v))) = wdM cA ad (up X 10 j v) Y := by
  rw [← up_upd]
  rfl
theorem stM_orderAccount {cA : Nat → ClassId} {ad : Nat → Nat} {X : ST} {Y : Int64} {j : Nat} {v : Int32} : (wdM cA ad X Y).set 3 (ad 3, .inl (cA 2, 12, .inl (upd (X 21) j v))) = wdM cA ad (up X 21 j v) Y := by
  rw [← up_upd]
  rfl
theorem stM_orderNames {cA : Nat → ClassId} {ad : Nat → Nat} {X : ST} {Y : Int64} {j : Nat} {v : Int32} : (wdM cA ad X Y).set 4 (ad 4, .inl (cA 3, 12, .inl (upd (X 22) j v))) = wdM cA ad (up X 22 j v) Y := by
  rw [← up_upd]
  rfl
theorem stM_orderEnds {cA : Nat → ClassId} {ad : Nat → Nat} {X : ST} {Y : Int64} {j : Nat} {v : Int32} : (wdM cA ad X Y).set 5 (ad 5, .inl (cA 4, 12, .inl (upd (X 23) j v))) = wdM cA ad (up X 23 j v) Y := by
  rw [← up_upd]
  rfl
theorem stM_orderState {cA : Nat → ClassId} {ad : Nat → Nat} {X : ST} {Y : Int64} {j : Nat} {v : Int32} : (wdM cA ad X Y).set 6 (ad 6, .inl (cA 5, 12, .inl (upd (X 20) j v))) = wdM cA ad (up X 20 j v) Y := by
  rw [← up_upd]
  rfl
theorem stM_orderPaper {cA : Nat → ClassId} {ad : Nat → Nat} {X : ST} {Y : Int64} {j : Nat} {v : Int32} : (wdM cA ad X Y).set 7 (ad 7, .inl (cA 6, 12, .inl (upd (X 24) j v))) = wdM cA ad (up X 24 j v) Y := by
  rw [← up_upd]
  rfl
theorem stM_orderMany {cA : Nat → ClassId} {ad : Nat → Nat} {X : ST} {Y : Int64} {j : Nat} {v : Int32} : (wdM cA ad X Y).set 8 (ad 8, .inl (cA 7, 12, .inl (upd (X 25) j v))) = wdM cA ad (up X 25 j v) Y := by
  rw [← up_upd]
  rfl
theorem stM_orderAuths {cA : Nat → ClassId} {ad : Nat → Nat} {X : ST} {Y : Int64} {j : Nat} {v : Int32} : (wdM cA ad X Y).set 9 (ad 9, .inl (cA 8, 48, .inl (upd (X 26) j v))) = wdM cA ad (up X 26 j v) Y := by
  rw [← up_upd]
  rfl
theorem stM_authAccount {cA : Nat → ClassId} {ad : Nat → Nat} {X : ST} {Y : Int64} {j : Nat} {v : Int32} : (wdM cA ad X Y).set 10 (ad 10, .inl (cA 9, 24, .inl (upd (X 31) j v))) = wdM cA ad (up X 31 j v) Y := by
  rw [← up_upd]
  rfl
theorem stM_authName {cA : Nat → ClassId} {ad : Nat → Nat} {X : ST} {Y : Int64} {j : Nat} {v : Int32} : (wdM cA ad X Y).set 11 (ad 11, .inl (cA 10, 24, .inl (upd (X 32) j v))) = wdM cA ad (up X 32 j v) Y := by
  rw [← up_upd]
  rfl
theorem stM_authEnds {cA : Nat → ClassId} {ad : Nat → Nat} {X : ST} {Y : Int64} {j : Nat} {v : Int32} : (wdM cA ad X Y).set 12 (ad 12, .inl (cA 11, 24, .inl (upd (X 33) j v))) = wdM cA ad (up X 33 j v) Y := by
  rw [← up_upd]
  rfl
theorem stM_authState {cA : Nat → ClassId} {ad : Nat → Nat} {X : ST} {Y : Int64} {j : Nat} {v : Int32} : (wdM cA ad X Y).set 13 (ad 13, .inl (cA 12, 24, .inl (upd (X 30) j v))) = wdM cA ad (up X 30 j v) Y := by
  rw [← up_upd]
  rfl
theorem stM_token {cA : Nat → ClassId} {ad : Nat → Nat} {X : ST} {Y : Int64} {j : Nat} {v : Int32} : (wdM cA ad X Y).set 14 (ad 14, .inl (cA 13, 48, .inl (upd (X 41) j v))) = wdM cA ad (up X 41 j v) Y := by
  rw [← up_upd]
  rfl
theorem stM_stage {cA : Nat → ClassId} {ad : Nat → Nat} {X : ST} {Y : Int64} {j : Nat} {v : Int32} : (wdM cA ad X Y).set 15 (ad 15, .inl (cA 14, 48, .inl (upd (X 40) j v))) = wdM cA ad (up X 40 j v) Y := by
  rw [← up_upd]
  rfl
theorem stM_wrong {cA : Nat → ClassId} {ad : Nat → Nat} {X : ST} {Y : Int64} {j : Nat} {v : Int32} : (wdM cA ad X Y).set 16 (ad 16, .inl (cA 15, 48, .inl (upd (X 42) j v))) = wdM cA ad (up X 42 j v) Y := by
  rw [← up_upd]
  rfl
theorem stM_paperOrder {cA : Nat → ClassId} {ad : Nat → Nat} {X : ST} {Y : Int64} {j : Nat} {v : Int32} : (wdM cA ad X Y).set 17 (ad 17, .inl (cA 16, 12, .inl (upd (X 51) j v))) = wdM cA ad (up X 51 j v) Y := by
  rw [← up_upd]
  rfl
theorem stM_paperKey {cA : Nat → ClassId} {ad : Nat → Nat} {X : ST} {Y : Int64} {j : Nat} {v : Int32} : (wdM cA ad X Y).set 18 (ad 18, .inl (cA 17, 12, .inl (upd (X 53) j v))) = wdM cA ad (up X 53 j v) Y := by
  rw [← up_upd]
  rfl
theorem stM_paperTime {cA : Nat → ClassId} {ad : Nat → Nat} {X : ST} {Y : Int64} {j : Nat} {v : Int32} : (wdM cA ad X Y).set 19 (ad 19, .inl (cA 18, 12, .inl (upd (X 54) j v))) = wdM cA ad (up X 54 j v) Y := by
  rw [← up_upd]
  rfl
theorem stM_paperReason {cA : Nat → ClassId} {ad : Nat → Nat} {X : ST} {Y : Int64} {j : Nat} {v : Int32} : (wdM cA ad X Y).set 20 (ad 20, .inl (cA 19, 12, .inl (upd (X 55) j v))) = wdM cA ad (up X 55 j v) Y := by
  rw [← up_upd]
  rfl
theorem stM_nonces {cA : Nat → ClassId} {ad : Nat → Nat} {X : ST} {Y : Int64} {j : Nat} {v : Int32} : (wdM cA ad X Y).set 21 (ad 21, .inl (cA 20, 9, .inl (upd (X 61) j v))) = wdM cA ad (up X 61 j v) Y := by
  rw [← up_upd]
  rfl
theorem stM_text {cA : Nat → ClassId} {ad : Nat → Nat} {X : ST} {Y : Int64} {j : Nat} {v : Int32} : (wdM cA ad X Y).set 22 (ad 22, .inl (cA 21, 96, .inl (upd (X 63) j v))) = wdM cA ad (up X 63 j v) Y := by
  rw [← up_upd]
  rfl
end
section
def ngk : Cond → Bool
  | .methodLinkNest .. => true
  | .castable .. => true
  | .declares _ => true
  | _ => false
theorem ng_k : ∀ w ∈ NGL, ngk w = true := by decide +kernel
theorem ngk_on {w : Cond} (h : ngk w = true) : w.onTables = true := by
  cases w <;> first | rfl | (simp [ngk] at h)
theorem ngk_warm {w : Cond} {s U : State} (h : ngk w = true) (hW : s.WarmedH U.vm) (hZ : va_Nw w s) : va_Nw w U := by
  cases w with
  | methodLinkNest a i x h9 => exact va_Nw.warmM hW hZ
  | castable a b => exact va_tabs rfl (rfl : (s.setVm U.vm).vm = U.vm) (by rw [Cond.castable_setVm hW.alike]; exact hZ)
  | declares x => exact va_Nw.warmD hW hZ
  | _ => simp [ngk] at h
def XZ (ad : Nat → Nat) (n : Nat) (nm d : String) (U : State) : Prop := ∃ (c : ClassId) (k : Class) (i : Nat) (f : Field) (a : Nat) (cell : Cell) (v : Value), U.vm.findClass Bundle.tN = some c ∧ U.fieldFound? Bundle.tN nm d = some (c, k, i, f) ∧ f.isStatic = true ∧ k.statics = some a ∧ U.heap[a]? = some cell ∧ cell.vm.isStatics = true ∧ cell.cls = c ∧ f.slot < cell.slots.size ∧ k.staticTypes[f.slot]? = some f.type ∧ cell.slots[f.slot]? = some v ∧ v.isRef = true ∧ ∀ j : Nat, j < n → a ≠ ad j
theorem XZ.lays {ad : Nat → Nat} {n : Nat} {nm d : String} {U : State} {args : Array Value} (h : XZ ad n nm d U) : (Cond.laysStatic Bundle.tN nm d).before args U = true := by
  obtain ⟨c, k, i, f, a, cell, v, h1, h2, h3, h4, h5, h6, h7, h8, h9, h10, h11, h12⟩ := h
  simp [Cond.before, Cond.holds, Cond.value, h1, h2, h3, h4, h5, h6, h7, h8, h9]
theorem XZ.isRef {ad : Nat → Nat} {n : Nat} {nm d : String} {U : State} {args : Array Value} (h : XZ ad n nm d U) : (Cond.isRef (.static Bundle.tN nm d)).before args U = true := by
  obtain ⟨c, k, i, f, a, cell, v, h1, h2, h3, h4, h5, h6, h7, h8, h9, h10, h11, h12⟩ := h
  have ev : (Term.static Bundle.tN nm d).eval args U none [] U = some v := by
    simp [Term.eval, State.fieldNamed?, h2, h3, h4, h5, h6, h10]
  cases v <;> first | (simp [Cond.before, Cond.holds, Cond.value, ev]; done) | (simp [Value.isRef] at h11)
theorem XZ.moved {ad : Nat → Nat} {n : Nat} {nm d : String} {s U : State} (h : XZ ad n nm d s) (hvm : s.vm.Alike U.vm) (hk : ∀ q : Nat, q < s.heap.size → (∀ j : Nat, j < n → q ≠ ad j) → U.heap[q]? = s.heap[q]?) : XZ ad n nm d U := by
  obtain ⟨c, k, i, f, a, cell, v, h1, h2, h3, h4, h5, h6, h7, h8, h9, h10, h11, h12⟩ := h
  obtain ⟨k', hi', he⟩ := State.fieldFound?_setVm hvm h2
  exact ⟨c, k', i, f, a, cell, v, by rw [hvm.findClass]; exact h1, hi', h3, by rw [he]; exact h4, by rw [hk a (Array.getElem?_eq_some_iff.mp h5).1 h12]; exact h5, h6, h7, h8, by rw [he]; exact h9, h10, h11, h12⟩
def GC (dC : Nat → ClassId) (dI : Nat → Nat → Nat) (cA : Nat → ClassId) (ad : Nat → Nat) (U : State) : Prop := va_K (dC, dI) vwCl (tyC cA) U ∧ (∀ w ∈ NGL, va_Nw w U) ∧ XZ ad 125 "UNASSIGNED_STACK" Bundle.steD U ∧ XZ ad 125 "SUPPRESSED_SENTINEL" Bundle.listD U
def GM (dC : Nat → ClassId) (dI : Nat → Nat → Nat) (cA : Nat → ClassId) (U : State) : Prop := va_K (dC, dI) vwCl (tyM cA) U ∧ (∀ w ∈ NGL, va_Nw w U)
def PC (dC : Nat → ClassId) (dI : Nat → Nat → Nat) (cA : Nat → ClassId) (ad : Nat → Nat) (sz : Nat) (X : ST) (U : State) : Prop := U.heap.size = sz ∧ va_P (dC, dI) vwCl (wdC cA ad X) U.heap ∧ GC dC dI cA ad U
def PM (dC : Nat → ClassId) (dI : Nat → Nat → Nat) (cA : Nat → ClassId) (ad : Nat → Nat) (sz : Nat) (X : ST) (Y : Int64) (U : State) : Prop := U.heap.size = sz ∧ va_P (dC, dI) vwCl (wdM cA ad X Y) U.heap ∧ GM dC dI cA U
theorem GC.moved {dC : Nat → ClassId} {dI : Nat → Nat → Nat} {cA : Nat → ClassId} {ad : Nat → Nat} {s U : State} (h : GC dC dI cA ad s) (hW : s.WarmedH U.vm) (hk : ∀ q : Nat, q < s.heap.size → (∀ j : Nat, j < 125 → q ≠ ad j) → U.heap[q]? = s.heap[q]?) : GC dC dI cA ad U :=
  ⟨va_K.moved hW.alike h.1, fun w hw => ngk_warm (ng_k w hw) hW (h.2.1 w hw), h.2.2.1.moved hW.alike hk, h.2.2.2.moved hW.alike hk⟩
theorem GM.moved {dC : Nat → ClassId} {dI : Nat → Nat → Nat} {cA : Nat → ClassId} {s U : State} (h : GM dC dI cA s) (hW : s.WarmedH U.vm) : GM dC dI cA U :=
  ⟨va_K.moved hW.alike h.1, fun w hw => ngk_warm (ng_k w hw) hW (h.2 w hw)⟩
theorem zwC_blind {av : List Value} {dC : Nat → ClassId} {dI : Nat → Nat → Nat} {cA : Nat → ClassId} {ad : Nat → Nat} {sz : Nat} {X : ST} : FrameBlind (va_Pc av (fun U => PC dC dI cA ad sz X U)) := by
  intro a U g mk h
  obtain ⟨h0, h1, h2, h3⟩ := h
  exact ⟨h0, h1, h2, GC.moved (U := U.calling g mk a) h3 (State.WarmedH.refl U) (fun _ _ _ => rfl)⟩
theorem zwM_blind {av : List Value} {dC : Nat → ClassId} {dI : Nat → Nat → Nat} {cA : Nat → ClassId} {ad : Nat → Nat} {sz : Nat} {X : ST} {Y : Int64} : FrameBlind (va_Pc av (fun U => PM dC dI cA ad sz X Y U)) := by
  intro a U g mk h
  obtain ⟨h0, h1, h2, h3⟩ := h
  exact ⟨h0, h1, h2, GM.moved (U := U.calling g mk a) h3 (State.WarmedH.refl U)⟩
theorem zwC_pre {av : List Value} {dC : Nat → ClassId} {dI : Nat → Nat → Nat} {cA : Nat → ClassId} {ad : Nat → Nat} {X : ST} {s : State} {H : Heap} {locs : List Loc} (hP : va_P (dC, dI) vwCl (wdC cA ad X) H) (hS : va_S (CA ad 125 s.heap.size) s.heap H locs) (hG : GC dC dI cA ad s) :
    ∀ U : State, U.heap = H → s.WarmedH U.vm → va_Pc av (fun U => PC dC dI cA ad H.size X U) av.toArray U := by
  intro U hU hW
  refine ⟨rfl, by rw [hU], by rw [hU]; exact hP, hG.moved hW (fun q h1 h2 => ?_)⟩
  rw [hU]
  refine hS.2.1 q h1 (fun hz => ?_)
  rcases hz with ⟨k, hk, e⟩ | hz
  · exact h2 k hk e
  · exact absurd h1 (Nat.not_lt.mpr hz)
theorem zwM_pre {av : List Value} {dC : Nat → ClassId} {dI : Nat → Nat → Nat} {cA : Nat → ClassId} {ad : Nat → Nat} {X : ST} {Y : Int64} {s : State} {H : Heap} {locs : List Loc} (hP : va_P (dC, dI) vwCl (wdM cA ad X Y) H) (_hS : va_S (CA ad 23 s.heap.size) s.heap H locs) (hG : GM dC dI cA s) :
    ∀ U : State, U.heap = H → s.WarmedH U.vm → va_Pc av (fun U => PM dC dI cA ad H.size X Y U) av.toArray U := by
  intro U hU hW
  exact ⟨rfl, by rw [hU], by rw [hU]; exact hP, hG.moved hW⟩
end
section
-- ===== exceptions: contracts that return or throw, their calls, 'throw new E()', a throw that goes on upward =====
def xt_End (Qc : Array Value → State → Outcome → State → Prop) (Xc : String → State → State → Prop) (mc ms : Nat) (free : Addr → Prop) (a : Array Value) (st : State) (o : Outcome) (t : State) : Prop :=
  (Qc a st o t ∧ ∃ L, FrameEnd st o t L mc ms ∧ ∀ q ∈ L, free q.base) ∨
  (∃ (q : Addr) (E : String) (ce : Cell) (L : List Loc), o = .threw q ∧ Xc E st t ∧ t.heap[q]? = some ce ∧ ce.vm = .none ∧ st.vm.findClass E = some ce.cls ∧ st.WarmedH t.vm ∧ st.sameButNew ({ t with vm := st.vm } : State) L mc ms ∧ ∀ x ∈ L, free x.base)
def xt_Met (l : Launch) (y : MethodName) (ws : List Cond) (rm : Room) (Pc : Array Value → State → Prop) (Qc : Array Value → State → Outcome → State → Prop) (Xc : String → State → State → Prop) (mc ms : Nat) (free : Addr → Prop) : Prop :=
  MetFree l y (headSpec ws rm) Pc (fun _ _ _ _ _ => True) (fun a st o t => xt_End Qc Xc mc ms free a st o t)
def xt_Q (below : List Frame) (Qc : Array Value → State → Outcome → State → Prop) (Xc : String → State → State → Prop) (a : Array Value) (s : State) (mc ms : Nat) (free : Addr → Prop) : State → Prop := fun t =>
  ∃ o, t.status = .running ∧ Ended t below o ∧ xt_End Qc Xc mc ms free a s o t
def xt_X {S : Type} (px : S → Prop) (B : String → S → State → Prop) (A : Nat → Prop) : String → State → State → Prop := fun E st t => ∃ u : S, px u ∧ B E u t ∧ va_F A st t
section XT
variable {p : Program} {l : Launch} {e : Env} {R : Room} {s : State} {m : MethodId} {args : Array Value} {below : List Frame} {meth : Method} {c : Code} {H : Heap} {locs : List Loc} {cells slots : Nat} {Q : State → Prop}
/-- 'q is being thrown' lies over the frame g: the machine comes to a state with Q -/
def xt_N (p : Program) (l : Launch) (e : Env) (R : Room) (s : State) (m : MethodId) (args : Array Value) (below : List Frame) (meth : Method) (c : Code) (H : Heap) (locs : List Loc) (cells slots : Nat) (Q : State → Prop) (g : JFrame) (q : Addr) : Prop :=
  ∀ T : State, T.heap = H → Stand p l e R s m args below meth c T locs cells slots → ∃ t, Steps p.tables e below ((T.setTop g).pushFrame (.throwing q)) t ∧ Q t
theorem xt_ret {Qc : Array Value → State → Outcome → State → Prop} {Xc : String → State → State → Prop} {free : Addr → Prop} {mc ms : Nat} {g : JFrame} (k : W p l e R s m args below meth c H locs cells slots (MQ below Qc args s mc ms free) g) :
    W p l e R s m args below meth c H locs cells slots (xt_Q below Qc Xc args s mc ms free) g := by
  intro T hT X
  obtain ⟨t, a1, o, b1, b2, b3, b4⟩ := k T hT X
  exact ⟨t, a1, o, b1, b2, Or.inl ⟨b3, b4⟩⟩
theorem xt_ofW {y : MethodName} {ws ws' : List Cond} {rm : Room} {Pc : Array Value → State → Prop} {Qc : Array Value → State → Outcome → State → Prop} {Xc : String → State → State → Prop} {mc ms : Nat} {free : Addr → Prop} {cc : ByteArray} {maxL : Nat} {ret : Option FieldType}
    (hy : plainName y.cls = true) (hw : ws = Cond.code y cc maxL ret :: ws')
    (body : ∀ p e s m args below meth c s₁, BodyLoose p l y (headSpec ws rm) cc maxL ret e s m args below meth c s₁ → c.maxLocals = maxL → (∀ x ∈ c.exceptionTable.toList, False) → Pc args s →
      W p l e (headSpec ws rm).room s m args below meth c s.heap [] 0 0 (xt_Q below Qc Xc args s mc ms free) (entryFrame m args maxL)) : xt_Met l y ws rm Pc Qc Xc mc ms free := by
  have hat : ∀ (args : Array Value) (s : State), (headSpec ws rm).pre.before args s = true → (Cond.code y cc maxL ret).before args s = true := fun args s h => atoms_spec (ws := ws) h _ (by rw [hw]; exact List.mem_cons_self)
  refine MetFree.of_bodyS (code := cc) (maxLocals := maxL) (ret := ret) hy ?_ ?_
  · intro args s m h hn
    obtain ⟨meth, c, h1, h2, h3, h4, h5, h6, -, -⟩ := Cond.code_spec hn (hat args s h)
    exact ⟨meth, c, h1, h2, h3, h4, h5, h6⟩
  · intro p e s m args below meth c s₁ B hml hP _
    have hh0 : s₁.heap = s.heap := by rw [B.state]; rfl
    have hem := B.noHandlers (hat args s B.pre)
    have h0 : c.exceptionTable.size = 0 := by simpa [Array.isEmpty] using hem
    have h1 : c.exceptionTable.toList = [] := List.eq_nil_of_length_eq_zero (by simpa using h0)
    have hno : ∀ x ∈ c.exceptionTable.toList, False := fun x hx => by rw [h1] at hx; cases hx
    obtain ⟨t, a1, o, b1, b2, b3⟩ := body p e s m args below meth c s₁ B hml hno hP s₁ hh0 (Stand.of_body B)
    exact ⟨t, o, a1, b1, b2, b3⟩
/-- a throw goes on to the caller -/
theorem xt_out {Qc : Array Value → State → Outcome → State → Prop} {Xc : String → State → State → Prop} {free : Addr → Prop} {mc ms pc : Nat} {ls : Array Slot} {st : List Value} {q : Addr} {E : String} {ce : Cell}
    (hEx : ∀ x ∈ c.exceptionTable.toList, covers x pc = false) (hlocks : meth.locks = false) (hce : H[q]? = some ce) (hcv : ce.vm = .none) (hcl : s.vm.findClass E = some ce.cls)
    (hX : ∀ t : State, t.heap = H → s.WarmedH t.vm → Xc E s t) (hf : ∀ x ∈ locs, free x.base) (h1 : cells ≤ mc) (h2 : slots ≤ ms) :
    xt_N p l e R s m args below meth c H locs cells slots (xt_Q below Qc Xc args s mc ms free) (F0 m pc ls st) q := by
  intro T hT X
  obtain ⟨hst, hrun, hend, hW, hsame⟩ := (stand_widen X h1 h2).leaveThrown q (g := F0 m pc ls st) rfl rfl rfl hEx hlocks
  refine ⟨_, hst, .threw q, hrun, hend, Or.inr ⟨q, E, ce, locs, rfl, hX _ hT hW, ?_, hcv, hcl, hW, hsame, hf⟩⟩
  show T.heap[q]? = some ce
  rw [hT]
  exact hce
theorem xt_hears {s T : State} (h : s.vm.Alike T.vm) (m : MethodId) (below : List Frame) : T.hears m below = s.hears m below := by
  unfold State.hears
  split <;> simp only [State.code?_eq, h.method?]
/-- the same walk, told from here on: the state at hand as the invocation's own -/
theorem xt_base {T : State} (X : Stand p l e R s m args below meth c T locs cells slots) {R' : Room} (hf : R'.frames ≤ R.frames) (hl : R'.locals ≤ R.locals) (hc : cells + R'.cells ≤ R.cells) (hs : slots + R'.slots ≤ R.slots) :
    Stand p l e R' (T.setFrames (.invoking m args :: below)) m args below meth c T [] 0 0 := by
  obtain ⟨g₀, hfr⟩ := X.frames_eq
  have hcur : T.cur < T.threads.size := State.cur_lt_of_frames hfr
  have hfS : (T.setFrames (.invoking m args :: below)).frames = .invoking m args :: below := State.frames_setFrames _ hcur
  obtain ⟨th, hth, -⟩ := State.frames_cons hfS
  have hback : (T.setFrames (.invoking m args :: below)).setFrames T.frames = T := by
    obtain ⟨th0, hth0, -⟩ := State.frames_cons hfr
    rw [State.setFrames_setFrames, State.setFrames_self hth0]
  have hcurS : (T.setFrames (.invoking m args :: below)).cur < (T.setFrames (.invoking m args :: below)).threads.size := State.cur_lt_of_frames hfS
  refine ⟨X.admits, X.cas, X.clock, hfS, ?_, ?_, X.method', X.code, X.here, X.tail, State.WarmedH.refl (T.setFrames (.invoking m args :: below)), (State.stackLimits_setFrames _ _ _).symm, (State.stackBytes_setFrames _ _).symm, ?_⟩
  · have hr := X.room
    have hb := X.book
    have h1 := X.heapSize
    have h2 := X.used
    have hli := X.limits
    have hby := X.bytes
    simp only [State.hasRoom, Bool.and_eq_true, decide_eq_true_eq] at hr ⊢
    rw [State.localsInUse_invoking X.frames X.method X.code, X.frames] at hr
    rw [State.localsInUse_invoking hfS X.method' X.code, hfS, State.stackLimits_setFrames, State.stackBytes_setFrames, hli, hby]
    refine ⟨⟨⟨⟨by omega, by omega, by omega, by omega, by omega, by omega⟩, ?_⟩, ?_⟩, hb⟩
    · show T.heap.size + R'.cells ≤ _
      omega
    · show T.slotsUsed + R'.slots ≤ _
      omega
  · have h := X.hears
    rw [← xt_hears X.warmed.alike m below] at h
    exact h
  · have h := (State.sameButNew.refl (T.setFrames (.invoking m args :: below)) hth).setFrames T.frames hcurS
    rw [hback] at h
    exact h
set_option maxHeartbeats 1000000 in
/-- 'throw new E()' (new, dup, invokespecial, athrow), E a plain exception of the JDK -/
theorem xt_throw0 {Qc : Array Value → State → Outcome → State → Prop} {Xc : String → State → State → Prop} {free : Addr → Prop} {mc ms pc : Nat} {ls : Array Slot} {cc : ByteArray} {own cls : String} {names : List String} {ik ic : Nat}
    (hexec : p.tables.exec = Jvm.exec) (hb : c.code = cc) (htr : l.stackTraces = false) (hown : s.vm.findClass own = some m.cls) (hfit : Bundle.fit cls = true) (hnames : ∀ n ∈ names, Bundle.fit n = true)
    (hcl : (Cond.classLink own ik cls).before args s = true) (hini : (Cond.initialized cls).before args s = true) (hins : (Cond.instantiable cls 6).before args s = true)
    (hat : ∀ U : State, U.heap = H → s.WarmedH U.vm → ∀ a ∈ Bundle.ownAtoms0 own ic cls names, a.before args U = true)
    (hsize : ls.size = c.maxLocals) (d0 : decode cc pc = .ok (.new ik, 3)) (d1 : decode cc (pc + 3) = .ok (.dup, 1)) (d2 : decode cc (pc + 4) = .ok (.invokespecial ic, 3)) (d3 : decode cc (pc + 4 + 3) = .ok (.athrow, 1))
    (hEx : ∀ x ∈ c.exceptionTable.toList, covers x (pc + 4 + 3) = false) (hlocks : meth.locks = false)
    (hX : ∀ t : State, s.WarmedH t.vm → H.size ≤ t.heap.size → (∀ q : Nat, q < H.size → t.heap[q]? = H[q]?) → Xc cls s t) (hf : ∀ x ∈ locs, free x.base)
    (hc1 : cells + 1 ≤ R.cells) (hs1 : slots + 6 ≤ R.slots) (hc2 : cells + 1 ≤ mc) (hs2 : slots + 6 ≤ ms) (hRf : names.length + 3 < R.frames) (hRl : 13 * (names.length + 1) + 43 ≤ R.locals) :
    W p l e R s m args below meth c H locs cells slots (xt_Q below Qc Xc args s mc ms free) (F0 m pc ls []) := by
  intro T hT X
  have htr' : e.platform.stackTraces = false := by
    obtain ⟨-, -, -, -, hp, -⟩ := X.admits
    rw [hp]
    exact htr
  have X₀ := xt_base X (R' := { frames := R.frames, cells := 1, slots := 6, locals := R.locals }) (Nat.le_refl _) (Nat.le_refl _) hc1 hs1
  generalize hS' : T.setFrames (.invoking m args :: below) = S' at X₀
  have hvS : S'.vm = T.vm := by rw [← hS']; rfl
  have hhS : S'.heap = T.heap := by rw [← hS']; rfl
  have hWS : s.WarmedH S'.vm := by rw [hvS]; exact X.warmed
  have hat' : ∀ a ∈ Bundle.ownAtoms0 own ic cls names, a.before args S' = true := hat S' (hhS.trans hT) hWS
  have hownS : S'.vm.findClass own = some m.cls := by rw [hWS.alike.findClass]; exact hown
  obtain ⟨vm₁, cX, kX, hfX, hkX, -, -, X₁, st1⟩ := X₀.newCold hexec (own := own) (C := cls) (index := ik) (n := 6) hownS (word_at hWS (Or.inl (by first | rfl | simp [Cond.onTables, Cond.keeps, Cond.steady])) hcl) (word_at hWS (Or.inl (by first | rfl | simp [Cond.onTables, Cond.keeps, Cond.steady])) hins) (word_at hWS (Or.inl (by first | rfl | simp [Cond.onTables, Cond.keeps, Cond.steady])) hini)
    (g := F0 m pc ls []) rfl (by rw [hb]; exact d0) (Nat.le_refl _) (Nat.le_refl _)
  generalize hT1 : (T.setVm vm₁).pushCell { cls := cX, slots := kX.instanceTypes.map defaultValue, vm := .none } = T1 at X₁ st1
  have hcell : T1.heap[T.heap.size]? = some (freshCell cX kX) := by rw [← hT1]; exact State.heap_pushCell_size _ _
  obtain ⟨U, hsteps, hrun, hend, hW, hsame, ce, hce, K⟩ := X₁.ctorThrow0 hexec htr' (own := own) (cls := cls) (names := names) (ic := ic) hownS hfit hnames hat' (fun x hx => by cases hx) hfX hkX hcell (by rw [hhS]; exact Nat.le_refl _)
    (g := F0 m (pc + 4) ls [.ref T.heap.size, .ref T.heap.size]) rfl hsize rfl rfl (rest := []) rfl (by rw [hb]; exact d2) (by rw [hb]; exact d3) hEx hRf (show 2 * 0 + 1 + (13 * (names.length + 1) + 41) ≤ R.locals by omega) hlocks
  have hWU : s.WarmedH U.vm := State.WarmedH.trans hWS hW
  have hsame' : s.sameButNew ({ U with vm := s.vm } : State) locs (cells + 1) (slots + 6) := by
    obtain ⟨e2, q2, q3, q4, q5, q6⟩ := hsame
    subst hS'
    have hB : T.sameButNew ({ U with vm := T.vm } : State) [] 1 6 := by
      refine ⟨?_, q2, q3, q4, q5, q6⟩
      rw [State.setFrames_setFrames] at e2
      exact e2
    have h := X.same.trans (hB.setVm s.vm)
    rw [List.append_nil] at h
    exact h
  have hkeep : ∀ q : Nat, q < H.size → U.heap[q]? = H[q]? := by
    intro q hq
    obtain ⟨cq, hcq⟩ : ∃ cq, H[q]? = some cq := ⟨_, Array.getElem?_eq_getElem hq⟩
    obtain ⟨c', h1, h2, -, h4⟩ := hsame.2.2.2.2.2 q cq (by rw [hhS, hT]; exact hcq)
    have hsl : c'.slots = cq.slots := Array.ext_getElem? (fun i => h4 i (by simp))
    have hcc : c' = cq := by rw [h2, hsl]
    rw [hcq, ← hcc]
    exact h1
  have hgrow : H.size ≤ U.heap.size := by
    have h := hsame.2.1
    rw [hhS, hT] at h
    exact h
  refine ⟨U, st1 _ ?_, .threw T.heap.size, hrun, hend, Or.inr ⟨T.heap.size, cls, ce, locs, rfl, hX U hWU hgrow hkeep, hce, K.vm, ?_, hWU, hsame'.mono hc2 hs2, hf⟩⟩
  · show Steps p.tables e below (T1.setTop (F0 m (pc + 3) ls [.ref T.heap.size])) _
    jvm_step X₁.here [X₁.here.top, hexec, hb, d1, Value.category]
    exact hsteps
  · have h := K.cls
    rw [hWS.alike.findClass] at h
    exact h
/-- a call of a method that may throw, behind 'invoke': it comes back, or the throw lies over the caller's frame -/
theorem xt_enter {T : State} (X : Stand p l e R s m args below meth c T locs cells slots) {y : MethodName} {ws : List Cond} {rm : Room} {Pc : Array Value → State → Prop} {Qc : Array Value → State → Outcome → State → Prop} {Xc : String → State → State → Prop} {mc ms maxL : Nat} {free : Addr → Prop} {bytes : ByteArray} {ret : Option FieldType}
    (hM : xt_Met l y ws rm Pc Qc Xc mc ms free) (hbl : FrameBlind Pc) (hrc : rm.cells = mc) (hrs : rm.slots = ms) (hfr : rm.frames + 1 ≤ R.frames) (hlo : 8 + (maxL + 11) + rm.locals ≤ R.locals)
    (hws : ∀ w ∈ ws, ∀ (a' : Array Value) (U : State), s.WarmedH U.vm → w.before a' U = true) (hcw : Cond.code y bytes maxL ret ∈ ws) (hini : (Cond.initialized y.cls).before args s = true)
    {g : JFrame} (hg : g.method = m) (hsize : g.locals.size = c.maxLocals) {ig : Instr} (hdg : decode c.code g.pc = .ok (ig, 3)) (hW : 2 * g.monitorRoom + (g.stack.map fun v => v.category).sum ≤ 8) {mk : MethodId} (hn : T.methodNamed? y = some mk) {a : Array Value} (hPc : Pc a T) (hc : cells + mc ≤ R.cells) (hs : slots + ms ≤ R.slots) :
    (∃ (v : Option Value) (t T' : State) (L : List Loc), Stand p l e R s m args below meth c T' (locs ++ L) (cells + mc) (slots + ms) ∧ (∀ q ∈ L, free q.base) ∧ T'.heap = t.heap ∧ T'.vm = t.vm ∧ Qc a (T.calling g mk a) (.returned v) t ∧
      Steps p.tables e below (doInvoke e (T.setTop g) [] mk a).1 (T'.setTop { g with pc := g.pc + 3, stack := v.toList ++ g.stack })) ∨
    (∃ (q : Addr) (E : String) (ce : Cell) (t T' : State) (L : List Loc), Stand p l e R s m args below meth c T' (locs ++ L) (cells + mc) (slots + ms) ∧ (∀ q ∈ L, free q.base) ∧ T'.heap = t.heap ∧ T'.vm = t.vm ∧ Xc E (T.calling g mk a) t ∧
      t.heap[q]? = some ce ∧ ce.vm = .none ∧ s.vm.findClass E = some ce.cls ∧ Steps p.tables e below (doInvoke e (T.setTop g) [] mk a).1 ((T'.setTop g).pushFrame (.throwing q))) := by
  obtain ⟨methY, cY, hmY, hcY, -, hlY, -, -, -, -⟩ := Cond.code_spec hn (hws _ hcw a T X.warmed)
  obtain ⟨kY, hkY, -⟩ := className_of_methodNamed hn
  have hinitY : kY.init = .initialized := Cond.initialized_spec (findClass_of_methodNamed hn) hkY (word_at (a' := a) X.warmed (Or.inl (by first | rfl | simp [Cond.onTables, Cond.keeps, Cond.steady])) hini)
  have h : At T g.method c below := by rw [hg]; exact X.here
  have happ : (headSpec ws rm).appliesLoose y e.platform (T.calling g mk a) = true :=
    Spec.appliesLoose_calling (g := g) h hdg hn hkY hinitY (X.room_calling (g := g) (R' := rm) hsize hmY hcY hfr (by rw [hlY]; omega) (by rw [hrc]; exact hc) (by rw [hrs]; exact hs)) (atoms_intro fun w hw => hws w hw _ _ X.warmed)
  obtain ⟨mid, hmid⟩ := h.above
  have hfr' : (T.setTop g).frames = (.java g :: mid) ++ below := by rw [State.frames_setTop' g h.top, hmid]; rfl
  obtain ⟨o, t, hsteps, -, hend, hq⟩ := Steps.callFree hM p X.admits X.cas X.clock (acts := []) hfr' happ (hbl _ _ _ _ hPc) trivial
  have hq' : xt_End Qc Xc mc ms free a (T.calling g mk a) o t := hq
  rw [State.frames_setTop' g h.top, X.tail] at hend
  rcases hq' with ⟨hq, L, ⟨⟨v, rfl⟩, hW2, hsame⟩, hL⟩ | ⟨q, E, ce, L, rfl, hx, hce, hcv, hcl, hW2, hsame, hL⟩
  · obtain ⟨T', X', -, -, ht⟩ := X.outOf hg hdg hend hW2 hsame
    refine Or.inl ⟨v, t, T', L, X', hL, ?_, ?_, hq, ?_⟩
    · rw [ht]; simp [State.setTop, State.modifyTopJava, State.setFrames]
    · rw [ht]; simp [State.setTop, State.modifyTopJava, State.setFrames]
    · rw [← ht]; exact hsteps
  · obtain ⟨T', X', -, -, ht⟩ := X.outOfThrown hg hend hW2 hsame
    refine Or.inr ⟨q, E, ce, t, T', L, X', hL, ?_, ?_, hx, hce, hcv, ?_, ?_⟩
    · rw [ht, throwing_heap]
    · rw [ht, throwing_vm]
    · have h9 : T.vm.findClass E = some ce.cls := hcl
      rw [X.warmed.alike.findClass] at h9
      exact h9
    · rw [← ht]; exact hsteps
/-- a call that may throw -/
def xt_Run (p : Program) (l : Launch) (e : Env) (R : Room) (s : State) (m : MethodId) (args : Array Value) (below : List Frame) (meth : Method) (c : Code) (H : Heap) (locs : List Loc) (cells slots mc ms : Nat) (g : JFrame) (rest : List Value) (Qa : State → Outcome → State → Prop) (Xa : String → State → State → Prop) (free : Addr → Prop) : Prop :=
  ∀ T : State, T.heap = H → Stand p l e R s m args below meth c T locs cells slots →
    (∃ (v : Option Value) (st₀ t T' : State) (L : List Loc), st₀.heap = H ∧ Stand p l e R s m args below meth c T' (locs ++ L) (cells + mc) (slots + ms) ∧ (∀ q ∈ L, free q.base) ∧ T'.heap = t.heap ∧ T'.vm = t.vm ∧ Qa st₀ (.returned v) t ∧
      Goes p e below T g T' { g with pc := g.pc + 3, stack := v.toList ++ rest }) ∨
    (∃ (q : Addr) (E : String) (ce : Cell) (st₀ t T' : State) (L : List Loc), st₀.heap = H ∧ Stand p l e R s m args below meth c T' (locs ++ L) (cells + mc) (slots + ms) ∧ (∀ q ∈ L, free q.base) ∧ T'.heap = t.heap ∧ T'.vm = t.vm ∧ Xa E st₀ t ∧
      t.heap[q]? = some ce ∧ ce.vm = .none ∧ s.vm.findClass E = some ce.cls ∧ ∀ target, Steps p.tables e below ((T'.setTop { g with stack := rest }).pushFrame (.throwing q)) target → Steps p.tables e below (T.setTop g) target)
theorem xt_runV {y : MethodName} {bytes cc : ByteArray} {maxL nL mc ms n index : Nat} {ret : Option FieldType} {ws : List Cond} {rm : Room} {Pc : Array Value → State → Prop} {Qc : Array Value → State → Outcome → State → Prop} {Xc : String → State → State → Prop} {free : Addr → Prop} {Ts : List Cond} {own C : String} {b : Addr} {As rest : List Value} {g : JFrame}
    (S : CallFix p m c cc nL s args Ts own) (hM : xt_Met l y ws rm Pc Qc Xc mc ms free) (cw : CallW R s args own C index y bytes maxL ret ws rm mc ms n) (hp : PreV s H C b Pc As)
    (hg : g.method = m) (hn : As.length = n) (hsize : g.locals.size = nL) (hstack : g.stack = As.reverse ++ .ref b :: rest) (hW : 2 * g.monitorRoom + (rest.map fun v => v.category).sum ≤ 8) (hdg : decode cc g.pc = .ok (.invokevirtual index, 3)) (hf : cells + mc ≤ R.cells ∧ slots + ms ≤ R.slots) :
    xt_Run p l e R s m args below meth c H locs cells slots mc ms g rest (Qc (Value.ref b :: As).toArray) Xc free := by
  obtain ⟨⟨hrc, hrs, hfr, hlo, hws, hcw, hcode, hini, hy, hlen, hl⟩, hin, hse⟩ := cw
  obtain ⟨hx, hb, hml, ho, -⟩ := S
  obtain ⟨hbl, ⟨cellB, hcB, hoB, hclB⟩, hPc⟩ := hp
  intro T hT X
  obtain ⟨mk, methM, hnamed, hmethM, hstM, habM⟩ := Cond.instanceMethod_spec hin
  obtain ⟨methM', cM, hmethM', -, -, -, -, -, -, hsigM⟩ := Cond.code_spec hnamed hcode
  cases hmethM.symm.trans hmethM'
  obtain ⟨c2, r2, m2, q1, q2, q3, q4, kP, hkP, hkPi⟩ := Cond.selects_spec hse
  cases hclB.symm.trans q1
  cases (State.methodFound?_of_named hnamed hy).symm.trans q2
  cases hnamed.symm.trans q3
  have hselP : selectMethod e.platform s.vm cellB.cls mk = .method mk := by rw [Launch.admits_selectMethod X.admits]; exact q4
  have hdg' : decode c.code g.pc = .ok (.invokevirtual index, 3) := by rw [hb]; exact hdg
  obtain ⟨vm₁, X₁, hstep₁⟩ := X.invokevirtual hx ho hl hnamed hmethM hstM hkP hkPi hy (a := b) (cell := cellB) (by rw [hT]; exact hcB)
    (fun z h => by rw [h] at hoB; cases hoB) hselP hmethM habM hkP hkPi (g := g) hg (argsL := As) (rest := rest) (hn.trans (hlen _ hsigM)) hstack hdg'
  rcases xt_enter X₁ hM hbl hrc hrs hfr hlo hws hcw hini (g := { g with stack := rest }) hg (hsize.trans hml.symm) hdg' hW (X₁.named hnamed) (hPc (T.setVm vm₁) hT X₁.warmed) hf.1 hf.2 with ⟨v, t, T', L, X', hL, e1, e2, hq, hst⟩ | ⟨q, E, ce, t, T', L, X', hL, e1, e2, hx9, hce, hcv, hcl, hst⟩
  · exact Or.inl ⟨v, (T.setVm vm₁).calling { g with stack := rest } mk (Value.ref b :: As).toArray, t, T', L, hT, X', hL, e1, e2, hq, fun target h => hstep₁ _ fun acts => by rw [doInvoke_state]; exact hst.trans h⟩
  · exact Or.inr ⟨q, E, ce, (T.setVm vm₁).calling { g with stack := rest } mk (Value.ref b :: As).toArray, t, T', L, hT, X', hL, e1, e2, hx9, hce, hcv, hcl, fun target h => hstep₁ _ fun acts => by rw [doInvoke_state]; exact hst.trans h⟩
theorem xt_runS {y : MethodName} {bytes cc : ByteArray} {maxL nL mc ms n index : Nat} {ret : Option FieldType} {ws : List Cond} {rm : Room} {Pc : Array Value → State → Prop} {Qc : Array Value → State → Outcome → State → Prop} {Xc : String → State → State → Prop} {free : Addr → Prop} {Ts : List Cond} {own : String} {As rest : List Value} {g : JFrame}
    (S : CallFix p m c cc nL s args Ts own) (hM : xt_Met l y ws rm Pc Qc Xc mc ms free) (cw : CallB R s args own index y bytes maxL ret ws rm mc ms n ∧ (Cond.static y).before args s = true) (hp : PreS s H Pc As)
    (hg : g.method = m) (hn : As.length = n) (hsize : g.locals.size = nL) (hstack : g.stack = As.reverse ++ rest) (hW : 2 * g.monitorRoom + (rest.map fun v => v.category).sum ≤ 8) (hdg : decode cc g.pc = .ok (.invokestatic index, 3)) (hf : cells + mc ≤ R.cells ∧ slots + ms ≤ R.slots) :
    xt_Run p l e R s m args below meth c H locs cells slots mc ms g rest (Qc As.toArray) Xc free := by
  obtain ⟨⟨hrc, hrs, hfr, hlo, hws, hcw, hcode, hini, hy, hlen, hl⟩, hstt⟩ := cw
  obtain ⟨hx, hb, hml, ho, -⟩ := S
  obtain ⟨hbl, hPc⟩ := hp
  intro T hT X
  obtain ⟨mk, hnamed⟩ := Cond.code_named hcode
  obtain ⟨methM, cM, hmethM, -, -, -, -, -, -, hsigM⟩ := Cond.code_spec hnamed hcode
  have hstatic : methM.isStatic = true := Cond.static_spec hnamed hmethM hstt
  obtain ⟨kP, hkP, -⟩ := className_of_methodNamed hnamed
  have hinitP : kP.init = .initialized := Cond.initialized_spec (findClass_of_methodNamed hnamed) hkP hini
  have hdg' : decode c.code g.pc = .ok (.invokestatic index, 3) := by rw [hb]; exact hdg
  obtain ⟨vm₁, X₁, hstep₁⟩ := X.invokestatic hx ho hl hnamed hmethM hstatic hkP hinitP hy (g := g) hg (argsL := As) (rest := rest) (hn.trans (hlen _ hsigM)) hstack hdg'
  rcases xt_enter X₁ hM hbl hrc hrs hfr hlo hws hcw hini (g := { g with stack := rest }) hg (hsize.trans hml.symm) hdg' hW (X₁.named hnamed) (hPc (T.setVm vm₁) hT X₁.warmed) hf.1 hf.2 with ⟨v, t, T', L, X', hL, e1, e2, hq, hst⟩ | ⟨q, E, ce, t, T', L, X', hL, e1, e2, hx9, hce, hcv, hcl, hst⟩
  · exact Or.inl ⟨v, (T.setVm vm₁).calling { g with stack := rest } mk As.toArray, t, T', L, hT, X', hL, e1, e2, hq, fun target h => hstep₁ _ fun acts => by rw [doInvoke_state]; exact hst.trans h⟩
  · exact Or.inr ⟨q, E, ce, (T.setVm vm₁).calling { g with stack := rest } mk As.toArray, t, T', L, hT, X', hL, e1, e2, hx9, hce, hcv, hcl, fun target h => hstep₁ _ fun acts => by rw [doInvoke_state]; exact hst.trans h⟩
/-- what a call leaves of the heap, in the caller's words -/
theorem xt_keep {A0 A1 : Nat → Prop} {H0 H1 : Heap} {st t : State} {L : List Loc} {free : Addr → Prop} (h0 : st.heap = H) (e1 : H1 = t.heap) (hS : va_S A0 H0 H locs) (hA : ∀ q, q < H.size → A1 q → A0 q) (hf : ∀ q, free q → A0 q) (hL : ∀ q ∈ L, free q.base) (hF : va_F A1 st t) :
    H.size ≤ H1.size ∧ (∀ q : Nat, q < H.size → ¬ A1 q → H1[q]? = H[q]?) ∧ va_S A0 H0 H1 (locs ++ L) := by
  obtain ⟨hz, hk⟩ := hF
  subst h0
  subst e1
  refine ⟨hz, hk, Nat.le_trans hS.1 hz, fun q h1 h2 => ?_, fun q hq => ?_⟩
  · rw [hk q (Nat.lt_of_lt_of_le h1 hS.1) (fun z => h2 (hA q (Nat.lt_of_lt_of_le h1 hS.1) z))]
    exact hS.2.1 q h1 h2
  · rcases List.mem_append.mp hq with h | h
    · exact hS.2.2 q h
    · exact hf _ (hL q h)
theorem xt_calli {S SX : Type} {post : Int32 → S → Prop} {px : SX → Prop} {B : S → State → Prop} {BX : String → SX → State → Prop} {A0 A1 AX : Nat → Prop} {H0 : Heap} {mc ms pc : Nat} {ls : Array Slot} {rest st0 : List Value} {a : Array Value} {free : Addr → Prop} (hr : xt_Run p l e R s m args below meth c H locs cells slots mc ms (F0 m pc ls st0) rest (va_Qi post B A1 a) (xt_X px BX AX) free) (hS : va_S A0 H0 H locs) (hA : ∀ q, q < H.size → A1 q → A0 q) (hf : ∀ q, free q → A0 q) (hAX : ∀ q, q < H.size → AX q → A0 q)
    (kx : ∀ (E : String) (ce : Cell) (q9 : Addr) (u : SX) (t : State) (H1 : Heap) (locs1 : List Loc), t.heap = H1 → s.vm.Alike t.vm → px u → BX E u t → H.size ≤ H1.size → (∀ q : Nat, q < H.size → ¬ AX q → H1[q]? = H[q]?) → va_S A0 H0 H1 locs1 → H1[q9]? = some ce → ce.vm = .none → s.vm.findClass E = some ce.cls → xt_N p l e R s m args below meth c H1 locs1 (cells + mc) (slots + ms) Q (F0 m pc ls rest) q9)
    (kk : ∀ (r : Int32) (u : S) (t : State) (H1 : Heap) (locs1 : List Loc), t.heap = H1 → s.vm.Alike t.vm → post r u → B u t → H.size ≤ H1.size → (∀ q : Nat, q < H.size → ¬ A1 q → H1[q]? = H[q]?) → va_S A0 H0 H1 locs1 → W p l e R s m args below meth c H1 locs1 (cells + mc) (slots + ms) Q (F0 m (pc + 3) ls (.int r :: rest))) : W p l e R s m args below meth c H locs cells slots Q (F0 m pc ls st0) := by
  intro T hT X
  rcases hr T hT X with ⟨v, st₀, t, T', L, h0, X', hL, e1, e2, ⟨⟨r, u, hv, hp, hb⟩, hF⟩, hst⟩ | ⟨q, E, ce, st₀, t, T', L, h0, X', hL, e1, e2, ⟨u, hp, hb, hF⟩, hce, hcv, hcl, hst⟩
  · cases hv
    obtain ⟨k1, k2, k3⟩ := xt_keep h0 e1 hS hA hf hL hF
    obtain ⟨t2, a1, b1⟩ := kk r u t T'.heap (locs ++ L) e1.symm (by rw [← e2]; exact X'.warmed.alike) hp hb k1 k2 k3 T' rfl X'
    exact ⟨t2, hst t2 a1, b1⟩
  · obtain ⟨k1, k2, k3⟩ := xt_keep h0 e1 hS hAX hf hL hF
    obtain ⟨t2, a1, b1⟩ := kx E ce q u t T'.heap (locs ++ L) e1.symm (by rw [← e2]; exact X'.warmed.alike) hp hb k1 k2 k3 (by rw [e1]; exact hce) hcv hcl T' rfl X'
    exact ⟨t2, hst t2 a1, b1⟩
theorem xt_calll {S SX : Type} {post : Int64 → S → Prop} {px : SX → Prop} {B : S → State → Prop} {BX : String → SX → State → Prop} {A0 A1 AX : Nat → Prop} {H0 : Heap} {mc ms pc : Nat} {ls : Array Slot} {rest st0 : List Value} {a : Array Value} {free : Addr → Prop} (hr : xt_Run p l e R s m args below meth c H locs cells slots mc ms (F0 m pc ls st0) rest (va_Ql post B A1 a) (xt_X px BX AX) free) (hS : va_S A0 H0 H locs) (hA : ∀ q, q < H.size → A1 q → A0 q) (hf : ∀ q, free q → A0 q) (hAX : ∀ q, q < H.size → AX q → A0 q)
    (kx : ∀ (E : String) (ce : Cell) (q9 : Addr) (u : SX) (t : State) (H1 : Heap) (locs1 : List Loc), t.heap = H1 → s.vm.Alike t.vm → px u → BX E u t → H.size ≤ H1.size → (∀ q : Nat, q < H.size → ¬ AX q → H1[q]? = H[q]?) → va_S A0 H0 H1 locs1 → H1[q9]? = some ce → ce.vm = .none → s.vm.findClass E = some ce.cls → xt_N p l e R s m args below meth c H1 locs1 (cells + mc) (slots + ms) Q (F0 m pc ls rest) q9)
    (kk : ∀ (r : Int64) (u : S) (t : State) (H1 : Heap) (locs1 : List Loc), t.heap = H1 → s.vm.Alike t.vm → post r u → B u t → H.size ≤ H1.size → (∀ q : Nat, q < H.size → ¬ A1 q → H1[q]? = H[q]?) → va_S A0 H0 H1 locs1 → W p l e R s m args below meth c H1 locs1 (cells + mc) (slots + ms) Q (F0 m (pc + 3) ls (.long r :: rest))) : W p l e R s m args below meth c H locs cells slots Q (F0 m pc ls st0) := by
  intro T hT X
  rcases hr T hT X with ⟨v, st₀, t, T', L, h0, X', hL, e1, e2, ⟨⟨r, u, hv, hp, hb⟩, hF⟩, hst⟩ | ⟨q, E, ce, st₀, t, T', L, h0, X', hL, e1, e2, ⟨u, hp, hb, hF⟩, hce, hcv, hcl, hst⟩
  · cases hv
    obtain ⟨k1, k2, k3⟩ := xt_keep h0 e1 hS hA hf hL hF
    obtain ⟨t2, a1, b1⟩ := kk r u t T'.heap (locs ++ L) e1.symm (by rw [← e2]; exact X'.warmed.alike) hp hb k1 k2 k3 T' rfl X'
    exact ⟨t2, hst t2 a1, b1⟩
  · obtain ⟨k1, k2, k3⟩ := xt_keep h0 e1 hS hAX hf hL hF
    obtain ⟨t2, a1, b1⟩ := kx E ce q u t T'.heap (locs ++ L) e1.symm (by rw [← e2]; exact X'.warmed.alike) hp hb k1 k2 k3 (by rw [e1]; exact hce) hcv hcl T' rfl X'
    exact ⟨t2, hst t2 a1, b1⟩
theorem xt_callv {S SX : Type} {post : S → Prop} {px : SX → Prop} {B : S → State → Prop} {BX : String → SX → State → Prop} {A0 A1 AX : Nat → Prop} {H0 : Heap} {mc ms pc : Nat} {ls : Array Slot} {rest st0 : List Value} {a : Array Value} {free : Addr → Prop} (hr : xt_Run p l e R s m args below meth c H locs cells slots mc ms (F0 m pc ls st0) rest (va_Qv post B A1 a) (xt_X px BX AX) free) (hS : va_S A0 H0 H locs) (hA : ∀ q, q < H.size → A1 q → A0 q) (hf : ∀ q, free q → A0 q) (hAX : ∀ q, q < H.size → AX q → A0 q)
    (kx : ∀ (E : String) (ce : Cell) (q9 : Addr) (u : SX) (t : State) (H1 : Heap) (locs1 : List Loc), t.heap = H1 → s.vm.Alike t.vm → px u → BX E u t → H.size ≤ H1.size → (∀ q : Nat, q < H.size → ¬ AX q → H1[q]? = H[q]?) → va_S A0 H0 H1 locs1 → H1[q9]? = some ce → ce.vm = .none → s.vm.findClass E = some ce.cls → xt_N p l e R s m args below meth c H1 locs1 (cells + mc) (slots + ms) Q (F0 m pc ls rest) q9)
    (kk : ∀ (u : S) (t : State) (H1 : Heap) (locs1 : List Loc), t.heap = H1 → s.vm.Alike t.vm → post u → B u t → H.size ≤ H1.size → (∀ q : Nat, q < H.size → ¬ A1 q → H1[q]? = H[q]?) → va_S A0 H0 H1 locs1 → W p l e R s m args below meth c H1 locs1 (cells + mc) (slots + ms) Q (F0 m (pc + 3) ls (rest))) : W p l e R s m args below meth c H locs cells slots Q (F0 m pc ls st0) := by
  intro T hT X
  rcases hr T hT X with ⟨v, st₀, t, T', L, h0, X', hL, e1, e2, ⟨⟨u, hv, hp, hb⟩, hF⟩, hst⟩ | ⟨q, E, ce, st₀, t, T', L, h0, X', hL, e1, e2, ⟨u, hp, hb, hF⟩, hce, hcv, hcl, hst⟩
  · cases hv
    obtain ⟨k1, k2, k3⟩ := xt_keep h0 e1 hS hA hf hL hF
    obtain ⟨t2, a1, b1⟩ := kk u t T'.heap (locs ++ L) e1.symm (by rw [← e2]; exact X'.warmed.alike) hp hb k1 k2 k3 T' rfl X'
    exact ⟨t2, hst t2 a1, b1⟩
  · obtain ⟨k1, k2, k3⟩ := xt_keep h0 e1 hS hAX hf hL hF
    obtain ⟨t2, a1, b1⟩ := kx E ce q u t T'.heap (locs ++ L) e1.symm (by rw [← e2]; exact X'.warmed.alike) hp hb k1 k2 k3 (by rw [e1]; exact hce) hcv hcl T' rfl X'
    exact ⟨t2, hst t2 a1, b1⟩
theorem xt_callr {S SX : Type} {post : S → Prop} {px : SX → Prop} {B : S → Nat → State → Prop} {BX : String → SX → State → Prop} {A0 A1 AX : Nat → Prop} {H0 : Heap} {mc ms pc : Nat} {ls : Array Slot} {rest st0 : List Value} {a : Array Value} {free : Addr → Prop} (hr : xt_Run p l e R s m args below meth c H locs cells slots mc ms (F0 m pc ls st0) rest (va_Qr post B A1 a) (xt_X px BX AX) free) (hS : va_S A0 H0 H locs) (hA : ∀ q, q < H.size → A1 q → A0 q) (hf : ∀ q, free q → A0 q) (hAX : ∀ q, q < H.size → AX q → A0 q)
    (kx : ∀ (E : String) (ce : Cell) (q9 : Addr) (u : SX) (t : State) (H1 : Heap) (locs1 : List Loc), t.heap = H1 → s.vm.Alike t.vm → px u → BX E u t → H.size ≤ H1.size → (∀ q : Nat, q < H.size → ¬ AX q → H1[q]? = H[q]?) → va_S A0 H0 H1 locs1 → H1[q9]? = some ce → ce.vm = .none → s.vm.findClass E = some ce.cls → xt_N p l e R s m args below meth c H1 locs1 (cells + mc) (slots + ms) Q (F0 m pc ls rest) q9)
    (kk : ∀ (u : S) (ra : Nat) (t : State) (H1 : Heap) (locs1 : List Loc), t.heap = H1 → s.vm.Alike t.vm → post u → B u ra t → H.size ≤ H1.size → (∀ q : Nat, q < H.size → ¬ A1 q → H1[q]? = H[q]?) → va_S A0 H0 H1 locs1 → W p l e R s m args below meth c H1 locs1 (cells + mc) (slots + ms) Q (F0 m (pc + 3) ls (.ref ra :: rest))) : W p l e R s m args below meth c H locs cells slots Q (F0 m pc ls st0) := by
  intro T hT X
  rcases hr T hT X with ⟨v, st₀, t, T', L, h0, X', hL, e1, e2, ⟨⟨u, ra, hv, hp, hb⟩, hF⟩, hst⟩ | ⟨q, E, ce, st₀, t, T', L, h0, X', hL, e1, e2, ⟨u, hp, hb, hF⟩, hce, hcv, hcl, hst⟩
  · cases hv
    obtain ⟨k1, k2, k3⟩ := xt_keep h0 e1 hS hA hf hL hF
    obtain ⟨t2, a1, b1⟩ := kk u ra t T'.heap (locs ++ L) e1.symm (by rw [← e2]; exact X'.warmed.alike) hp hb k1 k2 k3 T' rfl X'
    exact ⟨t2, hst t2 a1, b1⟩
  · obtain ⟨k1, k2, k3⟩ := xt_keep h0 e1 hS hAX hf hL hF
    obtain ⟨t2, a1, b1⟩ := kx E ce q u t T'.heap (locs ++ L) e1.symm (by rw [← e2]; exact X'.warmed.alike) hp hb k1 k2 k3 (by rw [e1]; exact hce) hcv hcl T' rfl X'
    exact ⟨t2, hst t2 a1, b1⟩
end XT
end
section
def XIX : List Nat := [11, 12, 13, 14, 15, 16, 17, 24, 25, 26, 42, 50, 57, 68, 74, 89, 94, 101, 106, 135, 140, 157, 162, 174, 179, 203, 246, 315, 316, 317, 322, 323, 324, 325, 326, 327, 328, 329, 330, 331, 332, 333, 334, 335, 336, 337, 338, 339, 340, 341, 342, 343, 344, 345, 346, 347, 348, 349, 350, 351, 352, 353, 354, 355, 356, 357, 358, 359, 360, 361, 362, 363, 364, 365, 366, 367, 368, 369, 370, 371, 372, 373, 374, 375, 376, 377, 378, 379, 380, 381, 382, 383, 384, 385, 390, 391, 392, 393, 394, 395, 396, 397, 398, 399, 400, 401, 402, 403, 404, 413, 414, 415, 416, 417, 418, 419, 420, 421, 422, 423, 424, 425, 426, 427, 435, 444, 445, 446, 447, 448, 449, 450, 451, 452, 453, 454, 455, 456, 457, 458, 679, 788, 998]
def XAL : List Cond := XIX.filterMap (fun i => tables_1[i]?)
theorem XAL_in : ∀ w ∈ XAL, w ∈ tables_1 := fun w hw => by
  obtain ⟨i, -, h⟩ := List.mem_filterMap.mp hw
  exact List.mem_of_getElem? h
def XNG : List Cond := NGL ++ [.laysStatic Bundle.tN "UNASSIGNED_STACK" Bundle.steD, .laysStatic Bundle.tN "SUPPRESSED_SENTINEL" Bundle.listD, .isRef (.static Bundle.tN "UNASSIGNED_STACK" Bundle.steD), .isRef (.static Bundle.tN "SUPPRESSED_SENTINEL" Bundle.listD)]
theorem xc_hat {own cls : String} {ic : Nat} {names : List String} {dC : Nat → ClassId} {dI : Nat → Nat → Nat} {cA : Nat → ClassId} {ad : Nat → Nat} {X : ST} {s : State} {H : Heap} {locs : List Loc} {args : Array Value}
    (h : (Bundle.ownAtoms0 own ic cls names).all (fun w => (decide (w ∈ XAL) && goodWord w) || decide (w ∈ XNG)) = true) (hts : ∀ w ∈ GW, w.before args s = true) (hG : GC dC dI cA ad s) (hP : va_P (dC, dI) vwCl (wdC cA ad X) H) (hS : va_S (CA ad 125 s.heap.size) s.heap H locs) :
    ∀ U : State, U.heap = H → s.WarmedH U.vm → ∀ a ∈ Bundle.ownAtoms0 own ic cls names, a.before args U = true := by
  intro U hU hW a ha
  have hGU : GC dC dI cA ad U := (zwC_pre (av := []) hP hS hG U hU hW).2.2.2
  have h1 := List.all_eq_true.mp h a ha
  simp only [Bool.or_eq_true, Bool.and_eq_true, decide_eq_true_eq] at h1
  rcases h1 with ⟨h1, h2⟩ | h1
  · exact word_at hW (good_of_word h2) (hts a (gw_t (XAL_in a h1) h2))
  · rcases List.mem_append.mp h1 with h1 | h1
    · exact va_Nw.use (ngk_on (ng_k a h1)) (hGU.2.1 a h1)
    · simp only [List.mem_cons, List.not_mem_nil, or_false] at h1
      rcases h1 with rfl | rfl | rfl | rfl
      · exact hGU.2.2.1.lays
      · exact hGU.2.2.2.lays
      · exact hGU.2.2.1.isRef
      · exact hGU.2.2.2.isRef
set_option maxRecDepth 100000 in
theorem xa_0 : (Bundle.ownAtoms0 R_CA 95 "java/lang/IllegalArgumentException" ["java/lang/RuntimeException", "java/lang/Exception"]).all (fun w => (decide (w ∈ XAL) && goodWord w) || decide (w ∈ XNG)) = true := by decide +kernel
set_option maxRecDepth 100000 in
theorem xa_1 : (Bundle.ownAtoms0 R_CA 106 "java/lang/UnsupportedOperationException" ["java/lang/RuntimeException", "java/lang/Exception"]).all (fun w => (decide (w ∈ XAL) && goodWord w) || decide (w ∈ XNG)) = true := by decide +kernel
set_option maxRecDepth 100000 in
theorem xa_2 : (Bundle.ownAtoms0 R_CA 122 "java/lang/IllegalStateException" ["java/lang/RuntimeException", "java/lang/Exception"]).all (fun w => (decide (w ∈ XAL) && goodWord w) || decide (w ∈ XNG)) = true := by decide +kernel
set_option maxRecDepth 100000 in
theorem xa_3 : (Bundle.ownAtoms0 R_CA 179 "java/util/NoSuchElementException" ["java/lang/RuntimeException", "java/lang/Exception"]).all (fun w => (decide (w ∈ XAL) && goodWord w) || decide (w ∈ XNG)) = true := by decide +kernel
end
section
def ws_CA_draw : List Cond := Cond.code y_CA_draw c_CA_draw 1 (Option.some Jvm.ClassFile.FieldType.int) :: GW
theorem d_CA_draw_0 : decode c_CA_draw 0 = .ok (.aload_n 0, 1) := by decide +kernel
theorem d_CA_draw_1 : decode c_CA_draw 1 = .ok (.aload_n 0, 1) := by decide +kernel
theorem d_CA_draw_2 : decode c_CA_draw 2 = .ok (.getfield 60, 3) := by decide +kernel
theorem d_CA_draw_5 : decode c_CA_draw 5 = .ok (.ldc_w 256, 3) := by decide +kernel
theorem d_CA_draw_8 : decode c_CA_draw 8 = .ok (.imul, 1) := by decide +kernel
theorem d_CA_draw_9 : decode c_CA_draw 9 = .ok (.sipush 12345, 3) := by decide +kernel
theorem d_CA_draw_12 : decode c_CA_draw 12 = .ok (.iadd, 1) := by decide +kernel
theorem d_CA_draw_13 : decode c_CA_draw 13 = .ok (.putfield 60, 3) := by decide +kernel
theorem d_CA_draw_16 : decode c_CA_draw 16 = .ok (.aload_n 0, 1) := by decide +kernel
theorem d_CA_draw_17 : decode c_CA_draw 17 = .ok (.getfield 60, 3) := by decide +kernel
theorem d_CA_draw_20 : decode c_CA_draw 20 = .ok (.bipush 8, 2) := by decide +kernel
theorem d_CA_draw_22 : decode c_CA_draw 22 = .ok (.iushr, 1) := by decide +kernel
theorem d_CA_draw_23 : decode c_CA_draw 23 = .ok (.ireturn, 1) := by decide +kernel
def wp_CA_draw (post : Int32 → ST → Prop) (X : ST) : Prop := post (((((X 0 0) * (1103515245 : Int32)) + (12345 : Int32)).toUInt32 >>> ((8 : Int32).toUInt32 &&& Int32.toUInt32 31)).toInt32) (up X 0 0 (((X 0 0) * (1103515245 : Int32)) + (12345 : Int32)))
set_option maxHeartbeats 4000000 in
set_option maxRecDepth 100000 in
theorem mt_CA_draw (l : Launch) (hl9 : l.stackTraces = false) (dC : Nat → ClassId) (dI : Nat → Nat → Nat) (cA : Nat → ClassId) (ad : Nat → Nat) (hI : INJ ad 125) (sz : Nat) {X : ST} {post : Int32 → ST → Prop} (hw : wp_CA_draw post X) : Met l y_CA_draw ws_CA_draw ({ frames := 0, cells := 0, slots := 0, locals := 0 } : Room) (va_Pc [.ref (ad 0)] (fun U => PC dC dI cA ad sz X U)) (va_Qi (fun r (u : ST) => post r u) (fun (u : ST) t => va_P (dC, dI) vwCl (wdC cA ad u) t.heap) (CA ad 125 sz)) 0 0 (CA ad 125 sz) := by
  refine Met.ofW (cc := c_CA_draw) (maxL := 1) (ret := (some .int)) (by decide) rfl ?_
  intro p e s m args below meth c s₁ B hml hv
  obtain ⟨rfl, hsz, hP, hG⟩ := hv
  have hx := B.exec
  have hb := B.bytes
  have hr := B.returns
  have hts : ∀ w ∈ GW, w.before (([.ref (ad 0)] : List Value).toArray) s = true := fun w h => atoms_spec (ws := ws_CA_draw) B.pre w (List.mem_cons_of_mem _ h)
  have hown : s.vm.findClass R_CA = some m.cls := findClass_of_methodNamed B.named
  have hlocks := B.notSynchronized
  subst hsz
  have hK := hG.1
  have hG9 := hG
  have hNW := hG.2.1
  have hD0 : ∀ (X : ST), va_D (CA ad 125 s.heap.size) (wdC cA ad X) := fun _ => zwC_D hI
  have hS : va_S (CA ad 125 s.heap.size) s.heap s.heap [] := va_S.rf
  have hl := lv_entry ([.ref (ad 0)]) (n := 1) (Nat.le_of_ble_eq_true rfl)
  rw [lg_entry_eq]
  generalize (lg_sl ([.ref (ad 0)]) ++ List.replicate (1 - (lg_sl ([.ref (ad 0)])).length) Slot.unset).toArray = ls at hl ⊢
  have hl : lv_has ls 1 [(0, .ref (ad 0))] := hl
  unfold wp_CA_draw at hw
  refine lv_aload_n hx hb d_CA_draw_0 rfl (lv_at hl 0 rfl) ?_
  refine lv_aload_n hx hb d_CA_draw_1 rfl (lv_at hl 0 rfl) ?_
  refine va_get (D := (dC, dI)) (ci := 0) (v := .int (X 0 0)) (C := R_CA) (T := T_CA) (N := 14) hx hb hts in_CA hown hK hP (0) atC_CA rfl 0 (by decide) (hts _ gw_0) (fun _ h9 => h9) rfl d_CA_draw_2 ?_
  refine lv_ldcw (v := (1103515245 : Int32)) hx hb hown (hts _ gw_1) d_CA_draw_5 ?_
  refine lv_imul hx hb d_CA_draw_8 ?_
  refine lv_sipush (v := (12345 : Int32)) hx hb d_CA_draw_9 (by decide) ?_
  refine lv_iadd hx hb d_CA_draw_12 ?_
  refine va_put (D := (dC, dI)) (ci := 0) (v := .int (((X 0 0) * (1103515245 : Int32)) + (12345 : Int32))) (ty := .int) (C := R_CA) (T := T_CA) (N := 14) hx hb hts in_CA ty_CA ty_CA_ok nm_CA hown hK hP (hD0 _) hS (0) atC_CA rfl 0 (by decide) (hts _ gw_0) (fun _ h9 => h9) rfl (by decide +kernel) rfl rfl (Nat.le_of_ble_eq_true rfl) d_CA_draw_13 (fun H locs hP _ hS => ?_)
  have hP : va_P (dC, dI) vwCl (wdC cA ad (up X 0 0 (((X 0 0) * (1103515245 : Int32)) + (12345 : Int32)))) H := by rw [← stC_CA_0]; exact hP
  refine lv_aload_n hx hb d_CA_draw_16 rfl (lv_at hl 0 rfl) ?_
  refine va_get (D := (dC, dI)) (ci := 0) (v := .int (((X 0 0) * (1103515245 : Int32)) + (12345 : Int32))) (C := R_CA) (T := T_CA) (N := 14) hx hb hts in_CA hown hK hP (0) atC_CA rfl 0 (by decide) (hts _ gw_0) (fun _ h9 => h9) rfl d_CA_draw_17 ?_
  refine lv_bipush (v := (8 : Int32)) hx hb d_CA_draw_20 (by decide) ?_
  refine lv_iushr hx hb d_CA_draw_22 rfl ?_
  exact W.iret (v := ((((X 0 0) * (1103515245 : Int32)) + (12345 : Int32)).toUInt32 >>> ((8 : Int32).toUInt32 &&& Int32.toUInt32 31)).toInt32) hx hb hr (fun t ht _ => ⟨⟨((((X 0 0) * (1103515245 : Int32)) + (12345 : Int32)).toUInt32 >>> ((8 : Int32).toUInt32 &&& Int32.toUInt32 31)).toInt32, up X 0 0 (((X 0 0) * (1103515245 : Int32)) + (12345 : Int32)), rfl, hw, by show va_P _ _ _ t.heap; rw [ht]; exact hP⟩, hS.F ht⟩) hS.2.2 d_CA_draw_23
def ws_Non_removeAt : List Cond := Cond.code y_Non_removeAt c_Non_removeAt 3 (Option.none : Option Jvm.ClassFile.FieldType) :: GW
theorem d_Non_removeAt_0 : decode c_Non_removeAt 0 = .ok (.iload_n 1, 1) := by decide +kernel
theorem d_Non_removeAt_1 : decode c_Non_removeAt 1 = .ok (.istore_n 2, 1) := by decide +kernel
theorem d_Non_removeAt_2 : decode c_Non_removeAt 2 = .ok (.iload_n 2, 1) := by decide +kernel
theorem d_Non_removeAt_3 : decode c_Non_removeAt 3 = .ok (.iconst 1, 1) := by decide +kernel
theorem d_Non_removeAt_4 : decode c_Non_removeAt 4 = .ok (.iadd, 1) := by decide +kernel
theorem d_Non_removeAt_5 : decode c_Non_removeAt 5 = .ok (.aload_n 0, 1) := by decide +kernel
theorem d_Non_removeAt_6 : decode c_Non_removeAt 6 = .ok (.getfield 15, 3) := by decide +kernel
theorem d_Non_removeAt_9 : decode c_Non_removeAt 9 = .ok (.if_icmp .ge 23, 3) := by decide +kernel
theorem d_Non_removeAt_12 : decode c_Non_removeAt 12 = .ok (.aload_n 0, 1) := by decide +kernel
theorem d_Non_removeAt_13 : decode c_Non_removeAt 13 = .ok (.getfield 9, 3) := by decide +kernel
theorem d_Non_removeAt_16 : decode c_Non_removeAt 16 = .ok (.iload_n 2, 1) := by decide +kernel
theorem d_Non_removeAt_17 : decode c_Non_removeAt 17 = .ok (.aload_n 0, 1) := by decide +kernel
theorem d_Non_removeAt_18 : decode c_Non_removeAt 18 = .ok (.getfield 9, 3) := by decide +kernel
theorem d_Non_removeAt_21 : decode c_Non_removeAt 21 = .ok (.iload_n 2, 1) := by decide +kernel
theorem d_Non_removeAt_22 : decode c_Non_removeAt 22 = .ok (.iconst 1, 1) := by decide +kernel
theorem d_Non_removeAt_23 : decode c_Non_removeAt 23 = .ok (.iadd, 1) := by decide +kernel
theorem d_Non_removeAt_24 : decode c_Non_removeAt 24 = .ok (.iaload, 1) := by decide +kernel
theorem d_Non_removeAt_25 : decode c_Non_removeAt 25 = .ok (.iastore, 1) := by decide +kernel
theorem d_Non_removeAt_26 : decode c_Non_removeAt 26 = .ok (.iinc 2 1, 3) := by decide +kernel
theorem d_Non_removeAt_29 : decode c_Non_removeAt 29 = .ok (.goto (-27), 3) := by decide +kernel
theorem d_Non_removeAt_32 : decode c_Non_removeAt 32 = .ok (.aload_n 0, 1) := by decide +kernel
theorem d_Non_removeAt_33 : decode c_Non_removeAt 33 = .ok (.dup, 1) := by decide +kernel
theorem d_Non_removeAt_34 : decode c_Non_removeAt 34 = .ok (.getfield 15, 3) := by decide +kernel
theorem d_Non_removeAt_37 : decode c_Non_removeAt 37 = .ok (.iconst 1, 1) := by decide +kernel
theorem d_Non_removeAt_38 : decode c_Non_removeAt 38 = .ok (.isub, 1) := by decide +kernel
theorem d_Non_removeAt_39 : decode c_Non_removeAt 39 = .ok (.putfield 15, 3) := by decide +kernel
theorem d_Non_removeAt_42 : decode c_Non_removeAt 42 = .ok (.return_, 1) := by decide +kernel
def wq_Non_removeAt_2 (post : ST → Prop) : Nat → Int32 → ST → Prop
  | 0 => fun _ _ => False
  | n + 1 => fun v2 X => (((X 6 0) ≤ (v2 + (1 : Int32)) → post (up X 6 0 ((X 6 0) - (1 : Int32)))) ∧ (¬ (X 6 0) ≤ (v2 + (1 : Int32)) → (vp_in (v2 + (1 : Int32)) 8 ∧ (vp_in v2 8 ∧ wq_Non_removeAt_2 post n (v2 + (1 : Int32)) (up X 61 v2.toNatClampNeg (X 61 (v2 + (1 : Int32)).toNatClampNeg))))))
def wp_Non_removeAt (post : ST → Prop) (X : ST) (a1 : Int32) : Prop := (∃ n9, wq_Non_removeAt_2 post n9 a1 X)
set_option maxHeartbeats 4000000 in
set_option maxRecDepth 100000 in
theorem mt_Non_removeAt (l : Launch) (hl9 : l.stackTraces = false) (dC : Nat → ClassId) (dI : Nat → Nat → Nat) (cA : Nat → ClassId) (ad : Nat → Nat) (hI : INJ ad 125) (sz : Nat) {X : ST} {a1 : Int32} {post : ST → Prop} (hw : wp_Non_removeAt post X a1) : Met l y_Non_removeAt ws_Non_removeAt ({ frames := 0, cells := 0, slots := 0, locals := 0 } : Room) (va_Pc [.ref (ad 6), .int a1] (fun U => PC dC dI cA ad sz X U)) (va_Qv (fun (u : ST) => post u) (fun (u : ST) t => va_P (dC, dI) vwCl (wdC cA ad u) t.heap) (CA ad 125 sz)) 0 0 (CA ad 125 sz) := by
  refine Met.ofW (cc := c_Non_removeAt) (maxL := 3) (ret := none) (by decide) rfl ?_
  intro p e s m args below meth c s₁ B hml hv
  obtain ⟨rfl, hsz, hP, hG⟩ := hv
  have hx := B.exec
  have hb := B.bytes
  have hr := B.returns
  have hts : ∀ w ∈ GW, w.before (([.ref (ad 6), .int a1] : List Value).toArray) s = true := fun w h => atoms_spec (ws := ws_Non_removeAt) B.pre w (List.mem_cons_of_mem _ h)
  have hown : s.vm.findClass R_Non = some m.cls := findClass_of_methodNamed B.named
  have hlocks := B.notSynchronized
  subst hsz
  have hK := hG.1
  have hG9 := hG
  have hNW := hG.2.1
  have hD0 : ∀ (X : ST), va_D (CA ad 125 s.heap.size) (wdC cA ad X) := fun _ => zwC_D hI
  have hS : va_S (CA ad 125 s.heap.size) s.heap s.heap [] := va_S.rf
  have hl := lv_entry ([.ref (ad 6), .int a1]) (n := 3) (Nat.le_of_ble_eq_true rfl)
  rw [lg_entry_eq]
  generalize (lg_sl ([.ref (ad 6), .int a1]) ++ List.replicate (3 - (lg_sl ([.ref (ad 6), .int a1])).length) Slot.unset).toArray = ls at hl ⊢
  have hl : lv_has ls 3 [(0, .ref (ad 6)), (1, .int a1)] := hl
  have L2 : ∀ (n : Nat), ∀ (v2 : Int32) (X : ST) (H : Heap) (locs : List Loc) (ls : Array Slot), wq_Non_removeAt_2 post n v2 X → va_P (dC, dI) vwCl (wdC cA ad X) H → va_S (CA ad 125 s.heap.size) s.heap H locs → lv_has ls 3 [(0, .ref (ad 6)), (2, .int v2)] → W p l e (headSpec ws_Non_removeAt ({ frames := 0, cells := 0, slots := 0, locals := 0 } : Room)).room s m (([.ref (ad 6), .int a1] : List Value).toArray) below meth c H locs 0 0 (MQ below (va_Qv (fun (u : ST) => post u) (fun (u : ST) t => va_P (dC, dI) vwCl (wdC cA ad u) t.heap) (CA ad 125 s.heap.size)) (([.ref (ad 6), .int a1] : List Value).toArray) s 0 0 (CA ad 125 s.heap.size)) (F0 m 2 ls []) := by
    intro n
    induction n with
    | zero => intro v2 X H locs ls hw hP hS hl; exact False.elim hw
    | succ n ih =>
      intro v2 X H locs ls hw hP hS hl
      dsimp only [wq_Non_removeAt_2] at hw
      refine lv_iload_n hx hb d_Non_removeAt_2 rfl (lv_at hl 1 rfl) ?_
      refine lv_iconst (v := (1 : Int32)) hx hb d_Non_removeAt_3 (by decide) ?_
      refine lv_iadd hx hb d_Non_removeAt_4 ?_
      refine lv_aload_n hx hb d_Non_removeAt_5 rfl (lv_at hl 0 rfl) ?_
      refine va_get (D := (dC, dI)) (ci := 1) (v := .int (X 6 0)) (C := R_Non) (T := T_Non) (N := 2) hx hb hts in_Non hown hK hP (6) atC_Non rfl 0 (by decide) (hts _ gw_2) (fun _ h9 => h9) rfl d_Non_removeAt_6 ?_
      refine lv_icmp_ge (tgt := 32) hx hb d_Non_removeAt_9 (by decide) (fun c1 => ?_) (fun c1 => ?_)
      · have hw := hw.1 c1
        refine lv_aload_n hx hb d_Non_removeAt_32 rfl (lv_at hl 0 rfl) ?_
        refine lv_dup hx hb d_Non_removeAt_33 rfl ?_
        refine va_get (D := (dC, dI)) (ci := 1) (v := .int (X 6 0)) (C := R_Non) (T := T_Non) (N := 2) hx hb hts in_Non hown hK hP (6) atC_Non rfl 0 (by decide) (hts _ gw_2) (fun _ h9 => h9) rfl d_Non_removeAt_34 ?_
        refine lv_iconst (v := (1 : Int32)) hx hb d_Non_removeAt_37 (by decide) ?_
        refine lv_isub hx hb d_Non_removeAt_38 ?_
        refine va_put (D := (dC, dI)) (ci := 1) (v := .int ((X 6 0) - (1 : Int32))) (ty := .int) (C := R_Non) (T := T_Non) (N := 2) hx hb hts in_Non ty_Non ty_Non_ok nm_Non hown hK hP (hD0 _) hS (6) atC_Non rfl 0 (by decide) (hts _ gw_2) (fun _ h9 => h9) rfl (by decide +kernel) rfl rfl (Nat.le_of_ble_eq_true rfl) d_Non_removeAt_39 (fun H locs hP _ hS => ?_)
        have hP : va_P (dC, dI) vwCl (wdC cA ad (up X 6 0 ((X 6 0) - (1 : Int32)))) H := by rw [← stC_Non_0]; exact hP
        exact W.vret hx hb hr (fun t ht _ => ⟨⟨up X 6 0 ((X 6 0) - (1 : Int32)), rfl, hw, by show va_P _ _ _ t.heap; rw [ht]; exact hP⟩, hS.F ht⟩) hS.2.2 d_Non_removeAt_42
      · have hw := hw.2 c1
        refine lv_aload_n hx hb d_Non_removeAt_12 rfl (lv_at hl 0 rfl) ?_
        refine va_get (D := (dC, dI)) (ci := 1) (v := .ref (ad 7)) (C := R_Non) (T := T_Non) (N := 2) hx hb hts in_Non hown hK hP (6) atC_Non rfl 1 (by decide) (hts _ gw_3) (fun _ h9 => h9) rfl d_Non_removeAt_13 ?_
        refine lv_iload_n hx hb d_Non_removeAt_16 rfl (lv_at hl 1 rfl) ?_
        refine lv_aload_n hx hb d_Non_removeAt_17 rfl (lv_at hl 0 rfl) ?_
        refine va_get (D := (dC, dI)) (ci := 1) (v := .ref (ad 7)) (C := R_Non) (T := T_Non) (N := 2) hx hb hts in_Non hown hK hP (6) atC_Non rfl 1 (by decide) (hts _ gw_3) (fun _ h9 => h9) rfl d_Non_removeAt_18 ?_
        refine lv_iload_n hx hb d_Non_removeAt_21 rfl (lv_at hl 1 rfl) ?_
        refine lv_iconst (v := (1 : Int32)) hx hb d_Non_removeAt_22 (by decide) ?_
        refine lv_iadd hx hb d_Non_removeAt_23 ?_
        obtain ⟨h2, hw⟩ := hw
        refine va_iald hx hb hK hP (7) 5 atC_iNon rfl h2 d_Non_removeAt_24 ?_
        obtain ⟨h3, hw⟩ := hw
        refine va_iast hx hb hK hP (hD0 _) hS (7) 5 atC_iNon rfl h3 d_Non_removeAt_25 (fun H locs hP _ hS => ?_)
        have hP : va_P (dC, dI) vwCl (wdC cA ad (up X 61 v2.toNatClampNeg (X 61 (v2 + (1 : Int32)).toNatClampNeg))) H := by rw [← stC_iNon]; exact hP
        refine lv_iinc (k := 1) (v := v2 + (1 : Int32)) (lv' := [(2, .int (v2 + (1 : Int32))), (0, .ref (ad 6))]) hx hb d_Non_removeAt_26 hl rfl rfl (by decide) rfl (fun ls hl => ?_)
        refine lv_goto (tgt := 2) hx hb d_Non_removeAt_29 (by decide) ?_
        have hl := lv_sub hl (l' := [(0, .ref (ad 6)), (2, .int (v2 + (1 : Int32)))]) [1, 0] rfl
        exact ih _ _ _ _ _ hw hP hS hl
  unfold wp_Non_removeAt at hw
  refine lv_iload_n hx hb d_Non_removeAt_0 rfl (lv_at hl 1 rfl) ?_
  refine lv_istore_n (lv' := [(2, .int a1), (0, .ref (ad 6)), (1, .int a1)]) hx hb d_Non_removeAt_1 rfl hl (by decide) rfl (fun ls hl => ?_)
  have hl := lv_sub hl (l' := [(0, .ref (ad 6)), (2, .int a1)]) [1, 0] rfl
  obtain ⟨n9, hw⟩ := hw
  exact L2 n9 _ _ _ _ _ hw hP hS hl
def ws_Non_putOut : List Cond := Cond.code y_Non_putOut c_Non_putOut 2 (Option.none : Option Jvm.ClassFile.FieldType) :: GW
theorem d_Non_putOut_0 : decode c_Non_putOut 0 = .ok (.aload_n 0, 1) := by decide +kernel
theorem d_Non_putOut_1 : decode c_Non_putOut 1 = .ok (.getfield 15, 3) := by decide +kernel
theorem d_Non_putOut_4 : decode c_Non_putOut 4 = .ok (.bipush 8, 2) := by decide +kernel
theorem d_Non_putOut_6 : decode c_Non_putOut 6 = .ok (.if_icmp .lt 8, 3) := by decide +kernel
theorem d_Non_putOut_9 : decode c_Non_putOut 9 = .ok (.aload_n 0, 1) := by decide +kernel
theorem d_Non_putOut_10 : decode c_Non_putOut 10 = .ok (.iconst 0, 1) := by decide +kernel
theorem d_Non_putOut_11 : decode c_Non_putOut 11 = .ok (.invokevirtual 19, 3) := by decide +kernel
theorem d_Non_putOut_14 : decode c_Non_putOut 14 = .ok (.aload_n 0, 1) := by decide +kernel
theorem d_Non_putOut_15 : decode c_Non_putOut 15 = .ok (.getfield 9, 3) := by decide +kernel
theorem d_Non_putOut_18 : decode c_Non_putOut 18 = .ok (.aload_n 0, 1) := by decide +kernel
theorem d_Non_putOut_19 : decode c_Non_putOut 19 = .ok (.getfield 15, 3) := by decide +kernel
theorem d_Non_putOut_22 : decode c_Non_putOut 22 = .ok (.iload_n 1, 1) := by decide +kernel
theorem d_Non_putOut_23 : decode c_Non_putOut 23 = .ok (.iastore, 1) := by decide +kernel
theorem d_Non_putOut_24 : decode c_Non_putOut 24 = .ok (.aload_n 0, 1) := by decide +kernel
theorem d_Non_putOut_25 : decode c_Non_putOut 25 = .ok (.dup, 1) := by decide +kernel
theorem d_Non_putOut_26 : decode c_Non_putOut 26 = .ok (.getfield 15, 3) := by decide +kernel
theorem d_Non_putOut_29 : decode c_Non_putOut 29 = .ok (.iconst 1, 1) := by decide +kernel
theorem d_Non_putOut_30 : decode c_Non_putOut 30 = .ok (.iadd, 1) := by decide +kernel
theorem d_Non_putOut_31 : decode c_Non_putOut 31 = .ok (.putfield 15, 3) := by decide +kernel
theorem d_Non_putOut_34 : decode c_Non_putOut 34 = .ok (.return_, 1) := by decide +kernel
def wq_Non_putOut_14 (post : ST → Prop) (v1 : Int32) (X : ST) : Prop := (vp_in (X 6 0) 8 ∧ post (up (up X 61 ((X 6 0).toNatClampNeg) v1) 6 0 ((X 6 0) + (1 : Int32))))
def wp_Non_putOut (post : ST → Prop) (X : ST) (a1 : Int32) : Prop := (((X 6 0) < (8 : Int32) → wq_Non_putOut_14 post a1 X) ∧ (¬ (X 6 0) < (8 : Int32) → wp_Non_removeAt (fun (X3 : ST) => wq_Non_putOut_14 post a1 X3) X (0 : Int32)))
set_option maxHeartbeats 4000000 in
set_option maxRecDepth 100000 in
theorem mt_Non_putOut (l : Launch) (hl9 : l.stackTraces = false) (dC : Nat → ClassId) (dI : Nat → Nat → Nat) (cA : Nat → ClassId) (ad : Nat → Nat) (hI : INJ ad 125) (sz : Nat) {X : ST} {a1 : Int32} {post : ST → Prop} (hw : wp_Non_putOut post X a1) : Met l y_Non_putOut ws_Non_putOut ({ frames := 1, cells := 0, slots := 0, locals := 22 } : Room) (va_Pc [.ref (ad 6), .int a1] (fun U => PC dC dI cA ad sz X U)) (va_Qv (fun (u : ST) => post u) (fun (u : ST) t => va_P (dC, dI) vwCl (wdC cA ad u) t.heap) (CA ad 125 sz)) 0 0 (CA ad 125 sz) := by
  refine Met.ofW (cc := c_Non_putOut) (maxL := 2) (ret := none) (by decide) rfl ?_
  intro p e s m args below meth c s₁ B hml hv
  obtain ⟨rfl, hsz, hP, hG⟩ := hv
  have hx := B.exec
  have hb := B.bytes
  have hr := B.returns
  have hts : ∀ w ∈ GW, w.before (([.ref (ad 6), .int a1] : List Value).toArray) s = true := fun w h => atoms_spec (ws := ws_Non_putOut) B.pre w (List.mem_cons_of_mem _ h)
  have hown : s.vm.findClass R_Non = some m.cls := findClass_of_methodNamed B.named
  have hlocks := B.notSynchronized
  subst hsz
  have hK := hG.1
  have hG9 := hG
  have hNW := hG.2.1
  have hD0 : ∀ (X : ST), va_D (CA ad 125 s.heap.size) (wdC cA ad X) := fun _ => zwC_D hI
  have hS : va_S (CA ad 125 s.heap.size) s.heap s.heap [] := va_S.rf
  have hl := lv_entry ([.ref (ad 6), .int a1]) (n := 2) (Nat.le_of_ble_eq_true rfl)
  rw [lg_entry_eq]
  generalize (lg_sl ([.ref (ad 6), .int a1]) ++ List.replicate (2 - (lg_sl ([.ref (ad 6), .int a1])).length) Slot.unset).toArray = ls at hl ⊢
  have hl : lv_has ls 2 [(0, .ref (ad 6)), (1, .int a1)] := hl
  have L14 : ∀ (v1 : Int32) (X : ST) (H : Heap) (locs : List Loc) (ls : Array Slot), wq_Non_putOut_14 post v1 X → va_P (dC, dI) vwCl (wdC cA ad X) H → va_S (CA ad 125 s.heap.size) s.heap H locs → lv_has ls 2 [(0, .ref (ad 6)), (1, .int v1)] → W p l e (headSpec ws_Non_putOut ({ frames := 1, cells := 0, slots := 0, locals := 22 } : Room)).room s m (([.ref (ad 6), .int a1] : List Value).toArray) below meth c H locs 0 0 (MQ below (va_Qv (fun (u : ST) => post u) (fun (u : ST) t => va_P (dC, dI) vwCl (wdC cA ad u) t.heap) (CA ad 125 s.heap.size)) (([.ref (ad 6), .int a1] : List Value).toArray) s 0 0 (CA ad 125 s.heap.size)) (F0 m 14 ls []) := by
    intro v1 X H locs ls hw hP hS hl
    unfold wq_Non_putOut_14 at hw
    refine lv_aload_n hx hb d_Non_putOut_14 rfl (lv_at hl 0 rfl) ?_
    refine va_get (D := (dC, dI)) (ci := 1) (v := .ref (ad 7)) (C := R_Non) (T := T_Non) (N := 2) hx hb hts in_Non hown hK hP (6) atC_Non rfl 1 (by decide) (hts _ gw_3) (fun _ h9 => h9) rfl d_Non_putOut_15 ?_
    refine lv_aload_n hx hb d_Non_putOut_18 rfl (lv_at hl 0 rfl) ?_
    refine va_get (D := (dC, dI)) (ci := 1) (v := .int (X 6 0)) (C := R_Non) (T := T_Non) (N := 2) hx hb hts in_Non hown hK hP (6) atC_Non rfl 0 (by decide) (hts _ gw_2) (fun _ h9 => h9) rfl d_Non_putOut_19 ?_
    refine lv_iload_n hx hb d_Non_putOut_22 rfl (lv_at hl 1 rfl) ?_
    obtain ⟨h1, hw⟩ := hw
    refine va_iast hx hb hK hP (hD0 _) hS (7) 5 atC_iNon rfl h1 d_Non_putOut_23 (fun H locs hP _ hS => ?_)
    have hP : va_P (dC, dI) vwCl (wdC cA ad (up X 61 ((X 6 0).toNatClampNeg) v1)) H := by rw [← stC_iNon]; exact hP
    refine lv_aload_n hx hb d_Non_putOut_24 rfl (lv_at hl 0 rfl) ?_
    refine lv_dup hx hb d_Non_putOut_25 rfl ?_
    refine va_get (D := (dC, dI)) (ci := 1) (v := .int (X 6 0)) (C := R_Non) (T := T_Non) (N := 2) hx hb hts in_Non hown hK hP (6) atC_Non rfl 0 (by decide) (hts _ gw_2) (fun _ h9 => h9) rfl d_Non_putOut_26 ?_
    refine lv_iconst (v := (1 : Int32)) hx hb d_Non_putOut_29 (by decide) ?_
    refine lv_iadd hx hb d_Non_putOut_30 ?_
    refine va_put (D := (dC, dI)) (ci := 1) (v := .int ((X 6 0) + (1 : Int32))) (ty := .int) (C := R_Non) (T := T_Non) (N := 2) hx hb hts in_Non ty_Non ty_Non_ok nm_Non hown hK hP (hD0 _) hS (6) atC_Non rfl 0 (by decide) (hts _ gw_2) (fun _ h9 => h9) rfl (by decide +kernel) rfl rfl (Nat.le_of_ble_eq_true rfl) d_Non_putOut_31 (fun H locs hP _ hS => ?_)
    have hP : va_P (dC, dI) vwCl (wdC cA ad (up (up X 61 ((X 6 0).toNatClampNeg) v1) 6 0 ((X 6 0) + (1 : Int32)))) H := by rw [← stC_Non_0]; exact hP
    exact W.vret hx hb hr (fun t ht _ => ⟨⟨up (up X 61 ((X 6 0).toNatClampNeg) v1) 6 0 ((X 6 0) + (1 : Int32)), rfl, hw, by show va_P _ _ _ t.heap; rw [ht]; exact hP⟩, hS.F ht⟩) hS.2.2 d_Non_putOut_34
  unfold wp_Non_putOut at hw
  refine lv_aload_n hx hb d_Non_putOut_0 rfl (lv_at hl 0 rfl) ?_
  refine va_get (D := (dC, dI)) (ci := 1) (v := .int (X 6 0)) (C := R_Non) (T := T_Non) (N := 2) hx hb hts in_Non hown hK hP (6) atC_Non rfl 0 (by decide) (hts _ gw_2) (fun _ h9 => h9) rfl d_Non_putOut_1 ?_
  refine lv_bipush (v := (8 : Int32)) hx hb d_Non_putOut_4 (by decide) ?_
  refine lv_icmp_lt (tgt := 14) hx hb d_Non_putOut_6 (by decide) (fun c2 => ?_) (fun c2 => ?_)
  · have hw := hw.1 c2
    have hl := lv_sub hl (l' := [(0, .ref (ad 6)), (1, .int a1)]) [0, 1] rfl
    exact L14 _ _ _ _ _ hw hP hS hl
  · have hw := hw.2 c2
    refine lv_aload_n hx hb d_Non_putOut_9 rfl (lv_at hl 0 rfl) ?_
    refine lv_iconst (v := (0 : Int32)) hx hb d_Non_putOut_10 (by decide) ?_
    refine va_callv (va_runV (As := [.int (0 : Int32)]) (rest := []) ⟨hx, hb, hml, hown, hts⟩ (mt_Non_removeAt l hl9 dC dI cA ad hI _ hw) (cwV 1 hts (gV gw_5 gw_6 gw_7 gw_8 gw_4) rfl rfl rfl (by decide +kernel) ⟨Nat.le_of_ble_eq_true rfl, Nat.le_of_ble_eq_true rfl⟩) ⟨zwC_blind, va_recv hK hP (ci := 1) (q0 := 6) rfl atC_Non, zwC_pre hP hS hG9⟩ rfl rfl hl.1 rfl (lv_room (Nat.le_of_ble_eq_true rfl)) d_Non_putOut_11 ⟨Nat.le_of_ble_eq_true rfl, Nat.le_of_ble_eq_true rfl⟩) hS (fun q _ h => CA_le hS.1 q h) (fun q h => CA_le hS.1 q h) (fun X3 t H locs ht hvm hw hP hz1 hk1 hS => ?_)
    have hP : va_P (dC, dI) vwCl (wdC cA ad X3) H := by rw [← ht]; exact hP
    try dsimp only at hw
    have hl := lv_sub hl (l' := [(0, .ref (ad 6)), (1, .int a1)]) [0, 1] rfl
    exact L14 _ _ _ _ _ hw hP hS hl
def ws_CA_nonce : List Cond := Cond.code y_CA_nonce c_CA_nonce 2 (Option.some Jvm.ClassFile.FieldType.int) :: GW
theorem d_CA_nonce_0 : decode c_CA_nonce 0 = .ok (.aload_n 0, 1) := by decide +kernel
theorem d_CA_nonce_1 : decode c_CA_nonce 1 = .ok (.invokevirtual 69, 3) := by decide +kernel
theorem d_CA_nonce_4 : decode c_CA_nonce 4 = .ok (.istore_n 1, 1) := by decide +kernel
theorem d_CA_nonce_5 : decode c_CA_nonce 5 = .ok (.aload_n 0, 1) := by decide +kernel
theorem d_CA_nonce_6 : decode c_CA_nonce 6 = .ok (.getfield 42, 3) := by decide +kernel
theorem d_CA_nonce_9 : decode c_CA_nonce 9 = .ok (.iload_n 1, 1) := by decide +kernel
theorem d_CA_nonce_10 : decode c_CA_nonce 10 = .ok (.invokevirtual 73, 3) := by decide +kernel
theorem d_CA_nonce_13 : decode c_CA_nonce 13 = .ok (.iload_n 1, 1) := by decide +kernel
theorem d_CA_nonce_14 : decode c_CA_nonce 14 = .ok (.ireturn, 1) := by decide +kernel
def wp_CA_nonce (post : Int32 → ST → Prop) (X : ST) : Prop := wp_CA_draw (fun (r2 : Int32) (X1 : ST) => wp_Non_putOut (fun (X3 : ST) => post r2 X3) X1 r2) X
set_option maxHeartbeats 4000000 in
set_option maxRecDepth 100000 in
theorem mt_CA_nonce (l : Launch) (hl9 : l.stackTraces = false) (dC : Nat → ClassId) (dI : Nat → Nat → Nat) (cA : Nat → ClassId) (ad : Nat → Nat) (hI : INJ ad 125) (sz : Nat) {X : ST} {post : Int32 → ST → Prop} (hw : wp_CA_nonce post X) : Met l y_CA_nonce ws_CA_nonce ({ frames := 2, cells := 0, slots := 0, locals := 43 } : Room) (va_Pc [.ref (ad 0)] (fun U => PC dC dI cA ad sz X U)) (va_Qi (fun r (u : ST) => post r u) (fun (u : ST) t => va_P (dC, dI) vwCl (wdC cA ad u) t.heap) (CA ad 125 sz)) 0 0 (CA ad 125 sz) := by
  refine Met.ofW (cc := c_CA_nonce) (maxL := 2) (ret := (some .int)) (by decide) rfl ?_
  intro p e s m args below meth c s₁ B hml hv
  obtain ⟨rfl, hsz, hP, hG⟩ := hv
  have hx := B.exec
  have hb := B.bytes
  have hr := B.returns
  have hts : ∀ w ∈ GW, w.before (([.ref (ad 0)] : List Value).toArray) s = true := fun w h => atoms_spec (ws := ws_CA_nonce) B.pre w (List.mem_cons_of_mem _ h)
  have hown : s.vm.findClass R_CA = some m.cls := findClass_of_methodNamed B.named
  have hlocks := B.notSynchronized
  subst hsz
  have hK := hG.1
  have hG9 := hG
  have hNW := hG.2.1
  have hD0 : ∀ (X : ST), va_D (CA ad 125 s.heap.size) (wdC cA ad X) := fun _ => zwC_D hI
  have hS : va_S (CA ad 125 s.heap.size) s.heap s.heap [] := va_S.rf
  have hl := lv_entry ([.ref (ad 0)]) (n := 2) (Nat.le_of_ble_eq_true rfl)
  rw [lg_entry_eq]
  generalize (lg_sl ([.ref (ad 0)]) ++ List.replicate (2 - (lg_sl ([.ref (ad 0)])).length) Slot.unset).toArray = ls at hl ⊢
  have hl : lv_has ls 2 [(0, .ref (ad 0))] := hl
  unfold wp_CA_nonce at hw
  refine lv_aload_n hx hb d_CA_nonce_0 rfl (lv_at hl 0 rfl) ?_
  refine va_calli (va_runV (As := []) (rest := []) ⟨hx, hb, hml, hown, hts⟩ (mt_CA_draw l hl9 dC dI cA ad hI _ hw) (cwV 0 hts (gV gw_10 gw_11 gw_12 gw_13 gw_9) rfl rfl rfl (by decide +kernel) ⟨Nat.le_of_ble_eq_true rfl, Nat.le_of_ble_eq_true rfl⟩) ⟨zwC_blind, va_recv hK hP (ci := 0) (q0 := 0) rfl atC_CA, zwC_pre hP hS hG9⟩ rfl rfl hl.1 rfl (lv_room (Nat.le_of_ble_eq_true rfl)) d_CA_nonce_1 ⟨Nat.le_of_ble_eq_true rfl, Nat.le_of_ble_eq_true rfl⟩) hS (fun q _ h => CA_le hS.1 q h) (fun q h => CA_le hS.1 q h) (fun r2 X1 t H locs ht hvm hw hP hz1 hk1 hS => ?_)
  have hP : va_P (dC, dI) vwCl (wdC cA ad X1) H := by rw [← ht]; exact hP
  try dsimp only at hw
  refine lv_istore_n (lv' := [(1, .int r2), (0, .ref (ad 0))]) hx hb d_CA_nonce_4 rfl hl (by decide) rfl (fun ls hl => ?_)
  refine lv_aload_n hx hb d_CA_nonce_5 rfl (lv_at hl 1 rfl) ?_
  refine va_get (D := (dC, dI)) (ci := 0) (v := .ref (ad 6)) (C := R_CA) (T := T_CA) (N := 14) hx hb hts in_CA hown hK hP (0) atC_CA rfl 11 (by decide) (hts _ gw_14) (fun _ h9 => h9) rfl d_CA_nonce_6 ?_
  refine lv_iload_n hx hb d_CA_nonce_9 rfl (lv_at hl 0 rfl) ?_
  refine va_callv (va_runV (As := [.int r2]) (rest := []) ⟨hx, hb, hml, hown, hts⟩ (mt_Non_putOut l hl9 dC dI cA ad hI _ hw) (cwV 1 hts (gV gw_16 gw_17 gw_18 gw_8 gw_15) rfl rfl rfl (by decide +kernel) ⟨Nat.le_of_ble_eq_true rfl, Nat.le_of_ble_eq_true rfl⟩) ⟨zwC_blind, va_recv hK hP (ci := 1) (q0 := 6) rfl atC_Non, zwC_pre hP hS hG9⟩ rfl rfl hl.1 rfl (lv_room (Nat.le_of_ble_eq_true rfl)) d_CA_nonce_10 ⟨Nat.le_of_ble_eq_true rfl, Nat.le_of_ble_eq_true rfl⟩) hS (fun q _ h => CA_le hS.1 q h) (fun q h => CA_le hS.1 q h) (fun X3 t H locs ht hvm hw hP hz1 hk1 hS => ?_)
  have hP : va_P (dC, dI) vwCl (wdC cA ad X3) H := by rw [← ht]; exact hP
  try dsimp only at hw
  refine lv_iload_n hx hb d_CA_nonce_13 rfl (lv_at hl 0 rfl) ?_
  exact W.iret (v := r2) hx hb hr (fun t ht _ => ⟨⟨r2, X3, rfl, hw, by show va_P _ _ _ t.heap; rw [ht]; exact hP⟩, hS.F ht⟩) hS.2.2 d_CA_nonce_14
def ws_CA_isKey : List Cond := Cond.code y_CA_isKey c_CA_isKey 1 (Option.some Jvm.ClassFile.FieldType.boolean) :: GW
theorem d_CA_isKey_0 : decode c_CA_isKey 0 = .ok (.iload_n 0, 1) := by decide +kernel
theorem d_CA_isKey_1 : decode c_CA_isKey 1 = .ok (.sipush 1000, 3) := by decide +kernel
theorem d_CA_isKey_4 : decode c_CA_isKey 4 = .ok (.if_icmp .lt 14, 3) := by decide +kernel
theorem d_CA_isKey_7 : decode c_CA_isKey 7 = .ok (.iload_n 0, 1) := by decide +kernel
theorem d_CA_isKey_8 : decode c_CA_isKey 8 = .ok (.sipush 32767, 3) := by decide +kernel
theorem d_CA_isKey_11 : decode c_CA_isKey 11 = .ok (.if_icmp .gt 7, 3) := by decide +kernel
theorem d_CA_isKey_14 : decode c_CA_isKey 14 = .ok (.iconst 1, 1) := by decide +kernel
theorem d_CA_isKey_15 : decode c_CA_isKey 15 = .ok (.goto 4, 3) := by decide +kernel
theorem d_CA_isKey_18 : decode c_CA_isKey 18 = .ok (.iconst 0, 1) := by decide +kernel
theorem d_CA_isKey_19 : decode c_CA_isKey 19 = .ok (.ireturn, 1) := by decide +kernel
def wp_CA_isKey (post : Int32 → ST → Prop) (X : ST) (a1 : Int32) : Prop := ((a1 < (1000 : Int32) → post (0 : Int32) X) ∧ (¬ a1 < (1000 : Int32) → (((32767 : Int32) < a1 → post (0 : Int32) X) ∧ (¬ (32767 : Int32) < a1 → post (1 : Int32) X))))
set_option maxHeartbeats 4000000 in
set_option maxRecDepth 100000 in
theorem mt_CA_isKey (l : Launch) (hl9 : l.stackTraces = false) (dC : Nat → ClassId) (dI : Nat → Nat → Nat) (cA : Nat → ClassId) (ad : Nat → Nat) (hI : INJ ad 125) (sz : Nat) {X : ST} {a1 : Int32} {post : Int32 → ST → Prop} (hw : wp_CA_isKey post X a1) : Met l y_CA_isKey ws_CA_isKey ({ frames := 0, cells := 0, slots := 0, locals := 0 } : Room) (va_Pc [.int a1] (fun U => PC dC dI cA ad sz X U)) (va_Qi (fun r (u : ST) => post r u) (fun (u : ST) t => va_P (dC, dI) vwCl (wdC cA ad u) t.heap) (CA ad 125 sz)) 0 0 (CA ad 125 sz) := by
  refine Met.ofW (cc := c_CA_isKey) (maxL := 1) (ret := (some .boolean)) (by decide) rfl ?_
  intro p e s m args below meth c s₁ B hml hv
  obtain ⟨rfl, hsz, hP, hG⟩ := hv
  have hx := B.exec
  have hb := B.bytes
  have hr := B.returns
  have hts : ∀ w ∈ GW, w.before (([.int a1] : List Value).toArray) s = true := fun w h => atoms_spec (ws := ws_CA_isKey) B.pre w (List.mem_cons_of_mem _ h)
  have hown : s.vm.findClass R_CA = some m.cls := findClass_of_methodNamed B.named
  have hlocks := B.notSynchronized
  subst hsz
  have hK := hG.1
  have hG9 := hG
  have hNW := hG.2.1
  have hD0 : ∀ (X : ST), va_D (CA ad 125 s.heap.size) (wdC cA ad X) := fun _ => zwC_D hI
  have hS : va_S (CA ad 125 s.heap.size) s.heap s.heap [] := va_S.rf
  have hl := lv_entry ([.int a1]) (n := 1) (Nat.le_of_ble_eq_true rfl)
  rw [lg_entry_eq]
  generalize (lg_sl ([.int a1]) ++ List.replicate (1 - (lg_sl ([.int a1])).length) Slot.unset).toArray = ls at hl ⊢
  have hl : lv_has ls 1 [(0, .int a1)] := hl
  unfold wp_CA_isKey at hw
  refine lv_iload_n hx hb d_CA_isKey_0 rfl (lv_at hl 0 rfl) ?_
  refine lv_sipush (v := (1000 : Int32)) hx hb d_CA_isKey_1 (by decide) ?_
  refine lv_icmp_lt (tgt := 18) hx hb d_CA_isKey_4 (by decide) (fun c1 => ?_) (fun c1 => ?_)
  · have hw := hw.1 c1
    refine lv_iconst (v := (0 : Int32)) hx hb d_CA_isKey_18 (by decide) ?_
    exact W.zret (v := (0 : Int32)) hx hb hr (by decide) (fun t ht _ => ⟨⟨(0 : Int32), X, rfl, hw, by show va_P _ _ _ t.heap; rw [ht]; exact hP⟩, hS.F ht⟩) hS.2.2 d_CA_isKey_19
  · have hw := hw.2 c1
    refine lv_iload_n hx hb d_CA_isKey_7 rfl (lv_at hl 0 rfl) ?_
    refine lv_sipush (v := (32767 : Int32)) hx hb d_CA_isKey_8 (by decide) ?_
    refine lv_icmp_gt (tgt := 18) hx hb d_CA_isKey_11 (by decide) (fun c2 => ?_) (fun c2 => ?_)
    · have hw := hw.1 c2
      refine lv_iconst (v := (0 : Int32)) hx hb d_CA_isKey_18 (by decide) ?_
      exact W.zret (v := (0 : Int32)) hx hb hr (by decide) (fun t ht _ => ⟨⟨(0 : Int32), X, rfl, hw, by show va_P _ _ _ t.heap; rw [ht]; exact hP⟩, hS.F ht⟩) hS.2.2 d_CA_isKey_19
    · have hw := hw.2 c2
      refine lv_iconst (v := (1 : Int32)) hx hb d_CA_isKey_14 (by decide) ?_
      refine lv_goto (tgt := 19) hx hb d_CA_isKey_15 (by decide) ?_
      exact W.zret (v := (1 : Int32)) hx hb hr (by decide) (fun t ht _ => ⟨⟨(1 : Int32), X, rfl, hw, by show va_P _ _ _ t.heap; rw [ht]; exact hP⟩, hS.F ht⟩) hS.2.2 d_CA_isKey_19
def ws_CA_powerModulo : List Cond := Cond.code y_CA_powerModulo c_CA_powerModulo 6 (Option.some Jvm.ClassFile.FieldType.int) :: GW
theorem d_CA_powerModulo_0 : decode c_CA_powerModulo 0 = .ok (.iconst 1, 1) := by decide +kernel
theorem d_CA_powerModulo_1 : decode c_CA_powerModulo 1 = .ok (.istore_n 3, 1) := by decide +kernel
theorem d_CA_powerModulo_2 : decode c_CA_powerModulo 2 = .ok (.iload_n 0, 1) := by decide +kernel
theorem d_CA_powerModulo_3 : decode c_CA_powerModulo 3 = .ok (.iload_n 2, 1) := by decide +kernel
theorem d_CA_powerModulo_4 : decode c_CA_powerModulo 4 = .ok (.irem, 1) := by decide +kernel
theorem d_CA_powerModulo_5 : decode c_CA_powerModulo 5 = .ok (.istore 4, 2) := by decide +kernel
theorem d_CA_powerModulo_7 : decode c_CA_powerModulo 7 = .ok (.iload_n 1, 1) := by decide +kernel
theorem d_CA_powerModulo_8 : decode c_CA_powerModulo 8 = .ok (.istore 5, 2) := by decide +kernel
theorem d_CA_powerModulo_10 : decode c_CA_powerModulo 10 = .ok (.iload 5, 2) := by decide +kernel
theorem d_CA_powerModulo_12 : decode c_CA_powerModulo 12 = .ok (.ifCond .le 36, 3) := by decide +kernel
theorem d_CA_powerModulo_15 : decode c_CA_powerModulo 15 = .ok (.iload 5, 2) := by decide +kernel
theorem d_CA_powerModulo_17 : decode c_CA_powerModulo 17 = .ok (.iconst 1, 1) := by decide +kernel
theorem d_CA_powerModulo_18 : decode c_CA_powerModulo 18 = .ok (.iand, 1) := by decide +kernel
theorem d_CA_powerModulo_19 : decode c_CA_powerModulo 19 = .ok (.iconst 1, 1) := by decide +kernel
theorem d_CA_powerModulo_20 : decode c_CA_powerModulo 20 = .ok (.if_icmp .ne 10, 3) := by decide +kernel
theorem d_CA_powerModulo_23 : decode c_CA_powerModulo 23 = .ok (.iload_n 3, 1) := by decide +kernel
theorem d_CA_powerModulo_24 : decode c_CA_powerModulo 24 = .ok (.iload 4, 2) := by decide +kernel
theorem d_CA_powerModulo_26 : decode c_CA_powerModulo 26 = .ok (.imul, 1) := by decide +kernel
theorem d_CA_powerModulo_27 : decode c_CA_powerModulo 27 = .ok (.iload_n 2, 1) := by decide +kernel
theorem d_CA_powerModulo_28 : decode c_CA_powerModulo 28 = .ok (.irem, 1) := by decide +kernel
theorem d_CA_powerModulo_29 : decode c_CA_powerModulo 29 = .ok (.istore_n 3, 1) := by decide +kernel
theorem d_CA_powerModulo_30 : decode c_CA_powerModulo 30 = .ok (.iload 4, 2) := by decide +kernel
theorem d_CA_powerModulo_32 : decode c_CA_powerModulo 32 = .ok (.iload 4, 2) := by decide +kernel
theorem d_CA_powerModulo_34 : decode c_CA_powerModulo 34 = .ok (.imul, 1) := by decide +kernel
theorem d_CA_powerModulo_35 : decode c_CA_powerModulo 35 = .ok (.iload_n 2, 1) := by decide +kernel
theorem d_CA_powerModulo_36 : decode c_CA_powerModulo 36 = .ok (.irem, 1) := by decide +kernel
theorem d_CA_powerModulo_37 : decode c_CA_powerModulo 37 = .ok (.istore 4, 2) := by decide +kernel
theorem d_CA_powerModulo_39 : decode c_CA_powerModulo 39 = .ok (.iload 5, 2) := by decide +kernel
theorem d_CA_powerModulo_41 : decode c_CA_powerModulo 41 = .ok (.iconst 1, 1) := by decide +kernel
theorem d_CA_powerModulo_42 : decode c_CA_powerModulo 42 = .ok (.ishr, 1) := by decide +kernel
theorem d_CA_powerModulo_43 : decode c_CA_powerModulo 43 = .ok (.istore 5, 2) := by decide +kernel
theorem d_CA_powerModulo_45 : decode c_CA_powerModulo 45 = .ok (.goto (-35), 3) := by decide +kernel
theorem d_CA_powerModulo_48 : decode c_CA_powerModulo 48 = .ok (.iload_n 3, 1) := by decide +kernel
theorem d_CA_powerModulo_49 : decode c_CA_powerModulo 49 = .ok (.ireturn, 1) := by decide +kernel
def wq_CA_powerModulo_30 (post : Int32 → ST → Prop) (J10 : Int32 → Int32 → Int32 → ST → Prop) (v2 : Int32) (v3 : Int32) (v4 : Int32) (v5 : Int32) (X : ST) : Prop := (¬ v2 = 0 ∧ J10 v3 ((v4 * v4) - (v4 * v4) / v2 * v2) (v5 >>> ((1 : Int32) &&& 31)) X)
def wq_CA_powerModulo_10 (post : Int32 → ST → Prop) (v2 : Int32) : Nat → Int32 → Int32 → Int32 → ST → Prop
  | 0 => fun _ _ _ _ => False
  | n + 1 => fun v3 v4 v5 X => ((v5 ≤ 0 → post v3 X) ∧ (¬ v5 ≤ 0 → (((v5 &&& (1 : Int32)) = (1 : Int32) → (¬ v2 = 0 ∧ wq_CA_powerModulo_30 post (wq_CA_powerModulo_10 post v2 n) v2 ((v3 * v4) - (v3 * v4) / v2 * v2) v4 v5 X)) ∧ (¬ (v5 &&& (1 : Int32)) = (1 : Int32) → wq_CA_powerModulo_30 post (wq_CA_powerModulo_10 post v2 n) v2 v3 v4 v5 X))))
def wp_CA_powerModulo (post : Int32 → ST → Prop) (X : ST) (a1 : Int32) (a2 : Int32) (a3 : Int32) : Prop := (¬ a3 = 0 ∧ (∃ n9, wq_CA_powerModulo_10 post a3 n9 (1 : Int32) (a1 - a1 / a3 * a3) a2 X))
set_option maxHeartbeats 4000000 in
set_option maxRecDepth 100000 in
theorem mt_CA_powerModulo (l : Launch) (hl9 : l.stackTraces = false) (dC : Nat → ClassId) (dI : Nat → Nat → Nat) (cA : Nat → ClassId) (ad : Nat → Nat) (hI : INJ ad 125) (sz : Nat) {X : ST} {a1 : Int32} {a2 : Int32} {a3 : Int32} {post : Int32 → ST → Prop} (hw : wp_CA_powerModulo post X a1 a2 a3) : Met l y_CA_powerModulo ws_CA_powerModulo ({ frames := 0, cells := 0, slots := 0, locals := 0 } : Room) (va_Pc [.int a1, .int a2, .int a3] (fun U => PC dC dI cA ad sz X U)) (va_Qi (fun r (u : ST) => post r u) (fun (u : ST) t => va_P (dC, dI) vwCl (wdC cA ad u) t.heap) (CA ad 125 sz)) 0 0 (CA ad 125 sz) := by
  refine Met.ofW (cc := c_CA_powerModulo) (maxL := 6) (ret := (some .int)) (by decide) rfl ?_
  intro p e s m args below meth c s₁ B hml hv
  obtain ⟨rfl, hsz, hP, hG⟩ := hv
  have hx := B.exec
  have hb := B.bytes
  have hr := B.returns
  have hts : ∀ w ∈ GW, w.before (([.int a1, .int a2, .int a3] : List Value).toArray) s = true := fun w h => atoms_spec (ws := ws_CA_powerModulo) B.pre w (List.mem_cons_of_mem _ h)
  have hown : s.vm.findClass R_CA = some m.cls := findClass_of_methodNamed B.named
  have hlocks := B.notSynchronized
  subst hsz
  have hK := hG.1
  have hG9 := hG
  have hNW := hG.2.1
  have hD0 : ∀ (X : ST), va_D (CA ad 125 s.heap.size) (wdC cA ad X) := fun _ => zwC_D hI
  have hS : va_S (CA ad 125 s.heap.size) s.heap s.heap [] := va_S.rf
  have hl := lv_entry ([.int a1, .int a2, .int a3]) (n := 6) (Nat.le_of_ble_eq_true rfl)
  rw [lg_entry_eq]
  generalize (lg_sl ([.int a1, .int a2, .int a3]) ++ List.replicate (6 - (lg_sl ([.int a1, .int a2, .int a3])).length) Slot.unset).toArray = ls at hl ⊢
  have hl : lv_has ls 6 [(0, .int a1), (1, .int a2), (2, .int a3)] := hl
  have L30 : ∀ (v2 : Int32), ∀ (J10 : Int32 → Int32 → Int32 → ST → Prop), (∀ (v3 : Int32) (v4 : Int32) (v5 : Int32) (X : ST) (H : Heap) (locs : List Loc) (ls : Array Slot), J10 v3 v4 v5 X → va_P (dC, dI) vwCl (wdC cA ad X) H → va_S (CA ad 125 s.heap.size) s.heap H locs → lv_has ls 6 [(2, .int v2), (3, .int v3), (4, .int v4), (5, .int v5)] → W p l e (headSpec ws_CA_powerModulo ({ frames := 0, cells := 0, slots := 0, locals := 0 } : Room)).room s m (([.int a1, .int a2, .int a3] : List Value).toArray) below meth c H locs 0 0 (MQ below (va_Qi (fun r (u : ST) => post r u) (fun (u : ST) t => va_P (dC, dI) vwCl (wdC cA ad u) t.heap) (CA ad 125 s.heap.size)) (([.int a1, .int a2, .int a3] : List Value).toArray) s 0 0 (CA ad 125 s.heap.size)) (F0 m 10 ls [])) → ∀ (v3 : Int32) (v4 : Int32) (v5 : Int32) (X : ST) (H : Heap) (locs : List Loc) (ls : Array Slot), wq_CA_powerModulo_30 post J10 v2 v3 v4 v5 X → va_P (dC, dI) vwCl (wdC cA ad X) H → va_S (CA ad 125 s.heap.size) s.heap H locs → lv_has ls 6 [(2, .int v2), (3, .int v3), (4, .int v4), (5, .int v5)] → W p l e (headSpec ws_CA_powerModulo ({ frames := 0, cells := 0, slots := 0, locals := 0 } : Room)).room s m (([.int a1, .int a2, .int a3] : List Value).toArray) below meth c H locs 0 0 (MQ below (va_Qi (fun r (u : ST) => post r u) (fun (u : ST) t => va_P (dC, dI) vwCl (wdC cA ad u) t.heap) (CA ad 125 s.heap.size)) (([.int a1, .int a2, .int a3] : List Value).toArray) s 0 0 (CA ad 125 s.heap.size)) (F0 m 30 ls []) := by
    intro v2 J10 hJ10 v3 v4 v5 X H locs ls hw hP hS hl
    unfold wq_CA_powerModulo_30 at hw
    refine lv_iload hx hb d_CA_powerModulo_30 (lv_at hl 2 rfl) ?_
    refine lv_iload hx hb d_CA_powerModulo_32 (lv_at hl 2 rfl) ?_
    refine lv_imul hx hb d_CA_powerModulo_34 ?_
    refine lv_iload_n hx hb d_CA_powerModulo_35 rfl (lv_at hl 0 rfl) ?_
    obtain ⟨h1, hw⟩ := hw
    refine lv_irem hx hb d_CA_powerModulo_36 h1 ?_
    refine lv_istore (lv' := [(4, .int ((v4 * v4) - (v4 * v4) / v2 * v2)), (2, .int v2), (3, .int v3), (5, .int v5)]) hx hb d_CA_powerModulo_37 hl (by decide) rfl (fun ls hl => ?_)
    refine lv_iload hx hb d_CA_powerModulo_39 (lv_at hl 3 rfl) ?_
    refine lv_iconst (v := (1 : Int32)) hx hb d_CA_powerModulo_41 (by decide) ?_
    refine lv_ishr hx hb d_CA_powerModulo_42 ?_
    refine lv_istore (lv' := [(5, .int (v5 >>> ((1 : Int32) &&& 31))), (4, .int ((v4 * v4) - (v4 * v4) / v2 * v2)), (2, .int v2), (3, .int v3)]) hx hb d_CA_powerModulo_43 hl (by decide) rfl (fun ls hl => ?_)
    refine lv_goto (tgt := 10) hx hb d_CA_powerModulo_45 (by decide) ?_
    have hl := lv_sub hl (l' := [(2, .int v2), (3, .int v3), (4, .int ((v4 * v4) - (v4 * v4) / v2 * v2)), (5, .int (v5 >>> ((1 : Int32) &&& 31)))]) [2, 3, 1, 0] rfl
    exact hJ10 _ _ _ _ _ _ _ hw hP hS hl
  have L10 : ∀ (v2 : Int32), ∀ (n : Nat), ∀ (v3 : Int32) (v4 : Int32) (v5 : Int32) (X : ST) (H : Heap) (locs : List Loc) (ls : Array Slot), wq_CA_powerModulo_10 post v2 n v3 v4 v5 X → va_P (dC, dI) vwCl (wdC cA ad X) H → va_S (CA ad 125 s.heap.size) s.heap H locs → lv_has ls 6 [(2, .int v2), (3, .int v3), (4, .int v4), (5, .int v5)] → W p l e (headSpec ws_CA_powerModulo ({ frames := 0, cells := 0, slots := 0, locals := 0 } : Room)).room s m (([.int a1, .int a2, .int a3] : List Value).toArray) below meth c H locs 0 0 (MQ below (va_Qi (fun r (u : ST) => post r u) (fun (u : ST) t => va_P (dC, dI) vwCl (wdC cA ad u) t.heap) (CA ad 125 s.heap.size)) (([.int a1, .int a2, .int a3] : List Value).toArray) s 0 0 (CA ad 125 s.heap.size)) (F0 m 10 ls []) := by
    intro v2 n
    induction n with
    | zero => intro v3 v4 v5 X H locs ls hw hP hS hl; exact False.elim hw
    | succ n ih =>
      intro v3 v4 v5 X H locs ls hw hP hS hl
      dsimp only [wq_CA_powerModulo_10] at hw
      refine lv_iload hx hb d_CA_powerModulo_10 (lv_at hl 3 rfl) ?_
      refine lv_if_le (tgt := 48) hx hb d_CA_powerModulo_12 (by decide) (fun c2 => ?_) (fun c2 => ?_)
      · have hw := hw.1 c2
        refine lv_iload_n hx hb d_CA_powerModulo_48 rfl (lv_at hl 1 rfl) ?_
        exact W.iret (v := v3) hx hb hr (fun t ht _ => ⟨⟨v3, X, rfl, hw, by show va_P _ _ _ t.heap; rw [ht]; exact hP⟩, hS.F ht⟩) hS.2.2 d_CA_powerModulo_49
      · have hw := hw.2 c2
        refine lv_iload hx hb d_CA_powerModulo_15 (lv_at hl 3 rfl) ?_
        refine lv_iconst (v := (1 : Int32)) hx hb d_CA_powerModulo_17 (by decide) ?_
        refine lv_iand hx hb d_CA_powerModulo_18 ?_
        refine lv_iconst (v := (1 : Int32)) hx hb d_CA_powerModulo_19 (by decide) ?_
        refine lv_icmp_ne (tgt := 30) hx hb d_CA_powerModulo_20 (by decide) (fun c3 => ?_) (fun c3 => ?_)
        · have hw := hw.2 c3
          have hl := lv_sub hl (l' := [(2, .int v2), (3, .int v3), (4, .int v4), (5, .int v5)]) [0, 1, 2, 3] rfl
          exact L30 _ (wq_CA_powerModulo_10 post v2 n) ih _ _ _ _ _ _ _ hw hP hS hl
        · have hw := hw.1 c3
          refine lv_iload_n hx hb d_CA_powerModulo_23 rfl (lv_at hl 1 rfl) ?_
          refine lv_iload hx hb d_CA_powerModulo_24 (lv_at hl 2 rfl) ?_
          refine lv_imul hx hb d_CA_powerModulo_26 ?_
          refine lv_iload_n hx hb d_CA_powerModulo_27 rfl (lv_at hl 0 rfl) ?_
          obtain ⟨h4, hw⟩ := hw
          refine lv_irem hx hb d_CA_powerModulo_28 h4 ?_
          refine lv_istore_n (lv' := [(3, .int ((v3 * v4) - (v3 * v4) / v2 * v2)), (2, .int v2), (4, .int v4), (5, .int v5)]) hx hb d_CA_powerModulo_29 rfl hl (by decide) rfl (fun ls hl => ?_)
          have hl := lv_sub hl (l' := [(2, .int v2), (3, .int ((v3 * v4) - (v3 * v4) / v2 * v2)), (4, .int v4), (5, .int v5)]) [1, 0, 2, 3] rfl
          exact L30 _ (wq_CA_powerModulo_10 post v2 n) ih _ _ _ _ _ _ _ hw hP hS hl
  unfold wp_CA_powerModulo at hw
  refine lv_iconst (v := (1 : Int32)) hx hb d_CA_powerModulo_0 (by decide) ?_
  refine lv_istore_n (lv' := [(3, .int (1 : Int32)), (0, .int a1), (1, .int a2), (2, .int a3)]) hx hb d_CA_powerModulo_1 rfl hl (by decide) rfl (fun ls hl => ?_)
  refine lv_iload_n hx hb d_CA_powerModulo_2 rfl (lv_at hl 1 rfl) ?_
  refine lv_iload_n hx hb d_CA_powerModulo_3 rfl (lv_at hl 3 rfl) ?_
  obtain ⟨h5, hw⟩ := hw
  refine lv_irem hx hb d_CA_powerModulo_4 h5 ?_
  refine lv_istore (lv' := [(4, .int (a1 - a1 / a3 * a3)), (3, .int (1 : Int32)), (0, .int a1), (1, .int a2), (2, .int a3)]) hx hb d_CA_powerModulo_5 hl (by decide) rfl (fun ls hl => ?_)
  refine lv_iload_n hx hb d_CA_powerModulo_7 rfl (lv_at hl 3 rfl) ?_
  refine lv_istore (lv' := [(5, .int a2), (4, .int (a1 - a1 / a3 * a3)), (3, .int (1 : Int32)), (0, .int a1), (1, .int a2), (2, .int a3)]) hx hb d_CA_powerModulo_8 hl (by decide) rfl (fun ls hl => ?_)
  have hl := lv_sub hl (l' := [(2, .int a3), (3, .int (1 : Int32)), (4, .int (a1 - a1 / a3 * a3)), (5, .int a2)]) [5, 2, 1, 0] rfl
  obtain ⟨n9, hw⟩ := hw
  exact L10 _ n9 _ _ _ _ _ _ _ hw hP hS hl
end
