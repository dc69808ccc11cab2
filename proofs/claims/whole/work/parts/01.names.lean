-- ===== PART A: goes FIRST, ahead of the names: the tables' words, and 'selects' of the private methods out of them =====
/-- a private method of a class that the tables say can be made, by its rows of tables_1 -/
def lw_okq (q : MethodName × Nat) : Prop := (q.1.cls ≠ "java/lang/invoke/MethodHandle" ∧ q.1.cls ≠ "java/lang/invoke/VarHandle") ∧ Cond.instantiable q.1.cls q.2 ∈ tables_1 ∧ Cond.privateMethod q.1 ∈ tables_1 ∧ Cond.instanceMethod q.1 ∈ tables_1
theorem lw_p0 : lw_okq (⟨"KeyFob$Hash", "mixBlock", "()V"⟩, 3) := ⟨⟨by decide +kernel, by decide +kernel⟩, List.mem_of_getElem? (i := 89) (by decide +kernel), List.mem_of_getElem? (i := 118) (by decide +kernel), List.mem_of_getElem? (i := 119) (by decide +kernel)⟩
theorem lw_p1 : lw_okq (⟨"KeyFob$Curve", "enter", "(LKeyFob$Point;)V"⟩, 12) := ⟨⟨by decide +kernel, by decide +kernel⟩, List.mem_of_getElem? (i := 252) (by decide +kernel), List.mem_of_getElem? (i := 339) (by decide +kernel), List.mem_of_getElem? (i := 340) (by decide +kernel)⟩
theorem lw_p2 : lw_okq (⟨"KeyFob$Curve", "fillBetween", "([LKeyFob$Point;)V"⟩, 12) := ⟨⟨by decide +kernel, by decide +kernel⟩, List.mem_of_getElem? (i := 252) (by decide +kernel), List.mem_of_getElem? (i := 347) (by decide +kernel), List.mem_of_getElem? (i := 348) (by decide +kernel)⟩
theorem lw_p3 : lw_okq (⟨"KeyFob$Tape", "isMap", "()Z"⟩, 8) := ⟨⟨by decide +kernel, by decide +kernel⟩, List.mem_of_getElem? (i := 26) (by decide +kernel), List.mem_of_getElem? (i := 548) (by decide +kernel), List.mem_of_getElem? (i := 549) (by decide +kernel)⟩
theorem lw_p4 : lw_okq (⟨"KeyFob$Tape", "nextByte", "()I"⟩, 8) := ⟨⟨by decide +kernel, by decide +kernel⟩, List.mem_of_getElem? (i := 26) (by decide +kernel), List.mem_of_getElem? (i := 552) (by decide +kernel), List.mem_of_getElem? (i := 553) (by decide +kernel)⟩
theorem lw_p5 : lw_okq (⟨"KeyFob$Tape", "readValue", "(I)Z"⟩, 8) := ⟨⟨by decide +kernel, by decide +kernel⟩, List.mem_of_getElem? (i := 26) (by decide +kernel), List.mem_of_getElem? (i := 556) (by decide +kernel), List.mem_of_getElem? (i := 557) (by decide +kernel)⟩
theorem lw_p6 : lw_okq (⟨"KeyFob$Tape", "note", "(IIII)Z"⟩, 8) := ⟨⟨by decide +kernel, by decide +kernel⟩, List.mem_of_getElem? (i := 26) (by decide +kernel), List.mem_of_getElem? (i := 560) (by decide +kernel), List.mem_of_getElem? (i := 561) (by decide +kernel)⟩
theorem lw_p7 : lw_okq (⟨"KeyFob$Tape", "readTwo", "()I"⟩, 8) := ⟨⟨by decide +kernel, by decide +kernel⟩, List.mem_of_getElem? (i := 26) (by decide +kernel), List.mem_of_getElem? (i := 564) (by decide +kernel), List.mem_of_getElem? (i := 565) (by decide +kernel)⟩
theorem lw_p8 : lw_okq (⟨"KeyFob$Tape", "readShort", "(I)I"⟩, 8) := ⟨⟨by decide +kernel, by decide +kernel⟩, List.mem_of_getElem? (i := 26) (by decide +kernel), List.mem_of_getElem? (i := 568) (by decide +kernel), List.mem_of_getElem? (i := 569) (by decide +kernel)⟩
theorem lw_p9 : lw_okq (⟨"KeyFob$Tape", "readBytes", "(III)Z"⟩, 8) := ⟨⟨by decide +kernel, by decide +kernel⟩, List.mem_of_getElem? (i := 26) (by decide +kernel), List.mem_of_getElem? (i := 572) (by decide +kernel), List.mem_of_getElem? (i := 573) (by decide +kernel)⟩
theorem lw_p10 : lw_okq (⟨"KeyFob$Tape", "skip", "(I)Z"⟩, 8) := ⟨⟨by decide +kernel, by decide +kernel⟩, List.mem_of_getElem? (i := 26) (by decide +kernel), List.mem_of_getElem? (i := 576) (by decide +kernel), List.mem_of_getElem? (i := 577) (by decide +kernel)⟩
theorem lw_p11 : lw_okq (⟨"KeyFob$Tape", "readList", "(II)Z"⟩, 8) := ⟨⟨by decide +kernel, by decide +kernel⟩, List.mem_of_getElem? (i := 26) (by decide +kernel), List.mem_of_getElem? (i := 580) (by decide +kernel), List.mem_of_getElem? (i := 581) (by decide +kernel)⟩
theorem lw_p12 : lw_okq (⟨"KeyFob$Tape", "kindOf", "(I)I"⟩, 8) := ⟨⟨by decide +kernel, by decide +kernel⟩, List.mem_of_getElem? (i := 26) (by decide +kernel), List.mem_of_getElem? (i := 588) (by decide +kernel), List.mem_of_getElem? (i := 589) (by decide +kernel)⟩
theorem lw_p13 : lw_okq (⟨"KeyFob$Tape", "fits", "(III)Z"⟩, 8) := ⟨⟨by decide +kernel, by decide +kernel⟩, List.mem_of_getElem? (i := 26) (by decide +kernel), List.mem_of_getElem? (i := 592) (by decide +kernel), List.mem_of_getElem? (i := 593) (by decide +kernel)⟩
theorem lw_p14 : lw_okq (⟨"KeyFob", "makeKey", "()I"⟩, 13) := ⟨⟨by decide +kernel, by decide +kernel⟩, List.mem_of_getElem? (i := 18) (by decide +kernel), List.mem_of_getElem? (i := 607) (by decide +kernel), List.mem_of_getElem? (i := 608) (by decide +kernel)⟩
theorem lw_p15 : lw_okq (⟨"KeyFob", "readHouse", "(I)V"⟩, 13) := ⟨⟨by decide +kernel, by decide +kernel⟩, List.mem_of_getElem? (i := 18) (by decide +kernel), List.mem_of_getElem? (i := 619) (by decide +kernel), List.mem_of_getElem? (i := 620) (by decide +kernel)⟩
def lw_privs_1 : List (MethodName × Nat) := [(⟨"KeyFob$Hash", "mixBlock", "()V"⟩, 3), (⟨"KeyFob$Curve", "enter", "(LKeyFob$Point;)V"⟩, 12), (⟨"KeyFob$Curve", "fillBetween", "([LKeyFob$Point;)V"⟩, 12), (⟨"KeyFob$Tape", "isMap", "()Z"⟩, 8), (⟨"KeyFob$Tape", "nextByte", "()I"⟩, 8), (⟨"KeyFob$Tape", "readValue", "(I)Z"⟩, 8), (⟨"KeyFob$Tape", "note", "(IIII)Z"⟩, 8), (⟨"KeyFob$Tape", "readTwo", "()I"⟩, 8), (⟨"KeyFob$Tape", "readShort", "(I)I"⟩, 8), (⟨"KeyFob$Tape", "readBytes", "(III)Z"⟩, 8), (⟨"KeyFob$Tape", "skip", "(I)Z"⟩, 8), (⟨"KeyFob$Tape", "readList", "(II)Z"⟩, 8), (⟨"KeyFob$Tape", "kindOf", "(I)I"⟩, 8), (⟨"KeyFob$Tape", "fits", "(III)Z"⟩, 8), (⟨"KeyFob", "makeKey", "()I"⟩, 13), (⟨"KeyFob", "readHouse", "(I)V"⟩, 13)]
theorem lw_r1 : ∀ q ∈ lw_privs_1, lw_okq q := List.forall_mem_cons.mpr ⟨lw_p0, List.forall_mem_cons.mpr ⟨lw_p1, List.forall_mem_cons.mpr ⟨lw_p2, List.forall_mem_cons.mpr ⟨lw_p3, List.forall_mem_cons.mpr ⟨lw_p4, List.forall_mem_cons.mpr ⟨lw_p5, List.forall_mem_cons.mpr ⟨lw_p6, List.forall_mem_cons.mpr ⟨lw_p7, List.forall_mem_cons.mpr ⟨lw_p8, List.forall_mem_cons.mpr ⟨lw_p9, List.forall_mem_cons.mpr ⟨lw_p10, List.forall_mem_cons.mpr ⟨lw_p11, List.forall_mem_cons.mpr ⟨lw_p12, List.forall_mem_cons.mpr ⟨lw_p13, List.forall_mem_cons.mpr ⟨lw_p14, List.forall_mem_cons.mpr ⟨lw_p15, fun _ h => absurd h List.not_mem_nil⟩⟩⟩⟩⟩⟩⟩⟩⟩⟩⟩⟩⟩⟩⟩⟩
theorem lw_p16 : lw_okq (⟨"KeyFob", "refusalToMake", "(I)I"⟩, 13) := ⟨⟨by decide +kernel, by decide +kernel⟩, List.mem_of_getElem? (i := 18) (by decide +kernel), List.mem_of_getElem? (i := 644) (by decide +kernel), List.mem_of_getElem? (i := 645) (by decide +kernel)⟩
theorem lw_p17 : lw_okq (⟨"KeyFob$Vault", "beginMac", "(I)V"⟩, 9) := ⟨⟨by decide +kernel, by decide +kernel⟩, List.mem_of_getElem? (i := 83) (by decide +kernel), List.mem_of_getElem? (i := 662) (by decide +kernel), List.mem_of_getElem? (i := 663) (by decide +kernel)⟩
theorem lw_p18 : lw_okq (⟨"KeyFob", "fillKey", "(LKeyFob$Key;)V"⟩, 13) := ⟨⟨by decide +kernel, by decide +kernel⟩, List.mem_of_getElem? (i := 18) (by decide +kernel), List.mem_of_getElem? (i := 673) (by decide +kernel), List.mem_of_getElem? (i := 674) (by decide +kernel)⟩
theorem lw_p19 : lw_okq (⟨"KeyFob$Field", "isBelow", "([J)Z"⟩, 6) := ⟨⟨by decide +kernel, by decide +kernel⟩, List.mem_of_getElem? (i := 258) (by decide +kernel), List.mem_of_getElem? (i := 690) (by decide +kernel), List.mem_of_getElem? (i := 691) (by decide +kernel)⟩
theorem lw_p20 : lw_okq (⟨"KeyFob", "writeData", "(LKeyFob$Key;I)V"⟩, 13) := ⟨⟨by decide +kernel, by decide +kernel⟩, List.mem_of_getElem? (i := 18) (by decide +kernel), List.mem_of_getElem? (i := 727) (by decide +kernel), List.mem_of_getElem? (i := 728) (by decide +kernel)⟩
theorem lw_p21 : lw_okq (⟨"KeyFob$Signer", "remember", "([I)V"⟩, 17) := ⟨⟨by decide +kernel, by decide +kernel⟩, List.mem_of_getElem? (i := 246) (by decide +kernel), List.mem_of_getElem? (i := 744) (by decide +kernel), List.mem_of_getElem? (i := 745) (by decide +kernel)⟩
theorem lw_p22 : lw_okq (⟨"KeyFob$Signer", "drawNonce", "([II)V"⟩, 17) := ⟨⟨by decide +kernel, by decide +kernel⟩, List.mem_of_getElem? (i := 246) (by decide +kernel), List.mem_of_getElem? (i := 750) (by decide +kernel), List.mem_of_getElem? (i := 751) (by decide +kernel)⟩
theorem lw_p23 : lw_okq (⟨"KeyFob$Signer", "solve", "([I)V"⟩, 17) := ⟨⟨by decide +kernel, by decide +kernel⟩, List.mem_of_getElem? (i := 246) (by decide +kernel), List.mem_of_getElem? (i := 755) (by decide +kernel), List.mem_of_getElem? (i := 756) (by decide +kernel)⟩
theorem lw_p24 : lw_okq (⟨"KeyFob", "findKeys", "()I"⟩, 13) := ⟨⟨by decide +kernel, by decide +kernel⟩, List.mem_of_getElem? (i := 18) (by decide +kernel), List.mem_of_getElem? (i := 779) (by decide +kernel), List.mem_of_getElem? (i := 780) (by decide +kernel)⟩
theorem lw_p25 : lw_okq (⟨"KeyFob", "refusalToGet", "(Z)I"⟩, 13) := ⟨⟨by decide +kernel, by decide +kernel⟩, List.mem_of_getElem? (i := 18) (by decide +kernel), List.mem_of_getElem? (i := 791) (by decide +kernel), List.mem_of_getElem? (i := 792) (by decide +kernel)⟩
theorem lw_p26 : lw_okq (⟨"KeyFob", "assertFirst", "(I)I"⟩, 13) := ⟨⟨by decide +kernel, by decide +kernel⟩, List.mem_of_getElem? (i := 18) (by decide +kernel), List.mem_of_getElem? (i := 804) (by decide +kernel), List.mem_of_getElem? (i := 805) (by decide +kernel)⟩
theorem lw_p27 : lw_okq (⟨"KeyFob", "usePin", "()I"⟩, 13) := ⟨⟨by decide +kernel, by decide +kernel⟩, List.mem_of_getElem? (i := 18) (by decide +kernel), List.mem_of_getElem? (i := 818) (by decide +kernel), List.mem_of_getElem? (i := 819) (by decide +kernel)⟩
theorem lw_p28 : lw_okq (⟨"KeyFob", "refusalOfPin", "(I)I"⟩, 13) := ⟨⟨by decide +kernel, by decide +kernel⟩, List.mem_of_getElem? (i := 18) (by decide +kernel), List.mem_of_getElem? (i := 822) (by decide +kernel), List.mem_of_getElem? (i := 823) (by decide +kernel)⟩
theorem lw_p29 : lw_okq (⟨"KeyFob", "reset", "()I"⟩, 13) := ⟨⟨by decide +kernel, by decide +kernel⟩, List.mem_of_getElem? (i := 18) (by decide +kernel), List.mem_of_getElem? (i := 835) (by decide +kernel), List.mem_of_getElem? (i := 836) (by decide +kernel)⟩
theorem lw_p30 : lw_okq (⟨"KeyFob$Signer", "addMultiples", "()V"⟩, 17) := ⟨⟨by decide +kernel, by decide +kernel⟩, List.mem_of_getElem? (i := 246) (by decide +kernel), List.mem_of_getElem? (i := 890) (by decide +kernel), List.mem_of_getElem? (i := 891) (by decide +kernel)⟩
theorem lw_p31 : lw_okq (⟨"KeyFobModel", "begin", "()V"⟩, 75) := ⟨⟨by decide +kernel, by decide +kernel⟩, List.mem_of_getElem? (i := 915) (by decide +kernel), List.mem_of_getElem? (i := 921) (by decide +kernel), List.mem_of_getElem? (i := 922) (by decide +kernel)⟩
def lw_privs_2 : List (MethodName × Nat) := [(⟨"KeyFob", "refusalToMake", "(I)I"⟩, 13), (⟨"KeyFob$Vault", "beginMac", "(I)V"⟩, 9), (⟨"KeyFob", "fillKey", "(LKeyFob$Key;)V"⟩, 13), (⟨"KeyFob$Field", "isBelow", "([J)Z"⟩, 6), (⟨"KeyFob", "writeData", "(LKeyFob$Key;I)V"⟩, 13), (⟨"KeyFob$Signer", "remember", "([I)V"⟩, 17), (⟨"KeyFob$Signer", "drawNonce", "([II)V"⟩, 17), (⟨"KeyFob$Signer", "solve", "([I)V"⟩, 17), (⟨"KeyFob", "findKeys", "()I"⟩, 13), (⟨"KeyFob", "refusalToGet", "(Z)I"⟩, 13), (⟨"KeyFob", "assertFirst", "(I)I"⟩, 13), (⟨"KeyFob", "usePin", "()I"⟩, 13), (⟨"KeyFob", "refusalOfPin", "(I)I"⟩, 13), (⟨"KeyFob", "reset", "()I"⟩, 13), (⟨"KeyFob$Signer", "addMultiples", "()V"⟩, 17), (⟨"KeyFobModel", "begin", "()V"⟩, 75)]
theorem lw_r2 : ∀ q ∈ lw_privs_2, lw_okq q := List.forall_mem_cons.mpr ⟨lw_p16, List.forall_mem_cons.mpr ⟨lw_p17, List.forall_mem_cons.mpr ⟨lw_p18, List.forall_mem_cons.mpr ⟨lw_p19, List.forall_mem_cons.mpr ⟨lw_p20, List.forall_mem_cons.mpr ⟨lw_p21, List.forall_mem_cons.mpr ⟨lw_p22, List.forall_mem_cons.mpr ⟨lw_p23, List.forall_mem_cons.mpr ⟨lw_p24, List.forall_mem_cons.mpr ⟨lw_p25, List.forall_mem_cons.mpr ⟨lw_p26, List.forall_mem_cons.mpr ⟨lw_p27, List.forall_mem_cons.mpr ⟨lw_p28, List.forall_mem_cons.mpr ⟨lw_p29, List.forall_mem_cons.mpr ⟨lw_p30, List.forall_mem_cons.mpr ⟨lw_p31, fun _ h => absurd h List.not_mem_nil⟩⟩⟩⟩⟩⟩⟩⟩⟩⟩⟩⟩⟩⟩⟩⟩
theorem lw_p32 : lw_okq (⟨"KeyFobModel", "one", "(I)I"⟩, 75) := ⟨⟨by decide +kernel, by decide +kernel⟩, List.mem_of_getElem? (i := 915) (by decide +kernel), List.mem_of_getElem? (i := 925) (by decide +kernel), List.mem_of_getElem? (i := 926) (by decide +kernel)⟩
theorem lw_p33 : lw_okq (⟨"KeyFobModel", "put", "(I)V"⟩, 75) := ⟨⟨by decide +kernel, by decide +kernel⟩, List.mem_of_getElem? (i := 915) (by decide +kernel), List.mem_of_getElem? (i := 929) (by decide +kernel), List.mem_of_getElem? (i := 930) (by decide +kernel)⟩
theorem lw_p34 : lw_okq (⟨"KeyFobModel", "digestTo", "(I[II)V"⟩, 75) := ⟨⟨by decide +kernel, by decide +kernel⟩, List.mem_of_getElem? (i := 915) (by decide +kernel), List.mem_of_getElem? (i := 933) (by decide +kernel), List.mem_of_getElem? (i := 934) (by decide +kernel)⟩
theorem lw_p35 : lw_okq (⟨"KeyFobModel", "finish", "()V"⟩, 75) := ⟨⟨by decide +kernel, by decide +kernel⟩, List.mem_of_getElem? (i := 915) (by decide +kernel), List.mem_of_getElem? (i := 937) (by decide +kernel), List.mem_of_getElem? (i := 938) (by decide +kernel)⟩
theorem lw_p36 : lw_okq (⟨"KeyFobModel", "putFour", "(I)V"⟩, 75) := ⟨⟨by decide +kernel, by decide +kernel⟩, List.mem_of_getElem? (i := 915) (by decide +kernel), List.mem_of_getElem? (i := 941) (by decide +kernel), List.mem_of_getElem? (i := 942) (by decide +kernel)⟩
theorem lw_p37 : lw_okq (⟨"KeyFobModel", "block", "(I)V"⟩, 75) := ⟨⟨by decide +kernel, by decide +kernel⟩, List.mem_of_getElem? (i := 915) (by decide +kernel), List.mem_of_getElem? (i := 947) (by decide +kernel), List.mem_of_getElem? (i := 948) (by decide +kernel)⟩
theorem lw_p38 : lw_okq (⟨"KeyFobModel", "setUp", "()V"⟩, 75) := ⟨⟨by decide +kernel, by decide +kernel⟩, List.mem_of_getElem? (i := 915) (by decide +kernel), List.mem_of_getElem? (i := 959) (by decide +kernel), List.mem_of_getElem? (i := 960) (by decide +kernel)⟩
theorem lw_p39 : lw_okq (⟨"KeyFobModel", "newToken", "()V"⟩, 75) := ⟨⟨by decide +kernel, by decide +kernel⟩, List.mem_of_getElem? (i := 915) (by decide +kernel), List.mem_of_getElem? (i := 963) (by decide +kernel), List.mem_of_getElem? (i := 964) (by decide +kernel)⟩
theorem lw_p40 : lw_okq (⟨"KeyFobModel", "fresh", "()V"⟩, 75) := ⟨⟨by decide +kernel, by decide +kernel⟩, List.mem_of_getElem? (i := 915) (by decide +kernel), List.mem_of_getElem? (i := 967) (by decide +kernel), List.mem_of_getElem? (i := 968) (by decide +kernel)⟩
theorem lw_p41 : lw_okq (⟨"KeyFobModel", "put", "([III)V"⟩, 75) := ⟨⟨by decide +kernel, by decide +kernel⟩, List.mem_of_getElem? (i := 915) (by decide +kernel), List.mem_of_getElem? (i := 971) (by decide +kernel), List.mem_of_getElem? (i := 972) (by decide +kernel)⟩
theorem lw_p42 : lw_okq (⟨"KeyFobModel", "tapeFour", "(I)V"⟩, 75) := ⟨⟨by decide +kernel, by decide +kernel⟩, List.mem_of_getElem? (i := 915) (by decide +kernel), List.mem_of_getElem? (i := 1206) (by decide +kernel), List.mem_of_getElem? (i := 1207) (by decide +kernel)⟩
theorem lw_p43 : lw_okq (⟨"KeyFobModel", "goOn", "()I"⟩, 75) := ⟨⟨by decide +kernel, by decide +kernel⟩, List.mem_of_getElem? (i := 915) (by decide +kernel), List.mem_of_getElem? (i := 1226) (by decide +kernel), List.mem_of_getElem? (i := 1227) (by decide +kernel)⟩
theorem lw_p44 : lw_okq (⟨"KeyFobModel", "asserts", "(I[IIII)V"⟩, 75) := ⟨⟨by decide +kernel, by decide +kernel⟩, List.mem_of_getElem? (i := 915) (by decide +kernel), List.mem_of_getElem? (i := 1230) (by decide +kernel), List.mem_of_getElem? (i := 1231) (by decide +kernel)⟩
theorem lw_p45 : lw_okq (⟨"KeyFobModel", "beginData", "(II)V"⟩, 75) := ⟨⟨by decide +kernel, by decide +kernel⟩, List.mem_of_getElem? (i := 915) (by decide +kernel), List.mem_of_getElem? (i := 1234) (by decide +kernel), List.mem_of_getElem? (i := 1235) (by decide +kernel)⟩
theorem lw_p46 : lw_okq (⟨"KeyFobModel", "addData", "([III)V"⟩, 75) := ⟨⟨by decide +kernel, by decide +kernel⟩, List.mem_of_getElem? (i := 915) (by decide +kernel), List.mem_of_getElem? (i := 1238) (by decide +kernel), List.mem_of_getElem? (i := 1239) (by decide +kernel)⟩
theorem lw_p47 : lw_okq (⟨"KeyFobModel", "signData", "(I[II)V"⟩, 75) := ⟨⟨by decide +kernel, by decide +kernel⟩, List.mem_of_getElem? (i := 915) (by decide +kernel), List.mem_of_getElem? (i := 1242) (by decide +kernel), List.mem_of_getElem? (i := 1243) (by decide +kernel)⟩
def lw_privs_3 : List (MethodName × Nat) := [(⟨"KeyFobModel", "one", "(I)I"⟩, 75), (⟨"KeyFobModel", "put", "(I)V"⟩, 75), (⟨"KeyFobModel", "digestTo", "(I[II)V"⟩, 75), (⟨"KeyFobModel", "finish", "()V"⟩, 75), (⟨"KeyFobModel", "putFour", "(I)V"⟩, 75), (⟨"KeyFobModel", "block", "(I)V"⟩, 75), (⟨"KeyFobModel", "setUp", "()V"⟩, 75), (⟨"KeyFobModel", "newToken", "()V"⟩, 75), (⟨"KeyFobModel", "fresh", "()V"⟩, 75), (⟨"KeyFobModel", "put", "([III)V"⟩, 75), (⟨"KeyFobModel", "tapeFour", "(I)V"⟩, 75), (⟨"KeyFobModel", "goOn", "()I"⟩, 75), (⟨"KeyFobModel", "asserts", "(I[IIII)V"⟩, 75), (⟨"KeyFobModel", "beginData", "(II)V"⟩, 75), (⟨"KeyFobModel", "addData", "([III)V"⟩, 75), (⟨"KeyFobModel", "signData", "(I[II)V"⟩, 75)]
theorem lw_r3 : ∀ q ∈ lw_privs_3, lw_okq q := List.forall_mem_cons.mpr ⟨lw_p32, List.forall_mem_cons.mpr ⟨lw_p33, List.forall_mem_cons.mpr ⟨lw_p34, List.forall_mem_cons.mpr ⟨lw_p35, List.forall_mem_cons.mpr ⟨lw_p36, List.forall_mem_cons.mpr ⟨lw_p37, List.forall_mem_cons.mpr ⟨lw_p38, List.forall_mem_cons.mpr ⟨lw_p39, List.forall_mem_cons.mpr ⟨lw_p40, List.forall_mem_cons.mpr ⟨lw_p41, List.forall_mem_cons.mpr ⟨lw_p42, List.forall_mem_cons.mpr ⟨lw_p43, List.forall_mem_cons.mpr ⟨lw_p44, List.forall_mem_cons.mpr ⟨lw_p45, List.forall_mem_cons.mpr ⟨lw_p46, List.forall_mem_cons.mpr ⟨lw_p47, fun _ h => absurd h List.not_mem_nil⟩⟩⟩⟩⟩⟩⟩⟩⟩⟩⟩⟩⟩⟩⟩⟩
theorem lw_p48 : lw_okq (⟨"KeyFobModel", "sign", "(I[I)V"⟩, 75) := ⟨⟨by decide +kernel, by decide +kernel⟩, List.mem_of_getElem? (i := 915) (by decide +kernel), List.mem_of_getElem? (i := 1246) (by decide +kernel), List.mem_of_getElem? (i := 1247) (by decide +kernel)⟩
theorem lw_p49 : lw_okq (⟨"KeyFobModel", "within", "([I[II)V"⟩, 75) := ⟨⟨by decide +kernel, by decide +kernel⟩, List.mem_of_getElem? (i := 915) (by decide +kernel), List.mem_of_getElem? (i := 1265) (by decide +kernel), List.mem_of_getElem? (i := 1266) (by decide +kernel)⟩
theorem lw_p50 : lw_okq (⟨"KeyFobModel", "multiply", "([I[I[I)V"⟩, 75) := ⟨⟨by decide +kernel, by decide +kernel⟩, List.mem_of_getElem? (i := 915) (by decide +kernel), List.mem_of_getElem? (i := 1279) (by decide +kernel), List.mem_of_getElem? (i := 1280) (by decide +kernel)⟩
theorem lw_p51 : lw_okq (⟨"KeyFobModel", "twice", "()V"⟩, 75) := ⟨⟨by decide +kernel, by decide +kernel⟩, List.mem_of_getElem? (i := 915) (by decide +kernel), List.mem_of_getElem? (i := 1286) (by decide +kernel), List.mem_of_getElem? (i := 1287) (by decide +kernel)⟩
theorem lw_p52 : lw_okq (⟨"KeyFobModel", "times", "([I[I[I[I)V"⟩, 75) := ⟨⟨by decide +kernel, by decide +kernel⟩, List.mem_of_getElem? (i := 915) (by decide +kernel), List.mem_of_getElem? (i := 1295) (by decide +kernel), List.mem_of_getElem? (i := 1296) (by decide +kernel)⟩
theorem lw_p53 : lw_okq (⟨"KeyFobModel", "divideAt", "(I[I)V"⟩, 75) := ⟨⟨by decide +kernel, by decide +kernel⟩, List.mem_of_getElem? (i := 915) (by decide +kernel), List.mem_of_getElem? (i := 1299) (by decide +kernel), List.mem_of_getElem? (i := 1300) (by decide +kernel)⟩
theorem lw_p54 : lw_okq (⟨"KeyFobModel", "go", "([I)V"⟩, 75) := ⟨⟨by decide +kernel, by decide +kernel⟩, List.mem_of_getElem? (i := 915) (by decide +kernel), List.mem_of_getElem? (i := 1313) (by decide +kernel), List.mem_of_getElem? (i := 1314) (by decide +kernel)⟩
theorem lw_p55 : lw_okq (⟨"KeyFobModel", "inverse", "([I[I[I)V"⟩, 75) := ⟨⟨by decide +kernel, by decide +kernel⟩, List.mem_of_getElem? (i := 915) (by decide +kernel), List.mem_of_getElem? (i := 1317) (by decide +kernel), List.mem_of_getElem? (i := 1318) (by decide +kernel)⟩
theorem lw_p56 : lw_okq (⟨"KeyFobModel", "join", "([I[I)V"⟩, 75) := ⟨⟨by decide +kernel, by decide +kernel⟩, List.mem_of_getElem? (i := 915) (by decide +kernel), List.mem_of_getElem? (i := 1330) (by decide +kernel), List.mem_of_getElem? (i := 1331) (by decide +kernel)⟩
theorem lw_p57 : lw_okq (⟨"KeyFobModel", "say", "(I)V"⟩, 75) := ⟨⟨by decide +kernel, by decide +kernel⟩, List.mem_of_getElem? (i := 915) (by decide +kernel), List.mem_of_getElem? (i := 1337) (by decide +kernel), List.mem_of_getElem? (i := 1338) (by decide +kernel)⟩
theorem lw_p58 : lw_okq (⟨"KeyFobModel", "sayRow", "(I[III)V"⟩, 75) := ⟨⟨by decide +kernel, by decide +kernel⟩, List.mem_of_getElem? (i := 915) (by decide +kernel), List.mem_of_getElem? (i := 1341) (by decide +kernel), List.mem_of_getElem? (i := 1342) (by decide +kernel)⟩
theorem lw_p59 : lw_okq (⟨"KeyFobModel", "sayNumber", "(II)V"⟩, 75) := ⟨⟨by decide +kernel, by decide +kernel⟩, List.mem_of_getElem? (i := 915) (by decide +kernel), List.mem_of_getElem? (i := 1345) (by decide +kernel), List.mem_of_getElem? (i := 1346) (by decide +kernel)⟩
theorem lw_p60 : lw_okq (⟨"KeyFobModel", "make", "(I)I"⟩, 75) := ⟨⟨by decide +kernel, by decide +kernel⟩, List.mem_of_getElem? (i := 915) (by decide +kernel), List.mem_of_getElem? (i := 1349) (by decide +kernel), List.mem_of_getElem? (i := 1350) (by decide +kernel)⟩
theorem lw_p61 : lw_okq (⟨"KeyFobModel", "forget", "()V"⟩, 75) := ⟨⟨by decide +kernel, by decide +kernel⟩, List.mem_of_getElem? (i := 915) (by decide +kernel), List.mem_of_getElem? (i := 1353) (by decide +kernel), List.mem_of_getElem? (i := 1354) (by decide +kernel)⟩
theorem lw_p62 : lw_okq (⟨"KeyFobModel", "know", "(IIZII)V"⟩, 75) := ⟨⟨by decide +kernel, by decide +kernel⟩, List.mem_of_getElem? (i := 915) (by decide +kernel), List.mem_of_getElem? (i := 1357) (by decide +kernel), List.mem_of_getElem? (i := 1358) (by decide +kernel)⟩
theorem lw_p63 : lw_okq (⟨"KeyFobModel", "refuse", "(I)I"⟩, 75) := ⟨⟨by decide +kernel, by decide +kernel⟩, List.mem_of_getElem? (i := 915) (by decide +kernel), List.mem_of_getElem? (i := 1361) (by decide +kernel), List.mem_of_getElem? (i := 1362) (by decide +kernel)⟩
def lw_privs_4 : List (MethodName × Nat) := [(⟨"KeyFobModel", "sign", "(I[I)V"⟩, 75), (⟨"KeyFobModel", "within", "([I[II)V"⟩, 75), (⟨"KeyFobModel", "multiply", "([I[I[I)V"⟩, 75), (⟨"KeyFobModel", "twice", "()V"⟩, 75), (⟨"KeyFobModel", "times", "([I[I[I[I)V"⟩, 75), (⟨"KeyFobModel", "divideAt", "(I[I)V"⟩, 75), (⟨"KeyFobModel", "go", "([I)V"⟩, 75), (⟨"KeyFobModel", "inverse", "([I[I[I)V"⟩, 75), (⟨"KeyFobModel", "join", "([I[I)V"⟩, 75), (⟨"KeyFobModel", "say", "(I)V"⟩, 75), (⟨"KeyFobModel", "sayRow", "(I[III)V"⟩, 75), (⟨"KeyFobModel", "sayNumber", "(II)V"⟩, 75), (⟨"KeyFobModel", "make", "(I)I"⟩, 75), (⟨"KeyFobModel", "forget", "()V"⟩, 75), (⟨"KeyFobModel", "know", "(IIZII)V"⟩, 75), (⟨"KeyFobModel", "refuse", "(I)I"⟩, 75)]
theorem lw_r4 : ∀ q ∈ lw_privs_4, lw_okq q := List.forall_mem_cons.mpr ⟨lw_p48, List.forall_mem_cons.mpr ⟨lw_p49, List.forall_mem_cons.mpr ⟨lw_p50, List.forall_mem_cons.mpr ⟨lw_p51, List.forall_mem_cons.mpr ⟨lw_p52, List.forall_mem_cons.mpr ⟨lw_p53, List.forall_mem_cons.mpr ⟨lw_p54, List.forall_mem_cons.mpr ⟨lw_p55, List.forall_mem_cons.mpr ⟨lw_p56, List.forall_mem_cons.mpr ⟨lw_p57, List.forall_mem_cons.mpr ⟨lw_p58, List.forall_mem_cons.mpr ⟨lw_p59, List.forall_mem_cons.mpr ⟨lw_p60, List.forall_mem_cons.mpr ⟨lw_p61, List.forall_mem_cons.mpr ⟨lw_p62, List.forall_mem_cons.mpr ⟨lw_p63, fun _ h => absurd h List.not_mem_nil⟩⟩⟩⟩⟩⟩⟩⟩⟩⟩⟩⟩⟩⟩⟩⟩
theorem lw_p64 : lw_okq (⟨"KeyFobModel", "map", "(I)Z"⟩, 75) := ⟨⟨by decide +kernel, by decide +kernel⟩, List.mem_of_getElem? (i := 915) (by decide +kernel), List.mem_of_getElem? (i := 1365) (by decide +kernel), List.mem_of_getElem? (i := 1366) (by decide +kernel)⟩
theorem lw_p65 : lw_okq (⟨"KeyFobModel", "next", "()I"⟩, 75) := ⟨⟨by decide +kernel, by decide +kernel⟩, List.mem_of_getElem? (i := 915) (by decide +kernel), List.mem_of_getElem? (i := 1369) (by decide +kernel), List.mem_of_getElem? (i := 1370) (by decide +kernel)⟩
theorem lw_p66 : lw_okq (⟨"KeyFobModel", "value", "(I)Z"⟩, 75) := ⟨⟨by decide +kernel, by decide +kernel⟩, List.mem_of_getElem? (i := 915) (by decide +kernel), List.mem_of_getElem? (i := 1373) (by decide +kernel), List.mem_of_getElem? (i := 1374) (by decide +kernel)⟩
theorem lw_p67 : lw_okq (⟨"KeyFobModel", "pass", "(I)I"⟩, 75) := ⟨⟨by decide +kernel, by decide +kernel⟩, List.mem_of_getElem? (i := 915) (by decide +kernel), List.mem_of_getElem? (i := 1377) (by decide +kernel), List.mem_of_getElem? (i := 1378) (by decide +kernel)⟩
theorem lw_p68 : lw_okq (⟨"KeyFobModel", "lengthOf", "(I)I"⟩, 75) := ⟨⟨by decide +kernel, by decide +kernel⟩, List.mem_of_getElem? (i := 915) (by decide +kernel), List.mem_of_getElem? (i := 1381) (by decide +kernel), List.mem_of_getElem? (i := 1382) (by decide +kernel)⟩
theorem lw_p69 : lw_okq (⟨"KeyFobModel", "passList", "(I)Z"⟩, 75) := ⟨⟨by decide +kernel, by decide +kernel⟩, List.mem_of_getElem? (i := 915) (by decide +kernel), List.mem_of_getElem? (i := 1385) (by decide +kernel), List.mem_of_getElem? (i := 1386) (by decide +kernel)⟩
theorem lw_p70 : lw_okq (⟨"KeyFobModel", "areLengths", "(I)Z"⟩, 75) := ⟨⟨by decide +kernel, by decide +kernel⟩, List.mem_of_getElem? (i := 915) (by decide +kernel), List.mem_of_getElem? (i := 1389) (by decide +kernel), List.mem_of_getElem? (i := 1390) (by decide +kernel)⟩
theorem lw_p71 : lw_okq (⟨"KeyFobModel", "isLength", "(II)Z"⟩, 75) := ⟨⟨by decide +kernel, by decide +kernel⟩, List.mem_of_getElem? (i := 915) (by decide +kernel), List.mem_of_getElem? (i := 1393) (by decide +kernel), List.mem_of_getElem? (i := 1394) (by decide +kernel)⟩
theorem lw_p72 : lw_okq (⟨"KeyFobModel", "listRow", "(II)I"⟩, 75) := ⟨⟨by decide +kernel, by decide +kernel⟩, List.mem_of_getElem? (i := 915) (by decide +kernel), List.mem_of_getElem? (i := 1397) (by decide +kernel), List.mem_of_getElem? (i := 1398) (by decide +kernel)⟩
theorem lw_p73 : lw_okq (⟨"KeyFobModel", "findHouse", "(I)V"⟩, 75) := ⟨⟨by decide +kernel, by decide +kernel⟩, List.mem_of_getElem? (i := 915) (by decide +kernel), List.mem_of_getElem? (i := 1401) (by decide +kernel), List.mem_of_getElem? (i := 1402) (by decide +kernel)⟩
theorem lw_p74 : lw_okq (⟨"KeyFobModel", "isOfHouse", "(I)Z"⟩, 75) := ⟨⟨by decide +kernel, by decide +kernel⟩, List.mem_of_getElem? (i := 915) (by decide +kernel), List.mem_of_getElem? (i := 1405) (by decide +kernel), List.mem_of_getElem? (i := 1406) (by decide +kernel)⟩
theorem lw_p75 : lw_okq (⟨"KeyFobModel", "hasId", "(II)Z"⟩, 75) := ⟨⟨by decide +kernel, by decide +kernel⟩, List.mem_of_getElem? (i := 915) (by decide +kernel), List.mem_of_getElem? (i := 1412) (by decide +kernel), List.mem_of_getElem? (i := 1413) (by decide +kernel)⟩
theorem lw_p76 : lw_okq (⟨"KeyFobModel", "isProof", "(II)Z"⟩, 75) := ⟨⟨by decide +kernel, by decide +kernel⟩, List.mem_of_getElem? (i := 915) (by decide +kernel), List.mem_of_getElem? (i := 1416) (by decide +kernel), List.mem_of_getElem? (i := 1417) (by decide +kernel)⟩
theorem lw_p77 : lw_okq (⟨"KeyFobModel", "mac", "([I[III)V"⟩, 75) := ⟨⟨by decide +kernel, by decide +kernel⟩, List.mem_of_getElem? (i := 915) (by decide +kernel), List.mem_of_getElem? (i := 1420) (by decide +kernel), List.mem_of_getElem? (i := 1421) (by decide +kernel)⟩
theorem lw_p78 : lw_okq (⟨"KeyFobModel", "putPad", "([II)V"⟩, 75) := ⟨⟨by decide +kernel, by decide +kernel⟩, List.mem_of_getElem? (i := 915) (by decide +kernel), List.mem_of_getElem? (i := 1424) (by decide +kernel), List.mem_of_getElem? (i := 1425) (by decide +kernel)⟩
theorem lw_p79 : lw_okq (⟨"KeyFobModel", "keyOf", "(I)I"⟩, 75) := ⟨⟨by decide +kernel, by decide +kernel⟩, List.mem_of_getElem? (i := 915) (by decide +kernel), List.mem_of_getElem? (i := 1428) (by decide +kernel), List.mem_of_getElem? (i := 1429) (by decide +kernel)⟩
def lw_privs_5 : List (MethodName × Nat) := [(⟨"KeyFobModel", "map", "(I)Z"⟩, 75), (⟨"KeyFobModel", "next", "()I"⟩, 75), (⟨"KeyFobModel", "value", "(I)Z"⟩, 75), (⟨"KeyFobModel", "pass", "(I)I"⟩, 75), (⟨"KeyFobModel", "lengthOf", "(I)I"⟩, 75), (⟨"KeyFobModel", "passList", "(I)Z"⟩, 75), (⟨"KeyFobModel", "areLengths", "(I)Z"⟩, 75), (⟨"KeyFobModel", "isLength", "(II)Z"⟩, 75), (⟨"KeyFobModel", "listRow", "(II)I"⟩, 75), (⟨"KeyFobModel", "findHouse", "(I)V"⟩, 75), (⟨"KeyFobModel", "isOfHouse", "(I)Z"⟩, 75), (⟨"KeyFobModel", "hasId", "(II)Z"⟩, 75), (⟨"KeyFobModel", "isProof", "(II)Z"⟩, 75), (⟨"KeyFobModel", "mac", "([I[III)V"⟩, 75), (⟨"KeyFobModel", "putPad", "([II)V"⟩, 75), (⟨"KeyFobModel", "keyOf", "(I)I"⟩, 75)]
theorem lw_r5 : ∀ q ∈ lw_privs_5, lw_okq q := List.forall_mem_cons.mpr ⟨lw_p64, List.forall_mem_cons.mpr ⟨lw_p65, List.forall_mem_cons.mpr ⟨lw_p66, List.forall_mem_cons.mpr ⟨lw_p67, List.forall_mem_cons.mpr ⟨lw_p68, List.forall_mem_cons.mpr ⟨lw_p69, List.forall_mem_cons.mpr ⟨lw_p70, List.forall_mem_cons.mpr ⟨lw_p71, List.forall_mem_cons.mpr ⟨lw_p72, List.forall_mem_cons.mpr ⟨lw_p73, List.forall_mem_cons.mpr ⟨lw_p74, List.forall_mem_cons.mpr ⟨lw_p75, List.forall_mem_cons.mpr ⟨lw_p76, List.forall_mem_cons.mpr ⟨lw_p77, List.forall_mem_cons.mpr ⟨lw_p78, List.forall_mem_cons.mpr ⟨lw_p79, fun _ h => absurd h List.not_mem_nil⟩⟩⟩⟩⟩⟩⟩⟩⟩⟩⟩⟩⟩⟩⟩⟩
theorem lw_p80 : lw_okq (⟨"KeyFobModel", "lose", "(I)V"⟩, 75) := ⟨⟨by decide +kernel, by decide +kernel⟩, List.mem_of_getElem? (i := 915) (by decide +kernel), List.mem_of_getElem? (i := 1432) (by decide +kernel), List.mem_of_getElem? (i := 1433) (by decide +kernel)⟩
theorem lw_p81 : lw_okq (⟨"KeyFobModel", "get", "(I)I"⟩, 75) := ⟨⟨by decide +kernel, by decide +kernel⟩, List.mem_of_getElem? (i := 915) (by decide +kernel), List.mem_of_getElem? (i := 1436) (by decide +kernel), List.mem_of_getElem? (i := 1437) (by decide +kernel)⟩
theorem lw_p82 : lw_okq (⟨"KeyFobModel", "doPin", "(I)I"⟩, 75) := ⟨⟨by decide +kernel, by decide +kernel⟩, List.mem_of_getElem? (i := 915) (by decide +kernel), List.mem_of_getElem? (i := 1440) (by decide +kernel), List.mem_of_getElem? (i := 1441) (by decide +kernel)⟩
theorem lw_p83 : lw_okq (⟨"KeyFobModel", "setPin", "()I"⟩, 75) := ⟨⟨by decide +kernel, by decide +kernel⟩, List.mem_of_getElem? (i := 915) (by decide +kernel), List.mem_of_getElem? (i := 1444) (by decide +kernel), List.mem_of_getElem? (i := 1445) (by decide +kernel)⟩
theorem lw_p84 : lw_okq (⟨"KeyFobModel", "tryOld", "()I"⟩, 75) := ⟨⟨by decide +kernel, by decide +kernel⟩, List.mem_of_getElem? (i := 915) (by decide +kernel), List.mem_of_getElem? (i := 1448) (by decide +kernel), List.mem_of_getElem? (i := 1449) (by decide +kernel)⟩
theorem lw_p85 : lw_okq (⟨"KeyFobModel", "reset", "()I"⟩, 75) := ⟨⟨by decide +kernel, by decide +kernel⟩, List.mem_of_getElem? (i := 915) (by decide +kernel), List.mem_of_getElem? (i := 1452) (by decide +kernel), List.mem_of_getElem? (i := 1453) (by decide +kernel)⟩
theorem lw_p86 : lw_okq (⟨"KeyFobModel", "isKey", "(I)Z"⟩, 75) := ⟨⟨by decide +kernel, by decide +kernel⟩, List.mem_of_getElem? (i := 915) (by decide +kernel), List.mem_of_getElem? (i := 1468) (by decide +kernel), List.mem_of_getElem? (i := 1469) (by decide +kernel)⟩
theorem lw_p87 : lw_okq (⟨"KeyFobModel", "isRight", "()Z"⟩, 75) := ⟨⟨by decide +kernel, by decide +kernel⟩, List.mem_of_getElem? (i := 915) (by decide +kernel), List.mem_of_getElem? (i := 1476) (by decide +kernel), List.mem_of_getElem? (i := 1477) (by decide +kernel)⟩
def lw_privs_6 : List (MethodName × Nat) := [(⟨"KeyFobModel", "lose", "(I)V"⟩, 75), (⟨"KeyFobModel", "get", "(I)I"⟩, 75), (⟨"KeyFobModel", "doPin", "(I)I"⟩, 75), (⟨"KeyFobModel", "setPin", "()I"⟩, 75), (⟨"KeyFobModel", "tryOld", "()I"⟩, 75), (⟨"KeyFobModel", "reset", "()I"⟩, 75), (⟨"KeyFobModel", "isKey", "(I)Z"⟩, 75), (⟨"KeyFobModel", "isRight", "()Z"⟩, 75)]
theorem lw_r6 : ∀ q ∈ lw_privs_6, lw_okq q := List.forall_mem_cons.mpr ⟨lw_p80, List.forall_mem_cons.mpr ⟨lw_p81, List.forall_mem_cons.mpr ⟨lw_p82, List.forall_mem_cons.mpr ⟨lw_p83, List.forall_mem_cons.mpr ⟨lw_p84, List.forall_mem_cons.mpr ⟨lw_p85, List.forall_mem_cons.mpr ⟨lw_p86, List.forall_mem_cons.mpr ⟨lw_p87, fun _ h => absurd h List.not_mem_nil⟩⟩⟩⟩⟩⟩⟩⟩
def lw_privs : List (MethodName × Nat) := lw_privs_1 ++ (lw_privs_2 ++ (lw_privs_3 ++ (lw_privs_4 ++ (lw_privs_5 ++ (lw_privs_6)))))
def lw_tbl : List Cond := k2_sels lw_privs ++ tables_1
theorem lw_privs_ok : ∀ q ∈ lw_privs, lw_okq q := by
  show ∀ q ∈ lw_privs_1 ++ (lw_privs_2 ++ (lw_privs_3 ++ (lw_privs_4 ++ (lw_privs_5 ++ (lw_privs_6))))), lw_okq q
  exact List.forall_mem_append.mpr ⟨lw_r1, List.forall_mem_append.mpr ⟨lw_r2, List.forall_mem_append.mpr ⟨lw_r3, List.forall_mem_append.mpr ⟨lw_r4, List.forall_mem_append.mpr ⟨lw_r5, lw_r6⟩⟩⟩⟩⟩
def RX0 : String := "KeyFob$Curve"
def TX0 : u_T := fun k => match k with
  | 0 => ("KeyFob$Curve", "field", "LKeyFob$Field;", true)
  | 1 => ("KeyFob$Curve", "b", "[J", true)
  | 2 => ("KeyFob$Curve", "base", "[LKeyFob$Point;", true)
  | 3 => ("KeyFob$Curve", "xx", "[J", true)
  | 4 => ("KeyFob$Curve", "yy", "[J", true)
  | 5 => ("KeyFob$Curve", "zz", "[J", true)
  | 6 => ("KeyFob$Curve", "xy", "[J", true)
  | 7 => ("KeyFob$Curve", "yz", "[J", true)
  | 8 => ("KeyFob$Curve", "xz", "[J", true)
  | 9 => ("KeyFob$Curve", "left", "[J", true)
  | 10 => ("KeyFob$Curve", "right", "[J", true)
  | _ => ("KeyFob$Curve", "term", "[J", true)
def tyX0 : Nat → FieldType := fun k => match k with
  | 0 => .object "KeyFob$Field"
  | 1 => .array .long
  | 2 => .array (.object "KeyFob$Point")
  | 3 => .array .long
  | 4 => .array .long
  | 5 => .array .long
  | 6 => .array .long
  | 7 => .array .long
  | 8 => .array .long
  | 9 => .array .long
  | 10 => .array .long
  | _ => .array .long
abbrev wsX00 : List Cond := u_ws RX0 TX0 12
theorem nmX0 : ∀ a, a < 12 → ∀ b, b < 12 → a ≠ b → (TX0 a).2.1 ≠ (TX0 b).2.1 := by decide +kernel
theorem tyX0_ok : ∀ k, k < 12 → parseFieldDescriptor (TX0 k).2.2.1 = some (tyX0 k) := by decide +kernel
abbrev cX0_init : ByteArray := prog_2_method_1_code
def yX0_init : MethodName := ⟨RX0, "<init>", "()V"⟩
abbrev cX0_times : ByteArray := prog_2_method_2_code
def yX0_times : MethodName := ⟨RX0, "times", "(LKeyFob$Point;[LKeyFob$Point;[J)V"⟩
abbrev cX0_fill : ByteArray := prog_2_method_3_code
def yX0_fill : MethodName := ⟨RX0, "fill", "([LKeyFob$Point;[I)V"⟩
abbrev cX0_flatten : ByteArray := prog_2_method_4_code
def yX0_flatten : MethodName := ⟨RX0, "flatten", "(LKeyFob$Point;)V"⟩
abbrev cX0_add : ByteArray := prog_2_method_5_code
def yX0_add : MethodName := ⟨RX0, "add", "(LKeyFob$Point;LKeyFob$Point;LKeyFob$Point;)V"⟩
abbrev cX0_enter : ByteArray := prog_2_method_6_code
def yX0_enter : MethodName := ⟨RX0, "enter", "(LKeyFob$Point;)V"⟩
abbrev cX0_fillBetween : ByteArray := prog_2_method_7_code
def yX0_fillBetween : MethodName := ⟨RX0, "fillBetween", "([LKeyFob$Point;)V"⟩
def RX1 : String := "KeyFob$Field"
def TX1 : u_T := fun k => match k with
  | 0 => ("KeyFob$Field", "modulus", "[J", true)
  | 1 => ("KeyFob$Field", "exponent", "[J", true)
  | 2 => ("KeyFob$Field", "square", "[J", true)
  | 3 => ("KeyFob$Field", "one", "[J", true)
  | 4 => ("KeyFob$Field", "raised", "[J", true)
  | _ => ("KeyFob$Field", "lowInverse", "J", true)
def tyX1 : Nat → FieldType := fun k => match k with
  | 0 => .array .long
  | 1 => .array .long
  | 2 => .array .long
  | 3 => .array .long
  | 4 => .array .long
  | _ => .long
abbrev wsX10 : List Cond := u_ws RX1 TX1 6
theorem nmX1 : ∀ a, a < 6 → ∀ b, b < 6 → a ≠ b → (TX1 a).2.1 ≠ (TX1 b).2.1 := by decide +kernel
theorem tyX1_ok : ∀ k, k < 6 → parseFieldDescriptor (TX1 k).2.2.1 = some (tyX1 k) := by decide +kernel
abbrev cX1_init : ByteArray := prog_3_method_1_code
def yX1_init : MethodName := ⟨RX1, "<init>", "([I[IJ)V"⟩
abbrev cX1_readWords : ByteArray := prog_3_method_2_code
def yX1_readWords : MethodName := ⟨RX1, "readWords", "([J[II)V"⟩
abbrev cX1_readBytes : ByteArray := prog_3_method_3_code
def yX1_readBytes : MethodName := ⟨RX1, "readBytes", "([J[II)V"⟩
abbrev cX1_writeBytes : ByteArray := prog_3_method_4_code
def yX1_writeBytes : MethodName := ⟨RX1, "writeBytes", "([II[J)V"⟩
abbrev cX1_bit : ByteArray := prog_3_method_5_code
def yX1_bit : MethodName := ⟨RX1, "bit", "([JI)I"⟩
abbrev cX1_same : ByteArray := prog_3_method_6_code
def yX1_same : MethodName := ⟨RX1, "same", "([J[J)Z"⟩
abbrev cX1_clear : ByteArray := prog_3_method_7_code
def yX1_clear : MethodName := ⟨RX1, "clear", "([J)V"⟩
abbrev cX1_copy : ByteArray := prog_3_method_8_code
def yX1_copy : MethodName := ⟨RX1, "copy", "([J[J)V"⟩
abbrev cX1_plus : ByteArray := prog_3_method_9_code
def yX1_plus : MethodName := ⟨RX1, "plus", "([J[JJ[J)V"⟩
abbrev cX1_multiply : ByteArray := prog_3_method_10_code
def yX1_multiply : MethodName := ⟨RX1, "multiply", "([J[J[J)V"⟩
abbrev cX1_invert : ByteArray := prog_3_method_11_code
def yX1_invert : MethodName := ⟨RX1, "invert", "([J[J)V"⟩
abbrev cX1_enter : ByteArray := prog_3_method_12_code
def yX1_enter : MethodName := ⟨RX1, "enter", "([J[J)V"⟩
abbrev cX1_leave : ByteArray := prog_3_method_13_code
def yX1_leave : MethodName := ⟨RX1, "leave", "([J[J)V"⟩
abbrev cX1_isProper : ByteArray := prog_3_method_14_code
def yX1_isProper : MethodName := ⟨RX1, "isProper", "([J)Z"⟩
abbrev cX1_draw : ByteArray := prog_3_method_15_code
def yX1_draw : MethodName := ⟨RX1, "draw", "([J[J)V"⟩
abbrev cX1_isBelow : ByteArray := prog_3_method_16_code
def yX1_isBelow : MethodName := ⟨RX1, "isBelow", "([J)Z"⟩
abbrev cX1_nibble : ByteArray := prog_3_method_17_code
def yX1_nibble : MethodName := ⟨RX1, "nibble", "([JI)I"⟩
def RX2 : String := "KeyFob$Hash"
def TX2 : u_T := fun k => match k with
  | 0 => ("KeyFob$Hash", "state", "[I", true)
  | 1 => ("KeyFob$Hash", "words", "[I", true)
  | _ => ("KeyFob$Hash", "length", "I", false)
def tyX2 : Nat → FieldType := fun k => match k with
  | 0 => .array .int
  | 1 => .array .int
  | _ => .int
abbrev wsX20 : List Cond := u_ws RX2 TX2 3
theorem nmX2 : ∀ a, a < 3 → ∀ b, b < 3 → a ≠ b → (TX2 a).2.1 ≠ (TX2 b).2.1 := by decide +kernel
theorem tyX2_ok : ∀ k, k < 3 → parseFieldDescriptor (TX2 k).2.2.1 = some (tyX2 k) := by decide +kernel
abbrev cX2_init : ByteArray := prog_4_method_1_code
def yX2_init : MethodName := ⟨RX2, "<init>", "()V"⟩
abbrev cX2_begin : ByteArray := prog_4_method_2_code
def yX2_begin : MethodName := ⟨RX2, "begin", "()V"⟩
abbrev cX2_put : ByteArray := prog_4_method_3_code
def yX2_put : MethodName := ⟨RX2, "put", "(I)V"⟩
abbrev cX2_putAll : ByteArray := prog_4_method_4_code
def yX2_putAll : MethodName := ⟨RX2, "putAll", "([III)V"⟩
abbrev cX2_end : ByteArray := prog_4_method_5_code
def yX2_end : MethodName := ⟨RX2, "end", "([I)V"⟩
abbrev cX2_mixBlock : ByteArray := prog_4_method_6_code
def yX2_mixBlock : MethodName := ⟨RX2, "mixBlock", "()V"⟩
def RX3 : String := "KeyFob$Key"
def TX3 : u_T := fun k => match k with
  | 0 => ("KeyFob$Key", "house", "[I", true)
  | 1 => ("KeyFob$Key", "user", "[I", true)
  | 2 => ("KeyFob$Key", "secret", "[I", true)
  | 3 => ("KeyFob$Key", "id", "[I", true)
  | 4 => ("KeyFob$Key", "point", "[I", true)
  | 5 => ("KeyFob$Key", "userLength", "I", false)
  | _ => ("KeyFob$Key", "counter", "J", false)
def tyX3 : Nat → FieldType := fun k => match k with
  | 0 => .array .int
  | 1 => .array .int
  | 2 => .array .int
  | 3 => .array .int
  | 4 => .array .int
  | 5 => .int
  | _ => .long
abbrev wsX30 : List Cond := u_ws RX3 TX3 7
theorem nmX3 : ∀ a, a < 7 → ∀ b, b < 7 → a ≠ b → (TX3 a).2.1 ≠ (TX3 b).2.1 := by decide +kernel
theorem tyX3_ok : ∀ k, k < 7 → parseFieldDescriptor (TX3 k).2.2.1 = some (tyX3 k) := by decide +kernel
abbrev cX3_init : ByteArray := prog_5_method_1_code
def yX3_init : MethodName := ⟨RX3, "<init>", "()V"⟩
abbrev cX3_isOf : ByteArray := prog_5_method_2_code
def yX3_isOf : MethodName := ⟨RX3, "isOf", "([I)Z"⟩
abbrev cX3_byteOf : ByteArray := prog_5_method_3_code
def yX3_byteOf : MethodName := ⟨RX3, "byteOf", "(II)I"⟩
abbrev cX3_byteIn : ByteArray := prog_5_method_4_code
def yX3_byteIn : MethodName := ⟨RX3, "byteIn", "([III)I"⟩
def RX4 : String := "KeyFob$Point"
def TX4 : u_T := fun k => match k with
  | 0 => ("KeyFob$Point", "x", "[J", true)
  | 1 => ("KeyFob$Point", "y", "[J", true)
  | _ => ("KeyFob$Point", "z", "[J", true)
def tyX4 : Nat → FieldType := fun k => match k with
  | 0 => .array .long
  | 1 => .array .long
  | _ => .array .long
abbrev wsX40 : List Cond := u_ws RX4 TX4 3
theorem nmX4 : ∀ a, a < 3 → ∀ b, b < 3 → a ≠ b → (TX4 a).2.1 ≠ (TX4 b).2.1 := by decide +kernel
theorem tyX4_ok : ∀ k, k < 3 → parseFieldDescriptor (TX4 k).2.2.1 = some (tyX4 k) := by decide +kernel
abbrev cX4_init : ByteArray := prog_6_method_1_code
def yX4_init : MethodName := ⟨RX4, "<init>", "()V"⟩
abbrev cX4_row : ByteArray := prog_6_method_2_code
def yX4_row : MethodName := ⟨RX4, "row", "(I)[LKeyFob$Point;"⟩
def RX5 : String := "KeyFob$Queue"
def TX5 : u_T := fun k => match k with
  | 0 => ("KeyFob$Queue", "waiting", "[LKeyFob$Key;", true)
  | 1 => ("KeyFob$Queue", "from", "I", false)
  | _ => ("KeyFob$Queue", "to", "I", false)
def tyX5 : Nat → FieldType := fun k => match k with
  | 0 => .array (.object "KeyFob$Key")
  | 1 => .int
  | _ => .int
abbrev wsX50 : List Cond := u_ws RX5 TX5 3
theorem nmX5 : ∀ a, a < 3 → ∀ b, b < 3 → a ≠ b → (TX5 a).2.1 ≠ (TX5 b).2.1 := by decide +kernel
theorem tyX5_ok : ∀ k, k < 3 → parseFieldDescriptor (TX5 k).2.2.1 = some (tyX5 k) := by decide +kernel
abbrev cX5_init : ByteArray := prog_7_method_1_code
def yX5_init : MethodName := ⟨RX5, "<init>", "()V"⟩
abbrev cX5_clear : ByteArray := prog_7_method_2_code
def yX5_clear : MethodName := ⟨RX5, "clear", "()V"⟩
abbrev cX5_size : ByteArray := prog_7_method_3_code
def yX5_size : MethodName := ⟨RX5, "size", "()I"⟩
abbrev cX5_add : ByteArray := prog_7_method_4_code
def yX5_add : MethodName := ⟨RX5, "add", "(LKeyFob$Key;)V"⟩
abbrev cX5_first : ByteArray := prog_7_method_5_code
def yX5_first : MethodName := ⟨RX5, "first", "()LKeyFob$Key;"⟩
abbrev cX5_drop : ByteArray := prog_7_method_6_code
def yX5_drop : MethodName := ⟨RX5, "drop", "()V"⟩
def RX6 : String := "KeyFob$Ring"
def TX6 : u_T := fun k => match k with
  | 0 => ("KeyFob$Ring", "slots", "[LKeyFob$Key;", true)
  | _ => ("KeyFob$Ring", "kept", "I", false)
def tyX6 : Nat → FieldType := fun k => match k with
  | 0 => .array (.object "KeyFob$Key")
  | _ => .int
abbrev wsX60 : List Cond := u_ws RX6 TX6 2
theorem nmX6 : ∀ a, a < 2 → ∀ b, b < 2 → a ≠ b → (TX6 a).2.1 ≠ (TX6 b).2.1 := by decide +kernel
theorem tyX6_ok : ∀ k, k < 2 → parseFieldDescriptor (TX6 k).2.2.1 = some (tyX6 k) := by decide +kernel
abbrev cX6_init : ByteArray := prog_8_method_1_code
def yX6_init : MethodName := ⟨RX6, "<init>", "()V"⟩
abbrev cX6_clear : ByteArray := prog_8_method_2_code
def yX6_clear : MethodName := ⟨RX6, "clear", "()V"⟩
abbrev cX6_at : ByteArray := prog_8_method_3_code
def yX6_at : MethodName := ⟨RX6, "at", "(I)LKeyFob$Key;"⟩
abbrev cX6_find : ByteArray := prog_8_method_4_code
def yX6_find : MethodName := ⟨RX6, "find", "([ILKeyFob$Tape;I)I"⟩
abbrev cX6_renew : ByteArray := prog_8_method_5_code
def yX6_renew : MethodName := ⟨RX6, "renew", "(I)LKeyFob$Key;"⟩
def RX7 : String := "KeyFob$Row"
def TX7 : u_T := fun k => match k with
  | 0 => ("KeyFob$Row", "bytes", "[I", true)
  | _ => ("KeyFob$Row", "length", "I", false)
def tyX7 : Nat → FieldType := fun k => match k with
  | 0 => .array .int
  | _ => .int
abbrev wsX70 : List Cond := u_ws RX7 TX7 2
theorem nmX7 : ∀ a, a < 2 → ∀ b, b < 2 → a ≠ b → (TX7 a).2.1 ≠ (TX7 b).2.1 := by decide +kernel
theorem tyX7_ok : ∀ k, k < 2 → parseFieldDescriptor (TX7 k).2.2.1 = some (tyX7 k) := by decide +kernel
abbrev cX7_init : ByteArray := prog_9_method_1_code
def yX7_init : MethodName := ⟨RX7, "<init>", "(I)V"⟩
abbrev cX7_takes : ByteArray := prog_9_method_2_code
def yX7_takes : MethodName := ⟨RX7, "takes", "(I)Z"⟩
abbrev cX7_at : ByteArray := prog_9_method_3_code
def yX7_at : MethodName := ⟨RX7, "at", "(I)I"⟩
abbrev cX7_cut : ByteArray := prog_9_method_4_code
def yX7_cut : MethodName := ⟨RX7, "cut", "(I)V"⟩
abbrev cX7_put : ByteArray := prog_9_method_5_code
def yX7_put : MethodName := ⟨RX7, "put", "(I)V"⟩
abbrev cX7_putFour : ByteArray := prog_9_method_6_code
def yX7_putFour : MethodName := ⟨RX7, "putFour", "(J)V"⟩
abbrev cX7_putAll : ByteArray := prog_9_method_7_code
def yX7_putAll : MethodName := ⟨RX7, "putAll", "([III)V"⟩
abbrev cX7_openMap : ByteArray := prog_9_method_8_code
def yX7_openMap : MethodName := ⟨RX7, "openMap", "(I)V"⟩
abbrev cX7_putNumber : ByteArray := prog_9_method_9_code
def yX7_putNumber : MethodName := ⟨RX7, "putNumber", "(II)V"⟩
abbrev cX7_putRow : ByteArray := prog_9_method_10_code
def yX7_putRow : MethodName := ⟨RX7, "putRow", "(I[II)V"⟩
def RX8 : String := "KeyFob$Signer"
def TX8 : u_T := fun k => match k with
  | 0 => ("KeyFob$Signer", "curve", "LKeyFob$Curve;", true)
  | 1 => ("KeyFob$Signer", "order", "LKeyFob$Field;", true)
  | 2 => ("KeyFob$Signer", "hash", "LKeyFob$Hash;", true)
  | 3 => ("KeyFob$Signer", "signature", "[I", true)
  | 4 => ("KeyFob$Signer", "made", "I", false)
  | 5 => ("KeyFob$Signer", "digest", "[I", true)
  | 6 => ("KeyFob$Signer", "owner", "[I", true)
  | 7 => ("KeyFob$Signer", "ownerComb", "[LKeyFob$Point;", true)
  | 8 => ("KeyFob$Signer", "combFilled", "Z", false)
  | 9 => ("KeyFob$Signer", "row", "[I", true)
  | 10 => ("KeyFob$Signer", "sum", "LKeyFob$Point;", true)
  | 11 => ("KeyFob$Signer", "other", "LKeyFob$Point;", true)
  | 12 => ("KeyFob$Signer", "d", "[J", true)
  | 13 => ("KeyFob$Signer", "h", "[J", true)
  | 14 => ("KeyFob$Signer", "k", "[J", true)
  | 15 => ("KeyFob$Signer", "\x72", "[J", true)
  | _ => ("KeyFob$Signer", "s", "[J", true)
def tyX8 : Nat → FieldType := fun k => match k with
  | 0 => .object "KeyFob$Curve"
  | 1 => .object "KeyFob$Field"
  | 2 => .object "KeyFob$Hash"
  | 3 => .array .int
  | 4 => .int
  | 5 => .array .int
  | 6 => .array .int
  | 7 => .array (.object "KeyFob$Point")
  | 8 => .boolean
  | 9 => .array .int
  | 10 => .object "KeyFob$Point"
  | 11 => .object "KeyFob$Point"
  | 12 => .array .long
  | 13 => .array .long
  | 14 => .array .long
  | 15 => .array .long
  | _ => .array .long
abbrev wsX80 : List Cond := u_ws RX8 TX8 17
theorem nmX8 : ∀ a, a < 17 → ∀ b, b < 17 → a ≠ b → (TX8 a).2.1 ≠ (TX8 b).2.1 := by decide +kernel
theorem tyX8_ok : ∀ k, k < 17 → parseFieldDescriptor (TX8 k).2.2.1 = some (tyX8 k) := by decide +kernel
abbrev cX8_init : ByteArray := prog_10_method_1_code
def yX8_init : MethodName := ⟨RX8, "<init>", "()V"⟩
abbrev cX8_forget : ByteArray := prog_10_method_2_code
def yX8_forget : MethodName := ⟨RX8, "forget", "()V"⟩
abbrev cX8_drawSecret : ByteArray := prog_10_method_3_code
def yX8_drawSecret : MethodName := ⟨RX8, "drawSecret", "(LKeyFob$Key;[I)V"⟩
abbrev cX8_sign : ByteArray := prog_10_method_4_code
def yX8_sign : MethodName := ⟨RX8, "sign", "(LKeyFob$Key;LKeyFob$Row;[I)V"⟩
abbrev cX8_verdict : ByteArray := prog_10_method_5_code
def yX8_verdict : MethodName := ⟨RX8, "verdict", "(I)I"⟩
abbrev cX8_remember : ByteArray := prog_10_method_6_code
def yX8_remember : MethodName := ⟨RX8, "remember", "([I)V"⟩
abbrev cX8_drawNonce : ByteArray := prog_10_method_7_code
def yX8_drawNonce : MethodName := ⟨RX8, "drawNonce", "([II)V"⟩
abbrev cX8_solve : ByteArray := prog_10_method_8_code
def yX8_solve : MethodName := ⟨RX8, "solve", "([I)V"⟩
abbrev cX8_addMultiples : ByteArray := prog_10_method_9_code
def yX8_addMultiples : MethodName := ⟨RX8, "addMultiples", "()V"⟩
def RX9 : String := "KeyFob$Tape"
def TX9 : u_T := fun k => match k with
  | 0 => ("KeyFob$Tape", "row", "LKeyFob$Row;", true)
  | 1 => ("KeyFob$Tape", "kinds", "[I", true)
  | 2 => ("KeyFob$Tape", "starts", "[I", true)
  | 3 => ("KeyFob$Tape", "sizes", "[I", true)
  | 4 => ("KeyFob$Tape", "itemStarts", "[I", true)
  | 5 => ("KeyFob$Tape", "itemSizes", "[I", true)
  | 6 => ("KeyFob$Tape", "items", "I", false)
  | _ => ("KeyFob$Tape", "place", "I", false)
def tyX9 : Nat → FieldType := fun k => match k with
  | 0 => .object "KeyFob$Row"
  | 1 => .array .int
  | 2 => .array .int
  | 3 => .array .int
  | 4 => .array .int
  | 5 => .array .int
  | 6 => .int
  | _ => .int
abbrev wsX90 : List Cond := u_ws RX9 TX9 8
theorem nmX9 : ∀ a, a < 8 → ∀ b, b < 8 → a ≠ b → (TX9 a).2.1 ≠ (TX9 b).2.1 := by decide +kernel
theorem tyX9_ok : ∀ k, k < 8 → parseFieldDescriptor (TX9 k).2.2.1 = some (tyX9 k) := by decide +kernel
abbrev cX9_init : ByteArray := prog_11_method_1_code
def yX9_init : MethodName := ⟨RX9, "<init>", "()V"⟩
abbrev cX9_fault : ByteArray := prog_11_method_2_code
def yX9_fault : MethodName := ⟨RX9, "fault", "([I)I"⟩
abbrev cX9_has : ByteArray := prog_11_method_3_code
def yX9_has : MethodName := ⟨RX9, "has", "(I)Z"⟩
abbrev cX9_isNo : ByteArray := prog_11_method_4_code
def yX9_isNo : MethodName := ⟨RX9, "isNo", "(I)Z"⟩
abbrev cX9_startOf : ByteArray := prog_11_method_5_code
def yX9_startOf : MethodName := ⟨RX9, "startOf", "(I)I"⟩
abbrev cX9_sizeOf : ByteArray := prog_11_method_6_code
def yX9_sizeOf : MethodName := ⟨RX9, "sizeOf", "(I)I"⟩
abbrev cX9_holds : ByteArray := prog_11_method_7_code
def yX9_holds : MethodName := ⟨RX9, "holds", "(I[II)Z"⟩
abbrev cX9_copyValue : ByteArray := prog_11_method_8_code
def yX9_copyValue : MethodName := ⟨RX9, "copyValue", "(I[I)V"⟩
abbrev cX9_lists : ByteArray := prog_11_method_9_code
def yX9_lists : MethodName := ⟨RX9, "lists", "(I[I)Z"⟩
abbrev cX9_kindOf : ByteArray := prog_11_method_10_code
def yX9_kindOf : MethodName := ⟨RX9, "kindOf", "(I)I"⟩
abbrev cX9_fits : ByteArray := prog_11_method_11_code
def yX9_fits : MethodName := ⟨RX9, "fits", "(III)Z"⟩
abbrev cX9_isMap : ByteArray := prog_11_method_12_code
def yX9_isMap : MethodName := ⟨RX9, "isMap", "()Z"⟩
abbrev cX9_nextByte : ByteArray := prog_11_method_13_code
def yX9_nextByte : MethodName := ⟨RX9, "nextByte", "()I"⟩
abbrev cX9_readValue : ByteArray := prog_11_method_14_code
def yX9_readValue : MethodName := ⟨RX9, "readValue", "(I)Z"⟩
abbrev cX9_note : ByteArray := prog_11_method_15_code
def yX9_note : MethodName := ⟨RX9, "note", "(IIII)Z"⟩
abbrev cX9_readTwo : ByteArray := prog_11_method_16_code
def yX9_readTwo : MethodName := ⟨RX9, "readTwo", "()I"⟩
abbrev cX9_readShort : ByteArray := prog_11_method_17_code
def yX9_readShort : MethodName := ⟨RX9, "readShort", "(I)I"⟩
abbrev cX9_readBytes : ByteArray := prog_11_method_18_code
def yX9_readBytes : MethodName := ⟨RX9, "readBytes", "(III)Z"⟩
abbrev cX9_skip : ByteArray := prog_11_method_19_code
def yX9_skip : MethodName := ⟨RX9, "skip", "(I)Z"⟩
abbrev cX9_readList : ByteArray := prog_11_method_20_code
def yX9_readList : MethodName := ⟨RX9, "readList", "(II)Z"⟩
def RX10 : String := "KeyFob$Vault"
def TX10 : u_T := fun k => match k with
  | 0 => ("KeyFob$Vault", "hash", "LKeyFob$Hash;", true)
  | 1 => ("KeyFob$Vault", "master", "[I", true)
  | 2 => ("KeyFob$Vault", "pin", "[I", true)
  | 3 => ("KeyFob$Vault", "mac", "[I", true)
  | 4 => ("KeyFob$Vault", "token", "[I", true)
  | 5 => ("KeyFob$Vault", "turn", "I", false)
  | 6 => ("KeyFob$Vault", "tries", "I", false)
  | 7 => ("KeyFob$Vault", "misses", "I", false)
  | _ => ("KeyFob$Vault", "hasPin", "Z", false)
def tyX10 : Nat → FieldType := fun k => match k with
  | 0 => .object "KeyFob$Hash"
  | 1 => .array .int
  | 2 => .array .int
  | 3 => .array .int
  | 4 => .array .int
  | 5 => .int
  | 6 => .int
  | 7 => .int
  | _ => .boolean
abbrev wsX100 : List Cond := u_ws RX10 TX10 9
theorem nmX10 : ∀ a, a < 9 → ∀ b, b < 9 → a ≠ b → (TX10 a).2.1 ≠ (TX10 b).2.1 := by decide +kernel
theorem tyX10_ok : ∀ k, k < 9 → parseFieldDescriptor (TX10 k).2.2.1 = some (tyX10 k) := by decide +kernel
abbrev cX10_init : ByteArray := prog_12_method_1_code
def yX10_init : MethodName := ⟨RX10, "<init>", "()V"⟩
abbrev cX10_changeMaster : ByteArray := prog_12_method_2_code
def yX10_changeMaster : MethodName := ⟨RX10, "changeMaster", "()V"⟩
abbrev cX10_wake : ByteArray := prog_12_method_3_code
def yX10_wake : MethodName := ⟨RX10, "wake", "()V"⟩
abbrev cX10_fresh : ByteArray := prog_12_method_4_code
def yX10_fresh : MethodName := ⟨RX10, "fresh", "([I)V"⟩
abbrev cX10_setPin : ByteArray := prog_12_method_5_code
def yX10_setPin : MethodName := ⟨RX10, "setPin", "(LKeyFob$Tape;I)V"⟩
abbrev cX10_tryPin : ByteArray := prog_12_method_6_code
def yX10_tryPin : MethodName := ⟨RX10, "tryPin", "(LKeyFob$Tape;I)I"⟩
abbrev cX10_proves : ByteArray := prog_12_method_7_code
def yX10_proves : MethodName := ⟨RX10, "proves", "(LKeyFob$Tape;I[I)Z"⟩
abbrev cX10_begin : ByteArray := prog_12_method_8_code
def yX10_begin : MethodName := ⟨RX10, "begin", "()V"⟩
abbrev cX10_beginMac : ByteArray := prog_12_method_9_code
def yX10_beginMac : MethodName := ⟨RX10, "beginMac", "(I)V"⟩
def RX11 : String := "KeyFob"
def TX11 : u_T := fun k => match k with
  | 0 => ("KeyFob", "tape", "LKeyFob$Tape;", true)
  | 1 => ("KeyFob", "reply", "LKeyFob$Row;", true)
  | 2 => ("KeyFob", "data", "LKeyFob$Row;", true)
  | 3 => ("KeyFob", "vault", "LKeyFob$Vault;", true)
  | 4 => ("KeyFob", "ring", "LKeyFob$Ring;", true)
  | 5 => ("KeyFob", "waits", "LKeyFob$Queue;", true)
  | 6 => ("KeyFob", "signer", "LKeyFob$Signer;", true)
  | 7 => ("KeyFob", "hash", "LKeyFob$Hash;", true)
  | 8 => ("KeyFob", "house", "[I", true)
  | 9 => ("KeyFob", "seed", "[I", true)
  | 10 => ("KeyFob", "word", "[I", true)
  | 11 => ("KeyFob", "flags", "I", false)
  | _ => ("KeyFob", "touched", "Z", false)
def tyX11 : Nat → FieldType := fun k => match k with
  | 0 => .object "KeyFob$Tape"
  | 1 => .object "KeyFob$Row"
  | 2 => .object "KeyFob$Row"
  | 3 => .object "KeyFob$Vault"
  | 4 => .object "KeyFob$Ring"
  | 5 => .object "KeyFob$Queue"
  | 6 => .object "KeyFob$Signer"
  | 7 => .object "KeyFob$Hash"
  | 8 => .array .int
  | 9 => .array .int
  | 10 => .array .int
  | 11 => .int
  | _ => .boolean
abbrev wsX110 : List Cond := u_ws RX11 TX11 13
theorem nmX11 : ∀ a, a < 13 → ∀ b, b < 13 → a ≠ b → (TX11 a).2.1 ≠ (TX11 b).2.1 := by decide +kernel
theorem tyX11_ok : ∀ k, k < 13 → parseFieldDescriptor (TX11 k).2.2.1 = some (tyX11 k) := by decide +kernel
abbrev cX11_init : ByteArray := prog_1_method_1_code
def yX11_init : MethodName := ⟨RX11, "<init>", "()V"⟩
abbrev cX11_feed : ByteArray := prog_1_method_2_code
def yX11_feed : MethodName := ⟨RX11, "feed", "(IIIII)I"⟩
abbrev cX11_trim : ByteArray := prog_1_method_3_code
def yX11_trim : MethodName := ⟨RX11, "trim", "(I)I"⟩
abbrev cX11_send : ByteArray := prog_1_method_4_code
def yX11_send : MethodName := ⟨RX11, "send", "(I)I"⟩
abbrev cX11_out : ByteArray := prog_1_method_5_code
def yX11_out : MethodName := ⟨RX11, "out", "(I)I"⟩
abbrev cX11_keep : ByteArray := prog_1_method_6_code
def yX11_keep : MethodName := ⟨RX11, "keep", "(II)I"⟩
abbrev cX11_touch : ByteArray := prog_1_method_7_code
def yX11_touch : MethodName := ⟨RX11, "touch", "()I"⟩
abbrev cX11_power : ByteArray := prog_1_method_8_code
def yX11_power : MethodName := ⟨RX11, "power", "()I"⟩
abbrev cX11_advance : ByteArray := prog_1_method_9_code
def yX11_advance : MethodName := ⟨RX11, "advance", "(II)I"⟩
abbrev cX11_check : ByteArray := prog_1_method_10_code
def yX11_check : MethodName := ⟨RX11, "check", "()I"⟩
abbrev cX11_forged : ByteArray := prog_1_method_11_code
def yX11_forged : MethodName := ⟨RX11, "forged", "(I)I"⟩
abbrev cX11_count : ByteArray := prog_1_method_12_code
def yX11_count : MethodName := ⟨RX11, "count", "(I)I"⟩
abbrev cX11_key : ByteArray := prog_1_method_13_code
def yX11_key : MethodName := ⟨RX11, "key", "(III)I"⟩
abbrev cX11_makeKey : ByteArray := prog_1_method_14_code
def yX11_makeKey : MethodName := ⟨RX11, "makeKey", "()I"⟩
abbrev cX11_readHouse : ByteArray := prog_1_method_15_code
def yX11_readHouse : MethodName := ⟨RX11, "readHouse", "(I)V"⟩
abbrev cX11_refusalToMake : ByteArray := prog_1_method_16_code
def yX11_refusalToMake : MethodName := ⟨RX11, "refusalToMake", "(I)I"⟩
abbrev cX11_fillKey : ByteArray := prog_1_method_17_code
def yX11_fillKey : MethodName := ⟨RX11, "fillKey", "(LKeyFob$Key;)V"⟩
abbrev cX11_writeData : ByteArray := prog_1_method_18_code
def yX11_writeData : MethodName := ⟨RX11, "writeData", "(LKeyFob$Key;I)V"⟩
abbrev cX11_findKeys : ByteArray := prog_1_method_19_code
def yX11_findKeys : MethodName := ⟨RX11, "findKeys", "()I"⟩
abbrev cX11_refusalToGet : ByteArray := prog_1_method_20_code
def yX11_refusalToGet : MethodName := ⟨RX11, "refusalToGet", "(Z)I"⟩
abbrev cX11_assertFirst : ByteArray := prog_1_method_21_code
def yX11_assertFirst : MethodName := ⟨RX11, "assertFirst", "(I)I"⟩
abbrev cX11_usePin : ByteArray := prog_1_method_22_code
def yX11_usePin : MethodName := ⟨RX11, "usePin", "()I"⟩
abbrev cX11_refusalOfPin : ByteArray := prog_1_method_23_code
def yX11_refusalOfPin : MethodName := ⟨RX11, "refusalOfPin", "(I)I"⟩
abbrev cX11_reset : ByteArray := prog_1_method_24_code
def yX11_reset : MethodName := ⟨RX11, "reset", "()I"⟩
abbrev cX11_sameBytes : ByteArray := prog_1_method_25_code
def yX11_sameBytes : MethodName := ⟨RX11, "sameBytes", "([I[III)Z"⟩
def RX12 : String := "KeyFobModel"
def TX12 : u_T := fun k => match k with
  | 0 => ("KeyFobModel", "thrown", "I", false)
  | 1 => ("KeyFobModel", "tape", "[I", true)
  | 2 => ("KeyFobModel", "taped", "I", false)
  | 3 => ("KeyFobModel", "out", "[I", true)
  | 4 => ("KeyFobModel", "outMany", "I", false)
  | 5 => ("KeyFobModel", "master", "[I", true)
  | 6 => ("KeyFobModel", "turn", "I", false)
  | 7 => ("KeyFobModel", "token", "[I", true)
  | 8 => ("KeyFobModel", "pin", "[I", true)
  | 9 => ("KeyFobModel", "hasPin", "Z", false)
  | 10 => ("KeyFobModel", "tries", "I", false)
  | 11 => ("KeyFobModel", "misses", "I", false)
  | 12 => ("KeyFobModel", "touched", "Z", false)
  | 13 => ("KeyFobModel", "keys", "I", false)
  | 14 => ("KeyFobModel", "houses", "[I", true)
  | 15 => ("KeyFobModel", "userLong", "[I", true)
  | 16 => ("KeyFobModel", "users", "[I", true)
  | 17 => ("KeyFobModel", "numbers", "[I", true)
  | 18 => ("KeyFobModel", "ids", "[I", true)
  | 19 => ("KeyFobModel", "counters", "[I", true)
  | 20 => ("KeyFobModel", "points", "[I", true)
  | 21 => ("KeyFobModel", "waiting", "I", false)
  | 22 => ("KeyFobModel", "waits", "[I", true)
  | 23 => ("KeyFobModel", "waitWord", "[I", true)
  | 24 => ("KeyFobModel", "waitByte", "I", false)
  | 25 => ("KeyFobModel", "signatures", "I", false)
  | 26 => ("KeyFobModel", "lastHash", "[I", true)
  | 27 => ("KeyFobModel", "lastPoint", "[I", true)
  | 28 => ("KeyFobModel", "lastSign", "[I", true)
  | 29 => ("KeyFobModel", "message", "[I", true)
  | 30 => ("KeyFobModel", "messageLong", "I", false)
  | 31 => ("KeyFobModel", "sums", "[I", true)
  | 32 => ("KeyFobModel", "schedule", "[I", true)
  | 33 => ("KeyFobModel", "digest", "[I", true)
  | 34 => ("KeyFobModel", "inner", "[I", true)
  | 35 => ("KeyFobModel", "freshRow", "[I", true)
  | 36 => ("KeyFobModel", "product", "[I", true)
  | 37 => ("KeyFobModel", "u", "[I", true)
  | 38 => ("KeyFobModel", "v", "[I", true)
  | 39 => ("KeyFobModel", "x1", "[I", true)
  | 40 => ("KeyFobModel", "x2", "[I", true)
  | 41 => ("KeyFobModel", "px", "[I", true)
  | 42 => ("KeyFobModel", "py", "[I", true)
  | 43 => ("KeyFobModel", "pNone", "Z", false)
  | 44 => ("KeyFobModel", "slope", "[I", true)
  | 45 => ("KeyFobModel", "below", "[I", true)
  | 46 => ("KeyFobModel", "mid", "[I", true)
  | 47 => ("KeyFobModel", "other", "[I", true)
  | 48 => ("KeyFobModel", "third", "[I", true)
  | 49 => ("KeyFobModel", "baseX", "[I", true)
  | 50 => ("KeyFobModel", "baseY", "[I", true)
  | 51 => ("KeyFobModel", "key", "[I", true)
  | 52 => ("KeyFobModel", "turnKey", "[I", true)
  | 53 => ("KeyFobModel", "hash", "[I", true)
  | 54 => ("KeyFobModel", "\x72", "[I", true)
  | 55 => ("KeyFobModel", "s", "[I", true)
  | 56 => ("KeyFobModel", "tried", "[I", true)
  | 57 => ("KeyFobModel", "one1", "[I", true)
  | 58 => ("KeyFobModel", "two2", "[I", true)
  | 59 => ("KeyFobModel", "sumX", "[I", true)
  | 60 => ("KeyFobModel", "sumY", "[I", true)
  | 61 => ("KeyFobModel", "kind", "[I", true)
  | 62 => ("KeyFobModel", "from", "[I", true)
  | 63 => ("KeyFobModel", "size", "[I", true)
  | 64 => ("KeyFobModel", "mapEnd", "I", false)
  | 65 => ("KeyFobModel", "at", "I", false)
  | 66 => ("KeyFobModel", "known", "[I", true)
  | 67 => ("KeyFobModel", "must", "[Z", true)
  | 68 => ("KeyFobModel", "least", "[I", true)
  | 69 => ("KeyFobModel", "most", "[I", true)
  | 70 => ("KeyFobModel", "rowAt", "I", false)
  | 71 => ("KeyFobModel", "house", "[I", true)
  | 72 => ("KeyFobModel", "data", "[I", true)
  | 73 => ("KeyFobModel", "dataMany", "I", false)
  | _ => ("KeyFobModel", "signed", "[I", true)
def tyX12 : Nat → FieldType := fun k => match k with
  | 0 => .int
  | 1 => .array .int
  | 2 => .int
  | 3 => .array .int
  | 4 => .int
  | 5 => .array .int
  | 6 => .int
  | 7 => .array .int
  | 8 => .array .int
  | 9 => .boolean
  | 10 => .int
  | 11 => .int
  | 12 => .boolean
  | 13 => .int
  | 14 => .array .int
  | 15 => .array .int
  | 16 => .array .int
  | 17 => .array .int
  | 18 => .array .int
  | 19 => .array .int
  | 20 => .array .int
  | 21 => .int
  | 22 => .array .int
  | 23 => .array .int
  | 24 => .int
  | 25 => .int
  | 26 => .array .int
  | 27 => .array .int
  | 28 => .array .int
  | 29 => .array .int
  | 30 => .int
  | 31 => .array .int
  | 32 => .array .int
  | 33 => .array .int
  | 34 => .array .int
  | 35 => .array .int
  | 36 => .array .int
  | 37 => .array .int
  | 38 => .array .int
  | 39 => .array .int
  | 40 => .array .int
  | 41 => .array .int
  | 42 => .array .int
  | 43 => .boolean
  | 44 => .array .int
  | 45 => .array .int
  | 46 => .array .int
  | 47 => .array .int
  | 48 => .array .int
  | 49 => .array .int
  | 50 => .array .int
  | 51 => .array .int
  | 52 => .array .int
  | 53 => .array .int
  | 54 => .array .int
  | 55 => .array .int
  | 56 => .array .int
  | 57 => .array .int
  | 58 => .array .int
  | 59 => .array .int
  | 60 => .array .int
  | 61 => .array .int
  | 62 => .array .int
  | 63 => .array .int
  | 64 => .int
  | 65 => .int
  | 66 => .array .int
  | 67 => .array .boolean
  | 68 => .array .int
  | 69 => .array .int
  | 70 => .int
  | 71 => .array .int
  | 72 => .array .int
  | 73 => .int
  | _ => .array .int
abbrev wsX120 : List Cond := u_ws RX12 TX12 75
theorem nmX12 : ∀ a, a < 75 → ∀ b, b < 75 → a ≠ b → (TX12 a).2.1 ≠ (TX12 b).2.1 := by decide +kernel
theorem tyX12_ok : ∀ k, k < 75 → parseFieldDescriptor (TX12 k).2.2.1 = some (tyX12 k) := by decide +kernel
abbrev cX12_init : ByteArray := prog_14_method_1_code
def yX12_init : MethodName := ⟨RX12, "<init>", "()V"⟩
abbrev cX12_begin : ByteArray := prog_14_method_3_code
def yX12_begin : MethodName := ⟨RX12, "begin", "()V"⟩
abbrev cX12_put : ByteArray := prog_14_method_4_code
def yX12_put : MethodName := ⟨RX12, "put", "(I)V"⟩
abbrev cX12_put_ : ByteArray := prog_14_method_5_code
def yX12_put_ : MethodName := ⟨RX12, "put", "([III)V"⟩
abbrev cX12_putFour : ByteArray := prog_14_method_6_code
def yX12_putFour : MethodName := ⟨RX12, "putFour", "(I)V"⟩
abbrev cX12_one : ByteArray := prog_14_method_7_code
def yX12_one : MethodName := ⟨RX12, "one", "(I)I"⟩
abbrev cX12_roll : ByteArray := prog_14_method_8_code
def yX12_roll : MethodName := ⟨RX12, "roll", "(II)I"⟩
abbrev cX12_block : ByteArray := prog_14_method_9_code
def yX12_block : MethodName := ⟨RX12, "block", "(I)V"⟩
abbrev cX12_finish : ByteArray := prog_14_method_10_code
def yX12_finish : MethodName := ⟨RX12, "finish", "()V"⟩
abbrev cX12_digestTo : ByteArray := prog_14_method_11_code
def yX12_digestTo : MethodName := ⟨RX12, "digestTo", "(I[II)V"⟩
abbrev cX12_copy : ByteArray := prog_14_method_12_code
def yX12_copy : MethodName := ⟨RX12, "copy", "([II[III)V"⟩
abbrev cX12_isSame : ByteArray := prog_14_method_13_code
def yX12_isSame : MethodName := ⟨RX12, "isSame", "([II[III)Z"⟩
abbrev cX12_putPad : ByteArray := prog_14_method_14_code
def yX12_putPad : MethodName := ⟨RX12, "putPad", "([II)V"⟩
abbrev cX12_mac : ByteArray := prog_14_method_15_code
def yX12_mac : MethodName := ⟨RX12, "mac", "([I[III)V"⟩
abbrev cX12_fresh : ByteArray := prog_14_method_16_code
def yX12_fresh : MethodName := ⟨RX12, "fresh", "()V"⟩
abbrev cX12_newToken : ByteArray := prog_14_method_17_code
def yX12_newToken : MethodName := ⟨RX12, "newToken", "()V"⟩
abbrev cX12_setUp : ByteArray := prog_14_method_18_code
def yX12_setUp : MethodName := ⟨RX12, "setUp", "()V"⟩
abbrev cX12_isLess : ByteArray := prog_14_method_19_code
def yX12_isLess : MethodName := ⟨RX12, "isLess", "([I[I)Z"⟩
abbrev cX12_isZero : ByteArray := prog_14_method_20_code
def yX12_isZero : MethodName := ⟨RX12, "isZero", "([I)Z"⟩
abbrev cX12_isOne : ByteArray := prog_14_method_21_code
def yX12_isOne : MethodName := ⟨RX12, "isOne", "([I)Z"⟩
abbrev cX12_set : ByteArray := prog_14_method_22_code
def yX12_set : MethodName := ⟨RX12, "set", "([I[I)V"⟩
abbrev cX12_small : ByteArray := prog_14_method_23_code
def yX12_small : MethodName := ⟨RX12, "small", "([II)V"⟩
abbrev cX12_add : ByteArray := prog_14_method_24_code
def yX12_add : MethodName := ⟨RX12, "add", "([I[I[I)I"⟩
abbrev cX12_take : ByteArray := prog_14_method_25_code
def yX12_take : MethodName := ⟨RX12, "take", "([I[I[I)V"⟩
abbrev cX12_once : ByteArray := prog_14_method_26_code
def yX12_once : MethodName := ⟨RX12, "once", "([I[I)V"⟩
abbrev cX12_plus : ByteArray := prog_14_method_27_code
def yX12_plus : MethodName := ⟨RX12, "plus", "([I[I[I[I)V"⟩
abbrev cX12_less : ByteArray := prog_14_method_28_code
def yX12_less : MethodName := ⟨RX12, "less", "([I[I[I[I)V"⟩
abbrev cX12_times : ByteArray := prog_14_method_29_code
def yX12_times : MethodName := ⟨RX12, "times", "([I[I[I[I)V"⟩
abbrev cX12_divideAt : ByteArray := prog_14_method_30_code
def yX12_divideAt : MethodName := ⟨RX12, "divideAt", "(I[I)V"⟩
abbrev cX12_halve : ByteArray := prog_14_method_31_code
def yX12_halve : MethodName := ⟨RX12, "halve", "([II)V"⟩
abbrev cX12_halveBoth : ByteArray := prog_14_method_32_code
def yX12_halveBoth : MethodName := ⟨RX12, "halveBoth", "([I[I[I)V"⟩
abbrev cX12_inverse : ByteArray := prog_14_method_33_code
def yX12_inverse : MethodName := ⟨RX12, "inverse", "([I[I[I)V"⟩
abbrev cX12_fromBytes : ByteArray := prog_14_method_34_code
def yX12_fromBytes : MethodName := ⟨RX12, "fromBytes", "([I[II)V"⟩
abbrev cX12_toBytes : ByteArray := prog_14_method_35_code
def yX12_toBytes : MethodName := ⟨RX12, "toBytes", "([I[II)V"⟩
abbrev cX12_join : ByteArray := prog_14_method_36_code
def yX12_join : MethodName := ⟨RX12, "join", "([I[I)V"⟩
abbrev cX12_twice : ByteArray := prog_14_method_37_code
def yX12_twice : MethodName := ⟨RX12, "twice", "()V"⟩
abbrev cX12_go : ByteArray := prog_14_method_38_code
def yX12_go : MethodName := ⟨RX12, "go", "([I)V"⟩
abbrev cX12_multiply : ByteArray := prog_14_method_39_code
def yX12_multiply : MethodName := ⟨RX12, "multiply", "([I[I[I)V"⟩
abbrev cX12_within : ByteArray := prog_14_method_40_code
def yX12_within : MethodName := ⟨RX12, "within", "([I[II)V"⟩
abbrev cX12_sign : ByteArray := prog_14_method_41_code
def yX12_sign : MethodName := ⟨RX12, "sign", "(I[I)V"⟩
abbrev cX12_isRight : ByteArray := prog_14_method_42_code
def yX12_isRight : MethodName := ⟨RX12, "isRight", "()Z"⟩
abbrev cX12_feed : ByteArray := prog_14_method_43_code
def yX12_feed : MethodName := ⟨RX12, "feed", "(IIIII)I"⟩
abbrev cX12_tapeFour : ByteArray := prog_14_method_44_code
def yX12_tapeFour : MethodName := ⟨RX12, "tapeFour", "(I)V"⟩
abbrev cX12_trim : ByteArray := prog_14_method_45_code
def yX12_trim : MethodName := ⟨RX12, "trim", "(I)I"⟩
abbrev cX12_out : ByteArray := prog_14_method_46_code
def yX12_out : MethodName := ⟨RX12, "out", "(I)I"⟩
abbrev cX12_keep : ByteArray := prog_14_method_47_code
def yX12_keep : MethodName := ⟨RX12, "keep", "(II)I"⟩
abbrev cX12_say : ByteArray := prog_14_method_48_code
def yX12_say : MethodName := ⟨RX12, "say", "(I)V"⟩
abbrev cX12_sayRow : ByteArray := prog_14_method_49_code
def yX12_sayRow : MethodName := ⟨RX12, "sayRow", "(I[III)V"⟩
abbrev cX12_sayNumber : ByteArray := prog_14_method_50_code
def yX12_sayNumber : MethodName := ⟨RX12, "sayNumber", "(II)V"⟩
abbrev cX12_next : ByteArray := prog_14_method_51_code
def yX12_next : MethodName := ⟨RX12, "next", "()I"⟩
abbrev cX12_lengthOf : ByteArray := prog_14_method_52_code
def yX12_lengthOf : MethodName := ⟨RX12, "lengthOf", "(I)I"⟩
abbrev cX12_pass : ByteArray := prog_14_method_53_code
def yX12_pass : MethodName := ⟨RX12, "pass", "(I)I"⟩
abbrev cX12_passList : ByteArray := prog_14_method_54_code
def yX12_passList : MethodName := ⟨RX12, "passList", "(I)Z"⟩
abbrev cX12_value : ByteArray := prog_14_method_55_code
def yX12_value : MethodName := ⟨RX12, "value", "(I)Z"⟩
abbrev cX12_map : ByteArray := prog_14_method_56_code
def yX12_map : MethodName := ⟨RX12, "map", "(I)Z"⟩
abbrev cX12_forget : ByteArray := prog_14_method_57_code
def yX12_forget : MethodName := ⟨RX12, "forget", "()V"⟩
abbrev cX12_know : ByteArray := prog_14_method_58_code
def yX12_know : MethodName := ⟨RX12, "know", "(IIZII)V"⟩
abbrev cX12_isLength : ByteArray := prog_14_method_59_code
def yX12_isLength : MethodName := ⟨RX12, "isLength", "(II)Z"⟩
abbrev cX12_listRow : ByteArray := prog_14_method_60_code
def yX12_listRow : MethodName := ⟨RX12, "listRow", "(II)I"⟩
abbrev cX12_areLengths : ByteArray := prog_14_method_61_code
def yX12_areLengths : MethodName := ⟨RX12, "areLengths", "(I)Z"⟩
abbrev cX12_refuse : ByteArray := prog_14_method_62_code
def yX12_refuse : MethodName := ⟨RX12, "refuse", "(I)I"⟩
abbrev cX12_findHouse : ByteArray := prog_14_method_63_code
def yX12_findHouse : MethodName := ⟨RX12, "findHouse", "(I)V"⟩
abbrev cX12_isOfHouse : ByteArray := prog_14_method_64_code
def yX12_isOfHouse : MethodName := ⟨RX12, "isOfHouse", "(I)Z"⟩
abbrev cX12_hasId : ByteArray := prog_14_method_65_code
def yX12_hasId : MethodName := ⟨RX12, "hasId", "(II)Z"⟩
abbrev cX12_isProof : ByteArray := prog_14_method_66_code
def yX12_isProof : MethodName := ⟨RX12, "isProof", "(II)Z"⟩
abbrev cX12_addData : ByteArray := prog_14_method_67_code
def yX12_addData : MethodName := ⟨RX12, "addData", "([III)V"⟩
abbrev cX12_beginData : ByteArray := prog_14_method_68_code
def yX12_beginData : MethodName := ⟨RX12, "beginData", "(II)V"⟩
abbrev cX12_signData : ByteArray := prog_14_method_69_code
def yX12_signData : MethodName := ⟨RX12, "signData", "(I[II)V"⟩
abbrev cX12_keyOf : ByteArray := prog_14_method_70_code
def yX12_keyOf : MethodName := ⟨RX12, "keyOf", "(I)I"⟩
abbrev cX12_lose : ByteArray := prog_14_method_71_code
def yX12_lose : MethodName := ⟨RX12, "lose", "(I)V"⟩
abbrev cX12_make : ByteArray := prog_14_method_72_code
def yX12_make : MethodName := ⟨RX12, "make", "(I)I"⟩
abbrev cX12_asserts : ByteArray := prog_14_method_73_code
def yX12_asserts : MethodName := ⟨RX12, "asserts", "(I[IIII)V"⟩
abbrev cX12_get : ByteArray := prog_14_method_74_code
def yX12_get : MethodName := ⟨RX12, "get", "(I)I"⟩
abbrev cX12_goOn : ByteArray := prog_14_method_75_code
def yX12_goOn : MethodName := ⟨RX12, "goOn", "()I"⟩
abbrev cX12_tryOld : ByteArray := prog_14_method_76_code
def yX12_tryOld : MethodName := ⟨RX12, "tryOld", "()I"⟩
abbrev cX12_setPin : ByteArray := prog_14_method_77_code
def yX12_setPin : MethodName := ⟨RX12, "setPin", "()I"⟩
abbrev cX12_doPin : ByteArray := prog_14_method_78_code
def yX12_doPin : MethodName := ⟨RX12, "doPin", "(I)I"⟩
abbrev cX12_reset : ByteArray := prog_14_method_79_code
def yX12_reset : MethodName := ⟨RX12, "reset", "()I"⟩
abbrev cX12_send : ByteArray := prog_14_method_80_code
def yX12_send : MethodName := ⟨RX12, "send", "(I)I"⟩
abbrev cX12_touch : ByteArray := prog_14_method_81_code
def yX12_touch : MethodName := ⟨RX12, "touch", "()I"⟩
abbrev cX12_power : ByteArray := prog_14_method_82_code
def yX12_power : MethodName := ⟨RX12, "power", "()I"⟩
abbrev cX12_isKey : ByteArray := prog_14_method_83_code
def yX12_isKey : MethodName := ⟨RX12, "isKey", "(I)Z"⟩
abbrev cX12_advance : ByteArray := prog_14_method_84_code
def yX12_advance : MethodName := ⟨RX12, "advance", "(II)I"⟩
abbrev cX12_check : ByteArray := prog_14_method_85_code
def yX12_check : MethodName := ⟨RX12, "check", "()I"⟩
abbrev cX12_forged : ByteArray := prog_14_method_86_code
def yX12_forged : MethodName := ⟨RX12, "forged", "(I)I"⟩
abbrev cX12_count : ByteArray := prog_14_method_87_code
def yX12_count : MethodName := ⟨RX12, "count", "(I)I"⟩
abbrev cX12_key : ByteArray := prog_14_method_88_code
def yX12_key : MethodName := ⟨RX12, "key", "(III)I"⟩
def RL : String := "KeyFobLaw"
abbrev cL_law : ByteArray := code
def yL_law : MethodName := ⟨RL, "law", "([I)Z"⟩
abbrev vwCl : List vw_C := [(RX0, TX0, 12), (RX1, TX1, 6), (RX2, TX2, 3), (RX3, TX3, 7), (RX4, TX4, 3), (RX5, TX5, 3), (RX6, TX6, 2), (RX7, TX7, 2), (RX8, TX8, 17), (RX9, TX9, 8), (RX10, TX10, 9), (RX11, TX11, 13), (RX12, TX12, 75)]
