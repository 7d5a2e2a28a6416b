-- ===== PART A: goes FIRST, ahead of the names: the tables' words, and 'selects' of the private methods out of them =====
/-- a private method of a class that the tables say can be made, by its rows of tables_1 -/
def lw_okq (q : MethodName × Nat) : Prop := (q.1.cls ≠ "java/lang/invoke/MethodHandle" ∧ q.1.cls ≠ "java/lang/invoke/VarHandle") ∧ Cond.instantiable q.1.cls q.2 ∈ tables_1 ∧ Cond.privateMethod q.1 ∈ tables_1 ∧ Cond.instanceMethod q.1 ∈ tables_1
theorem lw_p0 : lw_okq (⟨"WristTreaty$Reader", "readToken", "()V"⟩, 13) := ⟨⟨by decide +kernel, by decide +kernel⟩, List.mem_of_getElem? (i := 47) (by decide +kernel), List.mem_of_getElem? (i := 435) (by decide +kernel), List.mem_of_getElem? (i := 436) (by decide +kernel)⟩
theorem lw_p1 : lw_okq (⟨"WristTreaty$Reader", "readLongest", "()V"⟩, 13) := ⟨⟨by decide +kernel, by decide +kernel⟩, List.mem_of_getElem? (i := 47) (by decide +kernel), List.mem_of_getElem? (i := 450) (by decide +kernel), List.mem_of_getElem? (i := 451) (by decide +kernel)⟩
theorem lw_p2 : lw_okq (⟨"WristTreaty$Reader", "acceptToken", "()V"⟩, 13) := ⟨⟨by decide +kernel, by decide +kernel⟩, List.mem_of_getElem? (i := 47) (by decide +kernel), List.mem_of_getElem? (i := 458) (by decide +kernel), List.mem_of_getElem? (i := 459) (by decide +kernel)⟩
theorem lw_p3 : lw_okq (⟨"WristTreaty$Reader", "openLine", "()V"⟩, 13) := ⟨⟨by decide +kernel, by decide +kernel⟩, List.mem_of_getElem? (i := 47) (by decide +kernel), List.mem_of_getElem? (i := 462) (by decide +kernel), List.mem_of_getElem? (i := 463) (by decide +kernel)⟩
theorem lw_p4 : lw_okq (⟨"WristTreaty$Reader", "lineOfWord", "()I"⟩, 13) := ⟨⟨by decide +kernel, by decide +kernel⟩, List.mem_of_getElem? (i := 47) (by decide +kernel), List.mem_of_getElem? (i := 466) (by decide +kernel), List.mem_of_getElem? (i := 467) (by decide +kernel)⟩
theorem lw_p5 : lw_okq (⟨"WristTreaty$Reader", "isWord", "(Ljava/lang/String;)Z"⟩, 13) := ⟨⟨by decide +kernel, by decide +kernel⟩, List.mem_of_getElem? (i := 47) (by decide +kernel), List.mem_of_getElem? (i := 471) (by decide +kernel), List.mem_of_getElem? (i := 472) (by decide +kernel)⟩
theorem lw_p6 : lw_okq (⟨"WristTreaty$Reader", "fail", "(I)V"⟩, 13) := ⟨⟨by decide +kernel, by decide +kernel⟩, List.mem_of_getElem? (i := 47) (by decide +kernel), List.mem_of_getElem? (i := 527) (by decide +kernel), List.mem_of_getElem? (i := 528) (by decide +kernel)⟩
theorem lw_p7 : lw_okq (⟨"WristTreaty$Reader", "hasAll", "(I)Z"⟩, 13) := ⟨⟨by decide +kernel, by decide +kernel⟩, List.mem_of_getElem? (i := 47) (by decide +kernel), List.mem_of_getElem? (i := 531) (by decide +kernel), List.mem_of_getElem? (i := 532) (by decide +kernel)⟩
theorem lw_p8 : lw_okq (⟨"WristTreaty$Reader", "closeLine", "()V"⟩, 13) := ⟨⟨by decide +kernel, by decide +kernel⟩, List.mem_of_getElem? (i := 47) (by decide +kernel), List.mem_of_getElem? (i := 537) (by decide +kernel), List.mem_of_getElem? (i := 538) (by decide +kernel)⟩
theorem lw_p9 : lw_okq (⟨"WristTreaty$Reader", "acceptWord", "()V"⟩, 13) := ⟨⟨by decide +kernel, by decide +kernel⟩, List.mem_of_getElem? (i := 47) (by decide +kernel), List.mem_of_getElem? (i := 554) (by decide +kernel), List.mem_of_getElem? (i := 555) (by decide +kernel)⟩
theorem lw_p10 : lw_okq (⟨"WristTreaty$Reader", "wordDue", "()Ljava/lang/String;"⟩, 13) := ⟨⟨by decide +kernel, by decide +kernel⟩, List.mem_of_getElem? (i := 47) (by decide +kernel), List.mem_of_getElem? (i := 559) (by decide +kernel), List.mem_of_getElem? (i := 560) (by decide +kernel)⟩
theorem lw_p11 : lw_okq (⟨"WristTreaty$Reader", "acceptNumber", "()V"⟩, 13) := ⟨⟨by decide +kernel, by decide +kernel⟩, List.mem_of_getElem? (i := 47) (by decide +kernel), List.mem_of_getElem? (i := 572) (by decide +kernel), List.mem_of_getElem? (i := 573) (by decide +kernel)⟩
theorem lw_p12 : lw_okq (⟨"WristTreaty", "courseOfNow", "()LWristTreaty$Course;"⟩, 11) := ⟨⟨by decide +kernel, by decide +kernel⟩, List.mem_of_getElem? (i := 23) (by decide +kernel), List.mem_of_getElem? (i := 670) (by decide +kernel), List.mem_of_getElem? (i := 671) (by decide +kernel)⟩
theorem lw_p13 : lw_okq (⟨"WristTreaty$Pairing", "tryMan", "(IIII)V"⟩, 6) := ⟨⟨by decide +kernel, by decide +kernel⟩, List.mem_of_getElem? (i := 272) (by decide +kernel), List.mem_of_getElem? (i := 785) (by decide +kernel), List.mem_of_getElem? (i := 786) (by decide +kernel)⟩
theorem lw_p14 : lw_okq (⟨"WristTreaty$Pairing", "weigh", "(III)V"⟩, 6) := ⟨⟨by decide +kernel, by decide +kernel⟩, List.mem_of_getElem? (i := 272) (by decide +kernel), List.mem_of_getElem? (i := 790) (by decide +kernel), List.mem_of_getElem? (i := 791) (by decide +kernel)⟩
theorem lw_p15 : lw_okq (⟨"WristTreaty", "saidRefusal", "(II)I"⟩, 11) := ⟨⟨by decide +kernel, by decide +kernel⟩, List.mem_of_getElem? (i := 23) (by decide +kernel), List.mem_of_getElem? (i := 831) (by decide +kernel), List.mem_of_getElem? (i := 832) (by decide +kernel)⟩
def lw_privs_1 : List (MethodName × Nat) := [(⟨"WristTreaty$Reader", "readToken", "()V"⟩, 13), (⟨"WristTreaty$Reader", "readLongest", "()V"⟩, 13), (⟨"WristTreaty$Reader", "acceptToken", "()V"⟩, 13), (⟨"WristTreaty$Reader", "openLine", "()V"⟩, 13), (⟨"WristTreaty$Reader", "lineOfWord", "()I"⟩, 13), (⟨"WristTreaty$Reader", "isWord", "(Ljava/lang/String;)Z"⟩, 13), (⟨"WristTreaty$Reader", "fail", "(I)V"⟩, 13), (⟨"WristTreaty$Reader", "hasAll", "(I)Z"⟩, 13), (⟨"WristTreaty$Reader", "closeLine", "()V"⟩, 13), (⟨"WristTreaty$Reader", "acceptWord", "()V"⟩, 13), (⟨"WristTreaty$Reader", "wordDue", "()Ljava/lang/String;"⟩, 13), (⟨"WristTreaty$Reader", "acceptNumber", "()V"⟩, 13), (⟨"WristTreaty", "courseOfNow", "()LWristTreaty$Course;"⟩, 11), (⟨"WristTreaty$Pairing", "tryMan", "(IIII)V"⟩, 6), (⟨"WristTreaty$Pairing", "weigh", "(III)V"⟩, 6), (⟨"WristTreaty", "saidRefusal", "(II)I"⟩, 11)]
theorem lw_r1 : ∀ q ∈ lw_privs_1, lw_okq q := List.forall_mem_cons.mpr ⟨lw_p0, List.forall_mem_cons.mpr ⟨lw_p1, List.forall_mem_cons.mpr ⟨lw_p2, List.forall_mem_cons.mpr ⟨lw_p3, List.forall_mem_cons.mpr ⟨lw_p4, List.forall_mem_cons.mpr ⟨lw_p5, List.forall_mem_cons.mpr ⟨lw_p6, List.forall_mem_cons.mpr ⟨lw_p7, List.forall_mem_cons.mpr ⟨lw_p8, List.forall_mem_cons.mpr ⟨lw_p9, List.forall_mem_cons.mpr ⟨lw_p10, List.forall_mem_cons.mpr ⟨lw_p11, List.forall_mem_cons.mpr ⟨lw_p12, List.forall_mem_cons.mpr ⟨lw_p13, List.forall_mem_cons.mpr ⟨lw_p14, List.forall_mem_cons.mpr ⟨lw_p15, fun _ h => absurd h List.not_mem_nil⟩⟩⟩⟩⟩⟩⟩⟩⟩⟩⟩⟩⟩⟩⟩⟩
theorem lw_p16 : lw_okq (⟨"WristTreaty", "isHold", "(II)Z"⟩, 11) := ⟨⟨by decide +kernel, by decide +kernel⟩, List.mem_of_getElem? (i := 23) (by decide +kernel), List.mem_of_getElem? (i := 835) (by decide +kernel), List.mem_of_getElem? (i := 836) (by decide +kernel)⟩
theorem lw_p17 : lw_okq (⟨"WristTreaty$Speech", "lengthOf", "(J)I"⟩, 2) := ⟨⟨by decide +kernel, by decide +kernel⟩, List.mem_of_getElem? (i := 299) (by decide +kernel), List.mem_of_getElem? (i := 871) (by decide +kernel), List.mem_of_getElem? (i := 872) (by decide +kernel)⟩
theorem lw_p18 : lw_okq (⟨"WristTreaty$Speech", "longestClause", "()I"⟩, 2) := ⟨⟨by decide +kernel, by decide +kernel⟩, List.mem_of_getElem? (i := 299) (by decide +kernel), List.mem_of_getElem? (i := 896) (by decide +kernel), List.mem_of_getElem? (i := 897) (by decide +kernel)⟩
theorem lw_p19 : lw_okq (⟨"WristTreaty$Speech", "fewestFrom", "(III)I"⟩, 2) := ⟨⟨by decide +kernel, by decide +kernel⟩, List.mem_of_getElem? (i := 299) (by decide +kernel), List.mem_of_getElem? (i := 905) (by decide +kernel), List.mem_of_getElem? (i := 906) (by decide +kernel)⟩
theorem lw_p20 : lw_okq (⟨"WristTreaty$Speech", "leastReached", "(II)I"⟩, 2) := ⟨⟨by decide +kernel, by decide +kernel⟩, List.mem_of_getElem? (i := 299) (by decide +kernel), List.mem_of_getElem? (i := 909) (by decide +kernel), List.mem_of_getElem? (i := 910) (by decide +kernel)⟩
theorem lw_p21 : lw_okq (⟨"WristTreaty$Speech", "leastNext", "(IIII)I"⟩, 2) := ⟨⟨by decide +kernel, by decide +kernel⟩, List.mem_of_getElem? (i := 299) (by decide +kernel), List.mem_of_getElem? (i := 924) (by decide +kernel), List.mem_of_getElem? (i := 925) (by decide +kernel)⟩
theorem lw_p22 : lw_okq (⟨"WristTreaty$Bargain", "weighSets", "()V"⟩, 7) := ⟨⟨by decide +kernel, by decide +kernel⟩, List.mem_of_getElem? (i := 312) (by decide +kernel), List.mem_of_getElem? (i := 948) (by decide +kernel), List.mem_of_getElem? (i := 949) (by decide +kernel)⟩
theorem lw_p23 : lw_okq (⟨"WristTreaty$Bargain", "isSigned", "(I)Z"⟩, 7) := ⟨⟨by decide +kernel, by decide +kernel⟩, List.mem_of_getElem? (i := 312) (by decide +kernel), List.mem_of_getElem? (i := 1003) (by decide +kernel), List.mem_of_getElem? (i := 1004) (by decide +kernel)⟩
theorem lw_p24 : lw_okq (⟨"WristTreaty$Bargain", "isFirm", "(I)Z"⟩, 7) := ⟨⟨by decide +kernel, by decide +kernel⟩, List.mem_of_getElem? (i := 312) (by decide +kernel), List.mem_of_getElem? (i := 1060) (by decide +kernel), List.mem_of_getElem? (i := 1061) (by decide +kernel)⟩
theorem lw_p25 : lw_okq (⟨"WristTreaty", "bothOfferAtRest", "(I)Z"⟩, 11) := ⟨⟨by decide +kernel, by decide +kernel⟩, List.mem_of_getElem? (i := 23) (by decide +kernel), List.mem_of_getElem? (i := 1068) (by decide +kernel), List.mem_of_getElem? (i := 1069) (by decide +kernel)⟩
theorem lw_p26 : lw_okq (⟨"WristTreaty", "toldRefusal", "(I)I"⟩, 11) := ⟨⟨by decide +kernel, by decide +kernel⟩, List.mem_of_getElem? (i := 23) (by decide +kernel), List.mem_of_getElem? (i := 1080) (by decide +kernel), List.mem_of_getElem? (i := 1081) (by decide +kernel)⟩
theorem lw_p27 : lw_okq (⟨"WristTreaty$Weary", "isManOf", "(JI)Z"⟩, 5) := ⟨⟨by decide +kernel, by decide +kernel⟩, List.mem_of_getElem? (i := 342) (by decide +kernel), List.mem_of_getElem? (i := 1090) (by decide +kernel), List.mem_of_getElem? (i := 1091) (by decide +kernel)⟩
theorem lw_p28 : lw_okq (⟨"WristTreaty$Weary", "agrees", "(III)Z"⟩, 5) := ⟨⟨by decide +kernel, by decide +kernel⟩, List.mem_of_getElem? (i := 342) (by decide +kernel), List.mem_of_getElem? (i := 1101) (by decide +kernel), List.mem_of_getElem? (i := 1102) (by decide +kernel)⟩
theorem lw_p29 : lw_okq (⟨"WristTreaty$Weary", "wearyHold", "(IIII)I"⟩, 5) := ⟨⟨by decide +kernel, by decide +kernel⟩, List.mem_of_getElem? (i := 342) (by decide +kernel), List.mem_of_getElem? (i := 1107) (by decide +kernel), List.mem_of_getElem? (i := 1108) (by decide +kernel)⟩
theorem lw_p30 : lw_okq (⟨"WristTreaty$Weary", "mostLeft", "(II)I"⟩, 5) := ⟨⟨by decide +kernel, by decide +kernel⟩, List.mem_of_getElem? (i := 342) (by decide +kernel), List.mem_of_getElem? (i := 1133) (by decide +kernel), List.mem_of_getElem? (i := 1134) (by decide +kernel)⟩
theorem lw_p31 : lw_okq (⟨"WristTreaty", "isAsLikely", "(II)Z"⟩, 11) := ⟨⟨by decide +kernel, by decide +kernel⟩, List.mem_of_getElem? (i := 23) (by decide +kernel), List.mem_of_getElem? (i := 1159) (by decide +kernel), List.mem_of_getElem? (i := 1160) (by decide +kernel)⟩
def lw_privs_2 : List (MethodName × Nat) := [(⟨"WristTreaty", "isHold", "(II)Z"⟩, 11), (⟨"WristTreaty$Speech", "lengthOf", "(J)I"⟩, 2), (⟨"WristTreaty$Speech", "longestClause", "()I"⟩, 2), (⟨"WristTreaty$Speech", "fewestFrom", "(III)I"⟩, 2), (⟨"WristTreaty$Speech", "leastReached", "(II)I"⟩, 2), (⟨"WristTreaty$Speech", "leastNext", "(IIII)I"⟩, 2), (⟨"WristTreaty$Bargain", "weighSets", "()V"⟩, 7), (⟨"WristTreaty$Bargain", "isSigned", "(I)Z"⟩, 7), (⟨"WristTreaty$Bargain", "isFirm", "(I)Z"⟩, 7), (⟨"WristTreaty", "bothOfferAtRest", "(I)Z"⟩, 11), (⟨"WristTreaty", "toldRefusal", "(I)I"⟩, 11), (⟨"WristTreaty$Weary", "isManOf", "(JI)Z"⟩, 5), (⟨"WristTreaty$Weary", "agrees", "(III)Z"⟩, 5), (⟨"WristTreaty$Weary", "wearyHold", "(IIII)I"⟩, 5), (⟨"WristTreaty$Weary", "mostLeft", "(II)I"⟩, 5), (⟨"WristTreaty", "isAsLikely", "(II)Z"⟩, 11)]
theorem lw_r2 : ∀ q ∈ lw_privs_2, lw_okq q := List.forall_mem_cons.mpr ⟨lw_p16, List.forall_mem_cons.mpr ⟨lw_p17, List.forall_mem_cons.mpr ⟨lw_p18, List.forall_mem_cons.mpr ⟨lw_p19, List.forall_mem_cons.mpr ⟨lw_p20, List.forall_mem_cons.mpr ⟨lw_p21, List.forall_mem_cons.mpr ⟨lw_p22, List.forall_mem_cons.mpr ⟨lw_p23, List.forall_mem_cons.mpr ⟨lw_p24, List.forall_mem_cons.mpr ⟨lw_p25, List.forall_mem_cons.mpr ⟨lw_p26, List.forall_mem_cons.mpr ⟨lw_p27, List.forall_mem_cons.mpr ⟨lw_p28, List.forall_mem_cons.mpr ⟨lw_p29, List.forall_mem_cons.mpr ⟨lw_p30, List.forall_mem_cons.mpr ⟨lw_p31, fun _ h => absurd h List.not_mem_nil⟩⟩⟩⟩⟩⟩⟩⟩⟩⟩⟩⟩⟩⟩⟩⟩
theorem lw_p32 : lw_okq (⟨"WristTreaty$Evening", "note", "(III)V"⟩, 10) := ⟨⟨by decide +kernel, by decide +kernel⟩, List.mem_of_getElem? (i := 170) (by decide +kernel), List.mem_of_getElem? (i := 1184) (by decide +kernel), List.mem_of_getElem? (i := 1185) (by decide +kernel)⟩
theorem lw_p33 : lw_okq (⟨"WristTreaty$Evening", "setStart", "(II)V"⟩, 10) := ⟨⟨by decide +kernel, by decide +kernel⟩, List.mem_of_getElem? (i := 170) (by decide +kernel), List.mem_of_getElem? (i := 1188) (by decide +kernel), List.mem_of_getElem? (i := 1189) (by decide +kernel)⟩
theorem lw_p34 : lw_okq (⟨"WristTreaty", "beatsDrawn", "(II)I"⟩, 11) := ⟨⟨by decide +kernel, by decide +kernel⟩, List.mem_of_getElem? (i := 23) (by decide +kernel), List.mem_of_getElem? (i := 1241) (by decide +kernel), List.mem_of_getElem? (i := 1242) (by decide +kernel)⟩
theorem lw_p35 : lw_okq (⟨"WristTreatyModel", "advance", "()V"⟩, 35) := ⟨⟨by decide +kernel, by decide +kernel⟩, List.mem_of_getElem? (i := 1315) (by decide +kernel), List.mem_of_getElem? (i := 1454) (by decide +kernel), List.mem_of_getElem? (i := 1455) (by decide +kernel)⟩
theorem lw_p36 : lw_okq (⟨"WristTreatyModel", "see", "(I)I"⟩, 35) := ⟨⟨by decide +kernel, by decide +kernel⟩, List.mem_of_getElem? (i := 1315) (by decide +kernel), List.mem_of_getElem? (i := 1458) (by decide +kernel), List.mem_of_getElem? (i := 1459) (by decide +kernel)⟩
theorem lw_p37 : lw_okq (⟨"WristTreatyModel", "good", "()Z"⟩, 35) := ⟨⟨by decide +kernel, by decide +kernel⟩, List.mem_of_getElem? (i := 1315) (by decide +kernel), List.mem_of_getElem? (i := 1468) (by decide +kernel), List.mem_of_getElem? (i := 1469) (by decide +kernel)⟩
theorem lw_p38 : lw_okq (⟨"WristTreatyModel", "readLine", "()V"⟩, 35) := ⟨⟨by decide +kernel, by decide +kernel⟩, List.mem_of_getElem? (i := 1315) (by decide +kernel), List.mem_of_getElem? (i := 1472) (by decide +kernel), List.mem_of_getElem? (i := 1473) (by decide +kernel)⟩
theorem lw_p39 : lw_okq (⟨"WristTreatyModel", "needs", "(Ljava/lang/String;)V"⟩, 35) := ⟨⟨by decide +kernel, by decide +kernel⟩, List.mem_of_getElem? (i := 1315) (by decide +kernel), List.mem_of_getElem? (i := 1477) (by decide +kernel), List.mem_of_getElem? (i := 1478) (by decide +kernel)⟩
theorem lw_p40 : lw_okq (⟨"WristTreatyModel", "takes", "(Ljava/lang/String;)Z"⟩, 35) := ⟨⟨by decide +kernel, by decide +kernel⟩, List.mem_of_getElem? (i := 1315) (by decide +kernel), List.mem_of_getElem? (i := 1481) (by decide +kernel), List.mem_of_getElem? (i := 1482) (by decide +kernel)⟩
theorem lw_p41 : lw_okq (⟨"WristTreatyModel", "is", "(Ljava/lang/String;)Z"⟩, 35) := ⟨⟨by decide +kernel, by decide +kernel⟩, List.mem_of_getElem? (i := 1315) (by decide +kernel), List.mem_of_getElem? (i := 1485) (by decide +kernel), List.mem_of_getElem? (i := 1486) (by decide +kernel)⟩
theorem lw_p42 : lw_okq (⟨"WristTreatyModel", "errs", "(I)V"⟩, 35) := ⟨⟨by decide +kernel, by decide +kernel⟩, List.mem_of_getElem? (i := 1315) (by decide +kernel), List.mem_of_getElem? (i := 1491) (by decide +kernel), List.mem_of_getElem? (i := 1492) (by decide +kernel)⟩
theorem lw_p43 : lw_okq (⟨"WristTreatyModel", "told", "(Ljava/lang/String;II)I"⟩, 35) := ⟨⟨by decide +kernel, by decide +kernel⟩, List.mem_of_getElem? (i := 1315) (by decide +kernel), List.mem_of_getElem? (i := 1496) (by decide +kernel), List.mem_of_getElem? (i := 1497) (by decide +kernel)⟩
theorem lw_p44 : lw_okq (⟨"WristTreatyModel", "number", "(II)I"⟩, 35) := ⟨⟨by decide +kernel, by decide +kernel⟩, List.mem_of_getElem? (i := 1315) (by decide +kernel), List.mem_of_getElem? (i := 1500) (by decide +kernel), List.mem_of_getElem? (i := 1501) (by decide +kernel)⟩
theorem lw_p45 : lw_okq (⟨"WristTreatyModel", "readNext", "()V"⟩, 35) := ⟨⟨by decide +kernel, by decide +kernel⟩, List.mem_of_getElem? (i := 1315) (by decide +kernel), List.mem_of_getElem? (i := 1505) (by decide +kernel), List.mem_of_getElem? (i := 1506) (by decide +kernel)⟩
theorem lw_p46 : lw_okq (⟨"WristTreatyModel", "readMan", "()V"⟩, 35) := ⟨⟨by decide +kernel, by decide +kernel⟩, List.mem_of_getElem? (i := 1315) (by decide +kernel), List.mem_of_getElem? (i := 1513) (by decide +kernel), List.mem_of_getElem? (i := 1514) (by decide +kernel)⟩
theorem lw_p47 : lw_okq (⟨"WristTreatyModel", "readClause", "()V"⟩, 35) := ⟨⟨by decide +kernel, by decide +kernel⟩, List.mem_of_getElem? (i := 1315) (by decide +kernel), List.mem_of_getElem? (i := 1520) (by decide +kernel), List.mem_of_getElem? (i := 1521) (by decide +kernel)⟩
def lw_privs_3 : List (MethodName × Nat) := [(⟨"WristTreaty$Evening", "note", "(III)V"⟩, 10), (⟨"WristTreaty$Evening", "setStart", "(II)V"⟩, 10), (⟨"WristTreaty", "beatsDrawn", "(II)I"⟩, 11), (⟨"WristTreatyModel", "advance", "()V"⟩, 35), (⟨"WristTreatyModel", "see", "(I)I"⟩, 35), (⟨"WristTreatyModel", "good", "()Z"⟩, 35), (⟨"WristTreatyModel", "readLine", "()V"⟩, 35), (⟨"WristTreatyModel", "needs", "(Ljava/lang/String;)V"⟩, 35), (⟨"WristTreatyModel", "takes", "(Ljava/lang/String;)Z"⟩, 35), (⟨"WristTreatyModel", "is", "(Ljava/lang/String;)Z"⟩, 35), (⟨"WristTreatyModel", "errs", "(I)V"⟩, 35), (⟨"WristTreatyModel", "told", "(Ljava/lang/String;II)I"⟩, 35), (⟨"WristTreatyModel", "number", "(II)I"⟩, 35), (⟨"WristTreatyModel", "readNext", "()V"⟩, 35), (⟨"WristTreatyModel", "readMan", "()V"⟩, 35), (⟨"WristTreatyModel", "readClause", "()V"⟩, 35)]
theorem lw_r3 : ∀ q ∈ lw_privs_3, lw_okq q := List.forall_mem_cons.mpr ⟨lw_p32, List.forall_mem_cons.mpr ⟨lw_p33, List.forall_mem_cons.mpr ⟨lw_p34, List.forall_mem_cons.mpr ⟨lw_p35, List.forall_mem_cons.mpr ⟨lw_p36, List.forall_mem_cons.mpr ⟨lw_p37, List.forall_mem_cons.mpr ⟨lw_p38, List.forall_mem_cons.mpr ⟨lw_p39, List.forall_mem_cons.mpr ⟨lw_p40, List.forall_mem_cons.mpr ⟨lw_p41, List.forall_mem_cons.mpr ⟨lw_p42, List.forall_mem_cons.mpr ⟨lw_p43, List.forall_mem_cons.mpr ⟨lw_p44, List.forall_mem_cons.mpr ⟨lw_p45, List.forall_mem_cons.mpr ⟨lw_p46, List.forall_mem_cons.mpr ⟨lw_p47, fun _ h => absurd h List.not_mem_nil⟩⟩⟩⟩⟩⟩⟩⟩⟩⟩⟩⟩⟩⟩⟩⟩
theorem lw_p48 : lw_okq (⟨"WristTreatyModel", "gives", "()I"⟩, 35) := ⟨⟨by decide +kernel, by decide +kernel⟩, List.mem_of_getElem? (i := 1315) (by decide +kernel), List.mem_of_getElem? (i := 1525) (by decide +kernel), List.mem_of_getElem? (i := 1526) (by decide +kernel)⟩
theorem lw_p49 : lw_okq (⟨"WristTreatyModel", "isMan", "(J)Z"⟩, 35) := ⟨⟨by decide +kernel, by decide +kernel⟩, List.mem_of_getElem? (i := 1315) (by decide +kernel), List.mem_of_getElem? (i := 1537) (by decide +kernel), List.mem_of_getElem? (i := 1538) (by decide +kernel)⟩
theorem lw_p50 : lw_okq (⟨"WristTreatyModel", "of", "(II)I"⟩, 35) := ⟨⟨by decide +kernel, by decide +kernel⟩, List.mem_of_getElem? (i := 1315) (by decide +kernel), List.mem_of_getElem? (i := 1541) (by decide +kernel), List.mem_of_getElem? (i := 1542) (by decide +kernel)⟩
theorem lw_p51 : lw_okq (⟨"WristTreatyModel", "isClause", "(J)Z"⟩, 35) := ⟨⟨by decide +kernel, by decide +kernel⟩, List.mem_of_getElem? (i := 1315) (by decide +kernel), List.mem_of_getElem? (i := 1549) (by decide +kernel), List.mem_of_getElem? (i := 1550) (by decide +kernel)⟩
theorem lw_p52 : lw_okq (⟨"WristTreatyModel", "ofClause", "(II)I"⟩, 35) := ⟨⟨by decide +kernel, by decide +kernel⟩, List.mem_of_getElem? (i := 1315) (by decide +kernel), List.mem_of_getElem? (i := 1553) (by decide +kernel), List.mem_of_getElem? (i := 1554) (by decide +kernel)⟩
theorem lw_p53 : lw_okq (⟨"WristTreatyModel", "isSide", "(I)Z"⟩, 35) := ⟨⟨by decide +kernel, by decide +kernel⟩, List.mem_of_getElem? (i := 1315) (by decide +kernel), List.mem_of_getElem? (i := 1561) (by decide +kernel), List.mem_of_getElem? (i := 1562) (by decide +kernel)⟩
theorem lw_p54 : lw_okq (⟨"WristTreatyModel", "isGorge", "()Z"⟩, 35) := ⟨⟨by decide +kernel, by decide +kernel⟩, List.mem_of_getElem? (i := 1315) (by decide +kernel), List.mem_of_getElem? (i := 1565) (by decide +kernel), List.mem_of_getElem? (i := 1566) (by decide +kernel)⟩
theorem lw_p55 : lw_okq (⟨"WristTreatyModel", "asItIs", "()V"⟩, 35) := ⟨⟨by decide +kernel, by decide +kernel⟩, List.mem_of_getElem? (i := 1315) (by decide +kernel), List.mem_of_getElem? (i := 1569) (by decide +kernel), List.mem_of_getElem? (i := 1570) (by decide +kernel)⟩
theorem lw_p56 : lw_okq (⟨"WristTreatyModel", "act0", "(II)V"⟩, 35) := ⟨⟨by decide +kernel, by decide +kernel⟩, List.mem_of_getElem? (i := 1315) (by decide +kernel), List.mem_of_getElem? (i := 1573) (by decide +kernel), List.mem_of_getElem? (i := 1574) (by decide +kernel)⟩
theorem lw_p57 : lw_okq (⟨"WristTreatyModel", "push0", "(II)V"⟩, 35) := ⟨⟨by decide +kernel, by decide +kernel⟩, List.mem_of_getElem? (i := 1315) (by decide +kernel), List.mem_of_getElem? (i := 1577) (by decide +kernel), List.mem_of_getElem? (i := 1578) (by decide +kernel)⟩
theorem lw_p58 : lw_okq (⟨"WristTreatyModel", "nextFrom", "(I)I"⟩, 35) := ⟨⟨by decide +kernel, by decide +kernel⟩, List.mem_of_getElem? (i := 1315) (by decide +kernel), List.mem_of_getElem? (i := 1581) (by decide +kernel), List.mem_of_getElem? (i := 1582) (by decide +kernel)⟩
theorem lw_p59 : lw_okq (⟨"WristTreatyModel", "isMeeting", "(I)Z"⟩, 35) := ⟨⟨by decide +kernel, by decide +kernel⟩, List.mem_of_getElem? (i := 1315) (by decide +kernel), List.mem_of_getElem? (i := 1585) (by decide +kernel), List.mem_of_getElem? (i := 1586) (by decide +kernel)⟩
theorem lw_p60 : lw_okq (⟨"WristTreatyModel", "areOut", "(I)Z"⟩, 35) := ⟨⟨by decide +kernel, by decide +kernel⟩, List.mem_of_getElem? (i := 1315) (by decide +kernel), List.mem_of_getElem? (i := 1589) (by decide +kernel), List.mem_of_getElem? (i := 1590) (by decide +kernel)⟩
theorem lw_p61 : lw_okq (⟨"WristTreatyModel", "isOut", "(II)Z"⟩, 35) := ⟨⟨by decide +kernel, by decide +kernel⟩, List.mem_of_getElem? (i := 1315) (by decide +kernel), List.mem_of_getElem? (i := 1593) (by decide +kernel), List.mem_of_getElem? (i := 1594) (by decide +kernel)⟩
theorem lw_p62 : lw_okq (⟨"WristTreatyModel", "blows", "(I)Z"⟩, 35) := ⟨⟨by decide +kernel, by decide +kernel⟩, List.mem_of_getElem? (i := 1315) (by decide +kernel), List.mem_of_getElem? (i := 1597) (by decide +kernel), List.mem_of_getElem? (i := 1598) (by decide +kernel)⟩
theorem lw_p63 : lw_okq (⟨"WristTreatyModel", "holdOf", "(II)I"⟩, 35) := ⟨⟨by decide +kernel, by decide +kernel⟩, List.mem_of_getElem? (i := 1315) (by decide +kernel), List.mem_of_getElem? (i := 1601) (by decide +kernel), List.mem_of_getElem? (i := 1602) (by decide +kernel)⟩
def lw_privs_4 : List (MethodName × Nat) := [(⟨"WristTreatyModel", "gives", "()I"⟩, 35), (⟨"WristTreatyModel", "isMan", "(J)Z"⟩, 35), (⟨"WristTreatyModel", "of", "(II)I"⟩, 35), (⟨"WristTreatyModel", "isClause", "(J)Z"⟩, 35), (⟨"WristTreatyModel", "ofClause", "(II)I"⟩, 35), (⟨"WristTreatyModel", "isSide", "(I)Z"⟩, 35), (⟨"WristTreatyModel", "isGorge", "()Z"⟩, 35), (⟨"WristTreatyModel", "asItIs", "()V"⟩, 35), (⟨"WristTreatyModel", "act0", "(II)V"⟩, 35), (⟨"WristTreatyModel", "push0", "(II)V"⟩, 35), (⟨"WristTreatyModel", "nextFrom", "(I)I"⟩, 35), (⟨"WristTreatyModel", "isMeeting", "(I)Z"⟩, 35), (⟨"WristTreatyModel", "areOut", "(I)Z"⟩, 35), (⟨"WristTreatyModel", "isOut", "(II)Z"⟩, 35), (⟨"WristTreatyModel", "blows", "(I)Z"⟩, 35), (⟨"WristTreatyModel", "holdOf", "(II)I"⟩, 35)]
theorem lw_r4 : ∀ q ∈ lw_privs_4, lw_okq q := List.forall_mem_cons.mpr ⟨lw_p48, List.forall_mem_cons.mpr ⟨lw_p49, List.forall_mem_cons.mpr ⟨lw_p50, List.forall_mem_cons.mpr ⟨lw_p51, List.forall_mem_cons.mpr ⟨lw_p52, List.forall_mem_cons.mpr ⟨lw_p53, List.forall_mem_cons.mpr ⟨lw_p54, List.forall_mem_cons.mpr ⟨lw_p55, List.forall_mem_cons.mpr ⟨lw_p56, List.forall_mem_cons.mpr ⟨lw_p57, List.forall_mem_cons.mpr ⟨lw_p58, List.forall_mem_cons.mpr ⟨lw_p59, List.forall_mem_cons.mpr ⟨lw_p60, List.forall_mem_cons.mpr ⟨lw_p61, List.forall_mem_cons.mpr ⟨lw_p62, List.forall_mem_cons.mpr ⟨lw_p63, fun _ h => absurd h List.not_mem_nil⟩⟩⟩⟩⟩⟩⟩⟩⟩⟩⟩⟩⟩⟩⟩⟩
theorem lw_p64 : lw_okq (⟨"WristTreatyModel", "holdBy", "(IIII)I"⟩, 35) := ⟨⟨by decide +kernel, by decide +kernel⟩, List.mem_of_getElem? (i := 1315) (by decide +kernel), List.mem_of_getElem? (i := 1605) (by decide +kernel), List.mem_of_getElem? (i := 1606) (by decide +kernel)⟩
theorem lw_p65 : lw_okq (⟨"WristTreatyModel", "gripLess", "(III)I"⟩, 35) := ⟨⟨by decide +kernel, by decide +kernel⟩, List.mem_of_getElem? (i := 1315) (by decide +kernel), List.mem_of_getElem? (i := 1609) (by decide +kernel), List.mem_of_getElem? (i := 1610) (by decide +kernel)⟩
theorem lw_p66 : lw_okq (⟨"WristTreatyModel", "manyTo", "(I)I"⟩, 35) := ⟨⟨by decide +kernel, by decide +kernel⟩, List.mem_of_getElem? (i := 1315) (by decide +kernel), List.mem_of_getElem? (i := 1628) (by decide +kernel), List.mem_of_getElem? (i := 1629) (by decide +kernel)⟩
theorem lw_p67 : lw_okq (⟨"WristTreatyModel", "meetOf", "(I)I"⟩, 35) := ⟨⟨by decide +kernel, by decide +kernel⟩, List.mem_of_getElem? (i := 1315) (by decide +kernel), List.mem_of_getElem? (i := 1660) (by decide +kernel), List.mem_of_getElem? (i := 1661) (by decide +kernel)⟩
theorem lw_p68 : lw_okq (⟨"WristTreatyModel", "areMen", "(II)Z"⟩, 35) := ⟨⟨by decide +kernel, by decide +kernel⟩, List.mem_of_getElem? (i := 1315) (by decide +kernel), List.mem_of_getElem? (i := 1672) (by decide +kernel), List.mem_of_getElem? (i := 1673) (by decide +kernel)⟩
theorem lw_p69 : lw_okq (⟨"WristTreatyModel", "isPair", "(II)Z"⟩, 35) := ⟨⟨by decide +kernel, by decide +kernel⟩, List.mem_of_getElem? (i := 1315) (by decide +kernel), List.mem_of_getElem? (i := 1676) (by decide +kernel), List.mem_of_getElem? (i := 1677) (by decide +kernel)⟩
theorem lw_p70 : lw_okq (⟨"WristTreatyModel", "layMatch", "(I)V"⟩, 35) := ⟨⟨by decide +kernel, by decide +kernel⟩, List.mem_of_getElem? (i := 1315) (by decide +kernel), List.mem_of_getElem? (i := 1700) (by decide +kernel), List.mem_of_getElem? (i := 1701) (by decide +kernel)⟩
theorem lw_p71 : lw_okq (⟨"WristTreatyModel", "sumFrom", "(II)I"⟩, 35) := ⟨⟨by decide +kernel, by decide +kernel⟩, List.mem_of_getElem? (i := 1315) (by decide +kernel), List.mem_of_getElem? (i := 1704) (by decide +kernel), List.mem_of_getElem? (i := 1705) (by decide +kernel)⟩
theorem lw_p72 : lw_okq (⟨"WristTreatyModel", "layMatched", "()V"⟩, 35) := ⟨⟨by decide +kernel, by decide +kernel⟩, List.mem_of_getElem? (i := 1315) (by decide +kernel), List.mem_of_getElem? (i := 1715) (by decide +kernel), List.mem_of_getElem? (i := 1716) (by decide +kernel)⟩
theorem lw_p73 : lw_okq (⟨"WristTreatyModel", "resinOf", "(III)I"⟩, 35) := ⟨⟨by decide +kernel, by decide +kernel⟩, List.mem_of_getElem? (i := 1315) (by decide +kernel), List.mem_of_getElem? (i := 1731) (by decide +kernel), List.mem_of_getElem? (i := 1732) (by decide +kernel)⟩
theorem lw_p74 : lw_okq (⟨"WristTreatyModel", "asksRow", "(II)I"⟩, 35) := ⟨⟨by decide +kernel, by decide +kernel⟩, List.mem_of_getElem? (i := 1315) (by decide +kernel), List.mem_of_getElem? (i := 1743) (by decide +kernel), List.mem_of_getElem? (i := 1744) (by decide +kernel)⟩
theorem lw_p75 : lw_okq (⟨"WristTreatyModel", "numberAt", "(II)J"⟩, 35) := ⟨⟨by decide +kernel, by decide +kernel⟩, List.mem_of_getElem? (i := 1315) (by decide +kernel), List.mem_of_getElem? (i := 1752) (by decide +kernel), List.mem_of_getElem? (i := 1753) (by decide +kernel)⟩
theorem lw_p76 : lw_okq (⟨"WristTreatyModel", "laySaid", "(I)V"⟩, 35) := ⟨⟨by decide +kernel, by decide +kernel⟩, List.mem_of_getElem? (i := 1315) (by decide +kernel), List.mem_of_getElem? (i := 1756) (by decide +kernel), List.mem_of_getElem? (i := 1757) (by decide +kernel)⟩
theorem lw_p77 : lw_okq (⟨"WristTreatyModel", "cutOf", "(I)I"⟩, 35) := ⟨⟨by decide +kernel, by decide +kernel⟩, List.mem_of_getElem? (i := 1315) (by decide +kernel), List.mem_of_getElem? (i := 1760) (by decide +kernel), List.mem_of_getElem? (i := 1761) (by decide +kernel)⟩
theorem lw_p78 : lw_okq (⟨"WristTreatyModel", "isHold", "(II)Z"⟩, 35) := ⟨⟨by decide +kernel, by decide +kernel⟩, List.mem_of_getElem? (i := 1315) (by decide +kernel), List.mem_of_getElem? (i := 1772) (by decide +kernel), List.mem_of_getElem? (i := 1773) (by decide +kernel)⟩
theorem lw_p79 : lw_okq (⟨"WristTreatyModel", "leastOf", "(I)I"⟩, 35) := ⟨⟨by decide +kernel, by decide +kernel⟩, List.mem_of_getElem? (i := 1315) (by decide +kernel), List.mem_of_getElem? (i := 1776) (by decide +kernel), List.mem_of_getElem? (i := 1777) (by decide +kernel)⟩
def lw_privs_5 : List (MethodName × Nat) := [(⟨"WristTreatyModel", "holdBy", "(IIII)I"⟩, 35), (⟨"WristTreatyModel", "gripLess", "(III)I"⟩, 35), (⟨"WristTreatyModel", "manyTo", "(I)I"⟩, 35), (⟨"WristTreatyModel", "meetOf", "(I)I"⟩, 35), (⟨"WristTreatyModel", "areMen", "(II)Z"⟩, 35), (⟨"WristTreatyModel", "isPair", "(II)Z"⟩, 35), (⟨"WristTreatyModel", "layMatch", "(I)V"⟩, 35), (⟨"WristTreatyModel", "sumFrom", "(II)I"⟩, 35), (⟨"WristTreatyModel", "layMatched", "()V"⟩, 35), (⟨"WristTreatyModel", "resinOf", "(III)I"⟩, 35), (⟨"WristTreatyModel", "asksRow", "(II)I"⟩, 35), (⟨"WristTreatyModel", "numberAt", "(II)J"⟩, 35), (⟨"WristTreatyModel", "laySaid", "(I)V"⟩, 35), (⟨"WristTreatyModel", "cutOf", "(I)I"⟩, 35), (⟨"WristTreatyModel", "isHold", "(II)Z"⟩, 35), (⟨"WristTreatyModel", "leastOf", "(I)I"⟩, 35)]
theorem lw_r5 : ∀ q ∈ lw_privs_5, lw_okq q := List.forall_mem_cons.mpr ⟨lw_p64, List.forall_mem_cons.mpr ⟨lw_p65, List.forall_mem_cons.mpr ⟨lw_p66, List.forall_mem_cons.mpr ⟨lw_p67, List.forall_mem_cons.mpr ⟨lw_p68, List.forall_mem_cons.mpr ⟨lw_p69, List.forall_mem_cons.mpr ⟨lw_p70, List.forall_mem_cons.mpr ⟨lw_p71, List.forall_mem_cons.mpr ⟨lw_p72, List.forall_mem_cons.mpr ⟨lw_p73, List.forall_mem_cons.mpr ⟨lw_p74, List.forall_mem_cons.mpr ⟨lw_p75, List.forall_mem_cons.mpr ⟨lw_p76, List.forall_mem_cons.mpr ⟨lw_p77, List.forall_mem_cons.mpr ⟨lw_p78, List.forall_mem_cons.mpr ⟨lw_p79, fun _ h => absurd h List.not_mem_nil⟩⟩⟩⟩⟩⟩⟩⟩⟩⟩⟩⟩⟩⟩⟩⟩
theorem lw_p80 : lw_okq (⟨"WristTreatyModel", "nextOrder", "()Z"⟩, 35) := ⟨⟨by decide +kernel, by decide +kernel⟩, List.mem_of_getElem? (i := 1315) (by decide +kernel), List.mem_of_getElem? (i := 1780) (by decide +kernel), List.mem_of_getElem? (i := 1781) (by decide +kernel)⟩
theorem lw_p81 : lw_okq (⟨"WristTreatyModel", "swap", "(II)V"⟩, 35) := ⟨⟨by decide +kernel, by decide +kernel⟩, List.mem_of_getElem? (i := 1315) (by decide +kernel), List.mem_of_getElem? (i := 1784) (by decide +kernel), List.mem_of_getElem? (i := 1785) (by decide +kernel)⟩
theorem lw_p82 : lw_okq (⟨"WristTreatyModel", "fullOf", "(I)I"⟩, 35) := ⟨⟨by decide +kernel, by decide +kernel⟩, List.mem_of_getElem? (i := 1315) (by decide +kernel), List.mem_of_getElem? (i := 1805) (by decide +kernel), List.mem_of_getElem? (i := 1806) (by decide +kernel)⟩
theorem lw_p83 : lw_okq (⟨"WristTreatyModel", "allClauses", "()I"⟩, 35) := ⟨⟨by decide +kernel, by decide +kernel⟩, List.mem_of_getElem? (i := 1315) (by decide +kernel), List.mem_of_getElem? (i := 1809) (by decide +kernel), List.mem_of_getElem? (i := 1810) (by decide +kernel)⟩
theorem lw_p84 : lw_okq (⟨"WristTreatyModel", "saysOf", "(I)I"⟩, 35) := ⟨⟨by decide +kernel, by decide +kernel⟩, List.mem_of_getElem? (i := 1315) (by decide +kernel), List.mem_of_getElem? (i := 1813) (by decide +kernel), List.mem_of_getElem? (i := 1814) (by decide +kernel)⟩
theorem lw_p85 : lw_okq (⟨"WristTreatyModel", "onceOf", "(I)I"⟩, 35) := ⟨⟨by decide +kernel, by decide +kernel⟩, List.mem_of_getElem? (i := 1315) (by decide +kernel), List.mem_of_getElem? (i := 1828) (by decide +kernel), List.mem_of_getElem? (i := 1829) (by decide +kernel)⟩
theorem lw_p86 : lw_okq (⟨"WristTreatyModel", "bothOf", "(I)I"⟩, 35) := ⟨⟨by decide +kernel, by decide +kernel⟩, List.mem_of_getElem? (i := 1315) (by decide +kernel), List.mem_of_getElem? (i := 1832) (by decide +kernel), List.mem_of_getElem? (i := 1833) (by decide +kernel)⟩
theorem lw_p87 : lw_okq (⟨"WristTreatyModel", "worthOf", "(II)I"⟩, 35) := ⟨⟨by decide +kernel, by decide +kernel⟩, List.mem_of_getElem? (i := 1315) (by decide +kernel), List.mem_of_getElem? (i := 1836) (by decide +kernel), List.mem_of_getElem? (i := 1837) (by decide +kernel)⟩
theorem lw_p88 : lw_okq (⟨"WristTreatyModel", "isSigned", "(I)Z"⟩, 35) := ⟨⟨by decide +kernel, by decide +kernel⟩, List.mem_of_getElem? (i := 1315) (by decide +kernel), List.mem_of_getElem? (i := 1852) (by decide +kernel), List.mem_of_getElem? (i := 1853) (by decide +kernel)⟩
theorem lw_p89 : lw_okq (⟨"WristTreatyModel", "mustOf", "(I)I"⟩, 35) := ⟨⟨by decide +kernel, by decide +kernel⟩, List.mem_of_getElem? (i := 1315) (by decide +kernel), List.mem_of_getElem? (i := 1872) (by decide +kernel), List.mem_of_getElem? (i := 1873) (by decide +kernel)⟩
theorem lw_p90 : lw_okq (⟨"WristTreatyModel", "layBundles", "()I"⟩, 35) := ⟨⟨by decide +kernel, by decide +kernel⟩, List.mem_of_getElem? (i := 1315) (by decide +kernel), List.mem_of_getElem? (i := 1884) (by decide +kernel), List.mem_of_getElem? (i := 1885) (by decide +kernel)⟩
theorem lw_p91 : lw_okq (⟨"WristTreatyModel", "isFirm", "(I)Z"⟩, 35) := ⟨⟨by decide +kernel, by decide +kernel⟩, List.mem_of_getElem? (i := 1315) (by decide +kernel), List.mem_of_getElem? (i := 1896) (by decide +kernel), List.mem_of_getElem? (i := 1897) (by decide +kernel)⟩
theorem lw_p92 : lw_okq (⟨"WristTreatyModel", "hasBy", "(IIZZI)I"⟩, 35) := ⟨⟨by decide +kernel, by decide +kernel⟩, List.mem_of_getElem? (i := 1315) (by decide +kernel), List.mem_of_getElem? (i := 1904) (by decide +kernel), List.mem_of_getElem? (i := 1905) (by decide +kernel)⟩
theorem lw_p93 : lw_okq (⟨"WristTreatyModel", "layTired", "(IZ)I"⟩, 35) := ⟨⟨by decide +kernel, by decide +kernel⟩, List.mem_of_getElem? (i := 1315) (by decide +kernel), List.mem_of_getElem? (i := 1916) (by decide +kernel), List.mem_of_getElem? (i := 1917) (by decide +kernel)⟩
theorem lw_p94 : lw_okq (⟨"WristTreatyModel", "isHeld", "(III)Z"⟩, 35) := ⟨⟨by decide +kernel, by decide +kernel⟩, List.mem_of_getElem? (i := 1315) (by decide +kernel), List.mem_of_getElem? (i := 1920) (by decide +kernel), List.mem_of_getElem? (i := 1921) (by decide +kernel)⟩
theorem lw_p95 : lw_okq (⟨"WristTreatyModel", "worstOf", "(II)I"⟩, 35) := ⟨⟨by decide +kernel, by decide +kernel⟩, List.mem_of_getElem? (i := 1315) (by decide +kernel), List.mem_of_getElem? (i := 1936) (by decide +kernel), List.mem_of_getElem? (i := 1937) (by decide +kernel)⟩
def lw_privs_6 : List (MethodName × Nat) := [(⟨"WristTreatyModel", "nextOrder", "()Z"⟩, 35), (⟨"WristTreatyModel", "swap", "(II)V"⟩, 35), (⟨"WristTreatyModel", "fullOf", "(I)I"⟩, 35), (⟨"WristTreatyModel", "allClauses", "()I"⟩, 35), (⟨"WristTreatyModel", "saysOf", "(I)I"⟩, 35), (⟨"WristTreatyModel", "onceOf", "(I)I"⟩, 35), (⟨"WristTreatyModel", "bothOf", "(I)I"⟩, 35), (⟨"WristTreatyModel", "worthOf", "(II)I"⟩, 35), (⟨"WristTreatyModel", "isSigned", "(I)Z"⟩, 35), (⟨"WristTreatyModel", "mustOf", "(I)I"⟩, 35), (⟨"WristTreatyModel", "layBundles", "()I"⟩, 35), (⟨"WristTreatyModel", "isFirm", "(I)Z"⟩, 35), (⟨"WristTreatyModel", "hasBy", "(IIZZI)I"⟩, 35), (⟨"WristTreatyModel", "layTired", "(IZ)I"⟩, 35), (⟨"WristTreatyModel", "isHeld", "(III)Z"⟩, 35), (⟨"WristTreatyModel", "worstOf", "(II)I"⟩, 35)]
theorem lw_r6 : ∀ q ∈ lw_privs_6, lw_okq q := List.forall_mem_cons.mpr ⟨lw_p80, List.forall_mem_cons.mpr ⟨lw_p81, List.forall_mem_cons.mpr ⟨lw_p82, List.forall_mem_cons.mpr ⟨lw_p83, List.forall_mem_cons.mpr ⟨lw_p84, List.forall_mem_cons.mpr ⟨lw_p85, List.forall_mem_cons.mpr ⟨lw_p86, List.forall_mem_cons.mpr ⟨lw_p87, List.forall_mem_cons.mpr ⟨lw_p88, List.forall_mem_cons.mpr ⟨lw_p89, List.forall_mem_cons.mpr ⟨lw_p90, List.forall_mem_cons.mpr ⟨lw_p91, List.forall_mem_cons.mpr ⟨lw_p92, List.forall_mem_cons.mpr ⟨lw_p93, List.forall_mem_cons.mpr ⟨lw_p94, List.forall_mem_cons.mpr ⟨lw_p95, fun _ h => absurd h List.not_mem_nil⟩⟩⟩⟩⟩⟩⟩⟩⟩⟩⟩⟩⟩⟩⟩⟩
theorem lw_p96 : lw_okq (⟨"WristTreatyModel", "isSure", "(II)Z"⟩, 35) := ⟨⟨by decide +kernel, by decide +kernel⟩, List.mem_of_getElem? (i := 1315) (by decide +kernel), List.mem_of_getElem? (i := 1962) (by decide +kernel), List.mem_of_getElem? (i := 1963) (by decide +kernel)⟩
theorem lw_p97 : lw_okq (⟨"WristTreatyModel", "doHold", "()Z"⟩, 35) := ⟨⟨by decide +kernel, by decide +kernel⟩, List.mem_of_getElem? (i := 1315) (by decide +kernel), List.mem_of_getElem? (i := 1975) (by decide +kernel), List.mem_of_getElem? (i := 1976) (by decide +kernel)⟩
theorem lw_p98 : lw_okq (⟨"WristTreatyModel", "keepAct", "(II)Z"⟩, 35) := ⟨⟨by decide +kernel, by decide +kernel⟩, List.mem_of_getElem? (i := 1315) (by decide +kernel), List.mem_of_getElem? (i := 1979) (by decide +kernel), List.mem_of_getElem? (i := 1980) (by decide +kernel)⟩
theorem lw_p99 : lw_okq (⟨"WristTreatyModel", "goDrawn", "(JII)I"⟩, 35) := ⟨⟨by decide +kernel, by decide +kernel⟩, List.mem_of_getElem? (i := 1315) (by decide +kernel), List.mem_of_getElem? (i := 2015) (by decide +kernel), List.mem_of_getElem? (i := 2016) (by decide +kernel)⟩
def lw_privs_7 : List (MethodName × Nat) := [(⟨"WristTreatyModel", "isSure", "(II)Z"⟩, 35), (⟨"WristTreatyModel", "doHold", "()Z"⟩, 35), (⟨"WristTreatyModel", "keepAct", "(II)Z"⟩, 35), (⟨"WristTreatyModel", "goDrawn", "(JII)I"⟩, 35)]
theorem lw_r7 : ∀ q ∈ lw_privs_7, lw_okq q := List.forall_mem_cons.mpr ⟨lw_p96, List.forall_mem_cons.mpr ⟨lw_p97, List.forall_mem_cons.mpr ⟨lw_p98, List.forall_mem_cons.mpr ⟨lw_p99, fun _ h => absurd h List.not_mem_nil⟩⟩⟩⟩
def lw_privs : List (MethodName × Nat) := lw_privs_1 ++ (lw_privs_2 ++ (lw_privs_3 ++ (lw_privs_4 ++ (lw_privs_5 ++ (lw_privs_6 ++ (lw_privs_7))))))
def lw_tbl : List Cond := k2_sels lw_privs ++ tables_1
theorem lw_privs_ok : ∀ q ∈ lw_privs, lw_okq q := by
  show ∀ q ∈ lw_privs_1 ++ (lw_privs_2 ++ (lw_privs_3 ++ (lw_privs_4 ++ (lw_privs_5 ++ (lw_privs_6 ++ (lw_privs_7)))))), lw_okq q
  exact List.forall_mem_append.mpr ⟨lw_r1, List.forall_mem_append.mpr ⟨lw_r2, List.forall_mem_append.mpr ⟨lw_r3, List.forall_mem_append.mpr ⟨lw_r4, List.forall_mem_append.mpr ⟨lw_r5, List.forall_mem_append.mpr ⟨lw_r6, lw_r7⟩⟩⟩⟩⟩⟩
def RX0 : String := "WristTreaty$Bargain"
def TX0 : u_T := fun k => match k with
  | 0 => ("WristTreaty$Bargain", "bundlesFound", "I", false)
  | 1 => ("WristTreaty$Bargain", "firstBundle", "I", false)
  | 2 => ("WristTreaty$Bargain", "sets", "I", false)
  | 3 => ("WristTreaty$Bargain", "lengths", "[I", true)
  | 4 => ("WristTreaty$Bargain", "worths0", "[I", true)
  | 5 => ("WristTreaty$Bargain", "worths1", "[I", true)
  | _ => ("WristTreaty$Bargain", "gorge", "LWristTreaty$Gorge;", true)
def tyX0 : Nat → FieldType := fun k => match k with
  | 0 => .int
  | 1 => .int
  | 2 => .int
  | 3 => .array .int
  | 4 => .array .int
  | 5 => .array .int
  | _ => .object "WristTreaty$Gorge"
theorem nmX0 : ∀ a, a < 7 → ∀ b, b < 7 → a ≠ b → (TX0 a).2.1 ≠ (TX0 b).2.1 := by decide +kernel
theorem tyX0_ok : ∀ k, k < 7 → parseFieldDescriptor (TX0 k).2.2.1 = some (tyX0 k) := by decide +kernel
def RX1 : String := "WristTreaty$Course"
def TX1 : u_T := fun k => match k with
  | 0 => ("WristTreaty$Course", "first", "I", false)
  | 1 => ("WristTreaty$Course", "stride", "I", false)
  | _ => ("WristTreaty$Course", "gorge", "LWristTreaty$Gorge;", true)
def tyX1 : Nat → FieldType := fun k => match k with
  | 0 => .int
  | 1 => .int
  | _ => .object "WristTreaty$Gorge"
theorem nmX1 : ∀ a, a < 3 → ∀ b, b < 3 → a ≠ b → (TX1 a).2.1 ≠ (TX1 b).2.1 := by decide +kernel
theorem tyX1_ok : ∀ k, k < 3 → parseFieldDescriptor (TX1 k).2.2.1 = some (tyX1 k) := by decide +kernel
def RX2 : String := "WristTreaty$Evening"
def TX2 : u_T := fun k => match k with
  | 0 => ("WristTreaty$Evening", "latest", "I", false)
  | 1 => ("WristTreaty$Evening", "left", "I", false)
  | 2 => ("WristTreaty$Evening", "signed", "I", false)
  | 3 => ("WristTreaty$Evening", "met", "I", false)
  | 4 => ("WristTreaty$Evening", "acts", "I", false)
  | 5 => ("WristTreaty$Evening", "start0", "I", false)
  | 6 => ("WristTreaty$Evening", "start1", "I", false)
  | 7 => ("WristTreaty$Evening", "kinds", "[I", true)
  | 8 => ("WristTreaty$Evening", "whats", "[I", true)
  | _ => ("WristTreaty$Evening", "befores", "[I", true)
def tyX2 : Nat → FieldType := fun k => match k with
  | 0 => .int
  | 1 => .int
  | 2 => .int
  | 3 => .int
  | 4 => .int
  | 5 => .int
  | 6 => .int
  | 7 => .array .int
  | 8 => .array .int
  | _ => .array .int
theorem nmX2 : ∀ a, a < 10 → ∀ b, b < 10 → a ≠ b → (TX2 a).2.1 ≠ (TX2 b).2.1 := by decide +kernel
theorem tyX2_ok : ∀ k, k < 10 → parseFieldDescriptor (TX2 k).2.2.1 = some (tyX2 k) := by decide +kernel
def RX3 : String := "WristTreaty$Gorge"
def TX3 : u_T := fun k => match k with
  | 0 => ("WristTreaty$Gorge", "odds", "I", false)
  | 1 => ("WristTreaty$Gorge", "pot", "I", false)
  | 2 => ("WristTreaty$Gorge", "lines", "I", false)
  | 3 => ("WristTreaty$Gorge", "men", "I", false)
  | 4 => ("WristTreaty$Gorge", "clauses", "I", false)
  | 5 => ("WristTreaty$Gorge", "winds", "I", false)
  | 6 => ("WristTreaty$Gorge", "far0", "I", false)
  | 7 => ("WristTreaty$Gorge", "far1", "I", false)
  | 8 => ("WristTreaty$Gorge", "sides", "[I", true)
  | 9 => ("WristTreaty$Gorge", "grips", "[I", true)
  | 10 => ("WristTreaty$Gorge", "wits", "[I", true)
  | 11 => ("WristTreaty$Gorge", "says", "[I", true)
  | 12 => ("WristTreaty$Gorge", "gives0", "[I", true)
  | 13 => ("WristTreaty$Gorge", "gives1", "[I", true)
  | 14 => ("WristTreaty$Gorge", "froms", "[I", true)
  | _ => ("WristTreaty$Gorge", "tos", "[I", true)
def tyX3 : Nat → FieldType := fun k => match k with
  | 0 => .int
  | 1 => .int
  | 2 => .int
  | 3 => .int
  | 4 => .int
  | 5 => .int
  | 6 => .int
  | 7 => .int
  | 8 => .array .int
  | 9 => .array .int
  | 10 => .array .int
  | 11 => .array .int
  | 12 => .array .int
  | 13 => .array .int
  | 14 => .array .int
  | _ => .array .int
theorem nmX3 : ∀ a, a < 16 → ∀ b, b < 16 → a ≠ b → (TX3 a).2.1 ≠ (TX3 b).2.1 := by decide +kernel
theorem tyX3_ok : ∀ k, k < 16 → parseFieldDescriptor (TX3 k).2.2.1 = some (tyX3 k) := by decide +kernel
def RX4 : String := "WristTreaty$Image"
def TX4 : u_T := fun k => match k with
  | 0 => ("WristTreaty$Image", "gorge", "LWristTreaty$Gorge;", true)
  | 1 => ("WristTreaty$Image", "evening", "LWristTreaty$Evening;", true)
  | _ => ("WristTreaty$Image", "isTaken", "Z", false)
def tyX4 : Nat → FieldType := fun k => match k with
  | 0 => .object "WristTreaty$Gorge"
  | 1 => .object "WristTreaty$Evening"
  | _ => .boolean
theorem nmX4 : ∀ a, a < 3 → ∀ b, b < 3 → a ≠ b → (TX4 a).2.1 ≠ (TX4 b).2.1 := by decide +kernel
theorem tyX4_ok : ∀ k, k < 3 → parseFieldDescriptor (TX4 k).2.2.1 = some (tyX4 k) := by decide +kernel
def RX5 : String := "WristTreaty$Pairing"
def TX5 : u_T := fun k => match k with
  | 0 => ("WristTreaty$Pairing", "settled", "[I", true)
  | 1 => ("WristTreaty$Pairing", "greatestSum", "I", false)
  | 2 => ("WristTreaty$Pairing", "fairest", "I", false)
  | 3 => ("WristTreaty$Pairing", "tried", "[I", true)
  | 4 => ("WristTreaty$Pairing", "mostPairs", "I", false)
  | _ => ("WristTreaty$Pairing", "gorge", "LWristTreaty$Gorge;", true)
def tyX5 : Nat → FieldType := fun k => match k with
  | 0 => .array .int
  | 1 => .int
  | 2 => .int
  | 3 => .array .int
  | 4 => .int
  | _ => .object "WristTreaty$Gorge"
theorem nmX5 : ∀ a, a < 6 → ∀ b, b < 6 → a ≠ b → (TX5 a).2.1 ≠ (TX5 b).2.1 := by decide +kernel
theorem tyX5_ok : ∀ k, k < 6 → parseFieldDescriptor (TX5 k).2.2.1 = some (tyX5 k) := by decide +kernel
def RX6 : String := "WristTreaty$Reader"
def TX6 : u_T := fun k => match k with
  | 0 => ("WristTreaty$Reader", "draft", "LWristTreaty$Gorge;", true)
  | 1 => ("WristTreaty$Reader", "firstFault", "I", false)
  | 2 => ("WristTreaty$Reader", "faultPlace", "I", false)
  | 3 => ("WristTreaty$Reader", "tape", "LWristTreaty$Tape;", true)
  | 4 => ("WristTreaty$Reader", "at", "I", false)
  | 5 => ("WristTreaty$Reader", "kind", "I", false)
  | 6 => ("WristTreaty$Reader", "begin", "I", false)
  | 7 => ("WristTreaty$Reader", "value", "I", false)
  | 8 => ("WristTreaty$Reader", "line", "I", false)
  | 9 => ("WristTreaty$Reader", "taken", "I", false)
  | 10 => ("WristTreaty$Reader", "isWordDue", "Z", false)
  | 11 => ("WristTreaty$Reader", "isTaking", "Z", false)
  | _ => ("WristTreaty$Reader", "numbers", "[I", true)
def tyX6 : Nat → FieldType := fun k => match k with
  | 0 => .object "WristTreaty$Gorge"
  | 1 => .int
  | 2 => .int
  | 3 => .object "WristTreaty$Tape"
  | 4 => .int
  | 5 => .int
  | 6 => .int
  | 7 => .int
  | 8 => .int
  | 9 => .int
  | 10 => .boolean
  | 11 => .boolean
  | _ => .array .int
theorem nmX6 : ∀ a, a < 13 → ∀ b, b < 13 → a ≠ b → (TX6 a).2.1 ≠ (TX6 b).2.1 := by decide +kernel
theorem tyX6_ok : ∀ k, k < 13 → parseFieldDescriptor (TX6 k).2.2.1 = some (tyX6 k) := by decide +kernel
def RX7 : String := "WristTreaty$Slots"
def TX7 : u_T := fun k => match k with
  | 0 => ("WristTreaty$Slots", "sizes", "[I", true)
  | 1 => ("WristTreaty$Slots", "widths", "[I", true)
  | _ => ("WristTreaty$Slots", "numbers", "[J", true)
def tyX7 : Nat → FieldType := fun k => match k with
  | 0 => .array .int
  | 1 => .array .int
  | _ => .array .long
theorem nmX7 : ∀ a, a < 3 → ∀ b, b < 3 → a ≠ b → (TX7 a).2.1 ≠ (TX7 b).2.1 := by decide +kernel
theorem tyX7_ok : ∀ k, k < 3 → parseFieldDescriptor (TX7 k).2.2.1 = some (tyX7 k) := by decide +kernel
def RX8 : String := "WristTreaty$Speech"
def TX8 : u_T := fun k => match k with
  | 0 => ("WristTreaty$Speech", "reached", "[I", true)
  | _ => ("WristTreaty$Speech", "gorge", "LWristTreaty$Gorge;", true)
def tyX8 : Nat → FieldType := fun k => match k with
  | 0 => .array .int
  | _ => .object "WristTreaty$Gorge"
theorem nmX8 : ∀ a, a < 2 → ∀ b, b < 2 → a ≠ b → (TX8 a).2.1 ≠ (TX8 b).2.1 := by decide +kernel
theorem tyX8_ok : ∀ k, k < 2 → parseFieldDescriptor (TX8 k).2.2.1 = some (tyX8 k) := by decide +kernel
def RX9 : String := "WristTreaty$Tape"
def TX9 : u_T := fun k => match k with
  | 0 => ("WristTreaty$Tape", "bytes", "[B", true)
  | _ => ("WristTreaty$Tape", "length", "I", false)
def tyX9 : Nat → FieldType := fun k => match k with
  | 0 => .array .byte
  | _ => .int
theorem nmX9 : ∀ a, a < 2 → ∀ b, b < 2 → a ≠ b → (TX9 a).2.1 ≠ (TX9 b).2.1 := by decide +kernel
theorem tyX9_ok : ∀ k, k < 2 → parseFieldDescriptor (TX9 k).2.2.1 = some (tyX9 k) := by decide +kernel
def RX10 : String := "WristTreaty$Weary"
def TX10 : u_T := fun k => match k with
  | 0 => ("WristTreaty$Weary", "fitting", "I", false)
  | 1 => ("WristTreaty$Weary", "fitted", "[Z", true)
  | 2 => ("WristTreaty$Weary", "sharing", "[I", true)
  | 3 => ("WristTreaty$Weary", "gorge", "LWristTreaty$Gorge;", true)
  | _ => ("WristTreaty$Weary", "slots", "LWristTreaty$Slots;", true)
def tyX10 : Nat → FieldType := fun k => match k with
  | 0 => .int
  | 1 => .array .boolean
  | 2 => .array .int
  | 3 => .object "WristTreaty$Gorge"
  | _ => .object "WristTreaty$Slots"
theorem nmX10 : ∀ a, a < 5 → ∀ b, b < 5 → a ≠ b → (TX10 a).2.1 ≠ (TX10 b).2.1 := by decide +kernel
theorem tyX10_ok : ∀ k, k < 5 → parseFieldDescriptor (TX10 k).2.2.1 = some (tyX10 k) := by decide +kernel
def RX11 : String := "WristTreaty"
def TX11 : u_T := fun k => match k with
  | 0 => ("WristTreaty", "tape", "LWristTreaty$Tape;", true)
  | 1 => ("WristTreaty", "reader", "LWristTreaty$Reader;", true)
  | 2 => ("WristTreaty", "gorge", "LWristTreaty$Gorge;", true)
  | 3 => ("WristTreaty", "evening", "LWristTreaty$Evening;", true)
  | 4 => ("WristTreaty", "images", "[LWristTreaty$Image;", true)
  | 5 => ("WristTreaty", "slots", "LWristTreaty$Slots;", true)
  | 6 => ("WristTreaty", "course", "LWristTreaty$Course;", true)
  | 7 => ("WristTreaty", "pairing", "LWristTreaty$Pairing;", true)
  | 8 => ("WristTreaty", "speech", "LWristTreaty$Speech;", true)
  | 9 => ("WristTreaty", "bargain", "LWristTreaty$Bargain;", true)
  | _ => ("WristTreaty", "weary", "LWristTreaty$Weary;", true)
def tyX11 : Nat → FieldType := fun k => match k with
  | 0 => .object "WristTreaty$Tape"
  | 1 => .object "WristTreaty$Reader"
  | 2 => .object "WristTreaty$Gorge"
  | 3 => .object "WristTreaty$Evening"
  | 4 => .array (.object "WristTreaty$Image")
  | 5 => .object "WristTreaty$Slots"
  | 6 => .object "WristTreaty$Course"
  | 7 => .object "WristTreaty$Pairing"
  | 8 => .object "WristTreaty$Speech"
  | 9 => .object "WristTreaty$Bargain"
  | _ => .object "WristTreaty$Weary"
theorem nmX11 : ∀ a, a < 11 → ∀ b, b < 11 → a ≠ b → (TX11 a).2.1 ≠ (TX11 b).2.1 := by decide +kernel
theorem tyX11_ok : ∀ k, k < 11 → parseFieldDescriptor (TX11 k).2.2.1 = some (tyX11 k) := by decide +kernel
def RX12 : String := "WristTreatyModel"
def TX12 : u_T := fun k => match k with
  | 0 => ("WristTreatyModel", "thrown", "I", false)
  | 1 => ("WristTreatyModel", "world", "[I", true)
  | 2 => ("WristTreatyModel", "images", "[I", true)
  | 3 => ("WristTreatyModel", "hasImage", "[Z", true)
  | 4 => ("WristTreatyModel", "tape", "[B", true)
  | 5 => ("WristTreatyModel", "taped", "I", false)
  | 6 => ("WristTreatyModel", "five", "[I", true)
  | 7 => ("WristTreatyModel", "size", "I", false)
  | 8 => ("WristTreatyModel", "at", "I", false)
  | 9 => ("WristTreatyModel", "from", "I", false)
  | 10 => ("WristTreatyModel", "token", "I", false)
  | 11 => ("WristTreatyModel", "value", "I", false)
  | 12 => ("WristTreatyModel", "faultKind", "I", false)
  | 13 => ("WristTreatyModel", "faultPlace", "I", false)
  | 14 => ("WristTreatyModel", "fresh", "[I", true)
  | 15 => ("WristTreatyModel", "startOne", "I", false)
  | 16 => ("WristTreatyModel", "startOther", "I", false)
  | 17 => ("WristTreatyModel", "latest", "I", false)
  | 18 => ("WristTreatyModel", "leftBeats", "I", false)
  | 19 => ("WristTreatyModel", "signed", "I", false)
  | 20 => ("WristTreatyModel", "metMany", "I", false)
  | 21 => ("WristTreatyModel", "sums", "[I", true)
  | 22 => ("WristTreatyModel", "pairs", "[I", true)
  | 23 => ("WristTreatyModel", "goesWith", "[I", true)
  | 24 => ("WristTreatyModel", "said", "[I", true)
  | 25 => ("WristTreatyModel", "saidMany", "I", false)
  | 26 => ("WristTreatyModel", "firstWait", "I", false)
  | 27 => ("WristTreatyModel", "firstOrder", "[I", true)
  | 28 => ("WristTreatyModel", "bundleFirst", "I", false)
  | 29 => ("WristTreatyModel", "tiredBy", "[I", true)
  | 30 => ("WristTreatyModel", "tiredMany", "I", false)
  | 31 => ("WristTreatyModel", "many", "[I", true)
  | 32 => ("WristTreatyModel", "width", "[I", true)
  | 33 => ("WristTreatyModel", "numbers", "[J", true)
  | _ => ("WristTreatyModel", "moving", "[J", true)
def tyX12 : Nat → FieldType := fun k => match k with
  | 0 => .int
  | 1 => .array .int
  | 2 => .array .int
  | 3 => .array .boolean
  | 4 => .array .byte
  | 5 => .int
  | 6 => .array .int
  | 7 => .int
  | 8 => .int
  | 9 => .int
  | 10 => .int
  | 11 => .int
  | 12 => .int
  | 13 => .int
  | 14 => .array .int
  | 15 => .int
  | 16 => .int
  | 17 => .int
  | 18 => .int
  | 19 => .int
  | 20 => .int
  | 21 => .array .int
  | 22 => .array .int
  | 23 => .array .int
  | 24 => .array .int
  | 25 => .int
  | 26 => .int
  | 27 => .array .int
  | 28 => .int
  | 29 => .array .int
  | 30 => .int
  | 31 => .array .int
  | 32 => .array .int
  | 33 => .array .long
  | _ => .array .long
theorem nmX12 : ∀ a, a < 35 → ∀ b, b < 35 → a ≠ b → (TX12 a).2.1 ≠ (TX12 b).2.1 := by decide +kernel
theorem tyX12_ok : ∀ k, k < 35 → parseFieldDescriptor (TX12 k).2.2.1 = some (tyX12 k) := by decide +kernel
def RJ0 : String := "java/lang/String"
def RJ1 : String := "java/lang/StringLatin1"
def RJ2 : String := "java/lang/StringUTF16"
def RJ3 : String := "jdk/internal/util/Preconditions"
def RJ6 : String := "java/lang/Integer"
def RJ7 : String := "java/util/Arrays"
def RJ9 : String := "java/lang/Math"
abbrev cJ0_charAt_5068e : ByteArray := prog_17_method_56_code
def yJ0_charAt_5068e : MethodName := ⟨RJ0, "charAt", "(I)C"⟩
abbrev cJ0_checkIndex_df160 : ByteArray := prog_17_method_155_code
def yJ0_checkIndex_df160 : MethodName := ⟨RJ0, "checkIndex", "(II)V"⟩
abbrev cJ0_coder_7d493 : ByteArray := prog_17_method_152_code
def yJ0_coder_7d493 : MethodName := ⟨RJ0, "coder", "()B"⟩
abbrev cJ0_isLatin1_aae02 : ByteArray := prog_17_method_154_code
def yJ0_isLatin1_aae02 : MethodName := ⟨RJ0, "isLatin1", "()Z"⟩
abbrev cJ0_length_8abf5 : ByteArray := prog_17_method_54_code
def yJ0_length_8abf5 : MethodName := ⟨RJ0, "length", "()I"⟩
abbrev cJ1_charAt_3b067 : ByteArray := prog_18_method_2_code
def yJ1_charAt_3b067 : MethodName := ⟨RJ1, "charAt", "([BI)C"⟩
abbrev cJ2_charAt_3b067 : ByteArray := prog_19_method_83_code
def yJ2_charAt_3b067 : MethodName := ⟨RJ2, "charAt", "([BI)C"⟩
abbrev cJ2_checkIndex_2214a : ByteArray := prog_19_method_91_code
def yJ2_checkIndex_2214a : MethodName := ⟨RJ2, "checkIndex", "(I[B)V"⟩
abbrev cJ2_getChar_3b067 : ByteArray := prog_19_method_5_code
def yJ2_getChar_3b067 : MethodName := ⟨RJ2, "getChar", "([BI)C"⟩
abbrev cJ2_length_9d52b : ByteArray := prog_19_method_6_code
def yJ2_length_9d52b : MethodName := ⟨RJ2, "length", "([B)I"⟩
abbrev cJ3_checkIndex_8e157 : ByteArray := prog_22_method_11_code
def yJ3_checkIndex_8e157 : MethodName := ⟨RJ3, "checkIndex", "(IILjava/util/function/BiFunction;)I"⟩
abbrev cJ6_bitCount_0f7a4 : ByteArray := prog_15_method_49_code
def yJ6_bitCount_0f7a4 : MethodName := ⟨RJ6, "bitCount", "(I)I"⟩
abbrev cJ7_fill_53178 : ByteArray := prog_21_method_103_code
def yJ7_fill_53178 : MethodName := ⟨RJ7, "fill", "([II)V"⟩
abbrev cJ9_floorMod_7cf53 : ByteArray := prog_16_method_50_code
def yJ9_floorMod_7cf53 : MethodName := ⟨RJ9, "floorMod", "(II)I"⟩
abbrev cJ9_max_7cf53 : ByteArray := prog_16_method_65_code
def yJ9_max_7cf53 : MethodName := ⟨RJ9, "max", "(II)I"⟩
abbrev cJ9_min_7cf53 : ByteArray := prog_16_method_69_code
def yJ9_min_7cf53 : MethodName := ⟨RJ9, "min", "(II)I"⟩
abbrev cX0_bestDeal : ByteArray := prog_2_method_6_code
def yX0_bestDeal : MethodName := ⟨RX0, "bestDeal", "()I"⟩
abbrev cX0_findBundles : ByteArray := prog_2_method_9_code
def yX0_findBundles : MethodName := ⟨RX0, "findBundles", "()V"⟩
abbrev cX0_firmSets : ByteArray := prog_2_method_10_code
def yX0_firmSets : MethodName := ⟨RX0, "firmSets", "()I"⟩
abbrev cX0_greatestLesser : ByteArray := prog_2_method_7_code
def yX0_greatestLesser : MethodName := ⟨RX0, "greatestLesser", "()I"⟩
abbrev cX0_init : ByteArray := prog_2_method_1_code
def yX0_init : MethodName := ⟨RX0, "<init>", "(LWristTreaty$Gorge;)V"⟩
abbrev cX0_isFirm : ByteArray := prog_2_method_11_code
def yX0_isFirm : MethodName := ⟨RX0, "isFirm", "(I)Z"⟩
abbrev cX0_isSigned : ByteArray := prog_2_method_12_code
def yX0_isSigned : MethodName := ⟨RX0, "isSigned", "(I)Z"⟩
abbrev cX0_largestSaid : ByteArray := prog_2_method_2_code
def yX0_largestSaid : MethodName := ⟨RX0, "largestSaid", "(I)I"⟩
abbrev cX0_leftOut : ByteArray := prog_2_method_8_code
def yX0_leftOut : MethodName := ⟨RX0, "leftOut", "(I)I"⟩
abbrev cX0_richestSaid : ByteArray := prog_2_method_3_code
def yX0_richestSaid : MethodName := ⟨RX0, "richestSaid", "(I)I"⟩
abbrev cX0_signedSets : ByteArray := prog_2_method_5_code
def yX0_signedSets : MethodName := ⟨RX0, "signedSets", "()I"⟩
abbrev cX0_weighSets : ByteArray := prog_2_method_13_code
def yX0_weighSets : MethodName := ⟨RX0, "weighSets", "()V"⟩
abbrev cX0_worthOfBoth : ByteArray := prog_2_method_4_code
def yX0_worthOfBoth : MethodName := ⟨RX0, "worthOfBoth", "(I)I"⟩
abbrev cX10_agrees : ByteArray := prog_12_method_8_code
def yX10_agrees : MethodName := ⟨RX10, "agrees", "(III)Z"⟩
abbrev cX10_bestQuestion : ByteArray := prog_12_method_5_code
def yX10_bestQuestion : MethodName := ⟨RX10, "bestQuestion", "()I"⟩
abbrev cX10_gather : ByteArray := prog_12_method_3_code
def yX10_gather : MethodName := ⟨RX10, "gather", "(I)V"⟩
abbrev cX10_init : ByteArray := prog_12_method_1_code
def yX10_init : MethodName := ⟨RX10, "<init>", "(LWristTreaty$Gorge;LWristTreaty$Slots;)V"⟩
abbrev cX10_isManOf : ByteArray := prog_12_method_7_code
def yX10_isManOf : MethodName := ⟨RX10, "isManOf", "(JI)Z"⟩
abbrev cX10_isTold : ByteArray := prog_12_method_2_code
def yX10_isTold : MethodName := ⟨RX10, "isTold", "(I)Z"⟩
abbrev cX10_leastLoss : ByteArray := prog_12_method_4_code
def yX10_leastLoss : MethodName := ⟨RX10, "leastLoss", "(I)I"⟩
abbrev cX10_mostLeft : ByteArray := prog_12_method_6_code
def yX10_mostLeft : MethodName := ⟨RX10, "mostLeft", "(II)I"⟩
abbrev cX10_wearyHold : ByteArray := prog_12_method_9_code
def yX10_wearyHold : MethodName := ⟨RX10, "wearyHold", "(IIII)I"⟩
abbrev cX11_able : ByteArray := prog_1_method_13_code
def yX11_able : MethodName := ⟨RX11, "able", "()I"⟩
abbrev cX11_anew : ByteArray := prog_1_method_65_code
def yX11_anew : MethodName := ⟨RX11, "anew", "()I"⟩
abbrev cX11_ask : ByteArray := prog_1_method_55_code
def yX11_ask : MethodName := ⟨RX11, "ask", "(I)I"⟩
abbrev cX11_back : ByteArray := prog_1_method_71_code
def yX11_back : MethodName := ⟨RX11, "back", "(I)I"⟩
abbrev cX11_beatsDrawn : ByteArray := prog_1_method_83_code
def yX11_beatsDrawn : MethodName := ⟨RX11, "beatsDrawn", "(II)I"⟩
abbrev cX11_bothOfferAtRest : ByteArray := prog_1_method_79_code
def yX11_bothOfferAtRest : MethodName := ⟨RX11, "bothOfferAtRest", "(I)Z"⟩
abbrev cX11_bundle : ByteArray := prog_1_method_48_code
def yX11_bundle : MethodName := ⟨RX11, "bundle", "()I"⟩
abbrev cX11_bundles : ByteArray := prog_1_method_47_code
def yX11_bundles : MethodName := ⟨RX11, "bundles", "()I"⟩
abbrev cX11_by : ByteArray := prog_1_method_54_code
def yX11_by : MethodName := ⟨RX11, "by", "(II)I"⟩
abbrev cX11_chance : ByteArray := prog_1_method_56_code
def yX11_chance : MethodName := ⟨RX11, "chance", "(IIII)J"⟩
abbrev cX11_clause : ByteArray := prog_1_method_7_code
def yX11_clause : MethodName := ⟨RX11, "clause", "(II)I"⟩
abbrev cX11_count : ByteArray := prog_1_method_69_code
def yX11_count : MethodName := ⟨RX11, "count", "(I)I"⟩
abbrev cX11_courseOfNow : ByteArray := prog_1_method_77_code
def yX11_courseOfNow : MethodName := ⟨RX11, "courseOfNow", "()LWristTreaty$Course;"⟩
abbrev cX11_cut : ByteArray := prog_1_method_30_code
def yX11_cut : MethodName := ⟨RX11, "cut", "(II)I"⟩
abbrev cX11_deal : ByteArray := prog_1_method_42_code
def yX11_deal : MethodName := ⟨RX11, "deal", "()I"⟩
abbrev cX11_drawn : ByteArray := prog_1_method_66_code
def yX11_drawn : MethodName := ⟨RX11, "drawn", "(III)I"⟩
abbrev cX11_drop : ByteArray := prog_1_method_62_code
def yX11_drop : MethodName := ⟨RX11, "drop", "()I"⟩
abbrev cX11_end : ByteArray := prog_1_method_3_code
def yX11_end : MethodName := ⟨RX11, "end", "(I)I"⟩
abbrev cX11_ends : ByteArray := prog_1_method_35_code
def yX11_ends : MethodName := ⟨RX11, "ends", "(I)I"⟩
abbrev cX11_even : ByteArray := prog_1_method_43_code
def yX11_even : MethodName := ⟨RX11, "even", "()I"⟩
abbrev cX11_fair : ByteArray := prog_1_method_27_code
def yX11_fair : MethodName := ⟨RX11, "fair", "()I"⟩
abbrev cX11_fault : ByteArray := prog_1_method_5_code
def yX11_fault : MethodName := ⟨RX11, "fault", "(I)I"⟩
abbrev cX11_feed : ByteArray := prog_1_method_2_code
def yX11_feed : MethodName := ⟨RX11, "feed", "(IIIII)I"⟩
abbrev cX11_firm : ByteArray := prog_1_method_49_code
def yX11_firm : MethodName := ⟨RX11, "firm", "()I"⟩
abbrev cX11_fits : ByteArray := prog_1_method_52_code
def yX11_fits : MethodName := ⟨RX11, "fits", "(I)I"⟩
abbrev cX11_full : ByteArray := prog_1_method_36_code
def yX11_full : MethodName := ⟨RX11, "full", "(I)I"⟩
abbrev cX11_fulls : ByteArray := prog_1_method_37_code
def yX11_fulls : MethodName := ⟨RX11, "fulls", "(I)I"⟩
abbrev cX11_gorge : ByteArray := prog_1_method_4_code
def yX11_gorge : MethodName := ⟨RX11, "gorge", "()I"⟩
abbrev cX11_grip : ByteArray := prog_1_method_68_code
def yX11_grip : MethodName := ⟨RX11, "grip", "(II)I"⟩
abbrev cX11_hold : ByteArray := prog_1_method_19_code
def yX11_hold : MethodName := ⟨RX11, "hold", "(II)I"⟩
abbrev cX11_image : ByteArray := prog_1_method_70_code
def yX11_image : MethodName := ⟨RX11, "image", "(I)I"⟩
abbrev cX11_init : ByteArray := prog_1_method_1_code
def yX11_init : MethodName := ⟨RX11, "<init>", "()V"⟩
abbrev cX11_isAsLikely : ByteArray := prog_1_method_82_code
def yX11_isAsLikely : MethodName := ⟨RX11, "isAsLikely", "(II)Z"⟩
abbrev cX11_isHold : ByteArray := prog_1_method_78_code
def yX11_isHold : MethodName := ⟨RX11, "isHold", "(II)Z"⟩
abbrev cX11_isWithin : ByteArray := prog_1_method_75_code
def yX11_isWithin : MethodName := ⟨RX11, "isWithin", "(III)Z"⟩
abbrev cX11_kept : ByteArray := prog_1_method_16_code
def yX11_kept : MethodName := ⟨RX11, "kept", "()I"⟩
abbrev cX11_least : ByteArray := prog_1_method_32_code
def yX11_least : MethodName := ⟨RX11, "least", "(I)I"⟩
abbrev cX11_loners : ByteArray := prog_1_method_26_code
def yX11_loners : MethodName := ⟨RX11, "loners", "()I"⟩
abbrev cX11_longest : ByteArray := prog_1_method_12_code
def yX11_longest : MethodName := ⟨RX11, "longest", "()I"⟩
abbrev cX11_lowestTerm : ByteArray := prog_1_method_85_code
def yX11_lowestTerm : MethodName := ⟨RX11, "lowestTerm", "(JJI)J"⟩
abbrev cX11_luck : ByteArray := prog_1_method_67_code
def yX11_luck : MethodName := ⟨RX11, "luck", "(IIIII)I"⟩
abbrev cX11_man : ByteArray := prog_1_method_6_code
def yX11_man : MethodName := ⟨RX11, "man", "(II)I"⟩
abbrev cX11_match : ByteArray := prog_1_method_24_code
def yX11_match : MethodName := ⟨RX11, "match", "()I"⟩
abbrev cX11_matched : ByteArray := prog_1_method_25_code
def yX11_matched : MethodName := ⟨RX11, "matched", "(I)I"⟩
abbrev cX11_mean : ByteArray := prog_1_method_58_code
def yX11_mean : MethodName := ⟨RX11, "mean", "(III)J"⟩
abbrev cX11_meet : ByteArray := prog_1_method_17_code
def yX11_meet : MethodName := ⟨RX11, "meet", "(I)I"⟩
abbrev cX11_meetings : ByteArray := prog_1_method_11_code
def yX11_meetings : MethodName := ⟨RX11, "meetings", "(I)I"⟩
abbrev cX11_must : ByteArray := prog_1_method_45_code
def yX11_must : MethodName := ⟨RX11, "must", "(I)I"⟩
abbrev cX11_musts : ByteArray := prog_1_method_46_code
def yX11_musts : MethodName := ⟨RX11, "musts", "(I)I"⟩
abbrev cX11_needs : ByteArray := prog_1_method_34_code
def yX11_needs : MethodName := ⟨RX11, "needs", "(I)I"⟩
abbrev cX11_next : ByteArray := prog_1_method_10_code
def yX11_next : MethodName := ⟨RX11, "next", "(I)I"⟩
abbrev cX11_now : ByteArray := prog_1_method_63_code
def yX11_now : MethodName := ⟨RX11, "now", "(I)I"⟩
abbrev cX11_often : ByteArray := prog_1_method_15_code
def yX11_often : MethodName := ⟨RX11, "often", "(I)I"⟩
abbrev cX11_once : ByteArray := prog_1_method_38_code
def yX11_once : MethodName := ⟨RX11, "once", "(I)I"⟩
abbrev cX11_onces : ByteArray := prog_1_method_39_code
def yX11_onces : MethodName := ⟨RX11, "onces", "(I)I"⟩
abbrev cX11_order : ByteArray := prog_1_method_33_code
def yX11_order : MethodName := ⟨RX11, "order", "(II)I"⟩
abbrev cX11_out : ByteArray := prog_1_method_9_code
def yX11_out : MethodName := ⟨RX11, "out", "(II)I"⟩
abbrev cX11_pair : ByteArray := prog_1_method_20_code
def yX11_pair : MethodName := ⟨RX11, "pair", "()I"⟩
abbrev cX11_partner : ByteArray := prog_1_method_21_code
def yX11_partner : MethodName := ⟨RX11, "partner", "(I)I"⟩
abbrev cX11_paste : ByteArray := prog_1_method_74_code
def yX11_paste : MethodName := ⟨RX11, "paste", "(IIIII)I"⟩
abbrev cX11_powerOf : ByteArray := prog_1_method_84_code
def yX11_powerOf : MethodName := ⟨RX11, "powerOf", "(JI)J"⟩
abbrev cX11_push : ByteArray := prog_1_method_59_code
def yX11_push : MethodName := ⟨RX11, "push", "(II)I"⟩
abbrev cX11_pushes : ByteArray := prog_1_method_18_code
def yX11_pushes : MethodName := ⟨RX11, "pushes", "(I)I"⟩
abbrev cX11_resin : ByteArray := prog_1_method_28_code
def yX11_resin : MethodName := ⟨RX11, "resin", "(III)I"⟩
abbrev cX11_restOf : ByteArray := prog_1_method_76_code
def yX11_restOf : MethodName := ⟨RX11, "restOf", "(II)I"⟩
abbrev cX11_rests : ByteArray := prog_1_method_50_code
def yX11_rests : MethodName := ⟨RX11, "rests", "(II)I"⟩
abbrev cX11_row : ByteArray := prog_1_method_72_code
def yX11_row : MethodName := ⟨RX11, "row", "(III)I"⟩
abbrev cX11_saidRefusal : ByteArray := prog_1_method_80_code
def yX11_saidRefusal : MethodName := ⟨RX11, "saidRefusal", "(II)I"⟩
abbrev cX11_sharedDivisor : ByteArray := prog_1_method_86_code
def yX11_sharedDivisor : MethodName := ⟨RX11, "sharedDivisor", "(JJ)J"⟩
abbrev cX11_sign : ByteArray := prog_1_method_61_code
def yX11_sign : MethodName := ⟨RX11, "sign", "(I)I"⟩
abbrev cX11_signs : ByteArray := prog_1_method_41_code
def yX11_signs : MethodName := ⟨RX11, "signs", "()I"⟩
abbrev cX11_soonest : ByteArray := prog_1_method_14_code
def yX11_soonest : MethodName := ⟨RX11, "soonest", "()I"⟩
abbrev cX11_spare : ByteArray := prog_1_method_29_code
def yX11_spare : MethodName := ⟨RX11, "spare", "(II)I"⟩
abbrev cX11_stands : ByteArray := prog_1_method_51_code
def yX11_stands : MethodName := ⟨RX11, "stands", "()I"⟩
abbrev cX11_start : ByteArray := prog_1_method_8_code
def yX11_start : MethodName := ⟨RX11, "start", "(I)I"⟩
abbrev cX11_strong : ByteArray := prog_1_method_22_code
def yX11_strong : MethodName := ⟨RX11, "strong", "(I)I"⟩
abbrev cX11_sure : ByteArray := prog_1_method_57_code
def yX11_sure : MethodName := ⟨RX11, "sure", "(III)I"⟩
abbrev cX11_swing : ByteArray := prog_1_method_60_code
def yX11_swing : MethodName := ⟨RX11, "swing", "(II)I"⟩
abbrev cX11_tired : ByteArray := prog_1_method_53_code
def yX11_tired : MethodName := ⟨RX11, "tired", "(I)I"⟩
abbrev cX11_toldRefusal : ByteArray := prog_1_method_81_code
def yX11_toldRefusal : MethodName := ⟨RX11, "toldRefusal", "(I)I"⟩
abbrev cX11_undo : ByteArray := prog_1_method_64_code
def yX11_undo : MethodName := ⟨RX11, "undo", "()I"⟩
abbrev cX11_veto : ByteArray := prog_1_method_44_code
def yX11_veto : MethodName := ⟨RX11, "veto", "(I)I"⟩
abbrev cX11_waits : ByteArray := prog_1_method_31_code
def yX11_waits : MethodName := ⟨RX11, "waits", "(II)I"⟩
abbrev cX11_weak : ByteArray := prog_1_method_23_code
def yX11_weak : MethodName := ⟨RX11, "weak", "(I)I"⟩
abbrev cX11_worth : ByteArray := prog_1_method_40_code
def yX11_worth : MethodName := ⟨RX11, "worth", "(II)I"⟩
abbrev cX11_write : ByteArray := prog_1_method_73_code
def yX11_write : MethodName := ⟨RX11, "write", "(IIJ)I"⟩
abbrev cX12_able : ByteArray := prog_14_method_48_code
def yX12_able : MethodName := ⟨RX12, "able", "()I"⟩
abbrev cX12_act0 : ByteArray := prog_14_method_35_code
def yX12_act0 : MethodName := ⟨RX12, "act0", "(II)V"⟩
abbrev cX12_advance : ByteArray := prog_14_method_17_code
def yX12_advance : MethodName := ⟨RX12, "advance", "()V"⟩
abbrev cX12_allClauses : ByteArray := prog_14_method_91_code
def yX12_allClauses : MethodName := ⟨RX12, "allClauses", "()I"⟩
abbrev cX12_anew : ByteArray := prog_14_method_138_code
def yX12_anew : MethodName := ⟨RX12, "anew", "()I"⟩
abbrev cX12_areMen : ByteArray := prog_14_method_58_code
def yX12_areMen : MethodName := ⟨RX12, "areMen", "(II)Z"⟩
abbrev cX12_areOut : ByteArray := prog_14_method_39_code
def yX12_areOut : MethodName := ⟨RX12, "areOut", "(I)Z"⟩
abbrev cX12_asItIs : ByteArray := prog_14_method_34_code
def yX12_asItIs : MethodName := ⟨RX12, "asItIs", "()V"⟩
abbrev cX12_ask : ByteArray := prog_14_method_122_code
def yX12_ask : MethodName := ⟨RX12, "ask", "(I)I"⟩
abbrev cX12_asksRow : ByteArray := prog_14_method_76_code
def yX12_asksRow : MethodName := ⟨RX12, "asksRow", "(II)I"⟩
abbrev cX12_back : ByteArray := prog_14_method_7_code
def yX12_back : MethodName := ⟨RX12, "back", "(I)I"⟩
abbrev cX12_bit : ByteArray := prog_14_method_5_code
def yX12_bit : MethodName := ⟨RX12, "bit", "(II)I"⟩
abbrev cX12_bits : ByteArray := prog_14_method_4_code
def yX12_bits : MethodName := ⟨RX12, "bits", "(I)I"⟩
abbrev cX12_blows : ByteArray := prog_14_method_37_code
def yX12_blows : MethodName := ⟨RX12, "blows", "(I)Z"⟩
abbrev cX12_bothOf : ByteArray := prog_14_method_95_code
def yX12_bothOf : MethodName := ⟨RX12, "bothOf", "(I)I"⟩
abbrev cX12_bundle : ByteArray := prog_14_method_110_code
def yX12_bundle : MethodName := ⟨RX12, "bundle", "()I"⟩
abbrev cX12_bundles : ByteArray := prog_14_method_109_code
def yX12_bundles : MethodName := ⟨RX12, "bundles", "()I"⟩
abbrev cX12_by : ByteArray := prog_14_method_120_code
def yX12_by : MethodName := ⟨RX12, "by", "(II)I"⟩
abbrev cX12_chance : ByteArray := prog_14_method_126_code
def yX12_chance : MethodName := ⟨RX12, "chance", "(IIII)J"⟩
abbrev cX12_clause : ByteArray := prog_14_method_33_code
def yX12_clause : MethodName := ⟨RX12, "clause", "(II)I"⟩
abbrev cX12_count : ByteArray := prog_14_method_144_code
def yX12_count : MethodName := ⟨RX12, "count", "(I)I"⟩
abbrev cX12_cut : ByteArray := prog_14_method_79_code
def yX12_cut : MethodName := ⟨RX12, "cut", "(II)I"⟩
abbrev cX12_cutOf : ByteArray := prog_14_method_77_code
def yX12_cutOf : MethodName := ⟨RX12, "cutOf", "(I)I"⟩
abbrev cX12_cut_ : ByteArray := prog_14_method_146_code
def yX12_cut_ : MethodName := ⟨RX12, "cut", "(JI)J"⟩
abbrev cX12_deal : ByteArray := prog_14_method_102_code
def yX12_deal : MethodName := ⟨RX12, "deal", "()I"⟩
abbrev cX12_divisor : ByteArray := prog_14_method_124_code
def yX12_divisor : MethodName := ⟨RX12, "divisor", "(JJ)J"⟩
abbrev cX12_doHold : ByteArray := prog_14_method_131_code
def yX12_doHold : MethodName := ⟨RX12, "doHold", "()Z"⟩
abbrev cX12_drawn : ByteArray := prog_14_method_141_code
def yX12_drawn : MethodName := ⟨RX12, "drawn", "(III)I"⟩
abbrev cX12_drop : ByteArray := prog_14_method_135_code
def yX12_drop : MethodName := ⟨RX12, "drop", "()I"⟩
abbrev cX12_end : ByteArray := prog_14_method_15_code
def yX12_end : MethodName := ⟨RX12, "end", "(I)I"⟩
abbrev cX12_ends : ByteArray := prog_14_method_88_code
def yX12_ends : MethodName := ⟨RX12, "ends", "(I)I"⟩
abbrev cX12_errs : ByteArray := prog_14_method_19_code
def yX12_errs : MethodName := ⟨RX12, "errs", "(I)V"⟩
abbrev cX12_even : ByteArray := prog_14_method_103_code
def yX12_even : MethodName := ⟨RX12, "even", "()I"⟩
abbrev cX12_fair : ByteArray := prog_14_method_71_code
def yX12_fair : MethodName := ⟨RX12, "fair", "()I"⟩
abbrev cX12_fault : ByteArray := prog_14_method_25_code
def yX12_fault : MethodName := ⟨RX12, "fault", "(I)I"⟩
abbrev cX12_feed : ByteArray := prog_14_method_14_code
def yX12_feed : MethodName := ⟨RX12, "feed", "(IIIII)I"⟩
abbrev cX12_firm : ByteArray := prog_14_method_112_code
def yX12_firm : MethodName := ⟨RX12, "firm", "()I"⟩
abbrev cX12_fits : ByteArray := prog_14_method_118_code
def yX12_fits : MethodName := ⟨RX12, "fits", "(I)I"⟩
abbrev cX12_full : ByteArray := prog_14_method_93_code
def yX12_full : MethodName := ⟨RX12, "full", "(I)I"⟩
abbrev cX12_fullOf : ByteArray := prog_14_method_92_code
def yX12_fullOf : MethodName := ⟨RX12, "fullOf", "(I)I"⟩
abbrev cX12_fulls : ByteArray := prog_14_method_94_code
def yX12_fulls : MethodName := ⟨RX12, "fulls", "(I)I"⟩
abbrev cX12_gives : ByteArray := prog_14_method_26_code
def yX12_gives : MethodName := ⟨RX12, "gives", "()I"⟩
abbrev cX12_goDrawn : ByteArray := prog_14_method_139_code
def yX12_goDrawn : MethodName := ⟨RX12, "goDrawn", "(JII)I"⟩
abbrev cX12_good : ByteArray := prog_14_method_18_code
def yX12_good : MethodName := ⟨RX12, "good", "()Z"⟩
abbrev cX12_gorge : ByteArray := prog_14_method_31_code
def yX12_gorge : MethodName := ⟨RX12, "gorge", "()I"⟩
abbrev cX12_grip : ByteArray := prog_14_method_143_code
def yX12_grip : MethodName := ⟨RX12, "grip", "(II)I"⟩
abbrev cX12_gripLess : ByteArray := prog_14_method_55_code
def yX12_gripLess : MethodName := ⟨RX12, "gripLess", "(III)I"⟩
abbrev cX12_hasBy : ByteArray := prog_14_method_113_code
def yX12_hasBy : MethodName := ⟨RX12, "hasBy", "(IIZZI)I"⟩
abbrev cX12_hold : ByteArray := prog_14_method_60_code
def yX12_hold : MethodName := ⟨RX12, "hold", "(II)I"⟩
abbrev cX12_holdBy : ByteArray := prog_14_method_56_code
def yX12_holdBy : MethodName := ⟨RX12, "holdBy", "(IIII)I"⟩
abbrev cX12_holdOf : ByteArray := prog_14_method_57_code
def yX12_holdOf : MethodName := ⟨RX12, "holdOf", "(II)I"⟩
abbrev cX12_image : ByteArray := prog_14_method_6_code
def yX12_image : MethodName := ⟨RX12, "image", "(I)I"⟩
abbrev cX12_in : ByteArray := prog_14_method_3_code
def yX12_in : MethodName := ⟨RX12, "in", "(JJJ)Z"⟩
abbrev cX12_init : ByteArray := prog_14_method_1_code
def yX12_init : MethodName := ⟨RX12, "<init>", "()V"⟩
abbrev cX12_is : ByteArray := prog_14_method_20_code
def yX12_is : MethodName := ⟨RX12, "is", "(Ljava/lang/String;)Z"⟩
abbrev cX12_isClause : ByteArray := prog_14_method_10_code
def yX12_isClause : MethodName := ⟨RX12, "isClause", "(J)Z"⟩
abbrev cX12_isFirm : ByteArray := prog_14_method_111_code
def yX12_isFirm : MethodName := ⟨RX12, "isFirm", "(I)Z"⟩
abbrev cX12_isGorge : ByteArray := prog_14_method_8_code
def yX12_isGorge : MethodName := ⟨RX12, "isGorge", "()Z"⟩
abbrev cX12_isHeld : ByteArray := prog_14_method_117_code
def yX12_isHeld : MethodName := ⟨RX12, "isHeld", "(III)Z"⟩
abbrev cX12_isHold : ByteArray := prog_14_method_84_code
def yX12_isHold : MethodName := ⟨RX12, "isHold", "(II)Z"⟩
abbrev cX12_isMan : ByteArray := prog_14_method_9_code
def yX12_isMan : MethodName := ⟨RX12, "isMan", "(J)Z"⟩
abbrev cX12_isMeeting : ByteArray := prog_14_method_40_code
def yX12_isMeeting : MethodName := ⟨RX12, "isMeeting", "(I)Z"⟩
abbrev cX12_isOut : ByteArray := prog_14_method_38_code
def yX12_isOut : MethodName := ⟨RX12, "isOut", "(II)Z"⟩
abbrev cX12_isPair : ByteArray := prog_14_method_59_code
def yX12_isPair : MethodName := ⟨RX12, "isPair", "(II)Z"⟩
abbrev cX12_isSeed : ByteArray := prog_14_method_140_code
def yX12_isSeed : MethodName := ⟨RX12, "isSeed", "(I)Z"⟩
abbrev cX12_isSide : ByteArray := prog_14_method_11_code
def yX12_isSide : MethodName := ⟨RX12, "isSide", "(I)Z"⟩
abbrev cX12_isSigned : ByteArray := prog_14_method_100_code
def yX12_isSigned : MethodName := ⟨RX12, "isSigned", "(I)Z"⟩
abbrev cX12_isSlot : ByteArray := prog_14_method_145_code
def yX12_isSlot : MethodName := ⟨RX12, "isSlot", "(I)Z"⟩
abbrev cX12_isSure : ByteArray := prog_14_method_127_code
def yX12_isSure : MethodName := ⟨RX12, "isSure", "(II)Z"⟩
abbrev cX12_keepAct : ByteArray := prog_14_method_130_code
def yX12_keepAct : MethodName := ⟨RX12, "keepAct", "(II)Z"⟩
abbrev cX12_kept : ByteArray := prog_14_method_51_code
def yX12_kept : MethodName := ⟨RX12, "kept", "()I"⟩
abbrev cX12_layBundles : ByteArray := prog_14_method_108_code
def yX12_layBundles : MethodName := ⟨RX12, "layBundles", "()I"⟩
abbrev cX12_layMatch : ByteArray := prog_14_method_66_code
def yX12_layMatch : MethodName := ⟨RX12, "layMatch", "(I)V"⟩
abbrev cX12_layMatched : ByteArray := prog_14_method_68_code
def yX12_layMatched : MethodName := ⟨RX12, "layMatched", "()V"⟩
abbrev cX12_laySaid : ByteArray := prog_14_method_78_code
def yX12_laySaid : MethodName := ⟨RX12, "laySaid", "(I)V"⟩
abbrev cX12_layTired : ByteArray := prog_14_method_116_code
def yX12_layTired : MethodName := ⟨RX12, "layTired", "(IZ)I"⟩
abbrev cX12_least : ByteArray := prog_14_method_85_code
def yX12_least : MethodName := ⟨RX12, "least", "(I)I"⟩
abbrev cX12_leastOf : ByteArray := prog_14_method_83_code
def yX12_leastOf : MethodName := ⟨RX12, "leastOf", "(I)I"⟩
abbrev cX12_loners : ByteArray := prog_14_method_70_code
def yX12_loners : MethodName := ⟨RX12, "loners", "()I"⟩
abbrev cX12_longest : ByteArray := prog_14_method_47_code
def yX12_longest : MethodName := ⟨RX12, "longest", "()I"⟩
abbrev cX12_luck : ByteArray := prog_14_method_142_code
def yX12_luck : MethodName := ⟨RX12, "luck", "(IIIII)I"⟩
abbrev cX12_man : ByteArray := prog_14_method_32_code
def yX12_man : MethodName := ⟨RX12, "man", "(II)I"⟩
abbrev cX12_manyTo : ByteArray := prog_14_method_42_code
def yX12_manyTo : MethodName := ⟨RX12, "manyTo", "(I)I"⟩
abbrev cX12_match : ByteArray := prog_14_method_67_code
def yX12_match : MethodName := ⟨RX12, "match", "()I"⟩
abbrev cX12_matched : ByteArray := prog_14_method_69_code
def yX12_matched : MethodName := ⟨RX12, "matched", "(I)I"⟩
abbrev cX12_mean : ByteArray := prog_14_method_129_code
def yX12_mean : MethodName := ⟨RX12, "mean", "(III)J"⟩
abbrev cX12_meet : ByteArray := prog_14_method_53_code
def yX12_meet : MethodName := ⟨RX12, "meet", "(I)I"⟩
abbrev cX12_meetOf : ByteArray := prog_14_method_52_code
def yX12_meetOf : MethodName := ⟨RX12, "meetOf", "(I)I"⟩
abbrev cX12_meetings : ByteArray := prog_14_method_46_code
def yX12_meetings : MethodName := ⟨RX12, "meetings", "(I)I"⟩
abbrev cX12_must : ByteArray := prog_14_method_106_code
def yX12_must : MethodName := ⟨RX12, "must", "(I)I"⟩
abbrev cX12_mustOf : ByteArray := prog_14_method_104_code
def yX12_mustOf : MethodName := ⟨RX12, "mustOf", "(I)I"⟩
abbrev cX12_musts : ByteArray := prog_14_method_107_code
def yX12_musts : MethodName := ⟨RX12, "musts", "(I)I"⟩
abbrev cX12_needs : ByteArray := prog_14_method_22_code
def yX12_needs : MethodName := ⟨RX12, "needs", "(Ljava/lang/String;)V"⟩
abbrev cX12_needs_ : ByteArray := prog_14_method_87_code
def yX12_needs_ : MethodName := ⟨RX12, "needs", "(I)I"⟩
abbrev cX12_next : ByteArray := prog_14_method_45_code
def yX12_next : MethodName := ⟨RX12, "next", "(I)I"⟩
abbrev cX12_nextFrom : ByteArray := prog_14_method_41_code
def yX12_nextFrom : MethodName := ⟨RX12, "nextFrom", "(I)I"⟩
abbrev cX12_nextOrder : ByteArray := prog_14_method_81_code
def yX12_nextOrder : MethodName := ⟨RX12, "nextOrder", "()Z"⟩
abbrev cX12_now : ByteArray := prog_14_method_136_code
def yX12_now : MethodName := ⟨RX12, "now", "(I)I"⟩
abbrev cX12_number : ByteArray := prog_14_method_23_code
def yX12_number : MethodName := ⟨RX12, "number", "(II)I"⟩
abbrev cX12_numberAt : ByteArray := prog_14_method_75_code
def yX12_numberAt : MethodName := ⟨RX12, "numberAt", "(II)J"⟩
abbrev cX12_of : ByteArray := prog_14_method_12_code
def yX12_of : MethodName := ⟨RX12, "of", "(II)I"⟩
abbrev cX12_ofClause : ByteArray := prog_14_method_13_code
def yX12_ofClause : MethodName := ⟨RX12, "ofClause", "(II)I"⟩
abbrev cX12_often : ByteArray := prog_14_method_50_code
def yX12_often : MethodName := ⟨RX12, "often", "(I)I"⟩
abbrev cX12_once : ByteArray := prog_14_method_97_code
def yX12_once : MethodName := ⟨RX12, "once", "(I)I"⟩
abbrev cX12_onceOf : ByteArray := prog_14_method_96_code
def yX12_onceOf : MethodName := ⟨RX12, "onceOf", "(I)I"⟩
abbrev cX12_onces : ByteArray := prog_14_method_98_code
def yX12_onces : MethodName := ⟨RX12, "onces", "(I)I"⟩
abbrev cX12_order : ByteArray := prog_14_method_86_code
def yX12_order : MethodName := ⟨RX12, "order", "(II)I"⟩
abbrev cX12_out : ByteArray := prog_14_method_44_code
def yX12_out : MethodName := ⟨RX12, "out", "(II)I"⟩
abbrev cX12_pair : ByteArray := prog_14_method_61_code
def yX12_pair : MethodName := ⟨RX12, "pair", "()I"⟩
abbrev cX12_part : ByteArray := prog_14_method_125_code
def yX12_part : MethodName := ⟨RX12, "part", "(JJI)J"⟩
abbrev cX12_partner : ByteArray := prog_14_method_62_code
def yX12_partner : MethodName := ⟨RX12, "partner", "(I)I"⟩
abbrev cX12_paste : ByteArray := prog_14_method_149_code
def yX12_paste : MethodName := ⟨RX12, "paste", "(IIIII)I"⟩
abbrev cX12_power : ByteArray := prog_14_method_123_code
def yX12_power : MethodName := ⟨RX12, "power", "(JI)J"⟩
abbrev cX12_push : ByteArray := prog_14_method_132_code
def yX12_push : MethodName := ⟨RX12, "push", "(II)I"⟩
abbrev cX12_push0 : ByteArray := prog_14_method_36_code
def yX12_push0 : MethodName := ⟨RX12, "push0", "(II)V"⟩
abbrev cX12_pushes : ByteArray := prog_14_method_54_code
def yX12_pushes : MethodName := ⟨RX12, "pushes", "(I)I"⟩
abbrev cX12_readClause : ByteArray := prog_14_method_28_code
def yX12_readClause : MethodName := ⟨RX12, "readClause", "()V"⟩
abbrev cX12_readLine : ByteArray := prog_14_method_30_code
def yX12_readLine : MethodName := ⟨RX12, "readLine", "()V"⟩
abbrev cX12_readMan : ByteArray := prog_14_method_27_code
def yX12_readMan : MethodName := ⟨RX12, "readMan", "()V"⟩
abbrev cX12_readNext : ByteArray := prog_14_method_29_code
def yX12_readNext : MethodName := ⟨RX12, "readNext", "()V"⟩
abbrev cX12_resin : ByteArray := prog_14_method_73_code
def yX12_resin : MethodName := ⟨RX12, "resin", "(III)I"⟩
abbrev cX12_resinOf : ByteArray := prog_14_method_72_code
def yX12_resinOf : MethodName := ⟨RX12, "resinOf", "(III)I"⟩
abbrev cX12_rests : ByteArray := prog_14_method_114_code
def yX12_rests : MethodName := ⟨RX12, "rests", "(II)I"⟩
abbrev cX12_row : ByteArray := prog_14_method_147_code
def yX12_row : MethodName := ⟨RX12, "row", "(III)I"⟩
abbrev cX12_saysOf : ByteArray := prog_14_method_90_code
def yX12_saysOf : MethodName := ⟨RX12, "saysOf", "(I)I"⟩
abbrev cX12_see : ByteArray := prog_14_method_16_code
def yX12_see : MethodName := ⟨RX12, "see", "(I)I"⟩
abbrev cX12_sign : ByteArray := prog_14_method_134_code
def yX12_sign : MethodName := ⟨RX12, "sign", "(I)I"⟩
abbrev cX12_signs : ByteArray := prog_14_method_101_code
def yX12_signs : MethodName := ⟨RX12, "signs", "()I"⟩
abbrev cX12_soonest : ByteArray := prog_14_method_49_code
def yX12_soonest : MethodName := ⟨RX12, "soonest", "()I"⟩
abbrev cX12_spare : ByteArray := prog_14_method_74_code
def yX12_spare : MethodName := ⟨RX12, "spare", "(II)I"⟩
abbrev cX12_stands : ByteArray := prog_14_method_115_code
def yX12_stands : MethodName := ⟨RX12, "stands", "()I"⟩
abbrev cX12_start : ByteArray := prog_14_method_43_code
def yX12_start : MethodName := ⟨RX12, "start", "(I)I"⟩
abbrev cX12_strong : ByteArray := prog_14_method_64_code
def yX12_strong : MethodName := ⟨RX12, "strong", "(I)I"⟩
abbrev cX12_sumFrom : ByteArray := prog_14_method_65_code
def yX12_sumFrom : MethodName := ⟨RX12, "sumFrom", "(II)I"⟩
abbrev cX12_sure : ByteArray := prog_14_method_128_code
def yX12_sure : MethodName := ⟨RX12, "sure", "(III)I"⟩
abbrev cX12_swap : ByteArray := prog_14_method_82_code
def yX12_swap : MethodName := ⟨RX12, "swap", "(II)V"⟩
abbrev cX12_swing : ByteArray := prog_14_method_133_code
def yX12_swing : MethodName := ⟨RX12, "swing", "(II)I"⟩
abbrev cX12_takes : ByteArray := prog_14_method_21_code
def yX12_takes : MethodName := ⟨RX12, "takes", "(Ljava/lang/String;)Z"⟩
abbrev cX12_tired : ByteArray := prog_14_method_119_code
def yX12_tired : MethodName := ⟨RX12, "tired", "(I)I"⟩
abbrev cX12_told : ByteArray := prog_14_method_24_code
def yX12_told : MethodName := ⟨RX12, "told", "(Ljava/lang/String;II)I"⟩
abbrev cX12_undo : ByteArray := prog_14_method_137_code
def yX12_undo : MethodName := ⟨RX12, "undo", "()I"⟩
abbrev cX12_veto : ByteArray := prog_14_method_105_code
def yX12_veto : MethodName := ⟨RX12, "veto", "(I)I"⟩
abbrev cX12_waits : ByteArray := prog_14_method_80_code
def yX12_waits : MethodName := ⟨RX12, "waits", "(II)I"⟩
abbrev cX12_weak : ByteArray := prog_14_method_63_code
def yX12_weak : MethodName := ⟨RX12, "weak", "(I)I"⟩
abbrev cX12_worstOf : ByteArray := prog_14_method_121_code
def yX12_worstOf : MethodName := ⟨RX12, "worstOf", "(II)I"⟩
abbrev cX12_worth : ByteArray := prog_14_method_99_code
def yX12_worth : MethodName := ⟨RX12, "worth", "(II)I"⟩
abbrev cX12_worthOf : ByteArray := prog_14_method_89_code
def yX12_worthOf : MethodName := ⟨RX12, "worthOf", "(II)I"⟩
abbrev cX12_write : ByteArray := prog_14_method_148_code
def yX12_write : MethodName := ⟨RX12, "write", "(IIJ)I"⟩
abbrev cX1_init : ByteArray := prog_3_method_1_code
def yX1_init : MethodName := ⟨RX1, "<init>", "(LWristTreaty$Gorge;)V"⟩
abbrev cX1_lead : ByteArray := prog_3_method_2_code
def yX1_lead : MethodName := ⟨RX1, "lead", "(II)V"⟩
abbrev cX1_longestGap : ByteArray := prog_3_method_6_code
def yX1_longestGap : MethodName := ⟨RX1, "longestGap", "(I)I"⟩
abbrev cX1_meetingFrom : ByteArray := prog_3_method_3_code
def yX1_meetingFrom : MethodName := ⟨RX1, "meetingFrom", "(I)I"⟩
abbrev cX1_meetingOf : ByteArray := prog_3_method_5_code
def yX1_meetingOf : MethodName := ⟨RX1, "meetingOf", "(I)I"⟩
abbrev cX1_meetingsTo : ByteArray := prog_3_method_4_code
def yX1_meetingsTo : MethodName := ⟨RX1, "meetingsTo", "(I)I"⟩
abbrev cX1_spoiled : ByteArray := prog_3_method_7_code
def yX1_spoiled : MethodName := ⟨RX1, "spoiled", "()I"⟩
abbrev cX2_clear : ByteArray := prog_4_method_2_code
def yX2_clear : MethodName := ⟨RX2, "clear", "()V"⟩
abbrev cX2_copyFrom : ByteArray := prog_4_method_3_code
def yX2_copyFrom : MethodName := ⟨RX2, "copyFrom", "(LWristTreaty$Evening;)V"⟩
abbrev cX2_hasSigned : ByteArray := prog_4_method_7_code
def yX2_hasSigned : MethodName := ⟨RX2, "hasSigned", "(I)Z"⟩
abbrev cX2_init : ByteArray := prog_4_method_1_code
def yX2_init : MethodName := ⟨RX2, "<init>", "()V"⟩
abbrev cX2_isHolding : ByteArray := prog_4_method_5_code
def yX2_isHolding : MethodName := ⟨RX2, "isHolding", "()Z"⟩
abbrev cX2_isOver : ByteArray := prog_4_method_6_code
def yX2_isOver : MethodName := ⟨RX2, "isOver", "()Z"⟩
abbrev cX2_letGo : ByteArray := prog_4_method_11_code
def yX2_letGo : MethodName := ⟨RX2, "letGo", "()V"⟩
abbrev cX2_moveStart : ByteArray := prog_4_method_8_code
def yX2_moveStart : MethodName := ⟨RX2, "moveStart", "(II)V"⟩
abbrev cX2_note : ByteArray := prog_4_method_14_code
def yX2_note : MethodName := ⟨RX2, "note", "(III)V"⟩
abbrev cX2_putName : ByteArray := prog_4_method_10_code
def yX2_putName : MethodName := ⟨RX2, "putName", "(II)V"⟩
abbrev cX2_setStart : ByteArray := prog_4_method_13_code
def yX2_setStart : MethodName := ⟨RX2, "setStart", "(II)V"⟩
abbrev cX2_startOf : ByteArray := prog_4_method_4_code
def yX2_startOf : MethodName := ⟨RX2, "startOf", "(I)I"⟩
abbrev cX2_takeBack : ByteArray := prog_4_method_12_code
def yX2_takeBack : MethodName := ⟨RX2, "takeBack", "()V"⟩
abbrev cX2_takeHold : ByteArray := prog_4_method_9_code
def yX2_takeHold : MethodName := ⟨RX2, "takeHold", "(II)V"⟩
abbrev cX3_addClause : ByteArray := prog_5_method_17_code
def yX3_addClause : MethodName := ⟨RX3, "addClause", "(III)V"⟩
abbrev cX3_addMan : ByteArray := prog_5_method_16_code
def yX3_addMan : MethodName := ⟨RX3, "addMan", "(III)V"⟩
abbrev cX3_addWind : ByteArray := prog_5_method_18_code
def yX3_addWind : MethodName := ⟨RX3, "addWind", "(II)V"⟩
abbrev cX3_allClauses : ByteArray := prog_5_method_8_code
def yX3_allClauses : MethodName := ⟨RX3, "allClauses", "()I"⟩
abbrev cX3_bestPartner : ByteArray := prog_5_method_23_code
def yX3_bestPartner : MethodName := ⟨RX3, "bestPartner", "(I)I"⟩
abbrev cX3_clear : ByteArray := prog_5_method_2_code
def yX3_clear : MethodName := ⟨RX3, "clear", "()V"⟩
abbrev cX3_copyFrom : ByteArray := prog_5_method_3_code
def yX3_copyFrom : MethodName := ⟨RX3, "copyFrom", "(LWristTreaty$Gorge;)V"⟩
abbrev cX3_exists : ByteArray := prog_5_method_4_code
def yX3_exists : MethodName := ⟨RX3, "exists", "()Z"⟩
abbrev cX3_farOf : ByteArray := prog_5_method_9_code
def yX3_farOf : MethodName := ⟨RX3, "farOf", "(I)I"⟩
abbrev cX3_giftOf : ByteArray := prog_5_method_24_code
def yX3_giftOf : MethodName := ⟨RX3, "giftOf", "(II)I"⟩
abbrev cX3_gripOf : ByteArray := prog_5_method_11_code
def yX3_gripOf : MethodName := ⟨RX3, "gripOf", "(I)I"⟩
abbrev cX3_hasClause : ByteArray := prog_5_method_7_code
def yX3_hasClause : MethodName := ⟨RX3, "hasClause", "(I)Z"⟩
abbrev cX3_hasMan : ByteArray := prog_5_method_6_code
def yX3_hasMan : MethodName := ⟨RX3, "hasMan", "(I)Z"⟩
abbrev cX3_hasSide : ByteArray := prog_5_method_5_code
def yX3_hasSide : MethodName := ⟨RX3, "hasSide", "(I)Z"⟩
abbrev cX3_holdByGrips : ByteArray := prog_5_method_21_code
def yX3_holdByGrips : MethodName := ⟨RX3, "holdByGrips", "(IIII)I"⟩
abbrev cX3_holdOrRefusal : ByteArray := prog_5_method_20_code
def yX3_holdOrRefusal : MethodName := ⟨RX3, "holdOrRefusal", "(II)I"⟩
abbrev cX3_init : ByteArray := prog_5_method_1_code
def yX3_init : MethodName := ⟨RX3, "<init>", "()V"⟩
abbrev cX3_isWindy : ByteArray := prog_5_method_19_code
def yX3_isWindy : MethodName := ⟨RX3, "isWindy", "(I)Z"⟩
abbrev cX3_lengthOf : ByteArray := prog_5_method_13_code
def yX3_lengthOf : MethodName := ⟨RX3, "lengthOf", "(I)I"⟩
abbrev cX3_resinedHold : ByteArray := prog_5_method_22_code
def yX3_resinedHold : MethodName := ⟨RX3, "resinedHold", "(III)I"⟩
abbrev cX3_setFars : ByteArray := prog_5_method_14_code
def yX3_setFars : MethodName := ⟨RX3, "setFars", "(II)V"⟩
abbrev cX3_setGrip : ByteArray := prog_5_method_15_code
def yX3_setGrip : MethodName := ⟨RX3, "setGrip", "(II)V"⟩
abbrev cX3_sideOf : ByteArray := prog_5_method_10_code
def yX3_sideOf : MethodName := ⟨RX3, "sideOf", "(I)I"⟩
abbrev cX3_witsOf : ByteArray := prog_5_method_12_code
def yX3_witsOf : MethodName := ⟨RX3, "witsOf", "(I)I"⟩
abbrev cX3_worthOf : ByteArray := prog_5_method_25_code
def yX3_worthOf : MethodName := ⟨RX3, "worthOf", "(II)I"⟩
abbrev cX4_init : ByteArray := prog_6_method_1_code
def yX4_init : MethodName := ⟨RX4, "<init>", "()V"⟩
abbrev cX5_init : ByteArray := prog_7_method_1_code
def yX5_init : MethodName := ⟨RX5, "<init>", "(LWristTreaty$Gorge;)V"⟩
abbrev cX5_partnerOf : ByteArray := prog_7_method_2_code
def yX5_partnerOf : MethodName := ⟨RX5, "partnerOf", "(I)I"⟩
abbrev cX5_settle : ByteArray := prog_7_method_3_code
def yX5_settle : MethodName := ⟨RX5, "settle", "()V"⟩
abbrev cX5_tryMan : ByteArray := prog_7_method_4_code
def yX5_tryMan : MethodName := ⟨RX5, "tryMan", "(IIII)V"⟩
abbrev cX5_weigh : ByteArray := prog_7_method_5_code
def yX5_weigh : MethodName := ⟨RX5, "weigh", "(III)V"⟩
abbrev cX6_acceptNumber : ByteArray := prog_8_method_9_code
def yX6_acceptNumber : MethodName := ⟨RX6, "acceptNumber", "()V"⟩
abbrev cX6_acceptToken : ByteArray := prog_8_method_5_code
def yX6_acceptToken : MethodName := ⟨RX6, "acceptToken", "()V"⟩
abbrev cX6_acceptWord : ByteArray := prog_8_method_8_code
def yX6_acceptWord : MethodName := ⟨RX6, "acceptWord", "()V"⟩
abbrev cX6_closeLine : ByteArray := prog_8_method_7_code
def yX6_closeLine : MethodName := ⟨RX6, "closeLine", "()V"⟩
abbrev cX6_fail : ByteArray := prog_8_method_10_code
def yX6_fail : MethodName := ⟨RX6, "fail", "(I)V"⟩
abbrev cX6_hasAll : ByteArray := prog_8_method_11_code
def yX6_hasAll : MethodName := ⟨RX6, "hasAll", "(I)Z"⟩
abbrev cX6_init : ByteArray := prog_8_method_1_code
def yX6_init : MethodName := ⟨RX6, "<init>", "(LWristTreaty$Tape;)V"⟩
abbrev cX6_isBlank : ByteArray := prog_8_method_15_code
def yX6_isBlank : MethodName := ⟨RX6, "isBlank", "(I)Z"⟩
abbrev cX6_isWord : ByteArray := prog_8_method_14_code
def yX6_isWord : MethodName := ⟨RX6, "isWord", "(Ljava/lang/String;)Z"⟩
abbrev cX6_kindOf : ByteArray := prog_8_method_16_code
def yX6_kindOf : MethodName := ⟨RX6, "kindOf", "(I)I"⟩
abbrev cX6_lineOfWord : ByteArray := prog_8_method_12_code
def yX6_lineOfWord : MethodName := ⟨RX6, "lineOfWord", "()I"⟩
abbrev cX6_openLine : ByteArray := prog_8_method_6_code
def yX6_openLine : MethodName := ⟨RX6, "openLine", "()V"⟩
abbrev cX6_readAll : ByteArray := prog_8_method_2_code
def yX6_readAll : MethodName := ⟨RX6, "readAll", "()Z"⟩
abbrev cX6_readLongest : ByteArray := prog_8_method_4_code
def yX6_readLongest : MethodName := ⟨RX6, "readLongest", "()V"⟩
abbrev cX6_readToken : ByteArray := prog_8_method_3_code
def yX6_readToken : MethodName := ⟨RX6, "readToken", "()V"⟩
abbrev cX6_wordDue : ByteArray := prog_8_method_13_code
def yX6_wordDue : MethodName := ⟨RX6, "wordDue", "()Ljava/lang/String;"⟩
abbrev cX7_cutTo : ByteArray := prog_9_method_12_code
def yX7_cutTo : MethodName := ⟨RX7, "cutTo", "(IJ)J"⟩
abbrev cX7_has : ByteArray := prog_9_method_2_code
def yX7_has : MethodName := ⟨RX7, "has", "(I)Z"⟩
abbrev cX7_hasPart : ByteArray := prog_9_method_8_code
def yX7_hasPart : MethodName := ⟨RX7, "hasPart", "(III)Z"⟩
abbrev cX7_init : ByteArray := prog_9_method_1_code
def yX7_init : MethodName := ⟨RX7, "<init>", "()V"⟩
abbrev cX7_isBare : ByteArray := prog_9_method_3_code
def yX7_isBare : MethodName := ⟨RX7, "isBare", "(I)Z"⟩
abbrev cX7_make : ByteArray := prog_9_method_7_code
def yX7_make : MethodName := ⟨RX7, "make", "(III)V"⟩
abbrev cX7_move : ByteArray := prog_9_method_11_code
def yX7_move : MethodName := ⟨RX7, "move", "(IIIII)V"⟩
abbrev cX7_numberAt : ByteArray := prog_9_method_10_code
def yX7_numberAt : MethodName := ⟨RX7, "numberAt", "(II)J"⟩
abbrev cX7_put : ByteArray := prog_9_method_9_code
def yX7_put : MethodName := ⟨RX7, "put", "(IIJ)V"⟩
abbrev cX7_sizeOf : ByteArray := prog_9_method_4_code
def yX7_sizeOf : MethodName := ⟨RX7, "sizeOf", "(I)I"⟩
abbrev cX7_widthOf : ByteArray := prog_9_method_5_code
def yX7_widthOf : MethodName := ⟨RX7, "widthOf", "(I)I"⟩
abbrev cX7_withRow : ByteArray := prog_9_method_6_code
def yX7_withRow : MethodName := ⟨RX7, "withRow", "()I"⟩
abbrev cX8_clauseInOrder : ByteArray := prog_10_method_6_code
def yX8_clauseInOrder : MethodName := ⟨RX8, "clauseInOrder", "(II)I"⟩
abbrev cX8_fewestFrom : ByteArray := prog_10_method_9_code
def yX8_fewestFrom : MethodName := ⟨RX8, "fewestFrom", "(III)I"⟩
abbrev cX8_fewestMeetings : ByteArray := prog_10_method_5_code
def yX8_fewestMeetings : MethodName := ⟨RX8, "fewestMeetings", "(I)I"⟩
abbrev cX8_firstToWait : ByteArray := prog_10_method_4_code
def yX8_firstToWait : MethodName := ⟨RX8, "firstToWait", "(LWristTreaty$Slots;II)I"⟩
abbrev cX8_init : ByteArray := prog_10_method_1_code
def yX8_init : MethodName := ⟨RX8, "<init>", "(LWristTreaty$Gorge;)V"⟩
abbrev cX8_isRowOfClauses : ByteArray := prog_10_method_2_code
def yX8_isRowOfClauses : MethodName := ⟨RX8, "isRowOfClauses", "(LWristTreaty$Slots;I)Z"⟩
abbrev cX8_leastHold : ByteArray := prog_10_method_7_code
def yX8_leastHold : MethodName := ⟨RX8, "leastHold", "(I)I"⟩
abbrev cX8_leastNext : ByteArray := prog_10_method_8_code
def yX8_leastNext : MethodName := ⟨RX8, "leastNext", "(IIII)I"⟩
abbrev cX8_leastReached : ByteArray := prog_10_method_10_code
def yX8_leastReached : MethodName := ⟨RX8, "leastReached", "(II)I"⟩
abbrev cX8_lengthOf : ByteArray := prog_10_method_12_code
def yX8_lengthOf : MethodName := ⟨RX8, "lengthOf", "(J)I"⟩
abbrev cX8_longestClause : ByteArray := prog_10_method_13_code
def yX8_longestClause : MethodName := ⟨RX8, "longestClause", "()I"⟩
abbrev cX8_meetingsFor : ByteArray := prog_10_method_3_code
def yX8_meetingsFor : MethodName := ⟨RX8, "meetingsFor", "(LWristTreaty$Slots;II)I"⟩
abbrev cX8_said : ByteArray := prog_10_method_11_code
def yX8_said : MethodName := ⟨RX8, "said", "(III)I"⟩
abbrev cX9_append : ByteArray := prog_11_method_3_code
def yX9_append : MethodName := ⟨RX9, "append", "(I)V"⟩
abbrev cX9_byteAt : ByteArray := prog_11_method_4_code
def yX9_byteAt : MethodName := ⟨RX9, "byteAt", "(I)I"⟩
abbrev cX9_hasRoom : ByteArray := prog_11_method_2_code
def yX9_hasRoom : MethodName := ⟨RX9, "hasRoom", "(I)Z"⟩
abbrev cX9_init : ByteArray := prog_11_method_1_code
def yX9_init : MethodName := ⟨RX9, "<init>", "()V"⟩
abbrev vwCl : List vw_C := [(RX0, TX0, 7), (RX1, TX1, 3), (RX2, TX2, 10), (RX3, TX3, 16), (RX4, TX4, 3), (RX5, TX5, 6), (RX6, TX6, 13), (RX7, TX7, 3), (RX8, TX8, 2), (RX9, TX9, 2), (RX10, TX10, 5), (RX11, TX11, 11), (RX12, TX12, 35)]
def TB : List Cond := lw_tbl.filter goodWord
theorem tb_mem {w : Cond} {i : Nat} (h : lw_tbl[i]? = some w) (hg : goodWord w = true) : w ∈ TB := List.mem_filter.mpr ⟨List.mem_of_getElem? h, hg⟩
theorem tb_list {ws : List Cond} (ps : List Nat) (hp : ws = ps.filterMap (fun i => lw_tbl[i]?)) (hg : ws.all goodWord = true) : ∀ w ∈ ws, w ∈ TB := by
  intro w hw
  have h1 := List.all_eq_true.mp hg w hw
  rw [hp] at hw
  obtain ⟨i, -, hi⟩ := List.mem_filterMap.mp hw
  exact tb_mem hi h1
