section
-- ===== PART A: goes FIRST, ahead of the names: the tables' words, and 'selects' of the private methods out of them =====
/-- a private method of a class that the tables say can be made, by its rows of tables_1 -/
def lw_okq (q : MethodName × Nat) : Prop := (q.1.cls ≠ "java/lang/invoke/MethodHandle" ∧ q.1.cls ≠ "java/lang/invoke/VarHandle") ∧ Cond.instantiable q.1.cls q.2 ∈ tables_1 ∧ Cond.privateMethod q.1 ∈ tables_1 ∧ Cond.instanceMethod q.1 ∈ tables_1
theorem lw_p0 : lw_okq (⟨"WristTreaty$Reader", "readToken", "()V"⟩, 13) := ⟨⟨by decide +kernel, by decide +kernel⟩, List.mem_of_getElem? (i := 47) (by decide +kernel), List.mem_of_getElem? (i := 435) (by decide +kernel), List.mem_of_getElem? (i := 436) (by decide +kernel)⟩
theorem lw_p1 : lw_okq (⟨"WristTreaty$Reader", "readLongest", "()V"⟩, 13) := ⟨⟨by decide +kernel, by decide +kernel⟩, List.mem_of_getElem? (i := 47) (by decide +kernel), List.mem_of_getElem? (i := 450) (by decide +kernel), List.mem_of_getElem? (i := 451) (by decide +kernel)⟩
theorem lw_p2 : lw_okq (⟨"WristTreaty$Reader", "acceptToken", "()V"⟩, 13) := ⟨⟨by decide +kernel, by decide +kernel⟩, List.mem_of_getElem? (i := 47) (by decide +kernel), List.mem_of_getElem? (i := 458) (by decide +kernel), List.mem_of_getElem? (i := 459) (by decide +kernel)⟩
theorem lw_p3 : lw_okq (⟨"WristTreaty$Reader", "openLine", "()V"⟩, 13) := ⟨⟨by decide +kernel, by decide +kernel⟩, List.mem_of_getElem? (i := 47) (by decide +kernel), List.mem_of_getElem? (i := 462) (by decide +kernel), List.mem_of_getElem? (i := 463) (by decide +kernel)⟩
theorem lw_p4 : lw_okq (⟨"WristTreaty$Reader", "lineOfWord", "()I"⟩, 13) := ⟨⟨by decide +kernel, by decide +kernel⟩, List.mem_of_getElem? (i := 47) (by decide +kernel), List.mem_of_getElem? (i := 466) (by decide +kernel), List.mem_of_getElem? (i := 467) (by decide +kernel)⟩
theorem lw_p5 : lw_okq (⟨"WristTreaty$Reader", "isWord", "(Ljava/lang/String;)Z"⟩, 13) := ⟨⟨by decide +kernel, by decide +kernel⟩, List.mem_of_getElem? (i := 47) (by decide +kernel), List.mem_of_getElem? (i := 471) (by decide +kernel), List.mem_of_getElem? (i := 472) (by decide +kernel)⟩
theorem lw_p6 : lw_okq (⟨"WristTreaty$Reader", "fail", "(I)V"⟩, 13) := ⟨⟨by decide +kernel, by decide +kernel⟩, List.mem_of_getElem? (i := 47) (by decide +kernel), List.mem_of_getElem? (i := 527) (by decide +kernel), List.mem_of_getElem? (i := 528) (by decide +kernel)⟩
theorem lw_p7 : lw_okq (⟨"WristTreaty$Reader", "hasAll", "(I)Z"⟩, 13) := ⟨⟨by decide +kernel, by decide +kernel⟩, List.mem_of_getElem? (i := 47) (by decide +kernel), List.mem_of_getElem? (i := 531) (by decide +kernel), List.mem_of_getElem? (i := 532) (by decide +kernel)⟩
theorem lw_p8 : lw_okq (⟨"WristTreaty$Reader", "closeLine", "()V"⟩, 13) := ⟨⟨by decide +kernel, by decide +kernel⟩, List.mem_of_getElem? (i := 47) (by decide +kernel), List.mem_of_getElem? (i := 537) (by decide +kernel), List.mem_of_getElem? (i := 538) (by decide +kernel)⟩
theorem lw_p9 : lw_okq (⟨"WristTreaty$Reader", "acceptWord", "()V"⟩, 13) := ⟨⟨by decide +kernel, by decide +kernel⟩, List.mem_of_getElem? (i := 47) (by decide +kernel), List.mem_of_getElem? (i := 554) (by decide +kernel), List.mem_of_getElem? (i := 555) (by decide +kernel)⟩
theorem lw_p10 : lw_okq (⟨"WristTreaty$Reader", "wordDue", "()Ljava/lang/String;"⟩, 13) := ⟨⟨by decide +kernel, by decide +kernel⟩, List.mem_of_getElem? (i := 47) (by decide +kernel), List.mem_of_getElem? (i := 559) (by decide +kernel), List.mem_of_getElem? (i := 560) (by decide +kernel)⟩
theorem lw_p11 : lw_okq (⟨"WristTreaty$Reader", "acceptNumber", "()V"⟩, 13) := ⟨⟨by decide +kernel, by decide +kernel⟩, List.mem_of_getElem? (i := 47) (by decide +kernel), List.mem_of_getElem? (i := 572) (by decide +kernel), List.mem_of_getElem? (i := 573) (by decide +kernel)⟩
theorem lw_p12 : lw_okq (⟨"WristTreaty", "courseOfNow", "()LWristTreaty$Course;"⟩, 11) := ⟨⟨by decide +kernel, by decide +kernel⟩, List.mem_of_getElem? (i := 23) (by decide +kernel), List.mem_of_getElem? (i := 670) (by decide +kernel), List.mem_of_getElem? (i := 671) (by decide +kernel)⟩
theorem lw_p13 : lw_okq (⟨"WristTreaty$Pairing", "tryMan", "(IIII)V"⟩, 6) := ⟨⟨by decide +kernel, by decide +kernel⟩, List.mem_of_getElem? (i := 272) (by decide +kernel), List.mem_of_getElem? (i := 785) (by decide +kernel), List.mem_of_getElem? (i := 786) (by decide +kernel)⟩
theorem lw_p14 : lw_okq (⟨"WristTreaty$Pairing", "weigh", "(III)V"⟩, 6) := ⟨⟨by decide +kernel, by decide +kernel⟩, List.mem_of_getElem? (i := 272) (by decide +kernel), List.mem_of_getElem? (i := 790) (by decide +kernel), List.mem_of_getElem? (i := 791) (by decide +kernel)⟩
theorem lw_p15 : lw_okq (⟨"WristTreaty", "saidRefusal", "(II)I"⟩, 11) := ⟨⟨by decide +kernel, by decide +kernel⟩, List.mem_of_getElem? (i := 23) (by decide +kernel), List.mem_of_getElem? (i := 831) (by decide +kernel), List.mem_of_getElem? (i := 832) (by decide +kernel)⟩
def lw_privs_1 : List (MethodName × Nat) := [(⟨"WristTreaty$Reader", "readToken", "()V"⟩, 13), (⟨"WristTreaty$Reader", "readLongest", "()V"⟩, 13), (⟨"WristTreaty$Reader", "acceptToken", "()V"⟩, 13), (⟨"WristTreaty$Reader", "openLine", "()V"⟩, 13), (⟨"WristTreaty$Reader", "lineOfWord", "()I"⟩, 13), (⟨"WristTreaty$Reader", "isWord", "(Ljava/lang/String;)Z"⟩, 13), (⟨"WristTreaty$Reader", "fail", "(I)V"⟩, 13), (⟨"WristTreaty$Reader", "hasAll", "(I)Z"⟩, 13), (⟨"WristTreaty$Reader", "closeLine", "()V"⟩, 13), (⟨"WristTreaty$Reader", "acceptWord", "()V"⟩, 13), (⟨"WristTreaty$Reader", "wordDue", "()Ljava/lang/String;"⟩, 13), (⟨"WristTreaty$Reader", "acceptNumber", "()V"⟩, 13), (⟨"WristTreaty", "courseOfNow", "()LWristTreaty$Course;"⟩, 11), (⟨"WristTreaty$Pairing", "tryMan", "(IIII)V"⟩, 6), (⟨"WristTreaty$Pairing", "weigh", "(III)V"⟩, 6), (⟨"WristTreaty", "saidRefusal", "(II)I"⟩, 11)]
theorem lw_r1 : ∀ q ∈ lw_privs_1, lw_okq q := List.forall_mem_cons.mpr ⟨lw_p0, List.forall_mem_cons.mpr ⟨lw_p1, List.forall_mem_cons.mpr ⟨lw_p2, List.forall_mem_cons.mpr ⟨lw_p3, List.forall_mem_cons.mpr ⟨lw_p4, List.forall_mem_cons.mpr ⟨lw_p5, List.forall_mem_cons.mpr ⟨lw_p6, List.forall_mem_cons.mpr ⟨lw_p7, List.forall_mem_cons.mpr ⟨lw_p8, List.forall_mem_cons.mpr ⟨lw_p9, List.forall_mem_cons.mpr ⟨lw_p10, List.forall_mem_cons.mpr ⟨lw_p11, List.forall_mem_cons.mpr ⟨lw_p12, List.forall_mem_cons.mpr ⟨lw_p13, List.forall_mem_cons.mpr ⟨lw_p14, List.forall_mem_cons.mpr ⟨lw_p15, fun _ h => absurd h List.not_mem_nil⟩⟩⟩⟩⟩⟩⟩⟩⟩⟩⟩⟩⟩⟩⟩⟩
theorem lw_p16 : lw_okq (⟨"WristTreaty", "isHold", "(II)Z"⟩, 11) := ⟨⟨by decide +kernel, by decide +kernel⟩, List.mem_of_getElem? (i := 23) (by decide +kernel), List.mem_of_getElem? (i := 835) (by decide +kernel), List.mem_of_getElem? (i := 836) (by decide +kernel)⟩
theorem lw_p17 : lw_okq (⟨"WristTreaty$Speech", "lengthOf", "(J)I"⟩, 2) := ⟨⟨by decide +kernel, by decide +kernel⟩, List.mem_of_getElem? (i := 299) (by decide +kernel), List.mem_of_getElem? (i := 871) (by decide +kernel), List.mem_of_getElem? (i := 872) (by decide +kernel)⟩
theorem lw_p18 : lw_okq (⟨"WristTreaty$Speech", "longestClause", "()I"⟩, 2) := ⟨⟨by decide +kernel, by decide +kernel⟩, List.mem_of_getElem? (i := 299) (by decide +kernel), List.mem_of_getElem? (i := 896) (by decide +kernel), List.mem_of_getElem? (i := 897) (by decide +kernel)⟩
theorem lw_p19 : lw_okq (⟨"WristTreaty$Speech", "fewestFrom", "(III)I"⟩, 2) := ⟨⟨by decide +kernel, by decide +kernel⟩, List.mem_of_getElem? (i := 299) (by decide +kernel), List.mem_of_getElem? (i := 905) (by decide +kernel), List.mem_of_getElem? (i := 906) (by decide +kernel)⟩
theorem lw_p20 : lw_okq (⟨"WristTreaty$Speech", "leastReached", "(II)I"⟩, 2) := ⟨⟨by decide +kernel, by decide +kernel⟩, List.mem_of_getElem? (i := 299) (by decide +kernel), List.mem_of_getElem? (i := 909) (by decide +kernel), List.mem_of_getElem? (i := 910) (by decide +kernel)⟩
theorem lw_p21 : lw_okq (⟨"WristTreaty$Speech", "leastNext", "(IIII)I"⟩, 2) := ⟨⟨by decide +kernel, by decide +kernel⟩, List.mem_of_getElem? (i := 299) (by decide +kernel), List.mem_of_getElem? (i := 924) (by decide +kernel), List.mem_of_getElem? (i := 925) (by decide +kernel)⟩
theorem lw_p22 : lw_okq (⟨"WristTreaty$Bargain", "weighSets", "()V"⟩, 7) := ⟨⟨by decide +kernel, by decide +kernel⟩, List.mem_of_getElem? (i := 312) (by decide +kernel), List.mem_of_getElem? (i := 948) (by decide +kernel), List.mem_of_getElem? (i := 949) (by decide +kernel)⟩
theorem lw_p23 : lw_okq (⟨"WristTreaty$Bargain", "isSigned", "(I)Z"⟩, 7) := ⟨⟨by decide +kernel, by decide +kernel⟩, List.mem_of_getElem? (i := 312) (by decide +kernel), List.mem_of_getElem? (i := 1003) (by decide +kernel), List.mem_of_getElem? (i := 1004) (by decide +kernel)⟩
theorem lw_p24 : lw_okq (⟨"WristTreaty$Bargain", "isFirm", "(I)Z"⟩, 7) := ⟨⟨by decide +kernel, by decide +kernel⟩, List.mem_of_getElem? (i := 312) (by decide +kernel), List.mem_of_getElem? (i := 1060) (by decide +kernel), List.mem_of_getElem? (i := 1061) (by decide +kernel)⟩
theorem lw_p25 : lw_okq (⟨"WristTreaty", "bothOfferAtRest", "(I)Z"⟩, 11) := ⟨⟨by decide +kernel, by decide +kernel⟩, List.mem_of_getElem? (i := 23) (by decide +kernel), List.mem_of_getElem? (i := 1068) (by decide +kernel), List.mem_of_getElem? (i := 1069) (by decide +kernel)⟩
theorem lw_p26 : lw_okq (⟨"WristTreaty", "toldRefusal", "(I)I"⟩, 11) := ⟨⟨by decide +kernel, by decide +kernel⟩, List.mem_of_getElem? (i := 23) (by decide +kernel), List.mem_of_getElem? (i := 1080) (by decide +kernel), List.mem_of_getElem? (i := 1081) (by decide +kernel)⟩
theorem lw_p27 : lw_okq (⟨"WristTreaty$Weary", "isManOf", "(JI)Z"⟩, 5) := ⟨⟨by decide +kernel, by decide +kernel⟩, List.mem_of_getElem? (i := 342) (by decide +kernel), List.mem_of_getElem? (i := 1090) (by decide +kernel), List.mem_of_getElem? (i := 1091) (by decide +kernel)⟩
theorem lw_p28 : lw_okq (⟨"WristTreaty$Weary", "agrees", "(III)Z"⟩, 5) := ⟨⟨by decide +kernel, by decide +kernel⟩, List.mem_of_getElem? (i := 342) (by decide +kernel), List.mem_of_getElem? (i := 1101) (by decide +kernel), List.mem_of_getElem? (i := 1102) (by decide +kernel)⟩
theorem lw_p29 : lw_okq (⟨"WristTreaty$Weary", "wearyHold", "(IIII)I"⟩, 5) := ⟨⟨by decide +kernel, by decide +kernel⟩, List.mem_of_getElem? (i := 342) (by decide +kernel), List.mem_of_getElem? (i := 1107) (by decide +kernel), List.mem_of_getElem? (i := 1108) (by decide +kernel)⟩
theorem lw_p30 : lw_okq (⟨"WristTreaty$Weary", "mostLeft", "(II)I"⟩, 5) := ⟨⟨by decide +kernel, by decide +kernel⟩, List.mem_of_getElem? (i := 342) (by decide +kernel), List.mem_of_getElem? (i := 1133) (by decide +kernel), List.mem_of_getElem? (i := 1134) (by decide +kernel)⟩
theorem lw_p31 : lw_okq (⟨"WristTreaty", "isAsLikely", "(II)Z"⟩, 11) := ⟨⟨by decide +kernel, by decide +kernel⟩, List.mem_of_getElem? (i := 23) (by decide +kernel), List.mem_of_getElem? (i := 1159) (by decide +kernel), List.mem_of_getElem? (i := 1160) (by decide +kernel)⟩
def lw_privs_2 : List (MethodName × Nat) := [(⟨"WristTreaty", "isHold", "(II)Z"⟩, 11), (⟨"WristTreaty$Speech", "lengthOf", "(J)I"⟩, 2), (⟨"WristTreaty$Speech", "longestClause", "()I"⟩, 2), (⟨"WristTreaty$Speech", "fewestFrom", "(III)I"⟩, 2), (⟨"WristTreaty$Speech", "leastReached", "(II)I"⟩, 2), (⟨"WristTreaty$Speech", "leastNext", "(IIII)I"⟩, 2), (⟨"WristTreaty$Bargain", "weighSets", "()V"⟩, 7), (⟨"WristTreaty$Bargain", "isSigned", "(I)Z"⟩, 7), (⟨"WristTreaty$Bargain", "isFirm", "(I)Z"⟩, 7), (⟨"WristTreaty", "bothOfferAtRest", "(I)Z"⟩, 11), (⟨"WristTreaty", "toldRefusal", "(I)I"⟩, 11), (⟨"WristTreaty$Weary", "isManOf", "(JI)Z"⟩, 5), (⟨"WristTreaty$Weary", "agrees", "(III)Z"⟩, 5), (⟨"WristTreaty$Weary", "wearyHold", "(IIII)I"⟩, 5), (⟨"WristTreaty$Weary", "mostLeft", "(II)I"⟩, 5), (⟨"WristTreaty", "isAsLikely", "(II)Z"⟩, 11)]
theorem lw_r2 : ∀ q ∈ lw_privs_2, lw_okq q := List.forall_mem_cons.mpr ⟨lw_p16, List.forall_mem_cons.mpr ⟨lw_p17, List.forall_mem_cons.mpr ⟨lw_p18, List.forall_mem_cons.mpr ⟨lw_p19, List.forall_mem_cons.mpr ⟨lw_p20, List.forall_mem_cons.mpr ⟨lw_p21, List.forall_mem_cons.mpr ⟨lw_p22, List.forall_mem_cons.mpr ⟨lw_p23, List.forall_mem_cons.mpr ⟨lw_p24, List.forall_mem_cons.mpr ⟨lw_p25, List.forall_mem_cons.mpr ⟨lw_p26, List.forall_mem_cons.mpr ⟨lw_p27, List.forall_mem_cons.mpr ⟨lw_p28, List.forall_mem_cons.mpr ⟨lw_p29, List.forall_mem_cons.mpr ⟨lw_p30, List.forall_mem_cons.mpr ⟨lw_p31, fun _ h => absurd h List.not_mem_nil⟩⟩⟩⟩⟩⟩⟩⟩⟩⟩⟩⟩⟩⟩⟩⟩
theorem lw_p32 : lw_okq (⟨"WristTreaty$Evening", "note", "(III)V"⟩, 10) := ⟨⟨by decide +kernel, by decide +kernel⟩, List.mem_of_getElem? (i := 170) (by decide +kernel), List.mem_of_getElem? (i := 1184) (by decide +kernel), List.mem_of_getElem? (i := 1185) (by decide +kernel)⟩
theorem lw_p33 : lw_okq (⟨"WristTreaty$Evening", "setStart", "(II)V"⟩, 10) := ⟨⟨by decide +kernel, by decide +kernel⟩, List.mem_of_getElem? (i := 170) (by decide +kernel), List.mem_of_getElem? (i := 1188) (by decide +kernel), List.mem_of_getElem? (i := 1189) (by decide +kernel)⟩
theorem lw_p34 : lw_okq (⟨"WristTreaty", "beatsDrawn", "(II)I"⟩, 11) := ⟨⟨by decide +kernel, by decide +kernel⟩, List.mem_of_getElem? (i := 23) (by decide +kernel), List.mem_of_getElem? (i := 1241) (by decide +kernel), List.mem_of_getElem? (i := 1242) (by decide +kernel)⟩
theorem lw_p35 : lw_okq (⟨"WristTreatyModel", "advance", "()V"⟩, 35) := ⟨⟨by decide +kernel, by decide +kernel⟩, List.mem_of_getElem? (i := 1315) (by decide +kernel), List.mem_of_getElem? (i := 1454) (by decide +kernel), List.mem_of_getElem? (i := 1455) (by decide +kernel)⟩
theorem lw_p36 : lw_okq (⟨"WristTreatyModel", "see", "(I)I"⟩, 35) := ⟨⟨by decide +kernel, by decide +kernel⟩, List.mem_of_getElem? (i := 1315) (by decide +kernel), List.mem_of_getElem? (i := 1458) (by decide +kernel), List.mem_of_getElem? (i := 1459) (by decide +kernel)⟩
theorem lw_p37 : lw_okq (⟨"WristTreatyModel", "good", "()Z"⟩, 35) := ⟨⟨by decide +kernel, by decide +kernel⟩, List.mem_of_getElem? (i := 1315) (by decide +kernel), List.mem_of_getElem? (i := 1468) (by decide +kernel), List.mem_of_getElem? (i := 1469) (by decide +kernel)⟩
theorem lw_p38 : lw_okq (⟨"WristTreatyModel", "readLine", "()V"⟩, 35) := ⟨⟨by decide +kernel, by decide +kernel⟩, List.mem_of_getElem? (i := 1315) (by decide +kernel), List.mem_of_getElem? (i := 1472) (by decide +kernel), List.mem_of_getElem? (i := 1473) (by decide +kernel)⟩
theorem lw_p39 : lw_okq (⟨"WristTreatyModel", "needs", "(Ljava/lang/String;)V"⟩, 35) := ⟨⟨by decide +kernel, by decide +kernel⟩, List.mem_of_getElem? (i := 1315) (by decide +kernel), List.mem_of_getElem? (i := 1477) (by decide +kernel), List.mem_of_getElem? (i := 1478) (by decide +kernel)⟩
theorem lw_p40 : lw_okq (⟨"WristTreatyModel", "takes", "(Ljava/lang/String;)Z"⟩, 35) := ⟨⟨by decide +kernel, by decide +kernel⟩, List.mem_of_getElem? (i := 1315) (by decide +kernel), List.mem_of_getElem? (i := 1481) (by decide +kernel), List.mem_of_getElem? (i := 1482) (by decide +kernel)⟩
theorem lw_p41 : lw_okq (⟨"WristTreatyModel", "is", "(Ljava/lang/String;)Z"⟩, 35) := ⟨⟨by decide +kernel, by decide +kernel⟩, List.mem_of_getElem? (i := 1315) (by decide +kernel), List.mem_of_getElem? (i := 1485) (by decide +kernel), List.mem_of_getElem? (i := 1486) (by decide +kernel)⟩
theorem lw_p42 : lw_okq (⟨"WristTreatyModel", "errs", "(I)V"⟩, 35) := ⟨⟨by decide +kernel, by decide +kernel⟩, List.mem_of_getElem? (i := 1315) (by decide +kernel), List.mem_of_getElem? (i := 1491) (by decide +kernel), List.mem_of_getElem? (i := 1492) (by decide +kernel)⟩
theorem lw_p43 : lw_okq (⟨"WristTreatyModel", "told", "(Ljava/lang/String;II)I"⟩, 35) := ⟨⟨by decide +kernel, by decide +kernel⟩, List.mem_of_getElem? (i := 1315) (by decide +kernel), List.mem_of_getElem? (i := 1496) (by decide +kernel), List.mem_of_getElem? (i := 1497) (by decide +kernel)⟩
theorem lw_p44 : lw_okq (⟨"WristTreatyModel", "number", "(II)I"⟩, 35) := ⟨⟨by decide +kernel, by decide +kernel⟩, List.mem_of_getElem? (i := 1315) (by decide +kernel), List.mem_of_getElem? (i := 1500) (by decide +kernel), List.mem_of_getElem? (i := 1501) (by decide +kernel)⟩
theorem lw_p45 : lw_okq (⟨"WristTreatyModel", "readNext", "()V"⟩, 35) := ⟨⟨by decide +kernel, by decide +kernel⟩, List.mem_of_getElem? (i := 1315) (by decide +kernel), List.mem_of_getElem? (i := 1505) (by decide +kernel), List.mem_of_getElem? (i := 1506) (by decide +kernel)⟩
theorem lw_p46 : lw_okq (⟨"WristTreatyModel", "readMan", "()V"⟩, 35) := ⟨⟨by decide +kernel, by decide +kernel⟩, List.mem_of_getElem? (i := 1315) (by decide +kernel), List.mem_of_getElem? (i := 1513) (by decide +kernel), List.mem_of_getElem? (i := 1514) (by decide +kernel)⟩
theorem lw_p47 : lw_okq (⟨"WristTreatyModel", "readClause", "()V"⟩, 35) := ⟨⟨by decide +kernel, by decide +kernel⟩, List.mem_of_getElem? (i := 1315) (by decide +kernel), List.mem_of_getElem? (i := 1520) (by decide +kernel), List.mem_of_getElem? (i := 1521) (by decide +kernel)⟩
def lw_privs_3 : List (MethodName × Nat) := [(⟨"WristTreaty$Evening", "note", "(III)V"⟩, 10), (⟨"WristTreaty$Evening", "setStart", "(II)V"⟩, 10), (⟨"WristTreaty", "beatsDrawn", "(II)I"⟩, 11), (⟨"WristTreatyModel", "advance", "()V"⟩, 35), (⟨"WristTreatyModel", "see", "(I)I"⟩, 35), (⟨"WristTreatyModel", "good", "()Z"⟩, 35), (⟨"WristTreatyModel", "readLine", "()V"⟩, 35), (⟨"WristTreatyModel", "needs", "(Ljava/lang/String;)V"⟩, 35), (⟨"WristTreatyModel", "takes", "(Ljava/lang/String;)Z"⟩, 35), (⟨"WristTreatyModel", "is", "(Ljava/lang/String;)Z"⟩, 35), (⟨"WristTreatyModel", "errs", "(I)V"⟩, 35), (⟨"WristTreatyModel", "told", "(Ljava/lang/String;II)I"⟩, 35), (⟨"WristTreatyModel", "number", "(II)I"⟩, 35), (⟨"WristTreatyModel", "readNext", "()V"⟩, 35), (⟨"WristTreatyModel", "readMan", "()V"⟩, 35), (⟨"WristTreatyModel", "readClause", "()V"⟩, 35)]
theorem lw_r3 : ∀ q ∈ lw_privs_3, lw_okq q := List.forall_mem_cons.mpr ⟨lw_p32, List.forall_mem_cons.mpr ⟨lw_p33, List.forall_mem_cons.mpr ⟨lw_p34, List.forall_mem_cons.mpr ⟨lw_p35, List.forall_mem_cons.mpr ⟨lw_p36, List.forall_mem_cons.mpr ⟨lw_p37, List.forall_mem_cons.mpr ⟨lw_p38, List.forall_mem_cons.mpr ⟨lw_p39, List.forall_mem_cons.mpr ⟨lw_p40, List.forall_mem_cons.mpr ⟨lw_p41, List.forall_mem_cons.mpr ⟨lw_p42, List.forall_mem_cons.mpr ⟨lw_p43, List.forall_mem_cons.mpr ⟨lw_p44, List.forall_mem_cons.mpr ⟨lw_p45, List.forall_mem_cons.mpr ⟨lw_p46, List.forall_mem_cons.mpr ⟨lw_p47, fun _ h => absurd h List.not_mem_nil⟩⟩⟩⟩⟩⟩⟩⟩⟩⟩⟩⟩⟩⟩⟩⟩
theorem lw_p48 : lw_okq (⟨"WristTreatyModel", "gives", "()I"⟩, 35) := ⟨⟨by decide +kernel, by decide +kernel⟩, List.mem_of_getElem? (i := 1315) (by decide +kernel), List.mem_of_getElem? (i := 1525) (by decide +kernel), List.mem_of_getElem? (i := 1526) (by decide +kernel)⟩
theorem lw_p49 : lw_okq (⟨"WristTreatyModel", "isMan", "(J)Z"⟩, 35) := ⟨⟨by decide +kernel, by decide +kernel⟩, List.mem_of_getElem? (i := 1315) (by decide +kernel), List.mem_of_getElem? (i := 1537) (by decide +kernel), List.mem_of_getElem? (i := 1538) (by decide +kernel)⟩
theorem lw_p50 : lw_okq (⟨"WristTreatyModel", "of", "(II)I"⟩, 35) := ⟨⟨by decide +kernel, by decide +kernel⟩, List.mem_of_getElem? (i := 1315) (by decide +kernel), List.mem_of_getElem? (i := 1541) (by decide +kernel), List.mem_of_getElem? (i := 1542) (by decide +kernel)⟩
theorem lw_p51 : lw_okq (⟨"WristTreatyModel", "isClause", "(J)Z"⟩, 35) := ⟨⟨by decide +kernel, by decide +kernel⟩, List.mem_of_getElem? (i := 1315) (by decide +kernel), List.mem_of_getElem? (i := 1549) (by decide +kernel), List.mem_of_getElem? (i := 1550) (by decide +kernel)⟩
theorem lw_p52 : lw_okq (⟨"WristTreatyModel", "ofClause", "(II)I"⟩, 35) := ⟨⟨by decide +kernel, by decide +kernel⟩, List.mem_of_getElem? (i := 1315) (by decide +kernel), List.mem_of_getElem? (i := 1553) (by decide +kernel), List.mem_of_getElem? (i := 1554) (by decide +kernel)⟩
theorem lw_p53 : lw_okq (⟨"WristTreatyModel", "isSide", "(I)Z"⟩, 35) := ⟨⟨by decide +kernel, by decide +kernel⟩, List.mem_of_getElem? (i := 1315) (by decide +kernel), List.mem_of_getElem? (i := 1561) (by decide +kernel), List.mem_of_getElem? (i := 1562) (by decide +kernel)⟩
theorem lw_p54 : lw_okq (⟨"WristTreatyModel", "isGorge", "()Z"⟩, 35) := ⟨⟨by decide +kernel, by decide +kernel⟩, List.mem_of_getElem? (i := 1315) (by decide +kernel), List.mem_of_getElem? (i := 1565) (by decide +kernel), List.mem_of_getElem? (i := 1566) (by decide +kernel)⟩
theorem lw_p55 : lw_okq (⟨"WristTreatyModel", "asItIs", "()V"⟩, 35) := ⟨⟨by decide +kernel, by decide +kernel⟩, List.mem_of_getElem? (i := 1315) (by decide +kernel), List.mem_of_getElem? (i := 1569) (by decide +kernel), List.mem_of_getElem? (i := 1570) (by decide +kernel)⟩
theorem lw_p56 : lw_okq (⟨"WristTreatyModel", "act0", "(II)V"⟩, 35) := ⟨⟨by decide +kernel, by decide +kernel⟩, List.mem_of_getElem? (i := 1315) (by decide +kernel), List.mem_of_getElem? (i := 1573) (by decide +kernel), List.mem_of_getElem? (i := 1574) (by decide +kernel)⟩
theorem lw_p57 : lw_okq (⟨"WristTreatyModel", "push0", "(II)V"⟩, 35) := ⟨⟨by decide +kernel, by decide +kernel⟩, List.mem_of_getElem? (i := 1315) (by decide +kernel), List.mem_of_getElem? (i := 1577) (by decide +kernel), List.mem_of_getElem? (i := 1578) (by decide +kernel)⟩
theorem lw_p58 : lw_okq (⟨"WristTreatyModel", "nextFrom", "(I)I"⟩, 35) := ⟨⟨by decide +kernel, by decide +kernel⟩, List.mem_of_getElem? (i := 1315) (by decide +kernel), List.mem_of_getElem? (i := 1581) (by decide +kernel), List.mem_of_getElem? (i := 1582) (by decide +kernel)⟩
theorem lw_p59 : lw_okq (⟨"WristTreatyModel", "isMeeting", "(I)Z"⟩, 35) := ⟨⟨by decide +kernel, by decide +kernel⟩, List.mem_of_getElem? (i := 1315) (by decide +kernel), List.mem_of_getElem? (i := 1585) (by decide +kernel), List.mem_of_getElem? (i := 1586) (by decide +kernel)⟩
theorem lw_p60 : lw_okq (⟨"WristTreatyModel", "areOut", "(I)Z"⟩, 35) := ⟨⟨by decide +kernel, by decide +kernel⟩, List.mem_of_getElem? (i := 1315) (by decide +kernel), List.mem_of_getElem? (i := 1589) (by decide +kernel), List.mem_of_getElem? (i := 1590) (by decide +kernel)⟩
theorem lw_p61 : lw_okq (⟨"WristTreatyModel", "isOut", "(II)Z"⟩, 35) := ⟨⟨by decide +kernel, by decide +kernel⟩, List.mem_of_getElem? (i := 1315) (by decide +kernel), List.mem_of_getElem? (i := 1593) (by decide +kernel), List.mem_of_getElem? (i := 1594) (by decide +kernel)⟩
theorem lw_p62 : lw_okq (⟨"WristTreatyModel", "blows", "(I)Z"⟩, 35) := ⟨⟨by decide +kernel, by decide +kernel⟩, List.mem_of_getElem? (i := 1315) (by decide +kernel), List.mem_of_getElem? (i := 1597) (by decide +kernel), List.mem_of_getElem? (i := 1598) (by decide +kernel)⟩
theorem lw_p63 : lw_okq (⟨"WristTreatyModel", "holdOf", "(II)I"⟩, 35) := ⟨⟨by decide +kernel, by decide +kernel⟩, List.mem_of_getElem? (i := 1315) (by decide +kernel), List.mem_of_getElem? (i := 1601) (by decide +kernel), List.mem_of_getElem? (i := 1602) (by decide +kernel)⟩
def lw_privs_4 : List (MethodName × Nat) := [(⟨"WristTreatyModel", "gives", "()I"⟩, 35), (⟨"WristTreatyModel", "isMan", "(J)Z"⟩, 35), (⟨"WristTreatyModel", "of", "(II)I"⟩, 35), (⟨"WristTreatyModel", "isClause", "(J)Z"⟩, 35), (⟨"WristTreatyModel", "ofClause", "(II)I"⟩, 35), (⟨"WristTreatyModel", "isSide", "(I)Z"⟩, 35), (⟨"WristTreatyModel", "isGorge", "()Z"⟩, 35), (⟨"WristTreatyModel", "asItIs", "()V"⟩, 35), (⟨"WristTreatyModel", "act0", "(II)V"⟩, 35), (⟨"WristTreatyModel", "push0", "(II)V"⟩, 35), (⟨"WristTreatyModel", "nextFrom", "(I)I"⟩, 35), (⟨"WristTreatyModel", "isMeeting", "(I)Z"⟩, 35), (⟨"WristTreatyModel", "areOut", "(I)Z"⟩, 35), (⟨"WristTreatyModel", "isOut", "(II)Z"⟩, 35), (⟨"WristTreatyModel", "blows", "(I)Z"⟩, 35), (⟨"WristTreatyModel", "holdOf", "(II)I"⟩, 35)]
theorem lw_r4 : ∀ q ∈ lw_privs_4, lw_okq q := List.forall_mem_cons.mpr ⟨lw_p48, List.forall_mem_cons.mpr ⟨lw_p49, List.forall_mem_cons.mpr ⟨lw_p50, List.forall_mem_cons.mpr ⟨lw_p51, List.forall_mem_cons.mpr ⟨lw_p52, List.forall_mem_cons.mpr ⟨lw_p53, List.forall_mem_cons.mpr ⟨lw_p54, List.forall_mem_cons.mpr ⟨lw_p55, List.forall_mem_cons.mpr ⟨lw_p56, List.forall_mem_cons.mpr ⟨lw_p57, List.forall_mem_cons.mpr ⟨lw_p58, List.forall_mem_cons.mpr ⟨lw_p59, List.forall_mem_cons.mpr ⟨lw_p60, List.forall_mem_cons.mpr ⟨lw_p61, List.forall_mem_cons.mpr ⟨lw_p62, List.forall_mem_cons.mpr ⟨lw_p63, fun _ h => absurd h List.not_mem_nil⟩⟩⟩⟩⟩⟩⟩⟩⟩⟩⟩⟩⟩⟩⟩⟩
theorem lw_p64 : lw_okq (⟨"WristTreatyModel", "holdBy", "(IIII)I"⟩, 35) := ⟨⟨by decide +kernel, by decide +kernel⟩, List.mem_of_getElem? (i := 1315) (by decide +kernel), List.mem_of_getElem? (i := 1605) (by decide +kernel), List.mem_of_getElem? (i := 1606) (by decide +kernel)⟩
theorem lw_p65 : lw_okq (⟨"WristTreatyModel", "gripLess", "(III)I"⟩, 35) := ⟨⟨by decide +kernel, by decide +kernel⟩, List.mem_of_getElem? (i := 1315) (by decide +kernel), List.mem_of_getElem? (i := 1609) (by decide +kernel), List.mem_of_getElem? (i := 1610) (by decide +kernel)⟩
theorem lw_p66 : lw_okq (⟨"WristTreatyModel", "manyTo", "(I)I"⟩, 35) := ⟨⟨by decide +kernel, by decide +kernel⟩, List.mem_of_getElem? (i := 1315) (by decide +kernel), List.mem_of_getElem? (i := 1628) (by decide +kernel), List.mem_of_getElem? (i := 1629) (by decide +kernel)⟩
theorem lw_p67 : lw_okq (⟨"WristTreatyModel", "meetOf", "(I)I"⟩, 35) := ⟨⟨by decide +kernel, by decide +kernel⟩, List.mem_of_getElem? (i := 1315) (by decide +kernel), List.mem_of_getElem? (i := 1660) (by decide +kernel), List.mem_of_getElem? (i := 1661) (by decide +kernel)⟩
theorem lw_p68 : lw_okq (⟨"WristTreatyModel", "areMen", "(II)Z"⟩, 35) := ⟨⟨by decide +kernel, by decide +kernel⟩, List.mem_of_getElem? (i := 1315) (by decide +kernel), List.mem_of_getElem? (i := 1672) (by decide +kernel), List.mem_of_getElem? (i := 1673) (by decide +kernel)⟩
theorem lw_p69 : lw_okq (⟨"WristTreatyModel", "isPair", "(II)Z"⟩, 35) := ⟨⟨by decide +kernel, by decide +kernel⟩, List.mem_of_getElem? (i := 1315) (by decide +kernel), List.mem_of_getElem? (i := 1676) (by decide +kernel), List.mem_of_getElem? (i := 1677) (by decide +kernel)⟩
theorem lw_p70 : lw_okq (⟨"WristTreatyModel", "layMatch", "(I)V"⟩, 35) := ⟨⟨by decide +kernel, by decide +kernel⟩, List.mem_of_getElem? (i := 1315) (by decide +kernel), List.mem_of_getElem? (i := 1700) (by decide +kernel), List.mem_of_getElem? (i := 1701) (by decide +kernel)⟩
theorem lw_p71 : lw_okq (⟨"WristTreatyModel", "sumFrom", "(II)I"⟩, 35) := ⟨⟨by decide +kernel, by decide +kernel⟩, List.mem_of_getElem? (i := 1315) (by decide +kernel), List.mem_of_getElem? (i := 1704) (by decide +kernel), List.mem_of_getElem? (i := 1705) (by decide +kernel)⟩
theorem lw_p72 : lw_okq (⟨"WristTreatyModel", "layMatched", "()V"⟩, 35) := ⟨⟨by decide +kernel, by decide +kernel⟩, List.mem_of_getElem? (i := 1315) (by decide +kernel), List.mem_of_getElem? (i := 1715) (by decide +kernel), List.mem_of_getElem? (i := 1716) (by decide +kernel)⟩
theorem lw_p73 : lw_okq (⟨"WristTreatyModel", "resinOf", "(III)I"⟩, 35) := ⟨⟨by decide +kernel, by decide +kernel⟩, List.mem_of_getElem? (i := 1315) (by decide +kernel), List.mem_of_getElem? (i := 1731) (by decide +kernel), List.mem_of_getElem? (i := 1732) (by decide +kernel)⟩
theorem lw_p74 : lw_okq (⟨"WristTreatyModel", "asksRow", "(II)I"⟩, 35) := ⟨⟨by decide +kernel, by decide +kernel⟩, List.mem_of_getElem? (i := 1315) (by decide +kernel), List.mem_of_getElem? (i := 1743) (by decide +kernel), List.mem_of_getElem? (i := 1744) (by decide +kernel)⟩
theorem lw_p75 : lw_okq (⟨"WristTreatyModel", "numberAt", "(II)J"⟩, 35) := ⟨⟨by decide +kernel, by decide +kernel⟩, List.mem_of_getElem? (i := 1315) (by decide +kernel), List.mem_of_getElem? (i := 1752) (by decide +kernel), List.mem_of_getElem? (i := 1753) (by decide +kernel)⟩
theorem lw_p76 : lw_okq (⟨"WristTreatyModel", "laySaid", "(I)V"⟩, 35) := ⟨⟨by decide +kernel, by decide +kernel⟩, List.mem_of_getElem? (i := 1315) (by decide +kernel), List.mem_of_getElem? (i := 1756) (by decide +kernel), List.mem_of_getElem? (i := 1757) (by decide +kernel)⟩
theorem lw_p77 : lw_okq (⟨"WristTreatyModel", "cutOf", "(I)I"⟩, 35) := ⟨⟨by decide +kernel, by decide +kernel⟩, List.mem_of_getElem? (i := 1315) (by decide +kernel), List.mem_of_getElem? (i := 1760) (by decide +kernel), List.mem_of_getElem? (i := 1761) (by decide +kernel)⟩
theorem lw_p78 : lw_okq (⟨"WristTreatyModel", "isHold", "(II)Z"⟩, 35) := ⟨⟨by decide +kernel, by decide +kernel⟩, List.mem_of_getElem? (i := 1315) (by decide +kernel), List.mem_of_getElem? (i := 1772) (by decide +kernel), List.mem_of_getElem? (i := 1773) (by decide +kernel)⟩
theorem lw_p79 : lw_okq (⟨"WristTreatyModel", "leastOf", "(I)I"⟩, 35) := ⟨⟨by decide +kernel, by decide +kernel⟩, List.mem_of_getElem? (i := 1315) (by decide +kernel), List.mem_of_getElem? (i := 1776) (by decide +kernel), List.mem_of_getElem? (i := 1777) (by decide +kernel)⟩
def lw_privs_5 : List (MethodName × Nat) := [(⟨"WristTreatyModel", "holdBy", "(IIII)I"⟩, 35), (⟨"WristTreatyModel", "gripLess", "(III)I"⟩, 35), (⟨"WristTreatyModel", "manyTo", "(I)I"⟩, 35), (⟨"WristTreatyModel", "meetOf", "(I)I"⟩, 35), (⟨"WristTreatyModel", "areMen", "(II)Z"⟩, 35), (⟨"WristTreatyModel", "isPair", "(II)Z"⟩, 35), (⟨"WristTreatyModel", "layMatch", "(I)V"⟩, 35), (⟨"WristTreatyModel", "sumFrom", "(II)I"⟩, 35), (⟨"WristTreatyModel", "layMatched", "()V"⟩, 35), (⟨"WristTreatyModel", "resinOf", "(III)I"⟩, 35), (⟨"WristTreatyModel", "asksRow", "(II)I"⟩, 35), (⟨"WristTreatyModel", "numberAt", "(II)J"⟩, 35), (⟨"WristTreatyModel", "laySaid", "(I)V"⟩, 35), (⟨"WristTreatyModel", "cutOf", "(I)I"⟩, 35), (⟨"WristTreatyModel", "isHold", "(II)Z"⟩, 35), (⟨"WristTreatyModel", "leastOf", "(I)I"⟩, 35)]
theorem lw_r5 : ∀ q ∈ lw_privs_5, lw_okq q := List.forall_mem_cons.mpr ⟨lw_p64, List.forall_mem_cons.mpr ⟨lw_p65, List.forall_mem_cons.mpr ⟨lw_p66, List.forall_mem_cons.mpr ⟨lw_p67, List.forall_mem_cons.mpr ⟨lw_p68, List.forall_mem_cons.mpr ⟨lw_p69, List.forall_mem_cons.mpr ⟨lw_p70, List.forall_mem_cons.mpr ⟨lw_p71, List.forall_mem_cons.mpr ⟨lw_p72, List.forall_mem_cons.mpr ⟨lw_p73, List.forall_mem_cons.mpr ⟨lw_p74, List.forall_mem_cons.mpr ⟨lw_p75, List.forall_mem_cons.mpr ⟨lw_p76, List.forall_mem_cons.mpr ⟨lw_p77, List.forall_mem_cons.mpr ⟨lw_p78, List.forall_mem_cons.mpr ⟨lw_p79, fun _ h => absurd h List.not_mem_nil⟩⟩⟩⟩⟩⟩⟩⟩⟩⟩⟩⟩⟩⟩⟩⟩
theorem lw_p80 : lw_okq (⟨"WristTreatyModel", "nextOrder", "()Z"⟩, 35) := ⟨⟨by decide +kernel, by decide +kernel⟩, List.mem_of_getElem? (i := 1315) (by decide +kernel), List.mem_of_getElem? (i := 1780) (by decide +kernel), List.mem_of_getElem? (i := 1781) (by decide +kernel)⟩
theorem lw_p81 : lw_okq (⟨"WristTreatyModel", "swap", "(II)V"⟩, 35) := ⟨⟨by decide +kernel, by decide +kernel⟩, List.mem_of_getElem? (i := 1315) (by decide +kernel), List.mem_of_getElem? (i := 1784) (by decide +kernel), List.mem_of_getElem? (i := 1785) (by decide +kernel)⟩
theorem lw_p82 : lw_okq (⟨"WristTreatyModel", "fullOf", "(I)I"⟩, 35) := ⟨⟨by decide +kernel, by decide +kernel⟩, List.mem_of_getElem? (i := 1315) (by decide +kernel), List.mem_of_getElem? (i := 1805) (by decide +kernel), List.mem_of_getElem? (i := 1806) (by decide +kernel)⟩
theorem lw_p83 : lw_okq (⟨"WristTreatyModel", "allClauses", "()I"⟩, 35) := ⟨⟨by decide +kernel, by decide +kernel⟩, List.mem_of_getElem? (i := 1315) (by decide +kernel), List.mem_of_getElem? (i := 1809) (by decide +kernel), List.mem_of_getElem? (i := 1810) (by decide +kernel)⟩
theorem lw_p84 : lw_okq (⟨"WristTreatyModel", "saysOf", "(I)I"⟩, 35) := ⟨⟨by decide +kernel, by decide +kernel⟩, List.mem_of_getElem? (i := 1315) (by decide +kernel), List.mem_of_getElem? (i := 1813) (by decide +kernel), List.mem_of_getElem? (i := 1814) (by decide +kernel)⟩
theorem lw_p85 : lw_okq (⟨"WristTreatyModel", "onceOf", "(I)I"⟩, 35) := ⟨⟨by decide +kernel, by decide +kernel⟩, List.mem_of_getElem? (i := 1315) (by decide +kernel), List.mem_of_getElem? (i := 1828) (by decide +kernel), List.mem_of_getElem? (i := 1829) (by decide +kernel)⟩
theorem lw_p86 : lw_okq (⟨"WristTreatyModel", "bothOf", "(I)I"⟩, 35) := ⟨⟨by decide +kernel, by decide +kernel⟩, List.mem_of_getElem? (i := 1315) (by decide +kernel), List.mem_of_getElem? (i := 1832) (by decide +kernel), List.mem_of_getElem? (i := 1833) (by decide +kernel)⟩
theorem lw_p87 : lw_okq (⟨"WristTreatyModel", "worthOf", "(II)I"⟩, 35) := ⟨⟨by decide +kernel, by decide +kernel⟩, List.mem_of_getElem? (i := 1315) (by decide +kernel), List.mem_of_getElem? (i := 1836) (by decide +kernel), List.mem_of_getElem? (i := 1837) (by decide +kernel)⟩
theorem lw_p88 : lw_okq (⟨"WristTreatyModel", "isSigned", "(I)Z"⟩, 35) := ⟨⟨by decide +kernel, by decide +kernel⟩, List.mem_of_getElem? (i := 1315) (by decide +kernel), List.mem_of_getElem? (i := 1852) (by decide +kernel), List.mem_of_getElem? (i := 1853) (by decide +kernel)⟩
theorem lw_p89 : lw_okq (⟨"WristTreatyModel", "mustOf", "(I)I"⟩, 35) := ⟨⟨by decide +kernel, by decide +kernel⟩, List.mem_of_getElem? (i := 1315) (by decide +kernel), List.mem_of_getElem? (i := 1872) (by decide +kernel), List.mem_of_getElem? (i := 1873) (by decide +kernel)⟩
theorem lw_p90 : lw_okq (⟨"WristTreatyModel", "layBundles", "()I"⟩, 35) := ⟨⟨by decide +kernel, by decide +kernel⟩, List.mem_of_getElem? (i := 1315) (by decide +kernel), List.mem_of_getElem? (i := 1884) (by decide +kernel), List.mem_of_getElem? (i := 1885) (by decide +kernel)⟩
theorem lw_p91 : lw_okq (⟨"WristTreatyModel", "isFirm", "(I)Z"⟩, 35) := ⟨⟨by decide +kernel, by decide +kernel⟩, List.mem_of_getElem? (i := 1315) (by decide +kernel), List.mem_of_getElem? (i := 1896) (by decide +kernel), List.mem_of_getElem? (i := 1897) (by decide +kernel)⟩
theorem lw_p92 : lw_okq (⟨"WristTreatyModel", "hasBy", "(IIZZI)I"⟩, 35) := ⟨⟨by decide +kernel, by decide +kernel⟩, List.mem_of_getElem? (i := 1315) (by decide +kernel), List.mem_of_getElem? (i := 1904) (by decide +kernel), List.mem_of_getElem? (i := 1905) (by decide +kernel)⟩
theorem lw_p93 : lw_okq (⟨"WristTreatyModel", "layTired", "(IZ)I"⟩, 35) := ⟨⟨by decide +kernel, by decide +kernel⟩, List.mem_of_getElem? (i := 1315) (by decide +kernel), List.mem_of_getElem? (i := 1916) (by decide +kernel), List.mem_of_getElem? (i := 1917) (by decide +kernel)⟩
theorem lw_p94 : lw_okq (⟨"WristTreatyModel", "isHeld", "(III)Z"⟩, 35) := ⟨⟨by decide +kernel, by decide +kernel⟩, List.mem_of_getElem? (i := 1315) (by decide +kernel), List.mem_of_getElem? (i := 1920) (by decide +kernel), List.mem_of_getElem? (i := 1921) (by decide +kernel)⟩
theorem lw_p95 : lw_okq (⟨"WristTreatyModel", "worstOf", "(II)I"⟩, 35) := ⟨⟨by decide +kernel, by decide +kernel⟩, List.mem_of_getElem? (i := 1315) (by decide +kernel), List.mem_of_getElem? (i := 1936) (by decide +kernel), List.mem_of_getElem? (i := 1937) (by decide +kernel)⟩
def lw_privs_6 : List (MethodName × Nat) := [(⟨"WristTreatyModel", "nextOrder", "()Z"⟩, 35), (⟨"WristTreatyModel", "swap", "(II)V"⟩, 35), (⟨"WristTreatyModel", "fullOf", "(I)I"⟩, 35), (⟨"WristTreatyModel", "allClauses", "()I"⟩, 35), (⟨"WristTreatyModel", "saysOf", "(I)I"⟩, 35), (⟨"WristTreatyModel", "onceOf", "(I)I"⟩, 35), (⟨"WristTreatyModel", "bothOf", "(I)I"⟩, 35), (⟨"WristTreatyModel", "worthOf", "(II)I"⟩, 35), (⟨"WristTreatyModel", "isSigned", "(I)Z"⟩, 35), (⟨"WristTreatyModel", "mustOf", "(I)I"⟩, 35), (⟨"WristTreatyModel", "layBundles", "()I"⟩, 35), (⟨"WristTreatyModel", "isFirm", "(I)Z"⟩, 35), (⟨"WristTreatyModel", "hasBy", "(IIZZI)I"⟩, 35), (⟨"WristTreatyModel", "layTired", "(IZ)I"⟩, 35), (⟨"WristTreatyModel", "isHeld", "(III)Z"⟩, 35), (⟨"WristTreatyModel", "worstOf", "(II)I"⟩, 35)]
theorem lw_r6 : ∀ q ∈ lw_privs_6, lw_okq q := List.forall_mem_cons.mpr ⟨lw_p80, List.forall_mem_cons.mpr ⟨lw_p81, List.forall_mem_cons.mpr ⟨lw_p82, List.forall_mem_cons.mpr ⟨lw_p83, List.forall_mem_cons.mpr ⟨lw_p84, List.forall_mem_cons.mpr ⟨lw_p85, List.forall_mem_cons.mpr ⟨lw_p86, List.forall_mem_cons.mpr ⟨lw_p87, List.forall_mem_cons.mpr ⟨lw_p88, List.forall_mem_cons.mpr ⟨lw_p89, List.forall_mem_cons.mpr ⟨lw_p90, List.forall_mem_cons.mpr ⟨lw_p91, List.forall_mem_cons.mpr ⟨lw_p92, List.forall_mem_cons.mpr ⟨lw_p93, List.forall_mem_cons.mpr ⟨lw_p94, List.forall_mem_cons.mpr ⟨lw_p95, fun _ h => absurd h List.not_mem_nil⟩⟩⟩⟩⟩⟩⟩⟩⟩⟩⟩⟩⟩⟩⟩⟩
theorem lw_p96 : lw_okq (⟨"WristTreatyModel", "isSure", "(II)Z"⟩, 35) := ⟨⟨by decide +kernel, by decide +kernel⟩, List.mem_of_getElem? (i := 1315) (by decide +kernel), List.mem_of_getElem? (i := 1962) (by decide +kernel), List.mem_of_getElem? (i := 1963) (by decide +kernel)⟩
theorem lw_p97 : lw_okq (⟨"WristTreatyModel", "doHold", "()Z"⟩, 35) := ⟨⟨by decide +kernel, by decide +kernel⟩, List.mem_of_getElem? (i := 1315) (by decide +kernel), List.mem_of_getElem? (i := 1975) (by decide +kernel), List.mem_of_getElem? (i := 1976) (by decide +kernel)⟩
theorem lw_p98 : lw_okq (⟨"WristTreatyModel", "keepAct", "(II)Z"⟩, 35) := ⟨⟨by decide +kernel, by decide +kernel⟩, List.mem_of_getElem? (i := 1315) (by decide +kernel), List.mem_of_getElem? (i := 1979) (by decide +kernel), List.mem_of_getElem? (i := 1980) (by decide +kernel)⟩
theorem lw_p99 : lw_okq (⟨"WristTreatyModel", "goDrawn", "(JII)I"⟩, 35) := ⟨⟨by decide +kernel, by decide +kernel⟩, List.mem_of_getElem? (i := 1315) (by decide +kernel), List.mem_of_getElem? (i := 2015) (by decide +kernel), List.mem_of_getElem? (i := 2016) (by decide +kernel)⟩
def lw_privs_7 : List (MethodName × Nat) := [(⟨"WristTreatyModel", "isSure", "(II)Z"⟩, 35), (⟨"WristTreatyModel", "doHold", "()Z"⟩, 35), (⟨"WristTreatyModel", "keepAct", "(II)Z"⟩, 35), (⟨"WristTreatyModel", "goDrawn", "(JII)I"⟩, 35)]
theorem lw_r7 : ∀ q ∈ lw_privs_7, lw_okq q := List.forall_mem_cons.mpr ⟨lw_p96, List.forall_mem_cons.mpr ⟨lw_p97, List.forall_mem_cons.mpr ⟨lw_p98, List.forall_mem_cons.mpr ⟨lw_p99, fun _ h => absurd h List.not_mem_nil⟩⟩⟩⟩
def lw_privs : List (MethodName × Nat) := lw_privs_1 ++ (lw_privs_2 ++ (lw_privs_3 ++ (lw_privs_4 ++ (lw_privs_5 ++ (lw_privs_6 ++ (lw_privs_7))))))
def lw_tbl : List Cond := k2_sels lw_privs ++ tables_1
theorem lw_privs_ok : ∀ q ∈ lw_privs, lw_okq q := by
  show ∀ q ∈ lw_privs_1 ++ (lw_privs_2 ++ (lw_privs_3 ++ (lw_privs_4 ++ (lw_privs_5 ++ (lw_privs_6 ++ (lw_privs_7)))))), lw_okq q
  exact List.forall_mem_append.mpr ⟨lw_r1, List.forall_mem_append.mpr ⟨lw_r2, List.forall_mem_append.mpr ⟨lw_r3, List.forall_mem_append.mpr ⟨lw_r4, List.forall_mem_append.mpr ⟨lw_r5, List.forall_mem_append.mpr ⟨lw_r6, lw_r7⟩⟩⟩⟩⟩⟩
def RX0 : String := "WristTreaty$Bargain"
def TX0 : u_T := fun k => match k with
  | 0 => ("WristTreaty$Bargain", "bundlesFound", "I", false)
  | 1 => ("WristTreaty$Bargain", "firstBundle", "I", false)
  | 2 => ("WristTreaty$Bargain", "sets", "I", false)
  | 3 => ("WristTreaty$Bargain", "lengths", "[I", true)
  | 4 => ("WristTreaty$Bargain", "worths0", "[I", true)
  | 5 => ("WristTreaty$Bargain", "worths1", "[I", true)
  | _ => ("WristTreaty$Bargain", "gorge", "LWristTreaty$Gorge;", true)
def tyX0 : Nat → FieldType := fun k => match k with
  | 0 => .int
  | 1 => .int
  | 2 => .int
  | 3 => .array .int
  | 4 => .array .int
  | 5 => .array .int
  | _ => .object "WristTreaty$Gorge"
theorem nmX0 : ∀ a, a < 7 → ∀ b, b < 7 → a ≠ b → (TX0 a).2.1 ≠ (TX0 b).2.1 := by decide +kernel
theorem tyX0_ok : ∀ k, k < 7 → parseFieldDescriptor (TX0 k).2.2.1 = some (tyX0 k) := by decide +kernel
def RX1 : String := "WristTreaty$Course"
def TX1 : u_T := fun k => match k with
  | 0 => ("WristTreaty$Course", "first", "I", false)
  | 1 => ("WristTreaty$Course", "stride", "I", false)
  | _ => ("WristTreaty$Course", "gorge", "LWristTreaty$Gorge;", true)
def tyX1 : Nat → FieldType := fun k => match k with
  | 0 => .int
  | 1 => .int
  | _ => .object "WristTreaty$Gorge"
theorem nmX1 : ∀ a, a < 3 → ∀ b, b < 3 → a ≠ b → (TX1 a).2.1 ≠ (TX1 b).2.1 := by decide +kernel
theorem tyX1_ok : ∀ k, k < 3 → parseFieldDescriptor (TX1 k).2.2.1 = some (tyX1 k) := by decide +kernel
def RX2 : String := "WristTreaty$Evening"
def TX2 : u_T := fun k => match k with
  | 0 => ("WristTreaty$Evening", "latest", "I", false)
  | 1 => ("WristTreaty$Evening", "left", "I", false)
  | 2 => ("WristTreaty$Evening", "signed", "I", false)
  | 3 => ("WristTreaty$Evening", "met", "I", false)
  | 4 => ("WristTreaty$Evening", "acts", "I", false)
  | 5 => ("WristTreaty$Evening", "start0", "I", false)
  | 6 => ("WristTreaty$Evening", "start1", "I", false)
  | 7 => ("WristTreaty$Evening", "kinds", "[I", true)
  | 8 => ("WristTreaty$Evening", "whats", "[I", true)
  | _ => ("WristTreaty$Evening", "befores", "[I", true)
def tyX2 : Nat → FieldType := fun k => match k with
  | 0 => .int
  | 1 => .int
  | 2 => .int
  | 3 => .int
  | 4 => .int
  | 5 => .int
  | 6 => .int
  | 7 => .array .int
  | 8 => .array .int
  | _ => .array .int
theorem nmX2 : ∀ a, a < 10 → ∀ b, b < 10 → a ≠ b → (TX2 a).2.1 ≠ (TX2 b).2.1 := by decide +kernel
theorem tyX2_ok : ∀ k, k < 10 → parseFieldDescriptor (TX2 k).2.2.1 = some (tyX2 k) := by decide +kernel
def RX3 : String := "WristTreaty$Gorge"
def TX3 : u_T := fun k => match k with
  | 0 => ("WristTreaty$Gorge", "odds", "I", false)
  | 1 => ("WristTreaty$Gorge", "pot", "I", false)
  | 2 => ("WristTreaty$Gorge", "lines", "I", false)
  | 3 => ("WristTreaty$Gorge", "men", "I", false)
  | 4 => ("WristTreaty$Gorge", "clauses", "I", false)
  | 5 => ("WristTreaty$Gorge", "winds", "I", false)
  | 6 => ("WristTreaty$Gorge", "far0", "I", false)
  | 7 => ("WristTreaty$Gorge", "far1", "I", false)
  | 8 => ("WristTreaty$Gorge", "sides", "[I", true)
  | 9 => ("WristTreaty$Gorge", "grips", "[I", true)
  | 10 => ("WristTreaty$Gorge", "wits", "[I", true)
  | 11 => ("WristTreaty$Gorge", "says", "[I", true)
  | 12 => ("WristTreaty$Gorge", "gives0", "[I", true)
  | 13 => ("WristTreaty$Gorge", "gives1", "[I", true)
  | 14 => ("WristTreaty$Gorge", "froms", "[I", true)
  | _ => ("WristTreaty$Gorge", "tos", "[I", true)
def tyX3 : Nat → FieldType := fun k => match k with
  | 0 => .int
  | 1 => .int
  | 2 => .int
  | 3 => .int
  | 4 => .int
  | 5 => .int
  | 6 => .int
  | 7 => .int
  | 8 => .array .int
  | 9 => .array .int
  | 10 => .array .int
  | 11 => .array .int
  | 12 => .array .int
  | 13 => .array .int
  | 14 => .array .int
  | _ => .array .int
theorem nmX3 : ∀ a, a < 16 → ∀ b, b < 16 → a ≠ b → (TX3 a).2.1 ≠ (TX3 b).2.1 := by decide +kernel
theorem tyX3_ok : ∀ k, k < 16 → parseFieldDescriptor (TX3 k).2.2.1 = some (tyX3 k) := by decide +kernel
def RX4 : String := "WristTreaty$Image"
def TX4 : u_T := fun k => match k with
  | 0 => ("WristTreaty$Image", "gorge", "LWristTreaty$Gorge;", true)
  | 1 => ("WristTreaty$Image", "evening", "LWristTreaty$Evening;", true)
  | _ => ("WristTreaty$Image", "isTaken", "Z", false)
def tyX4 : Nat → FieldType := fun k => match k with
  | 0 => .object "WristTreaty$Gorge"
  | 1 => .object "WristTreaty$Evening"
  | _ => .boolean
theorem nmX4 : ∀ a, a < 3 → ∀ b, b < 3 → a ≠ b → (TX4 a).2.1 ≠ (TX4 b).2.1 := by decide +kernel
theorem tyX4_ok : ∀ k, k < 3 → parseFieldDescriptor (TX4 k).2.2.1 = some (tyX4 k) := by decide +kernel
def RX5 : String := "WristTreaty$Pairing"
def TX5 : u_T := fun k => match k with
  | 0 => ("WristTreaty$Pairing", "settled", "[I", true)
  | 1 => ("WristTreaty$Pairing", "greatestSum", "I", false)
  | 2 => ("WristTreaty$Pairing", "fairest", "I", false)
  | 3 => ("WristTreaty$Pairing", "tried", "[I", true)
  | 4 => ("WristTreaty$Pairing", "mostPairs", "I", false)
  | _ => ("WristTreaty$Pairing", "gorge", "LWristTreaty$Gorge;", true)
def tyX5 : Nat → FieldType := fun k => match k with
  | 0 => .array .int
  | 1 => .int
  | 2 => .int
  | 3 => .array .int
  | 4 => .int
  | _ => .object "WristTreaty$Gorge"
theorem nmX5 : ∀ a, a < 6 → ∀ b, b < 6 → a ≠ b → (TX5 a).2.1 ≠ (TX5 b).2.1 := by decide +kernel
theorem tyX5_ok : ∀ k, k < 6 → parseFieldDescriptor (TX5 k).2.2.1 = some (tyX5 k) := by decide +kernel
def RX6 : String := "WristTreaty$Reader"
def TX6 : u_T := fun k => match k with
  | 0 => ("WristTreaty$Reader", "draft", "LWristTreaty$Gorge;", true)
  | 1 => ("WristTreaty$Reader", "firstFault", "I", false)
  | 2 => ("WristTreaty$Reader", "faultPlace", "I", false)
  | 3 => ("WristTreaty$Reader", "tape", "LWristTreaty$Tape;", true)
  | 4 => ("WristTreaty$Reader", "at", "I", false)
  | 5 => ("WristTreaty$Reader", "kind", "I", false)
  | 6 => ("WristTreaty$Reader", "begin", "I", false)
  | 7 => ("WristTreaty$Reader", "value", "I", false)
  | 8 => ("WristTreaty$Reader", "line", "I", false)
  | 9 => ("WristTreaty$Reader", "taken", "I", false)
  | 10 => ("WristTreaty$Reader", "isWordDue", "Z", false)
  | 11 => ("WristTreaty$Reader", "isTaking", "Z", false)
  | _ => ("WristTreaty$Reader", "numbers", "[I", true)
def tyX6 : Nat → FieldType := fun k => match k with
  | 0 => .object "WristTreaty$Gorge"
  | 1 => .int
  | 2 => .int
  | 3 => .object "WristTreaty$Tape"
  | 4 => .int
  | 5 => .int
  | 6 => .int
  | 7 => .int
  | 8 => .int
  | 9 => .int
  | 10 => .boolean
  | 11 => .boolean
  | _ => .array .int
theorem nmX6 : ∀ a, a < 13 → ∀ b, b < 13 → a ≠ b → (TX6 a).2.1 ≠ (TX6 b).2.1 := by decide +kernel
theorem tyX6_ok : ∀ k, k < 13 → parseFieldDescriptor (TX6 k).2.2.1 = some (tyX6 k) := by decide +kernel
def RX7 : String := "WristTreaty$Slots"
def TX7 : u_T := fun k => match k with
  | 0 => ("WristTreaty$Slots", "sizes", "[I", true)
  | 1 => ("WristTreaty$Slots", "widths", "[I", true)
  | _ => ("WristTreaty$Slots", "numbers", "[J", true)
def tyX7 : Nat → FieldType := fun k => match k with
  | 0 => .array .int
  | 1 => .array .int
  | _ => .array .long
theorem nmX7 : ∀ a, a < 3 → ∀ b, b < 3 → a ≠ b → (TX7 a).2.1 ≠ (TX7 b).2.1 := by decide +kernel
theorem tyX7_ok : ∀ k, k < 3 → parseFieldDescriptor (TX7 k).2.2.1 = some (tyX7 k) := by decide +kernel
def RX8 : String := "WristTreaty$Speech"
def TX8 : u_T := fun k => match k with
  | 0 => ("WristTreaty$Speech", "reached", "[I", true)
  | _ => ("WristTreaty$Speech", "gorge", "LWristTreaty$Gorge;", true)
def tyX8 : Nat → FieldType := fun k => match k with
  | 0 => .array .int
  | _ => .object "WristTreaty$Gorge"
theorem nmX8 : ∀ a, a < 2 → ∀ b, b < 2 → a ≠ b → (TX8 a).2.1 ≠ (TX8 b).2.1 := by decide +kernel
theorem tyX8_ok : ∀ k, k < 2 → parseFieldDescriptor (TX8 k).2.2.1 = some (tyX8 k) := by decide +kernel
def RX9 : String := "WristTreaty$Tape"
def TX9 : u_T := fun k => match k with
  | 0 => ("WristTreaty$Tape", "bytes", "[B", true)
  | _ => ("WristTreaty$Tape", "length", "I", false)
def tyX9 : Nat → FieldType := fun k => match k with
  | 0 => .array .byte
  | _ => .int
theorem nmX9 : ∀ a, a < 2 → ∀ b, b < 2 → a ≠ b → (TX9 a).2.1 ≠ (TX9 b).2.1 := by decide +kernel
theorem tyX9_ok : ∀ k, k < 2 → parseFieldDescriptor (TX9 k).2.2.1 = some (tyX9 k) := by decide +kernel
def RX10 : String := "WristTreaty$Weary"
def TX10 : u_T := fun k => match k with
  | 0 => ("WristTreaty$Weary", "fitting", "I", false)
  | 1 => ("WristTreaty$Weary", "fitted", "[Z", true)
  | 2 => ("WristTreaty$Weary", "sharing", "[I", true)
  | 3 => ("WristTreaty$Weary", "gorge", "LWristTreaty$Gorge;", true)
  | _ => ("WristTreaty$Weary", "slots", "LWristTreaty$Slots;", true)
def tyX10 : Nat → FieldType := fun k => match k with
  | 0 => .int
  | 1 => .array .boolean
  | 2 => .array .int
  | 3 => .object "WristTreaty$Gorge"
  | _ => .object "WristTreaty$Slots"
theorem nmX10 : ∀ a, a < 5 → ∀ b, b < 5 → a ≠ b → (TX10 a).2.1 ≠ (TX10 b).2.1 := by decide +kernel
theorem tyX10_ok : ∀ k, k < 5 → parseFieldDescriptor (TX10 k).2.2.1 = some (tyX10 k) := by decide +kernel
def RX11 : String := "WristTreaty"
def TX11 : u_T := fun k => match k with
  | 0 => ("WristTreaty", "tape", "LWristTreaty$Tape;", true)
  | 1 => ("WristTreaty", "reader", "LWristTreaty$Reader;", true)
  | 2 => ("WristTreaty", "gorge", "LWristTreaty$Gorge;", true)
  | 3 => ("WristTreaty", "evening", "LWristTreaty$Evening;", true)
  | 4 => ("WristTreaty", "images", "[LWristTreaty$Image;", true)
  | 5 => ("WristTreaty", "slots", "LWristTreaty$Slots;", true)
  | 6 => ("WristTreaty", "course", "LWristTreaty$Course;", true)
  | 7 => ("WristTreaty", "pairing", "LWristTreaty$Pairing;", true)
  | 8 => ("WristTreaty", "speech", "LWristTreaty$Speech;", true)
  | 9 => ("WristTreaty", "bargain", "LWristTreaty$Bargain;", true)
  | _ => ("WristTreaty", "weary", "LWristTreaty$Weary;", true)
def tyX11 : Nat → FieldType := fun k => match k with
  | 0 => .object "WristTreaty$Tape"
  | 1 => .object "WristTreaty$Reader"
  | 2 => .object "WristTreaty$Gorge"
  | 3 => .object "WristTreaty$Evening"
  | 4 => .array (.object "WristTreaty$Image")
  | 5 => .object "WristTreaty$Slots"
  | 6 => .object "WristTreaty$Course"
  | 7 => .object "WristTreaty$Pairing"
  | 8 => .object "WristTreaty$Speech"
  | 9 => .object "WristTreaty$Bargain"
  | _ => .object "WristTreaty$Weary"
theorem nmX11 : ∀ a, a < 11 → ∀ b, b < 11 → a ≠ b → (TX11 a).2.1 ≠ (TX11 b).2.1 := by decide +kernel
theorem tyX11_ok : ∀ k, k < 11 → parseFieldDescriptor (TX11 k).2.2.1 = some (tyX11 k) := by decide +kernel
def RX12 : String := "WristTreatyModel"
def TX12 : u_T := fun k => match k with
  | 0 => ("WristTreatyModel", "thrown", "I", false)
  | 1 => ("WristTreatyModel", "world", "[I", true)
  | 2 => ("WristTreatyModel", "images", "[I", true)
  | 3 => ("WristTreatyModel", "hasImage", "[Z", true)
  | 4 => ("WristTreatyModel", "tape", "[B", true)
  | 5 => ("WristTreatyModel", "taped", "I", false)
  | 6 => ("WristTreatyModel", "five", "[I", true)
  | 7 => ("WristTreatyModel", "size", "I", false)
  | 8 => ("WristTreatyModel", "at", "I", false)
  | 9 => ("WristTreatyModel", "from", "I", false)
  | 10 => ("WristTreatyModel", "token", "I", false)
  | 11 => ("WristTreatyModel", "value", "I", false)
  | 12 => ("WristTreatyModel", "faultKind", "I", false)
  | 13 => ("WristTreatyModel", "faultPlace", "I", false)
  | 14 => ("WristTreatyModel", "fresh", "[I", true)
  | 15 => ("WristTreatyModel", "startOne", "I", false)
  | 16 => ("WristTreatyModel", "startOther", "I", false)
  | 17 => ("WristTreatyModel", "latest", "I", false)
  | 18 => ("WristTreatyModel", "leftBeats", "I", false)
  | 19 => ("WristTreatyModel", "signed", "I", false)
  | 20 => ("WristTreatyModel", "metMany", "I", false)
  | 21 => ("WristTreatyModel", "sums", "[I", true)
  | 22 => ("WristTreatyModel", "pairs", "[I", true)
  | 23 => ("WristTreatyModel", "goesWith", "[I", true)
  | 24 => ("WristTreatyModel", "said", "[I", true)
  | 25 => ("WristTreatyModel", "saidMany", "I", false)
  | 26 => ("WristTreatyModel", "firstWait", "I", false)
  | 27 => ("WristTreatyModel", "firstOrder", "[I", true)
  | 28 => ("WristTreatyModel", "bundleFirst", "I", false)
  | 29 => ("WristTreatyModel", "tiredBy", "[I", true)
  | 30 => ("WristTreatyModel", "tiredMany", "I", false)
  | 31 => ("WristTreatyModel", "many", "[I", true)
  | 32 => ("WristTreatyModel", "width", "[I", true)
  | 33 => ("WristTreatyModel", "numbers", "[J", true)
  | _ => ("WristTreatyModel", "moving", "[J", true)
def tyX12 : Nat → FieldType := fun k => match k with
  | 0 => .int
  | 1 => .array .int
  | 2 => .array .int
  | 3 => .array .boolean
  | 4 => .array .byte
  | 5 => .int
  | 6 => .array .int
  | 7 => .int
  | 8 => .int
  | 9 => .int
  | 10 => .int
  | 11 => .int
  | 12 => .int
  | 13 => .int
  | 14 => .array .int
  | 15 => .int
  | 16 => .int
  | 17 => .int
  | 18 => .int
  | 19 => .int
  | 20 => .int
  | 21 => .array .int
  | 22 => .array .int
  | 23 => .array .int
  | 24 => .array .int
  | 25 => .int
  | 26 => .int
  | 27 => .array .int
  | 28 => .int
  | 29 => .array .int
  | 30 => .int
  | 31 => .array .int
  | 32 => .array .int
  | 33 => .array .long
  | _ => .array .long
theorem nmX12 : ∀ a, a < 35 → ∀ b, b < 35 → a ≠ b → (TX12 a).2.1 ≠ (TX12 b).2.1 := by decide +kernel
theorem tyX12_ok : ∀ k, k < 35 → parseFieldDescriptor (TX12 k).2.2.1 = some (tyX12 k) := by decide +kernel
def RJ7 : String := "java/util/Arrays"
abbrev cJ7_fill_53178 : ByteArray := prog_21_method_103_code
def yJ7_fill_53178 : MethodName := ⟨RJ7, "fill", "([II)V"⟩
abbrev cX0_init : ByteArray := prog_2_method_1_code
def yX0_init : MethodName := ⟨RX0, "<init>", "(LWristTreaty$Gorge;)V"⟩
abbrev cX10_init : ByteArray := prog_12_method_1_code
def yX10_init : MethodName := ⟨RX10, "<init>", "(LWristTreaty$Gorge;LWristTreaty$Slots;)V"⟩
abbrev cX11_able : ByteArray := prog_1_method_13_code
def yX11_able : MethodName := ⟨RX11, "able", "()I"⟩
abbrev cX11_anew : ByteArray := prog_1_method_65_code
def yX11_anew : MethodName := ⟨RX11, "anew", "()I"⟩
abbrev cX11_ask : ByteArray := prog_1_method_55_code
def yX11_ask : MethodName := ⟨RX11, "ask", "(I)I"⟩
abbrev cX11_back : ByteArray := prog_1_method_71_code
def yX11_back : MethodName := ⟨RX11, "back", "(I)I"⟩
abbrev cX11_bundle : ByteArray := prog_1_method_48_code
def yX11_bundle : MethodName := ⟨RX11, "bundle", "()I"⟩
abbrev cX11_bundles : ByteArray := prog_1_method_47_code
def yX11_bundles : MethodName := ⟨RX11, "bundles", "()I"⟩
abbrev cX11_by : ByteArray := prog_1_method_54_code
def yX11_by : MethodName := ⟨RX11, "by", "(II)I"⟩
abbrev cX11_chance : ByteArray := prog_1_method_56_code
def yX11_chance : MethodName := ⟨RX11, "chance", "(IIII)J"⟩
abbrev cX11_clause : ByteArray := prog_1_method_7_code
def yX11_clause : MethodName := ⟨RX11, "clause", "(II)I"⟩
abbrev cX11_count : ByteArray := prog_1_method_69_code
def yX11_count : MethodName := ⟨RX11, "count", "(I)I"⟩
abbrev cX11_cut : ByteArray := prog_1_method_30_code
def yX11_cut : MethodName := ⟨RX11, "cut", "(II)I"⟩
abbrev cX11_deal : ByteArray := prog_1_method_42_code
def yX11_deal : MethodName := ⟨RX11, "deal", "()I"⟩
abbrev cX11_drawn : ByteArray := prog_1_method_66_code
def yX11_drawn : MethodName := ⟨RX11, "drawn", "(III)I"⟩
abbrev cX11_drop : ByteArray := prog_1_method_62_code
def yX11_drop : MethodName := ⟨RX11, "drop", "()I"⟩
abbrev cX11_end : ByteArray := prog_1_method_3_code
def yX11_end : MethodName := ⟨RX11, "end", "(I)I"⟩
abbrev cX11_ends : ByteArray := prog_1_method_35_code
def yX11_ends : MethodName := ⟨RX11, "ends", "(I)I"⟩
abbrev cX11_even : ByteArray := prog_1_method_43_code
def yX11_even : MethodName := ⟨RX11, "even", "()I"⟩
abbrev cX11_fair : ByteArray := prog_1_method_27_code
def yX11_fair : MethodName := ⟨RX11, "fair", "()I"⟩
abbrev cX11_fault : ByteArray := prog_1_method_5_code
def yX11_fault : MethodName := ⟨RX11, "fault", "(I)I"⟩
abbrev cX11_feed : ByteArray := prog_1_method_2_code
def yX11_feed : MethodName := ⟨RX11, "feed", "(IIIII)I"⟩
abbrev cX11_firm : ByteArray := prog_1_method_49_code
def yX11_firm : MethodName := ⟨RX11, "firm", "()I"⟩
abbrev cX11_fits : ByteArray := prog_1_method_52_code
def yX11_fits : MethodName := ⟨RX11, "fits", "(I)I"⟩
abbrev cX11_full : ByteArray := prog_1_method_36_code
def yX11_full : MethodName := ⟨RX11, "full", "(I)I"⟩
abbrev cX11_fulls : ByteArray := prog_1_method_37_code
def yX11_fulls : MethodName := ⟨RX11, "fulls", "(I)I"⟩
abbrev cX11_gorge : ByteArray := prog_1_method_4_code
def yX11_gorge : MethodName := ⟨RX11, "gorge", "()I"⟩
abbrev cX11_grip : ByteArray := prog_1_method_68_code
def yX11_grip : MethodName := ⟨RX11, "grip", "(II)I"⟩
abbrev cX11_hold : ByteArray := prog_1_method_19_code
def yX11_hold : MethodName := ⟨RX11, "hold", "(II)I"⟩
abbrev cX11_image : ByteArray := prog_1_method_70_code
def yX11_image : MethodName := ⟨RX11, "image", "(I)I"⟩
abbrev cX11_init : ByteArray := prog_1_method_1_code
def yX11_init : MethodName := ⟨RX11, "<init>", "()V"⟩
abbrev cX11_isHold : ByteArray := prog_1_method_78_code
def yX11_isHold : MethodName := ⟨RX11, "isHold", "(II)Z"⟩
abbrev cX11_isWithin : ByteArray := prog_1_method_75_code
def yX11_isWithin : MethodName := ⟨RX11, "isWithin", "(III)Z"⟩
abbrev cX11_kept : ByteArray := prog_1_method_16_code
def yX11_kept : MethodName := ⟨RX11, "kept", "()I"⟩
abbrev cX11_least : ByteArray := prog_1_method_32_code
def yX11_least : MethodName := ⟨RX11, "least", "(I)I"⟩
abbrev cX11_loners : ByteArray := prog_1_method_26_code
def yX11_loners : MethodName := ⟨RX11, "loners", "()I"⟩
abbrev cX11_longest : ByteArray := prog_1_method_12_code
def yX11_longest : MethodName := ⟨RX11, "longest", "()I"⟩
abbrev cX11_luck : ByteArray := prog_1_method_67_code
def yX11_luck : MethodName := ⟨RX11, "luck", "(IIIII)I"⟩
abbrev cX11_man : ByteArray := prog_1_method_6_code
def yX11_man : MethodName := ⟨RX11, "man", "(II)I"⟩
abbrev cX11_match : ByteArray := prog_1_method_24_code
def yX11_match : MethodName := ⟨RX11, "match", "()I"⟩
abbrev cX11_matched : ByteArray := prog_1_method_25_code
def yX11_matched : MethodName := ⟨RX11, "matched", "(I)I"⟩
abbrev cX11_mean : ByteArray := prog_1_method_58_code
def yX11_mean : MethodName := ⟨RX11, "mean", "(III)J"⟩
abbrev cX11_meet : ByteArray := prog_1_method_17_code
def yX11_meet : MethodName := ⟨RX11, "meet", "(I)I"⟩
abbrev cX11_meetings : ByteArray := prog_1_method_11_code
def yX11_meetings : MethodName := ⟨RX11, "meetings", "(I)I"⟩
abbrev cX11_must : ByteArray := prog_1_method_45_code
def yX11_must : MethodName := ⟨RX11, "must", "(I)I"⟩
abbrev cX11_musts : ByteArray := prog_1_method_46_code
def yX11_musts : MethodName := ⟨RX11, "musts", "(I)I"⟩
abbrev cX11_needs : ByteArray := prog_1_method_34_code
def yX11_needs : MethodName := ⟨RX11, "needs", "(I)I"⟩
abbrev cX11_next : ByteArray := prog_1_method_10_code
def yX11_next : MethodName := ⟨RX11, "next", "(I)I"⟩
abbrev cX11_now : ByteArray := prog_1_method_63_code
def yX11_now : MethodName := ⟨RX11, "now", "(I)I"⟩
abbrev cX11_often : ByteArray := prog_1_method_15_code
def yX11_often : MethodName := ⟨RX11, "often", "(I)I"⟩
abbrev cX11_once : ByteArray := prog_1_method_38_code
def yX11_once : MethodName := ⟨RX11, "once", "(I)I"⟩
abbrev cX11_onces : ByteArray := prog_1_method_39_code
def yX11_onces : MethodName := ⟨RX11, "onces", "(I)I"⟩
abbrev cX11_order : ByteArray := prog_1_method_33_code
def yX11_order : MethodName := ⟨RX11, "order", "(II)I"⟩
abbrev cX11_out : ByteArray := prog_1_method_9_code
def yX11_out : MethodName := ⟨RX11, "out", "(II)I"⟩
abbrev cX11_pair : ByteArray := prog_1_method_20_code
def yX11_pair : MethodName := ⟨RX11, "pair", "()I"⟩
abbrev cX11_partner : ByteArray := prog_1_method_21_code
def yX11_partner : MethodName := ⟨RX11, "partner", "(I)I"⟩
abbrev cX11_paste : ByteArray := prog_1_method_74_code
def yX11_paste : MethodName := ⟨RX11, "paste", "(IIIII)I"⟩
abbrev cX11_push : ByteArray := prog_1_method_59_code
def yX11_push : MethodName := ⟨RX11, "push", "(II)I"⟩
abbrev cX11_pushes : ByteArray := prog_1_method_18_code
def yX11_pushes : MethodName := ⟨RX11, "pushes", "(I)I"⟩
abbrev cX11_resin : ByteArray := prog_1_method_28_code
def yX11_resin : MethodName := ⟨RX11, "resin", "(III)I"⟩
abbrev cX11_restOf : ByteArray := prog_1_method_76_code
def yX11_restOf : MethodName := ⟨RX11, "restOf", "(II)I"⟩
abbrev cX11_rests : ByteArray := prog_1_method_50_code
def yX11_rests : MethodName := ⟨RX11, "rests", "(II)I"⟩
abbrev cX11_row : ByteArray := prog_1_method_72_code
def yX11_row : MethodName := ⟨RX11, "row", "(III)I"⟩
abbrev cX11_saidRefusal : ByteArray := prog_1_method_80_code
def yX11_saidRefusal : MethodName := ⟨RX11, "saidRefusal", "(II)I"⟩
abbrev cX11_sign : ByteArray := prog_1_method_61_code
def yX11_sign : MethodName := ⟨RX11, "sign", "(I)I"⟩
abbrev cX11_signs : ByteArray := prog_1_method_41_code
def yX11_signs : MethodName := ⟨RX11, "signs", "()I"⟩
abbrev cX11_soonest : ByteArray := prog_1_method_14_code
def yX11_soonest : MethodName := ⟨RX11, "soonest", "()I"⟩
abbrev cX11_spare : ByteArray := prog_1_method_29_code
def yX11_spare : MethodName := ⟨RX11, "spare", "(II)I"⟩
abbrev cX11_stands : ByteArray := prog_1_method_51_code
def yX11_stands : MethodName := ⟨RX11, "stands", "()I"⟩
abbrev cX11_start : ByteArray := prog_1_method_8_code
def yX11_start : MethodName := ⟨RX11, "start", "(I)I"⟩
abbrev cX11_strong : ByteArray := prog_1_method_22_code
def yX11_strong : MethodName := ⟨RX11, "strong", "(I)I"⟩
abbrev cX11_sure : ByteArray := prog_1_method_57_code
def yX11_sure : MethodName := ⟨RX11, "sure", "(III)I"⟩
abbrev cX11_swing : ByteArray := prog_1_method_60_code
def yX11_swing : MethodName := ⟨RX11, "swing", "(II)I"⟩
abbrev cX11_tired : ByteArray := prog_1_method_53_code
def yX11_tired : MethodName := ⟨RX11, "tired", "(I)I"⟩
abbrev cX11_toldRefusal : ByteArray := prog_1_method_81_code
def yX11_toldRefusal : MethodName := ⟨RX11, "toldRefusal", "(I)I"⟩
abbrev cX11_undo : ByteArray := prog_1_method_64_code
def yX11_undo : MethodName := ⟨RX11, "undo", "()I"⟩
abbrev cX11_veto : ByteArray := prog_1_method_44_code
def yX11_veto : MethodName := ⟨RX11, "veto", "(I)I"⟩
abbrev cX11_waits : ByteArray := prog_1_method_31_code
def yX11_waits : MethodName := ⟨RX11, "waits", "(II)I"⟩
abbrev cX11_weak : ByteArray := prog_1_method_23_code
def yX11_weak : MethodName := ⟨RX11, "weak", "(I)I"⟩
abbrev cX11_worth : ByteArray := prog_1_method_40_code
def yX11_worth : MethodName := ⟨RX11, "worth", "(II)I"⟩
abbrev cX11_write : ByteArray := prog_1_method_73_code
def yX11_write : MethodName := ⟨RX11, "write", "(IIJ)I"⟩
abbrev cX1_init : ByteArray := prog_3_method_1_code
def yX1_init : MethodName := ⟨RX1, "<init>", "(LWristTreaty$Gorge;)V"⟩
abbrev cX2_clear : ByteArray := prog_4_method_2_code
def yX2_clear : MethodName := ⟨RX2, "clear", "()V"⟩
abbrev cX2_copyFrom : ByteArray := prog_4_method_3_code
def yX2_copyFrom : MethodName := ⟨RX2, "copyFrom", "(LWristTreaty$Evening;)V"⟩
abbrev cX2_init : ByteArray := prog_4_method_1_code
def yX2_init : MethodName := ⟨RX2, "<init>", "()V"⟩
abbrev cX3_clear : ByteArray := prog_5_method_2_code
def yX3_clear : MethodName := ⟨RX3, "clear", "()V"⟩
abbrev cX3_copyFrom : ByteArray := prog_5_method_3_code
def yX3_copyFrom : MethodName := ⟨RX3, "copyFrom", "(LWristTreaty$Gorge;)V"⟩
abbrev cX3_exists : ByteArray := prog_5_method_4_code
def yX3_exists : MethodName := ⟨RX3, "exists", "()Z"⟩
abbrev cX3_farOf : ByteArray := prog_5_method_9_code
def yX3_farOf : MethodName := ⟨RX3, "farOf", "(I)I"⟩
abbrev cX3_hasClause : ByteArray := prog_5_method_7_code
def yX3_hasClause : MethodName := ⟨RX3, "hasClause", "(I)Z"⟩
abbrev cX3_hasMan : ByteArray := prog_5_method_6_code
def yX3_hasMan : MethodName := ⟨RX3, "hasMan", "(I)Z"⟩
abbrev cX3_hasSide : ByteArray := prog_5_method_5_code
def yX3_hasSide : MethodName := ⟨RX3, "hasSide", "(I)Z"⟩
abbrev cX3_holdOrRefusal : ByteArray := prog_5_method_20_code
def yX3_holdOrRefusal : MethodName := ⟨RX3, "holdOrRefusal", "(II)I"⟩
abbrev cX3_init : ByteArray := prog_5_method_1_code
def yX3_init : MethodName := ⟨RX3, "<init>", "()V"⟩
abbrev cX3_setFars : ByteArray := prog_5_method_14_code
def yX3_setFars : MethodName := ⟨RX3, "setFars", "(II)V"⟩
abbrev cX4_init : ByteArray := prog_6_method_1_code
def yX4_init : MethodName := ⟨RX4, "<init>", "()V"⟩
abbrev cX5_init : ByteArray := prog_7_method_1_code
def yX5_init : MethodName := ⟨RX5, "<init>", "(LWristTreaty$Gorge;)V"⟩
abbrev cX6_init : ByteArray := prog_8_method_1_code
def yX6_init : MethodName := ⟨RX6, "<init>", "(LWristTreaty$Tape;)V"⟩
abbrev cX6_kindOf : ByteArray := prog_8_method_16_code
def yX6_kindOf : MethodName := ⟨RX6, "kindOf", "(I)I"⟩
abbrev cX6_readAll : ByteArray := prog_8_method_2_code
def yX6_readAll : MethodName := ⟨RX6, "readAll", "()Z"⟩
abbrev cX6_readToken : ByteArray := prog_8_method_3_code
def yX6_readToken : MethodName := ⟨RX6, "readToken", "()V"⟩
abbrev cX7_has : ByteArray := prog_9_method_2_code
def yX7_has : MethodName := ⟨RX7, "has", "(I)Z"⟩
abbrev cX7_init : ByteArray := prog_9_method_1_code
def yX7_init : MethodName := ⟨RX7, "<init>", "()V"⟩
abbrev cX7_isBare : ByteArray := prog_9_method_3_code
def yX7_isBare : MethodName := ⟨RX7, "isBare", "(I)Z"⟩
abbrev cX7_make : ByteArray := prog_9_method_7_code
def yX7_make : MethodName := ⟨RX7, "make", "(III)V"⟩
abbrev cX7_sizeOf : ByteArray := prog_9_method_4_code
def yX7_sizeOf : MethodName := ⟨RX7, "sizeOf", "(I)I"⟩
abbrev cX7_withRow : ByteArray := prog_9_method_6_code
def yX7_withRow : MethodName := ⟨RX7, "withRow", "()I"⟩
abbrev cX8_init : ByteArray := prog_10_method_1_code
def yX8_init : MethodName := ⟨RX8, "<init>", "(LWristTreaty$Gorge;)V"⟩
abbrev cX9_append : ByteArray := prog_11_method_3_code
def yX9_append : MethodName := ⟨RX9, "append", "(I)V"⟩
abbrev cX9_byteAt : ByteArray := prog_11_method_4_code
def yX9_byteAt : MethodName := ⟨RX9, "byteAt", "(I)I"⟩
abbrev cX9_hasRoom : ByteArray := prog_11_method_2_code
def yX9_hasRoom : MethodName := ⟨RX9, "hasRoom", "(I)Z"⟩
abbrev cX9_init : ByteArray := prog_11_method_1_code
def yX9_init : MethodName := ⟨RX9, "<init>", "()V"⟩
abbrev vwCl : List vw_C := [(RX0, TX0, 7), (RX1, TX1, 3), (RX2, TX2, 10), (RX3, TX3, 16), (RX4, TX4, 3), (RX5, TX5, 6), (RX6, TX6, 13), (RX7, TX7, 3), (RX8, TX8, 2), (RX9, TX9, 2), (RX10, TX10, 5), (RX11, TX11, 11), (RX12, TX12, 35)]
def TB : List Cond := lw_tbl.filter goodWord
theorem tb_mem {w : Cond} {i : Nat} (h : lw_tbl[i]? = some w) (hg : goodWord w = true) : w ∈ TB := List.mem_filter.mpr ⟨List.mem_of_getElem? h, hg⟩
theorem tb_list {ws : List Cond} (ps : List Nat) (hp : ws = ps.filterMap (fun i => lw_tbl[i]?)) (hg : ws.all goodWord = true) : ∀ w ∈ ws, w ∈ TB := by
  intro w hw
  have h1 := List.all_eq_true.mp hg w hw
  rw [hp] at hw
  obtain ⟨i, -, hi⟩ := List.mem_filterMap.mp hw
  exact tb_mem hi h1
end
section
theorem tw_0 : Cond.selects RX6 yX6_readToken yX6_readToken ∈ TB := tb_mem (i := 0) (by decide +kernel) (by decide +kernel)
theorem tw_15 : Cond.selects RX11 yX11_saidRefusal yX11_saidRefusal ∈ TB := tb_mem (i := 15) (by decide +kernel) (by decide +kernel)
theorem tw_16 : Cond.selects RX11 yX11_isHold yX11_isHold ∈ TB := tb_mem (i := 16) (by decide +kernel) (by decide +kernel)
theorem tw_26 : Cond.selects RX11 yX11_toldRefusal yX11_toldRefusal ∈ TB := tb_mem (i := 26) (by decide +kernel) (by decide +kernel)
theorem tw_101 : Cond.initialized RX11 ∈ TB := tb_mem (i := 101) (by decide +kernel) (by decide +kernel)
theorem tw_102 : Cond.initialized RX9 ∈ TB := tb_mem (i := 102) (by decide +kernel) (by decide +kernel)
theorem tw_103 : Cond.initialized RX6 ∈ TB := tb_mem (i := 103) (by decide +kernel) (by decide +kernel)
theorem tw_104 : Cond.initialized RX3 ∈ TB := tb_mem (i := 104) (by decide +kernel) (by decide +kernel)
theorem tw_105 : Cond.initialized RX2 ∈ TB := tb_mem (i := 105) (by decide +kernel) (by decide +kernel)
theorem tw_106 : Cond.initialized RX4 ∈ TB := tb_mem (i := 106) (by decide +kernel) (by decide +kernel)
theorem tw_107 : Cond.initialized RX7 ∈ TB := tb_mem (i := 107) (by decide +kernel) (by decide +kernel)
theorem tw_108 : Cond.initialized "java/util/Arrays" ∈ TB := tb_mem (i := 108) (by decide +kernel) (by decide +kernel)
theorem tw_109 : Cond.initialized RX1 ∈ TB := tb_mem (i := 109) (by decide +kernel) (by decide +kernel)
theorem tw_110 : Cond.initialized RX5 ∈ TB := tb_mem (i := 110) (by decide +kernel) (by decide +kernel)
theorem tw_111 : Cond.initialized RX8 ∈ TB := tb_mem (i := 111) (by decide +kernel) (by decide +kernel)
theorem tw_112 : Cond.initialized RX0 ∈ TB := tb_mem (i := 112) (by decide +kernel) (by decide +kernel)
theorem tw_113 : Cond.initialized RX10 ∈ TB := tb_mem (i := 113) (by decide +kernel) (by decide +kernel)
theorem tw_120 : Cond.initialized "java/lang/System" ∈ TB := tb_mem (i := 120) (by decide +kernel) (by decide +kernel)
theorem tw_127 : Cond.methodLink RX11 1 objectInit ∈ TB := tb_mem (i := 127) (by decide +kernel) (by decide +kernel)
theorem tw_128 : Cond.instanceMethod objectInit ∈ TB := tb_mem (i := 128) (by decide +kernel) (by decide +kernel)
theorem tw_129 : Cond.code objectInit ⟨#[0xb1]⟩ 1 none ∈ TB := tb_mem (i := 129) (by decide +kernel) (by decide +kernel)
theorem tw_130 : Cond.classLink RX11 7 RX9 ∈ TB := tb_mem (i := 130) (by decide +kernel) (by decide +kernel)
theorem tw_131 : Cond.instantiable RX9 2 ∈ TB := tb_mem (i := 131) (by decide +kernel) (by decide +kernel)
theorem tw_133 : Cond.instanceMethod yX9_init ∈ TB := tb_mem (i := 133) (by decide +kernel) (by decide +kernel)
theorem tw_134 : Cond.code yX9_init cX9_init 1 none ∈ TB := tb_mem (i := 134) (by decide +kernel) (by decide +kernel)
theorem tw_135 : Cond.methodLink RX9 3 objectInit ∈ TB := tb_mem (i := 135) (by decide +kernel) (by decide +kernel)
theorem tw_136 : Cond.fieldLink RX9 9 "WristTreaty$Tape" "bytes" "[B" ∈ TB := tb_mem (i := 136) (by decide +kernel) (by decide +kernel)
theorem tw_137 : Cond.fieldLink RX9 15 "WristTreaty$Tape" "length" "I" ∈ TB := tb_mem (i := 137) (by decide +kernel) (by decide +kernel)
theorem tw_138 : Cond.fieldLink RX11 100 "WristTreaty$Tape" "length" "I" ∈ TB := tb_mem (i := 138) (by decide +kernel) (by decide +kernel)
theorem tw_139 : Cond.fieldLink RX6 51 "WristTreaty$Tape" "length" "I" ∈ TB := tb_mem (i := 139) (by decide +kernel) (by decide +kernel)
theorem tw_145 : Cond.arrayClass FieldType.byte ∈ TB := tb_mem (i := 145) (by decide +kernel) (by decide +kernel)
theorem tw_146 : Cond.classLink RX11 16 RX6 ∈ TB := tb_mem (i := 146) (by decide +kernel) (by decide +kernel)
theorem tw_147 : Cond.instantiable RX6 13 ∈ TB := tb_mem (i := 147) (by decide +kernel) (by decide +kernel)
theorem tw_148 : Cond.methodLink RX11 18 yX6_init ∈ TB := tb_mem (i := 148) (by decide +kernel) (by decide +kernel)
theorem tw_149 : Cond.instanceMethod yX6_init ∈ TB := tb_mem (i := 149) (by decide +kernel) (by decide +kernel)
theorem tw_150 : Cond.code yX6_init cX6_init 2 none ∈ TB := tb_mem (i := 150) (by decide +kernel) (by decide +kernel)
theorem tw_151 : Cond.methodLink RX6 3 objectInit ∈ TB := tb_mem (i := 151) (by decide +kernel) (by decide +kernel)
theorem tw_152 : Cond.classLink RX6 9 RX3 ∈ TB := tb_mem (i := 152) (by decide +kernel) (by decide +kernel)
theorem tw_153 : Cond.instantiable RX3 16 ∈ TB := tb_mem (i := 153) (by decide +kernel) (by decide +kernel)
theorem tw_155 : Cond.instanceMethod yX3_init ∈ TB := tb_mem (i := 155) (by decide +kernel) (by decide +kernel)
theorem tw_156 : Cond.code yX3_init cX3_init 1 none ∈ TB := tb_mem (i := 156) (by decide +kernel) (by decide +kernel)
theorem tw_157 : Cond.methodLink RX3 3 objectInit ∈ TB := tb_mem (i := 157) (by decide +kernel) (by decide +kernel)
theorem tw_158 : Cond.fieldLink RX3 40 "WristTreaty$Gorge" "odds" "I" ∈ TB := tb_mem (i := 158) (by decide +kernel) (by decide +kernel)
theorem tw_160 : Cond.fieldLink RX11 317 "WristTreaty$Gorge" "odds" "I" ∈ TB := tb_mem (i := 160) (by decide +kernel) (by decide +kernel)
theorem tw_161 : Cond.fieldLink RX3 44 "WristTreaty$Gorge" "pot" "I" ∈ TB := tb_mem (i := 161) (by decide +kernel) (by decide +kernel)
theorem tw_163 : Cond.fieldLink RX11 220 "WristTreaty$Gorge" "pot" "I" ∈ TB := tb_mem (i := 163) (by decide +kernel) (by decide +kernel)
theorem tw_164 : Cond.fieldLink RX3 47 "WristTreaty$Gorge" "lines" "I" ∈ TB := tb_mem (i := 164) (by decide +kernel) (by decide +kernel)
theorem tw_165 : Cond.fieldLink RX11 121 "WristTreaty$Gorge" "lines" "I" ∈ TB := tb_mem (i := 165) (by decide +kernel) (by decide +kernel)
theorem tw_167 : Cond.fieldLink RX3 50 "WristTreaty$Gorge" "men" "I" ∈ TB := tb_mem (i := 167) (by decide +kernel) (by decide +kernel)
theorem tw_171 : Cond.fieldLink RX11 202 "WristTreaty$Gorge" "men" "I" ∈ TB := tb_mem (i := 171) (by decide +kernel) (by decide +kernel)
theorem tw_172 : Cond.fieldLink RX3 53 "WristTreaty$Gorge" "clauses" "I" ∈ TB := tb_mem (i := 172) (by decide +kernel) (by decide +kernel)
theorem tw_176 : Cond.fieldLink RX11 279 "WristTreaty$Gorge" "clauses" "I" ∈ TB := tb_mem (i := 176) (by decide +kernel) (by decide +kernel)
theorem tw_177 : Cond.fieldLink RX3 56 "WristTreaty$Gorge" "winds" "I" ∈ TB := tb_mem (i := 177) (by decide +kernel) (by decide +kernel)
theorem tw_179 : Cond.fieldLink RX11 383 "WristTreaty$Gorge" "winds" "I" ∈ TB := tb_mem (i := 179) (by decide +kernel) (by decide +kernel)
theorem tw_180 : Cond.fieldLink RX3 59 "WristTreaty$Gorge" "far0" "I" ∈ TB := tb_mem (i := 180) (by decide +kernel) (by decide +kernel)
theorem tw_181 : Cond.fieldLink RX3 62 "WristTreaty$Gorge" "far1" "I" ∈ TB := tb_mem (i := 181) (by decide +kernel) (by decide +kernel)
theorem tw_182 : Cond.fieldLink RX3 9 "WristTreaty$Gorge" "sides" "[I" ∈ TB := tb_mem (i := 182) (by decide +kernel) (by decide +kernel)
theorem tw_183 : Cond.fieldLink RX3 15 "WristTreaty$Gorge" "grips" "[I" ∈ TB := tb_mem (i := 183) (by decide +kernel) (by decide +kernel)
theorem tw_184 : Cond.fieldLink RX3 18 "WristTreaty$Gorge" "wits" "[I" ∈ TB := tb_mem (i := 184) (by decide +kernel) (by decide +kernel)
theorem tw_185 : Cond.fieldLink RX3 21 "WristTreaty$Gorge" "says" "[I" ∈ TB := tb_mem (i := 185) (by decide +kernel) (by decide +kernel)
theorem tw_186 : Cond.fieldLink RX3 24 "WristTreaty$Gorge" "gives0" "[I" ∈ TB := tb_mem (i := 186) (by decide +kernel) (by decide +kernel)
theorem tw_187 : Cond.fieldLink RX3 27 "WristTreaty$Gorge" "gives1" "[I" ∈ TB := tb_mem (i := 187) (by decide +kernel) (by decide +kernel)
theorem tw_188 : Cond.fieldLink RX3 30 "WristTreaty$Gorge" "froms" "[I" ∈ TB := tb_mem (i := 188) (by decide +kernel) (by decide +kernel)
theorem tw_189 : Cond.fieldLink RX3 33 "WristTreaty$Gorge" "tos" "[I" ∈ TB := tb_mem (i := 189) (by decide +kernel) (by decide +kernel)
theorem tw_223 : Cond.arrayClass FieldType.int ∈ TB := tb_mem (i := 223) (by decide +kernel) (by decide +kernel)
theorem tw_224 : Cond.fieldLink RX6 12 "WristTreaty$Reader" "draft" "LWristTreaty$Gorge;" ∈ TB := tb_mem (i := 224) (by decide +kernel) (by decide +kernel)
theorem tw_225 : Cond.fieldLink RX11 112 "WristTreaty$Reader" "draft" "LWristTreaty$Gorge;" ∈ TB := tb_mem (i := 225) (by decide +kernel) (by decide +kernel)
theorem tw_226 : Cond.fieldLink RX6 33 "WristTreaty$Reader" "firstFault" "I" ∈ TB := tb_mem (i := 226) (by decide +kernel) (by decide +kernel)
theorem tw_227 : Cond.fieldLink RX11 124 "WristTreaty$Reader" "firstFault" "I" ∈ TB := tb_mem (i := 227) (by decide +kernel) (by decide +kernel)
theorem tw_228 : Cond.fieldLink RX6 18 "WristTreaty$Reader" "faultPlace" "I" ∈ TB := tb_mem (i := 228) (by decide +kernel) (by decide +kernel)
theorem tw_229 : Cond.fieldLink RX11 127 "WristTreaty$Reader" "faultPlace" "I" ∈ TB := tb_mem (i := 229) (by decide +kernel) (by decide +kernel)
theorem tw_230 : Cond.fieldLink RX6 26 "WristTreaty$Reader" "tape" "LWristTreaty$Tape;" ∈ TB := tb_mem (i := 230) (by decide +kernel) (by decide +kernel)
theorem tw_231 : Cond.fieldLink RX6 36 "WristTreaty$Reader" "at" "I" ∈ TB := tb_mem (i := 231) (by decide +kernel) (by decide +kernel)
theorem tw_232 : Cond.fieldLink RX6 45 "WristTreaty$Reader" "kind" "I" ∈ TB := tb_mem (i := 232) (by decide +kernel) (by decide +kernel)
theorem tw_233 : Cond.fieldLink RX6 64 "WristTreaty$Reader" "begin" "I" ∈ TB := tb_mem (i := 233) (by decide +kernel) (by decide +kernel)
theorem tw_235 : Cond.fieldLink RX6 39 "WristTreaty$Reader" "line" "I" ∈ TB := tb_mem (i := 235) (by decide +kernel) (by decide +kernel)
theorem tw_239 : Cond.fieldLink RX6 22 "WristTreaty$Reader" "numbers" "[I" ∈ TB := tb_mem (i := 239) (by decide +kernel) (by decide +kernel)
theorem tw_267 : Cond.classLink RX11 25 RX3 ∈ TB := tb_mem (i := 267) (by decide +kernel) (by decide +kernel)
theorem tw_269 : Cond.classLink RX11 32 RX2 ∈ TB := tb_mem (i := 269) (by decide +kernel) (by decide +kernel)
theorem tw_270 : Cond.instantiable RX2 10 ∈ TB := tb_mem (i := 270) (by decide +kernel) (by decide +kernel)
theorem tw_272 : Cond.instanceMethod yX2_init ∈ TB := tb_mem (i := 272) (by decide +kernel) (by decide +kernel)
theorem tw_273 : Cond.code yX2_init cX2_init 1 none ∈ TB := tb_mem (i := 273) (by decide +kernel) (by decide +kernel)
theorem tw_274 : Cond.methodLink RX2 3 objectInit ∈ TB := tb_mem (i := 274) (by decide +kernel) (by decide +kernel)
theorem tw_275 : Cond.fieldLink RX2 9 "WristTreaty$Evening" "latest" "I" ∈ TB := tb_mem (i := 275) (by decide +kernel) (by decide +kernel)
theorem tw_277 : Cond.fieldLink RX2 15 "WristTreaty$Evening" "left" "I" ∈ TB := tb_mem (i := 277) (by decide +kernel) (by decide +kernel)
theorem tw_279 : Cond.fieldLink RX2 28 "WristTreaty$Evening" "signed" "I" ∈ TB := tb_mem (i := 279) (by decide +kernel) (by decide +kernel)
theorem tw_281 : Cond.fieldLink RX2 31 "WristTreaty$Evening" "met" "I" ∈ TB := tb_mem (i := 281) (by decide +kernel) (by decide +kernel)
theorem tw_283 : Cond.fieldLink RX2 34 "WristTreaty$Evening" "acts" "I" ∈ TB := tb_mem (i := 283) (by decide +kernel) (by decide +kernel)
theorem tw_284 : Cond.fieldLink RX11 371 "WristTreaty$Evening" "acts" "I" ∈ TB := tb_mem (i := 284) (by decide +kernel) (by decide +kernel)
theorem tw_285 : Cond.fieldLink RX2 37 "WristTreaty$Evening" "start0" "I" ∈ TB := tb_mem (i := 285) (by decide +kernel) (by decide +kernel)
theorem tw_286 : Cond.fieldLink RX2 40 "WristTreaty$Evening" "start1" "I" ∈ TB := tb_mem (i := 286) (by decide +kernel) (by decide +kernel)
theorem tw_287 : Cond.fieldLink RX2 18 "WristTreaty$Evening" "kinds" "[I" ∈ TB := tb_mem (i := 287) (by decide +kernel) (by decide +kernel)
theorem tw_288 : Cond.fieldLink RX2 22 "WristTreaty$Evening" "whats" "[I" ∈ TB := tb_mem (i := 288) (by decide +kernel) (by decide +kernel)
theorem tw_289 : Cond.fieldLink RX2 25 "WristTreaty$Evening" "befores" "[I" ∈ TB := tb_mem (i := 289) (by decide +kernel) (by decide +kernel)
theorem tw_311 : Cond.classLink RX11 39 RX4 ∈ TB := tb_mem (i := 311) (by decide +kernel) (by decide +kernel)
theorem tw_313 : Cond.instantiable RX4 3 ∈ TB := tb_mem (i := 313) (by decide +kernel) (by decide +kernel)
theorem tw_315 : Cond.instanceMethod yX4_init ∈ TB := tb_mem (i := 315) (by decide +kernel) (by decide +kernel)
theorem tw_316 : Cond.code yX4_init cX4_init 1 none ∈ TB := tb_mem (i := 316) (by decide +kernel) (by decide +kernel)
theorem tw_317 : Cond.methodLink RX4 1 objectInit ∈ TB := tb_mem (i := 317) (by decide +kernel) (by decide +kernel)
theorem tw_318 : Cond.classLink RX4 7 RX3 ∈ TB := tb_mem (i := 318) (by decide +kernel) (by decide +kernel)
theorem tw_320 : Cond.classLink RX4 16 RX2 ∈ TB := tb_mem (i := 320) (by decide +kernel) (by decide +kernel)
theorem tw_322 : Cond.fieldLink RX4 10 "WristTreaty$Image" "gorge" "LWristTreaty$Gorge;" ∈ TB := tb_mem (i := 322) (by decide +kernel) (by decide +kernel)
theorem tw_323 : Cond.fieldLink RX11 393 "WristTreaty$Image" "gorge" "LWristTreaty$Gorge;" ∈ TB := tb_mem (i := 323) (by decide +kernel) (by decide +kernel)
theorem tw_324 : Cond.fieldLink RX4 19 "WristTreaty$Image" "evening" "LWristTreaty$Evening;" ∈ TB := tb_mem (i := 324) (by decide +kernel) (by decide +kernel)
theorem tw_325 : Cond.fieldLink RX11 394 "WristTreaty$Image" "evening" "LWristTreaty$Evening;" ∈ TB := tb_mem (i := 325) (by decide +kernel) (by decide +kernel)
theorem tw_326 : Cond.fieldLink RX11 389 "WristTreaty$Image" "isTaken" "Z" ∈ TB := tb_mem (i := 326) (by decide +kernel) (by decide +kernel)
theorem tw_334 : Cond.classLink RX11 46 RX7 ∈ TB := tb_mem (i := 334) (by decide +kernel) (by decide +kernel)
theorem tw_335 : Cond.instantiable RX7 3 ∈ TB := tb_mem (i := 335) (by decide +kernel) (by decide +kernel)
theorem tw_336 : Cond.methodLink RX11 48 yX7_init ∈ TB := tb_mem (i := 336) (by decide +kernel) (by decide +kernel)
theorem tw_337 : Cond.instanceMethod yX7_init ∈ TB := tb_mem (i := 337) (by decide +kernel) (by decide +kernel)
theorem tw_338 : Cond.code yX7_init cX7_init 1 none ∈ TB := tb_mem (i := 338) (by decide +kernel) (by decide +kernel)
theorem tw_339 : Cond.methodLink RX7 3 objectInit ∈ TB := tb_mem (i := 339) (by decide +kernel) (by decide +kernel)
theorem tw_340 : Cond.methodLink RX7 22 yJ7_fill_53178 ∈ TB := tb_mem (i := 340) (by decide +kernel) (by decide +kernel)
theorem tw_341 : Cond.static yJ7_fill_53178 ∈ TB := tb_mem (i := 341) (by decide +kernel) (by decide +kernel)
theorem tw_342 : Cond.code yJ7_fill_53178 cJ7_fill_53178 4 none ∈ TB := tb_mem (i := 342) (by decide +kernel) (by decide +kernel)
theorem tw_343 : Cond.fieldLink RX7 9 "WristTreaty$Slots" "sizes" "[I" ∈ TB := tb_mem (i := 343) (by decide +kernel) (by decide +kernel)
theorem tw_344 : Cond.fieldLink RX7 15 "WristTreaty$Slots" "widths" "[I" ∈ TB := tb_mem (i := 344) (by decide +kernel) (by decide +kernel)
theorem tw_345 : Cond.fieldLink RX7 18 "WristTreaty$Slots" "numbers" "[J" ∈ TB := tb_mem (i := 345) (by decide +kernel) (by decide +kernel)
theorem tw_353 : Cond.arrayClass FieldType.long ∈ TB := tb_mem (i := 353) (by decide +kernel) (by decide +kernel)
theorem tw_354 : Cond.classLink RX11 53 RX1 ∈ TB := tb_mem (i := 354) (by decide +kernel) (by decide +kernel)
theorem tw_355 : Cond.instantiable RX1 3 ∈ TB := tb_mem (i := 355) (by decide +kernel) (by decide +kernel)
theorem tw_356 : Cond.methodLink RX11 55 yX1_init ∈ TB := tb_mem (i := 356) (by decide +kernel) (by decide +kernel)
theorem tw_357 : Cond.instanceMethod yX1_init ∈ TB := tb_mem (i := 357) (by decide +kernel) (by decide +kernel)
theorem tw_358 : Cond.code yX1_init cX1_init 2 none ∈ TB := tb_mem (i := 358) (by decide +kernel) (by decide +kernel)
theorem tw_359 : Cond.methodLink RX1 3 objectInit ∈ TB := tb_mem (i := 359) (by decide +kernel) (by decide +kernel)
theorem tw_360 : Cond.fieldLink RX1 9 "WristTreaty$Course" "first" "I" ∈ TB := tb_mem (i := 360) (by decide +kernel) (by decide +kernel)
theorem tw_362 : Cond.fieldLink RX1 15 "WristTreaty$Course" "stride" "I" ∈ TB := tb_mem (i := 362) (by decide +kernel) (by decide +kernel)
theorem tw_363 : Cond.fieldLink RX1 18 "WristTreaty$Course" "gorge" "LWristTreaty$Gorge;" ∈ TB := tb_mem (i := 363) (by decide +kernel) (by decide +kernel)
theorem tw_371 : Cond.classLink RX11 62 RX5 ∈ TB := tb_mem (i := 371) (by decide +kernel) (by decide +kernel)
theorem tw_372 : Cond.instantiable RX5 6 ∈ TB := tb_mem (i := 372) (by decide +kernel) (by decide +kernel)
theorem tw_373 : Cond.methodLink RX11 64 yX5_init ∈ TB := tb_mem (i := 373) (by decide +kernel) (by decide +kernel)
theorem tw_374 : Cond.instanceMethod yX5_init ∈ TB := tb_mem (i := 374) (by decide +kernel) (by decide +kernel)
theorem tw_375 : Cond.code yX5_init cX5_init 2 none ∈ TB := tb_mem (i := 375) (by decide +kernel) (by decide +kernel)
theorem tw_376 : Cond.methodLink RX5 3 objectInit ∈ TB := tb_mem (i := 376) (by decide +kernel) (by decide +kernel)
theorem tw_377 : Cond.fieldLink RX5 9 "WristTreaty$Pairing" "settled" "[I" ∈ TB := tb_mem (i := 377) (by decide +kernel) (by decide +kernel)
theorem tw_382 : Cond.fieldLink RX5 15 "WristTreaty$Pairing" "tried" "[I" ∈ TB := tb_mem (i := 382) (by decide +kernel) (by decide +kernel)
theorem tw_384 : Cond.fieldLink RX5 18 "WristTreaty$Pairing" "gorge" "LWristTreaty$Gorge;" ∈ TB := tb_mem (i := 384) (by decide +kernel) (by decide +kernel)
theorem tw_398 : Cond.classLink RX11 69 RX8 ∈ TB := tb_mem (i := 398) (by decide +kernel) (by decide +kernel)
theorem tw_399 : Cond.instantiable RX8 2 ∈ TB := tb_mem (i := 399) (by decide +kernel) (by decide +kernel)
theorem tw_400 : Cond.methodLink RX11 71 yX8_init ∈ TB := tb_mem (i := 400) (by decide +kernel) (by decide +kernel)
theorem tw_401 : Cond.instanceMethod yX8_init ∈ TB := tb_mem (i := 401) (by decide +kernel) (by decide +kernel)
theorem tw_402 : Cond.code yX8_init cX8_init 2 none ∈ TB := tb_mem (i := 402) (by decide +kernel) (by decide +kernel)
theorem tw_403 : Cond.methodLink RX8 5 objectInit ∈ TB := tb_mem (i := 403) (by decide +kernel) (by decide +kernel)
theorem tw_404 : Cond.fieldLink RX8 11 "WristTreaty$Speech" "reached" "[I" ∈ TB := tb_mem (i := 404) (by decide +kernel) (by decide +kernel)
theorem tw_405 : Cond.fieldLink RX8 15 "WristTreaty$Speech" "gorge" "LWristTreaty$Gorge;" ∈ TB := tb_mem (i := 405) (by decide +kernel) (by decide +kernel)
theorem tw_411 : Cond.classLink RX11 76 RX0 ∈ TB := tb_mem (i := 411) (by decide +kernel) (by decide +kernel)
theorem tw_412 : Cond.instantiable RX0 7 ∈ TB := tb_mem (i := 412) (by decide +kernel) (by decide +kernel)
theorem tw_413 : Cond.methodLink RX11 78 yX0_init ∈ TB := tb_mem (i := 413) (by decide +kernel) (by decide +kernel)
theorem tw_414 : Cond.instanceMethod yX0_init ∈ TB := tb_mem (i := 414) (by decide +kernel) (by decide +kernel)
theorem tw_415 : Cond.code yX0_init cX0_init 2 none ∈ TB := tb_mem (i := 415) (by decide +kernel) (by decide +kernel)
theorem tw_416 : Cond.methodLink RX0 3 objectInit ∈ TB := tb_mem (i := 416) (by decide +kernel) (by decide +kernel)
theorem tw_419 : Cond.fieldLink RX0 9 "WristTreaty$Bargain" "firstBundle" "I" ∈ TB := tb_mem (i := 419) (by decide +kernel) (by decide +kernel)
theorem tw_422 : Cond.fieldLink RX0 15 "WristTreaty$Bargain" "lengths" "[I" ∈ TB := tb_mem (i := 422) (by decide +kernel) (by decide +kernel)
theorem tw_423 : Cond.fieldLink RX0 19 "WristTreaty$Bargain" "worths0" "[I" ∈ TB := tb_mem (i := 423) (by decide +kernel) (by decide +kernel)
theorem tw_424 : Cond.fieldLink RX0 22 "WristTreaty$Bargain" "worths1" "[I" ∈ TB := tb_mem (i := 424) (by decide +kernel) (by decide +kernel)
theorem tw_425 : Cond.fieldLink RX0 25 "WristTreaty$Bargain" "gorge" "LWristTreaty$Gorge;" ∈ TB := tb_mem (i := 425) (by decide +kernel) (by decide +kernel)
theorem tw_441 : Cond.classLink RX11 83 RX10 ∈ TB := tb_mem (i := 441) (by decide +kernel) (by decide +kernel)
theorem tw_442 : Cond.instantiable RX10 5 ∈ TB := tb_mem (i := 442) (by decide +kernel) (by decide +kernel)
theorem tw_443 : Cond.methodLink RX11 85 yX10_init ∈ TB := tb_mem (i := 443) (by decide +kernel) (by decide +kernel)
theorem tw_444 : Cond.instanceMethod yX10_init ∈ TB := tb_mem (i := 444) (by decide +kernel) (by decide +kernel)
theorem tw_445 : Cond.code yX10_init cX10_init 3 none ∈ TB := tb_mem (i := 445) (by decide +kernel) (by decide +kernel)
theorem tw_446 : Cond.methodLink RX10 3 objectInit ∈ TB := tb_mem (i := 446) (by decide +kernel) (by decide +kernel)
theorem tw_449 : Cond.fieldLink RX10 11 "WristTreaty$Weary" "fitted" "[Z" ∈ TB := tb_mem (i := 449) (by decide +kernel) (by decide +kernel)
theorem tw_450 : Cond.fieldLink RX10 15 "WristTreaty$Weary" "sharing" "[I" ∈ TB := tb_mem (i := 450) (by decide +kernel) (by decide +kernel)
theorem tw_451 : Cond.fieldLink RX10 19 "WristTreaty$Weary" "gorge" "LWristTreaty$Gorge;" ∈ TB := tb_mem (i := 451) (by decide +kernel) (by decide +kernel)
theorem tw_452 : Cond.fieldLink RX10 23 "WristTreaty$Weary" "slots" "LWristTreaty$Slots;" ∈ TB := tb_mem (i := 452) (by decide +kernel) (by decide +kernel)
theorem tw_464 : Cond.arrayClass FieldType.boolean ∈ TB := tb_mem (i := 464) (by decide +kernel) (by decide +kernel)
theorem tw_465 : Cond.fieldLink RX11 10 "WristTreaty" "tape" "LWristTreaty$Tape;" ∈ TB := tb_mem (i := 465) (by decide +kernel) (by decide +kernel)
theorem tw_466 : Cond.fieldLink RX11 21 "WristTreaty" "reader" "LWristTreaty$Reader;" ∈ TB := tb_mem (i := 466) (by decide +kernel) (by decide +kernel)
theorem tw_467 : Cond.fieldLink RX11 28 "WristTreaty" "gorge" "LWristTreaty$Gorge;" ∈ TB := tb_mem (i := 467) (by decide +kernel) (by decide +kernel)
theorem tw_468 : Cond.fieldLink RX11 35 "WristTreaty" "evening" "LWristTreaty$Evening;" ∈ TB := tb_mem (i := 468) (by decide +kernel) (by decide +kernel)
theorem tw_469 : Cond.fieldLink RX11 41 "WristTreaty" "images" "[LWristTreaty$Image;" ∈ TB := tb_mem (i := 469) (by decide +kernel) (by decide +kernel)
theorem tw_470 : Cond.fieldLink RX11 49 "WristTreaty" "slots" "LWristTreaty$Slots;" ∈ TB := tb_mem (i := 470) (by decide +kernel) (by decide +kernel)
theorem tw_471 : Cond.fieldLink RX11 58 "WristTreaty" "course" "LWristTreaty$Course;" ∈ TB := tb_mem (i := 471) (by decide +kernel) (by decide +kernel)
theorem tw_472 : Cond.fieldLink RX11 65 "WristTreaty" "pairing" "LWristTreaty$Pairing;" ∈ TB := tb_mem (i := 472) (by decide +kernel) (by decide +kernel)
theorem tw_473 : Cond.fieldLink RX11 72 "WristTreaty" "speech" "LWristTreaty$Speech;" ∈ TB := tb_mem (i := 473) (by decide +kernel) (by decide +kernel)
theorem tw_474 : Cond.fieldLink RX11 79 "WristTreaty" "bargain" "LWristTreaty$Bargain;" ∈ TB := tb_mem (i := 474) (by decide +kernel) (by decide +kernel)
theorem tw_475 : Cond.fieldLink RX11 88 "WristTreaty" "weary" "LWristTreaty$Weary;" ∈ TB := tb_mem (i := 475) (by decide +kernel) (by decide +kernel)
theorem tw_503 : Cond.methodLink RX11 92 yX9_hasRoom ∈ TB := tb_mem (i := 503) (by decide +kernel) (by decide +kernel)
theorem tw_504 : Cond.instanceMethod yX9_hasRoom ∈ TB := tb_mem (i := 504) (by decide +kernel) (by decide +kernel)
theorem tw_505 : Cond.selects RX9 yX9_hasRoom yX9_hasRoom ∈ TB := tb_mem (i := 505) (by decide +kernel) (by decide +kernel)
theorem tw_506 : Cond.code yX9_hasRoom cX9_hasRoom 2 (some .boolean) ∈ TB := tb_mem (i := 506) (by decide +kernel) (by decide +kernel)
theorem tw_507 : Cond.methodLink RX11 96 yX9_append ∈ TB := tb_mem (i := 507) (by decide +kernel) (by decide +kernel)
theorem tw_508 : Cond.instanceMethod yX9_append ∈ TB := tb_mem (i := 508) (by decide +kernel) (by decide +kernel)
theorem tw_509 : Cond.selects RX9 yX9_append yX9_append ∈ TB := tb_mem (i := 509) (by decide +kernel) (by decide +kernel)
theorem tw_510 : Cond.code yX9_append cX9_append 3 none ∈ TB := tb_mem (i := 510) (by decide +kernel) (by decide +kernel)
theorem tw_515 : Cond.methodLink RX11 104 yX11_isWithin ∈ TB := tb_mem (i := 515) (by decide +kernel) (by decide +kernel)
theorem tw_516 : Cond.static yX11_isWithin ∈ TB := tb_mem (i := 516) (by decide +kernel) (by decide +kernel)
theorem tw_517 : Cond.code yX11_isWithin cX11_isWithin 3 (some .boolean) ∈ TB := tb_mem (i := 517) (by decide +kernel) (by decide +kernel)
theorem tw_522 : Cond.methodLink RX11 108 yX6_readAll ∈ TB := tb_mem (i := 522) (by decide +kernel) (by decide +kernel)
theorem tw_523 : Cond.instanceMethod yX6_readAll ∈ TB := tb_mem (i := 523) (by decide +kernel) (by decide +kernel)
theorem tw_524 : Cond.selects RX6 yX6_readAll yX6_readAll ∈ TB := tb_mem (i := 524) (by decide +kernel) (by decide +kernel)
theorem tw_525 : Cond.code yX6_readAll cX6_readAll 2 (some .boolean) ∈ TB := tb_mem (i := 525) (by decide +kernel) (by decide +kernel)
theorem tw_526 : Cond.methodLink RX6 30 yX3_clear ∈ TB := tb_mem (i := 526) (by decide +kernel) (by decide +kernel)
theorem tw_527 : Cond.instanceMethod yX3_clear ∈ TB := tb_mem (i := 527) (by decide +kernel) (by decide +kernel)
theorem tw_528 : Cond.selects RX3 yX3_clear yX3_clear ∈ TB := tb_mem (i := 528) (by decide +kernel) (by decide +kernel)
theorem tw_529 : Cond.code yX3_clear cX3_clear 1 none ∈ TB := tb_mem (i := 529) (by decide +kernel) (by decide +kernel)
theorem tw_530 : Cond.methodLink RX3 36 yX3_setFars ∈ TB := tb_mem (i := 530) (by decide +kernel) (by decide +kernel)
theorem tw_531 : Cond.instanceMethod yX3_setFars ∈ TB := tb_mem (i := 531) (by decide +kernel) (by decide +kernel)
theorem tw_532 : Cond.selects RX3 yX3_setFars yX3_setFars ∈ TB := tb_mem (i := 532) (by decide +kernel) (by decide +kernel)
theorem tw_533 : Cond.code yX3_setFars cX3_setFars 3 none ∈ TB := tb_mem (i := 533) (by decide +kernel) (by decide +kernel)
theorem tw_534 : Cond.methodLink RX6 42 yX6_readToken ∈ TB := tb_mem (i := 534) (by decide +kernel) (by decide +kernel)
theorem tw_536 : Cond.instanceMethod yX6_readToken ∈ TB := tb_mem (i := 536) (by decide +kernel) (by decide +kernel)
theorem tw_537 : Cond.code yX6_readToken cX6_readToken 1 none ∈ TB := tb_mem (i := 537) (by decide +kernel) (by decide +kernel)
theorem tw_538 : Cond.methodLink RX6 56 yX9_byteAt ∈ TB := tb_mem (i := 538) (by decide +kernel) (by decide +kernel)
theorem tw_539 : Cond.instanceMethod yX9_byteAt ∈ TB := tb_mem (i := 539) (by decide +kernel) (by decide +kernel)
theorem tw_540 : Cond.selects RX9 yX9_byteAt yX9_byteAt ∈ TB := tb_mem (i := 540) (by decide +kernel) (by decide +kernel)
theorem tw_541 : Cond.code yX9_byteAt cX9_byteAt 2 (some .int) ∈ TB := tb_mem (i := 541) (by decide +kernel) (by decide +kernel)
theorem tw_545 : Cond.methodLink RX6 67 yX6_kindOf ∈ TB := tb_mem (i := 545) (by decide +kernel) (by decide +kernel)
theorem tw_546 : Cond.static yX6_kindOf ∈ TB := tb_mem (i := 546) (by decide +kernel) (by decide +kernel)
theorem tw_547 : Cond.code yX6_kindOf cX6_kindOf 1 (some .int) ∈ TB := tb_mem (i := 547) (by decide +kernel) (by decide +kernel)
theorem tw_679 : Cond.methodLink RX11 115 yX3_copyFrom ∈ TB := tb_mem (i := 679) (by decide +kernel) (by decide +kernel)
theorem tw_680 : Cond.instanceMethod yX3_copyFrom ∈ TB := tb_mem (i := 680) (by decide +kernel) (by decide +kernel)
theorem tw_681 : Cond.selects RX3 yX3_copyFrom yX3_copyFrom ∈ TB := tb_mem (i := 681) (by decide +kernel) (by decide +kernel)
theorem tw_682 : Cond.code yX3_copyFrom cX3_copyFrom 2 none ∈ TB := tb_mem (i := 682) (by decide +kernel) (by decide +kernel)
theorem tw_683 : Cond.methodLink RX3 65 arraycopyName ∈ TB := tb_mem (i := 683) (by decide +kernel) (by decide +kernel)
theorem tw_684 : Cond.static arraycopyName ∈ TB := tb_mem (i := 684) (by decide +kernel) (by decide +kernel)
theorem tw_685 : Cond.native arraycopyName ∈ TB := tb_mem (i := 685) (by decide +kernel) (by decide +kernel)
theorem tw_686 : Cond.methodLink RX11 118 yX2_clear ∈ TB := tb_mem (i := 686) (by decide +kernel) (by decide +kernel)
theorem tw_687 : Cond.instanceMethod yX2_clear ∈ TB := tb_mem (i := 687) (by decide +kernel) (by decide +kernel)
theorem tw_688 : Cond.selects RX2 yX2_clear yX2_clear ∈ TB := tb_mem (i := 688) (by decide +kernel) (by decide +kernel)
theorem tw_689 : Cond.code yX2_clear cX2_clear 1 none ∈ TB := tb_mem (i := 689) (by decide +kernel) (by decide +kernel)
theorem tw_698 : Cond.methodLink RX11 130 yX3_hasMan ∈ TB := tb_mem (i := 698) (by decide +kernel) (by decide +kernel)
theorem tw_699 : Cond.instanceMethod yX3_hasMan ∈ TB := tb_mem (i := 699) (by decide +kernel) (by decide +kernel)
theorem tw_700 : Cond.selects RX3 yX3_hasMan yX3_hasMan ∈ TB := tb_mem (i := 700) (by decide +kernel) (by decide +kernel)
theorem tw_701 : Cond.code yX3_hasMan cX3_hasMan 2 (some .boolean) ∈ TB := tb_mem (i := 701) (by decide +kernel) (by decide +kernel)
theorem tw_706 : Cond.methodLink RX3 79 yX3_hasMan ∈ TB := tb_mem (i := 706) (by decide +kernel) (by decide +kernel)
theorem tw_719 : Cond.methodLink RX11 143 yX3_hasClause ∈ TB := tb_mem (i := 719) (by decide +kernel) (by decide +kernel)
theorem tw_720 : Cond.instanceMethod yX3_hasClause ∈ TB := tb_mem (i := 720) (by decide +kernel) (by decide +kernel)
theorem tw_721 : Cond.selects RX3 yX3_hasClause yX3_hasClause ∈ TB := tb_mem (i := 721) (by decide +kernel) (by decide +kernel)
theorem tw_722 : Cond.code yX3_hasClause cX3_hasClause 2 (some .boolean) ∈ TB := tb_mem (i := 722) (by decide +kernel) (by decide +kernel)
theorem tw_736 : Cond.methodLink RX11 153 yX3_hasSide ∈ TB := tb_mem (i := 736) (by decide +kernel) (by decide +kernel)
theorem tw_737 : Cond.instanceMethod yX3_hasSide ∈ TB := tb_mem (i := 737) (by decide +kernel) (by decide +kernel)
theorem tw_738 : Cond.selects RX3 yX3_hasSide yX3_hasSide ∈ TB := tb_mem (i := 738) (by decide +kernel) (by decide +kernel)
theorem tw_739 : Cond.code yX3_hasSide cX3_hasSide 2 (some .boolean) ∈ TB := tb_mem (i := 739) (by decide +kernel) (by decide +kernel)
theorem tw_740 : Cond.methodLink RX3 71 yX3_exists ∈ TB := tb_mem (i := 740) (by decide +kernel) (by decide +kernel)
theorem tw_741 : Cond.instanceMethod yX3_exists ∈ TB := tb_mem (i := 741) (by decide +kernel) (by decide +kernel)
theorem tw_742 : Cond.selects RX3 yX3_exists yX3_exists ∈ TB := tb_mem (i := 742) (by decide +kernel) (by decide +kernel)
theorem tw_743 : Cond.code yX3_exists cX3_exists 1 (some .boolean) ∈ TB := tb_mem (i := 743) (by decide +kernel) (by decide +kernel)
theorem tw_753 : Cond.constant RX11 159 (2000000000) ∈ TB := tb_mem (i := 753) (by decide +kernel) (by decide +kernel)
theorem tw_754 : Cond.methodLink RX11 160 yX3_farOf ∈ TB := tb_mem (i := 754) (by decide +kernel) (by decide +kernel)
theorem tw_755 : Cond.instanceMethod yX3_farOf ∈ TB := tb_mem (i := 755) (by decide +kernel) (by decide +kernel)
theorem tw_756 : Cond.selects RX3 yX3_farOf yX3_farOf ∈ TB := tb_mem (i := 756) (by decide +kernel) (by decide +kernel)
theorem tw_757 : Cond.code yX3_farOf cX3_farOf 2 (some .int) ∈ TB := tb_mem (i := 757) (by decide +kernel) (by decide +kernel)
theorem tw_768 : Cond.methodLink RX11 166 yX3_exists ∈ TB := tb_mem (i := 768) (by decide +kernel) (by decide +kernel)
theorem tw_843 : Cond.methodLink RX11 199 yX3_holdOrRefusal ∈ TB := tb_mem (i := 843) (by decide +kernel) (by decide +kernel)
theorem tw_844 : Cond.instanceMethod yX3_holdOrRefusal ∈ TB := tb_mem (i := 844) (by decide +kernel) (by decide +kernel)
theorem tw_845 : Cond.selects RX3 yX3_holdOrRefusal yX3_holdOrRefusal ∈ TB := tb_mem (i := 845) (by decide +kernel) (by decide +kernel)
theorem tw_846 : Cond.code yX3_holdOrRefusal cX3_holdOrRefusal 3 (some .int) ∈ TB := tb_mem (i := 846) (by decide +kernel) (by decide +kernel)
theorem tw_930 : Cond.methodLink RX11 227 yX11_saidRefusal ∈ TB := tb_mem (i := 930) (by decide +kernel) (by decide +kernel)
theorem tw_932 : Cond.instanceMethod yX11_saidRefusal ∈ TB := tb_mem (i := 932) (by decide +kernel) (by decide +kernel)
theorem tw_933 : Cond.code yX11_saidRefusal cX11_saidRefusal 3 (some .int) ∈ TB := tb_mem (i := 933) (by decide +kernel) (by decide +kernel)
theorem tw_934 : Cond.methodLink RX11 237 yX11_isHold ∈ TB := tb_mem (i := 934) (by decide +kernel) (by decide +kernel)
theorem tw_936 : Cond.instanceMethod yX11_isHold ∈ TB := tb_mem (i := 936) (by decide +kernel) (by decide +kernel)
theorem tw_937 : Cond.code yX11_isHold cX11_isHold 3 (some .boolean) ∈ TB := tb_mem (i := 937) (by decide +kernel) (by decide +kernel)
theorem tw_938 : Cond.methodLink RX11 398 yX7_has ∈ TB := tb_mem (i := 938) (by decide +kernel) (by decide +kernel)
theorem tw_939 : Cond.instanceMethod yX7_has ∈ TB := tb_mem (i := 939) (by decide +kernel) (by decide +kernel)
theorem tw_940 : Cond.selects RX7 yX7_has yX7_has ∈ TB := tb_mem (i := 940) (by decide +kernel) (by decide +kernel)
theorem tw_941 : Cond.code yX7_has cX7_has 2 (some .boolean) ∈ TB := tb_mem (i := 941) (by decide +kernel) (by decide +kernel)
theorem tw_942 : Cond.methodLink RX11 405 yX7_isBare ∈ TB := tb_mem (i := 942) (by decide +kernel) (by decide +kernel)
theorem tw_943 : Cond.instanceMethod yX7_isBare ∈ TB := tb_mem (i := 943) (by decide +kernel) (by decide +kernel)
theorem tw_944 : Cond.selects RX7 yX7_isBare yX7_isBare ∈ TB := tb_mem (i := 944) (by decide +kernel) (by decide +kernel)
theorem tw_945 : Cond.code yX7_isBare cX7_isBare 2 (some .boolean) ∈ TB := tb_mem (i := 945) (by decide +kernel) (by decide +kernel)
theorem tw_946 : Cond.methodLink RX7 28 yX7_sizeOf ∈ TB := tb_mem (i := 946) (by decide +kernel) (by decide +kernel)
theorem tw_947 : Cond.instanceMethod yX7_sizeOf ∈ TB := tb_mem (i := 947) (by decide +kernel) (by decide +kernel)
theorem tw_948 : Cond.selects RX7 yX7_sizeOf yX7_sizeOf ∈ TB := tb_mem (i := 948) (by decide +kernel) (by decide +kernel)
theorem tw_949 : Cond.code yX7_sizeOf cX7_sizeOf 2 (some .int) ∈ TB := tb_mem (i := 949) (by decide +kernel) (by decide +kernel)
theorem tw_950 : Cond.methodLink RX7 32 yX7_has ∈ TB := tb_mem (i := 950) (by decide +kernel) (by decide +kernel)
theorem tw_1179 : Cond.methodLink RX11 300 yX11_toldRefusal ∈ TB := tb_mem (i := 1179) (by decide +kernel) (by decide +kernel)
theorem tw_1181 : Cond.instanceMethod yX11_toldRefusal ∈ TB := tb_mem (i := 1181) (by decide +kernel) (by decide +kernel)
theorem tw_1182 : Cond.code yX11_toldRefusal cX11_toldRefusal 2 (some .int) ∈ TB := tb_mem (i := 1182) (by decide +kernel) (by decide +kernel)
theorem tw_1242 : Cond.constantLong RX11 315 (-2) ∈ TB := tb_mem (i := 1242) (by decide +kernel) (by decide +kernel)
theorem tw_1363 : Cond.methodLink RX11 386 yX7_withRow ∈ TB := tb_mem (i := 1363) (by decide +kernel) (by decide +kernel)
theorem tw_1364 : Cond.instanceMethod yX7_withRow ∈ TB := tb_mem (i := 1364) (by decide +kernel) (by decide +kernel)
theorem tw_1365 : Cond.selects RX7 yX7_withRow yX7_withRow ∈ TB := tb_mem (i := 1365) (by decide +kernel) (by decide +kernel)
theorem tw_1366 : Cond.code yX7_withRow cX7_withRow 3 (some .int) ∈ TB := tb_mem (i := 1366) (by decide +kernel) (by decide +kernel)
theorem tw_1367 : Cond.methodLink RX7 36 yX7_isBare ∈ TB := tb_mem (i := 1367) (by decide +kernel) (by decide +kernel)
theorem tw_1372 : Cond.methodLink RX11 395 yX2_copyFrom ∈ TB := tb_mem (i := 1372) (by decide +kernel) (by decide +kernel)
theorem tw_1373 : Cond.instanceMethod yX2_copyFrom ∈ TB := tb_mem (i := 1373) (by decide +kernel) (by decide +kernel)
theorem tw_1374 : Cond.selects RX2 yX2_copyFrom yX2_copyFrom ∈ TB := tb_mem (i := 1374) (by decide +kernel) (by decide +kernel)
theorem tw_1375 : Cond.code yX2_copyFrom cX2_copyFrom 2 none ∈ TB := tb_mem (i := 1375) (by decide +kernel) (by decide +kernel)
theorem tw_1376 : Cond.methodLink RX2 43 arraycopyName ∈ TB := tb_mem (i := 1376) (by decide +kernel) (by decide +kernel)
theorem tw_1385 : Cond.methodLink RX11 401 yX7_make ∈ TB := tb_mem (i := 1385) (by decide +kernel) (by decide +kernel)
theorem tw_1386 : Cond.instanceMethod yX7_make ∈ TB := tb_mem (i := 1386) (by decide +kernel) (by decide +kernel)
theorem tw_1387 : Cond.selects RX7 yX7_make yX7_make ∈ TB := tb_mem (i := 1387) (by decide +kernel) (by decide +kernel)
theorem tw_1388 : Cond.code yX7_make cX7_make 5 none ∈ TB := tb_mem (i := 1388) (by decide +kernel) (by decide +kernel)
def nestT : List (String × Nat × MethodName × String) := [(RX11, 9, yX9_init, "WristTreaty"), (RX6, 11, yX3_init, "WristTreaty"), (RX11, 27, yX3_init, "WristTreaty"), (RX11, 34, yX2_init, "WristTreaty"), (RX11, 45, yX4_init, "WristTreaty"), (RX4, 9, yX3_init, "WristTreaty"), (RX4, 18, yX2_init, "WristTreaty"), (RX6, 83, yX11_isWithin, "WristTreaty"), (RX3, 75, yX11_isWithin, "WristTreaty"), (RX1, 34, yX11_restOf, "WristTreaty"), (RX5, 22, yX11_isWithin, "WristTreaty"), (RX7, 39, yX11_isWithin, "WristTreaty"), (RX10, 87, yX11_isWithin, "WristTreaty"), (RX2, 61, yX11_isWithin, "WristTreaty")]
theorem nw_0 : (RX11, 9, yX9_init, "WristTreaty") ∈ nestT := List.mem_of_getElem? (i := 0) rfl
theorem nw_1 : (RX6, 11, yX3_init, "WristTreaty") ∈ nestT := List.mem_of_getElem? (i := 1) rfl
theorem nw_2 : (RX11, 27, yX3_init, "WristTreaty") ∈ nestT := List.mem_of_getElem? (i := 2) rfl
theorem nw_3 : (RX11, 34, yX2_init, "WristTreaty") ∈ nestT := List.mem_of_getElem? (i := 3) rfl
theorem nw_4 : (RX11, 45, yX4_init, "WristTreaty") ∈ nestT := List.mem_of_getElem? (i := 4) rfl
theorem nw_5 : (RX4, 9, yX3_init, "WristTreaty") ∈ nestT := List.mem_of_getElem? (i := 5) rfl
theorem nw_6 : (RX4, 18, yX2_init, "WristTreaty") ∈ nestT := List.mem_of_getElem? (i := 6) rfl
theorem nw_7 : (RX6, 83, yX11_isWithin, "WristTreaty") ∈ nestT := List.mem_of_getElem? (i := 7) rfl
theorem nw_8 : (RX3, 75, yX11_isWithin, "WristTreaty") ∈ nestT := List.mem_of_getElem? (i := 8) rfl
theorem nw_9 : (RX1, 34, yX11_restOf, "WristTreaty") ∈ nestT := List.mem_of_getElem? (i := 9) rfl
theorem nw_10 : (RX5, 22, yX11_isWithin, "WristTreaty") ∈ nestT := List.mem_of_getElem? (i := 10) rfl
theorem nw_11 : (RX7, 39, yX11_isWithin, "WristTreaty") ∈ nestT := List.mem_of_getElem? (i := 11) rfl
theorem nw_12 : (RX10, 87, yX11_isWithin, "WristTreaty") ∈ nestT := List.mem_of_getElem? (i := 12) rfl
theorem nw_13 : (RX2, 61, yX11_isWithin, "WristTreaty") ∈ nestT := List.mem_of_getElem? (i := 13) rfl
theorem inX0 : ∀ w ∈ u_ws RX0 TX0 7, w ∈ TB := tb_list [426, 428, 430, 432, 434, 436, 438] (by decide +kernel) (by decide +kernel)
theorem dfX0 : ∀ j, j < 7 → defaultValue (tyX0 j) = vp_V [.int 0, .int 0, .int 0, .null, .null, .null, .null] j := by decide +kernel
theorem inX1 : ∀ w ∈ u_ws RX1 TX1 3, w ∈ TB := tb_list [364, 366, 368] (by decide +kernel) (by decide +kernel)
theorem dfX1 : ∀ j, j < 3 → defaultValue (tyX1 j) = vp_V [.int 0, .int 0, .null] j := by decide +kernel
theorem inX2 : ∀ w ∈ u_ws RX2 TX2 10, w ∈ TB := tb_list [290, 292, 294, 296, 298, 300, 302, 304, 306, 308] (by decide +kernel) (by decide +kernel)
theorem dfX2 : ∀ j, j < 10 → defaultValue (tyX2 j) = vp_V [.int 0, .int 0, .int 0, .int 0, .int 0, .int 0, .int 0, .null, .null, .null] j := by decide +kernel
theorem inX3 : ∀ w ∈ u_ws RX3 TX3 16, w ∈ TB := tb_list [190, 192, 194, 196, 198, 200, 202, 204, 206, 208, 210, 212, 214, 216, 218, 220] (by decide +kernel) (by decide +kernel)
theorem dfX3 : ∀ j, j < 16 → defaultValue (tyX3 j) = vp_V [.int 0, .int 0, .int 0, .int 0, .int 0, .int 0, .int 0, .int 0, .null, .null, .null, .null, .null, .null, .null, .null] j := by decide +kernel
theorem inX4 : ∀ w ∈ u_ws RX4 TX4 3, w ∈ TB := tb_list [327, 329, 331] (by decide +kernel) (by decide +kernel)
theorem dfX4 : ∀ j, j < 3 → defaultValue (tyX4 j) = vp_V [.null, .null, .int 0] j := by decide +kernel
theorem inX5 : ∀ w ∈ u_ws RX5 TX5 6, w ∈ TB := tb_list [385, 387, 389, 391, 393, 395] (by decide +kernel) (by decide +kernel)
theorem dfX5 : ∀ j, j < 6 → defaultValue (tyX5 j) = vp_V [.null, .int 0, .int 0, .null, .int 0, .null] j := by decide +kernel
theorem inX6 : ∀ w ∈ u_ws RX6 TX6 13, w ∈ TB := tb_list [240, 242, 244, 246, 248, 250, 252, 254, 256, 258, 260, 262, 264] (by decide +kernel) (by decide +kernel)
theorem dfX6 : ∀ j, j < 13 → defaultValue (tyX6 j) = vp_V [.null, .int 0, .int 0, .null, .int 0, .int 0, .int 0, .int 0, .int 0, .int 0, .int 0, .int 0, .null] j := by decide +kernel
theorem inX7 : ∀ w ∈ u_ws RX7 TX7 3, w ∈ TB := tb_list [346, 348, 350] (by decide +kernel) (by decide +kernel)
theorem dfX7 : ∀ j, j < 3 → defaultValue (tyX7 j) = vp_V [.null, .null, .null] j := by decide +kernel
theorem inX8 : ∀ w ∈ u_ws RX8 TX8 2, w ∈ TB := tb_list [406, 408] (by decide +kernel) (by decide +kernel)
theorem dfX8 : ∀ j, j < 2 → defaultValue (tyX8 j) = vp_V [.null, .null] j := by decide +kernel
theorem inX9 : ∀ w ∈ u_ws RX9 TX9 2, w ∈ TB := tb_list [140, 142] (by decide +kernel) (by decide +kernel)
theorem dfX9 : ∀ j, j < 2 → defaultValue (tyX9 j) = vp_V [.null, .int 0] j := by decide +kernel
theorem inX10 : ∀ w ∈ u_ws RX10 TX10 5, w ∈ TB := tb_list [453, 455, 457, 459, 461] (by decide +kernel) (by decide +kernel)
theorem dfX10 : ∀ j, j < 5 → defaultValue (tyX10 j) = vp_V [.int 0, .null, .null, .null, .null] j := by decide +kernel
theorem inX11 : ∀ w ∈ u_ws RX11 TX11 11, w ∈ TB := tb_list [476, 478, 480, 482, 484, 486, 488, 490, 492, 494, 496] (by decide +kernel) (by decide +kernel)
theorem dfX11 : ∀ j, j < 11 → defaultValue (tyX11 j) = vp_V [.null, .null, .null, .null, .null, .null, .null, .null, .null, .null, .null] j := by decide +kernel
theorem inX12 : ∀ w ∈ u_ws RX12 TX12 35, w ∈ TB := tb_list [1454, 1456, 1458, 1460, 1462, 1464, 1466, 1468, 1470, 1472, 1474, 1476, 1478, 1480, 1482, 1484, 1486, 1488, 1490, 1492, 1494, 1496, 1498, 1500, 1502, 1504, 1506, 1508, 1510, 1512, 1514, 1516, 1518, 1520, 1522] (by decide +kernel) (by decide +kernel)
theorem dfX12 : ∀ j, j < 35 → defaultValue (tyX12 j) = vp_V [.int 0, .null, .null, .null, .null, .int 0, .null, .int 0, .int 0, .int 0, .int 0, .int 0, .int 0, .int 0, .null, .int 0, .int 0, .int 0, .int 0, .int 0, .int 0, .null, .null, .null, .null, .int 0, .int 0, .null, .int 0, .null, .int 0, .null, .null, .null, .null] j := by decide +kernel
theorem hdJ7_fill_53178 : yJ7_fill_53178.cls ≠ "java/lang/invoke/MethodHandle" ∧ yJ7_fill_53178.cls ≠ "java/lang/invoke/VarHandle" ∧ (parseMethodDescriptor yJ7_fill_53178.desc).map (fun d => d.parameters.length) = some 2 := by decide +kernel
theorem hdX0_init : yX0_init.name = "<init>" ∧ yX0_init.cls ≠ "java/lang/invoke/MethodHandle" ∧ yX0_init.cls ≠ "java/lang/invoke/VarHandle" ∧ (parseMethodDescriptor yX0_init.desc).map (fun d => d.parameters.length) = some 1 := by decide +kernel
theorem hdX10_init : yX10_init.name = "<init>" ∧ yX10_init.cls ≠ "java/lang/invoke/MethodHandle" ∧ yX10_init.cls ≠ "java/lang/invoke/VarHandle" ∧ (parseMethodDescriptor yX10_init.desc).map (fun d => d.parameters.length) = some 2 := by decide +kernel
theorem hdX11_isHold : yX11_isHold.cls ≠ "java/lang/invoke/MethodHandle" ∧ yX11_isHold.cls ≠ "java/lang/invoke/VarHandle" ∧ (parseMethodDescriptor yX11_isHold.desc).map (fun d => d.parameters.length) = some 2 := by decide +kernel
theorem hdX11_isWithin : yX11_isWithin.cls ≠ "java/lang/invoke/MethodHandle" ∧ yX11_isWithin.cls ≠ "java/lang/invoke/VarHandle" ∧ (parseMethodDescriptor yX11_isWithin.desc).map (fun d => d.parameters.length) = some 3 := by decide +kernel
theorem hdX11_saidRefusal : yX11_saidRefusal.cls ≠ "java/lang/invoke/MethodHandle" ∧ yX11_saidRefusal.cls ≠ "java/lang/invoke/VarHandle" ∧ (parseMethodDescriptor yX11_saidRefusal.desc).map (fun d => d.parameters.length) = some 2 := by decide +kernel
theorem hdX11_toldRefusal : yX11_toldRefusal.cls ≠ "java/lang/invoke/MethodHandle" ∧ yX11_toldRefusal.cls ≠ "java/lang/invoke/VarHandle" ∧ (parseMethodDescriptor yX11_toldRefusal.desc).map (fun d => d.parameters.length) = some 1 := by decide +kernel
theorem hdX1_init : yX1_init.name = "<init>" ∧ yX1_init.cls ≠ "java/lang/invoke/MethodHandle" ∧ yX1_init.cls ≠ "java/lang/invoke/VarHandle" ∧ (parseMethodDescriptor yX1_init.desc).map (fun d => d.parameters.length) = some 1 := by decide +kernel
theorem hdX2_clear : yX2_clear.cls ≠ "java/lang/invoke/MethodHandle" ∧ yX2_clear.cls ≠ "java/lang/invoke/VarHandle" ∧ (parseMethodDescriptor yX2_clear.desc).map (fun d => d.parameters.length) = some 0 := by decide +kernel
theorem hdX2_copyFrom : yX2_copyFrom.cls ≠ "java/lang/invoke/MethodHandle" ∧ yX2_copyFrom.cls ≠ "java/lang/invoke/VarHandle" ∧ (parseMethodDescriptor yX2_copyFrom.desc).map (fun d => d.parameters.length) = some 1 := by decide +kernel
theorem hdX2_init : yX2_init.name = "<init>" ∧ yX2_init.cls ≠ "java/lang/invoke/MethodHandle" ∧ yX2_init.cls ≠ "java/lang/invoke/VarHandle" ∧ (parseMethodDescriptor yX2_init.desc).map (fun d => d.parameters.length) = some 0 := by decide +kernel
theorem hdX3_clear : yX3_clear.cls ≠ "java/lang/invoke/MethodHandle" ∧ yX3_clear.cls ≠ "java/lang/invoke/VarHandle" ∧ (parseMethodDescriptor yX3_clear.desc).map (fun d => d.parameters.length) = some 0 := by decide +kernel
theorem hdX3_copyFrom : yX3_copyFrom.cls ≠ "java/lang/invoke/MethodHandle" ∧ yX3_copyFrom.cls ≠ "java/lang/invoke/VarHandle" ∧ (parseMethodDescriptor yX3_copyFrom.desc).map (fun d => d.parameters.length) = some 1 := by decide +kernel
theorem hdX3_exists : yX3_exists.cls ≠ "java/lang/invoke/MethodHandle" ∧ yX3_exists.cls ≠ "java/lang/invoke/VarHandle" ∧ (parseMethodDescriptor yX3_exists.desc).map (fun d => d.parameters.length) = some 0 := by decide +kernel
theorem hdX3_farOf : yX3_farOf.cls ≠ "java/lang/invoke/MethodHandle" ∧ yX3_farOf.cls ≠ "java/lang/invoke/VarHandle" ∧ (parseMethodDescriptor yX3_farOf.desc).map (fun d => d.parameters.length) = some 1 := by decide +kernel
theorem hdX3_hasClause : yX3_hasClause.cls ≠ "java/lang/invoke/MethodHandle" ∧ yX3_hasClause.cls ≠ "java/lang/invoke/VarHandle" ∧ (parseMethodDescriptor yX3_hasClause.desc).map (fun d => d.parameters.length) = some 1 := by decide +kernel
theorem hdX3_hasMan : yX3_hasMan.cls ≠ "java/lang/invoke/MethodHandle" ∧ yX3_hasMan.cls ≠ "java/lang/invoke/VarHandle" ∧ (parseMethodDescriptor yX3_hasMan.desc).map (fun d => d.parameters.length) = some 1 := by decide +kernel
theorem hdX3_hasSide : yX3_hasSide.cls ≠ "java/lang/invoke/MethodHandle" ∧ yX3_hasSide.cls ≠ "java/lang/invoke/VarHandle" ∧ (parseMethodDescriptor yX3_hasSide.desc).map (fun d => d.parameters.length) = some 1 := by decide +kernel
theorem hdX3_holdOrRefusal : yX3_holdOrRefusal.cls ≠ "java/lang/invoke/MethodHandle" ∧ yX3_holdOrRefusal.cls ≠ "java/lang/invoke/VarHandle" ∧ (parseMethodDescriptor yX3_holdOrRefusal.desc).map (fun d => d.parameters.length) = some 2 := by decide +kernel
theorem hdX3_init : yX3_init.name = "<init>" ∧ yX3_init.cls ≠ "java/lang/invoke/MethodHandle" ∧ yX3_init.cls ≠ "java/lang/invoke/VarHandle" ∧ (parseMethodDescriptor yX3_init.desc).map (fun d => d.parameters.length) = some 0 := by decide +kernel
theorem hdX3_setFars : yX3_setFars.cls ≠ "java/lang/invoke/MethodHandle" ∧ yX3_setFars.cls ≠ "java/lang/invoke/VarHandle" ∧ (parseMethodDescriptor yX3_setFars.desc).map (fun d => d.parameters.length) = some 2 := by decide +kernel
theorem hdX4_init : yX4_init.name = "<init>" ∧ yX4_init.cls ≠ "java/lang/invoke/MethodHandle" ∧ yX4_init.cls ≠ "java/lang/invoke/VarHandle" ∧ (parseMethodDescriptor yX4_init.desc).map (fun d => d.parameters.length) = some 0 := by decide +kernel
theorem hdX5_init : yX5_init.name = "<init>" ∧ yX5_init.cls ≠ "java/lang/invoke/MethodHandle" ∧ yX5_init.cls ≠ "java/lang/invoke/VarHandle" ∧ (parseMethodDescriptor yX5_init.desc).map (fun d => d.parameters.length) = some 1 := by decide +kernel
theorem hdX6_init : yX6_init.name = "<init>" ∧ yX6_init.cls ≠ "java/lang/invoke/MethodHandle" ∧ yX6_init.cls ≠ "java/lang/invoke/VarHandle" ∧ (parseMethodDescriptor yX6_init.desc).map (fun d => d.parameters.length) = some 1 := by decide +kernel
theorem hdX6_kindOf : yX6_kindOf.cls ≠ "java/lang/invoke/MethodHandle" ∧ yX6_kindOf.cls ≠ "java/lang/invoke/VarHandle" ∧ (parseMethodDescriptor yX6_kindOf.desc).map (fun d => d.parameters.length) = some 1 := by decide +kernel
theorem hdX6_readAll : yX6_readAll.cls ≠ "java/lang/invoke/MethodHandle" ∧ yX6_readAll.cls ≠ "java/lang/invoke/VarHandle" ∧ (parseMethodDescriptor yX6_readAll.desc).map (fun d => d.parameters.length) = some 0 := by decide +kernel
theorem hdX6_readToken : yX6_readToken.cls ≠ "java/lang/invoke/MethodHandle" ∧ yX6_readToken.cls ≠ "java/lang/invoke/VarHandle" ∧ (parseMethodDescriptor yX6_readToken.desc).map (fun d => d.parameters.length) = some 0 := by decide +kernel
theorem hdX7_has : yX7_has.cls ≠ "java/lang/invoke/MethodHandle" ∧ yX7_has.cls ≠ "java/lang/invoke/VarHandle" ∧ (parseMethodDescriptor yX7_has.desc).map (fun d => d.parameters.length) = some 1 := by decide +kernel
theorem hdX7_init : yX7_init.name = "<init>" ∧ yX7_init.cls ≠ "java/lang/invoke/MethodHandle" ∧ yX7_init.cls ≠ "java/lang/invoke/VarHandle" ∧ (parseMethodDescriptor yX7_init.desc).map (fun d => d.parameters.length) = some 0 := by decide +kernel
theorem hdX7_isBare : yX7_isBare.cls ≠ "java/lang/invoke/MethodHandle" ∧ yX7_isBare.cls ≠ "java/lang/invoke/VarHandle" ∧ (parseMethodDescriptor yX7_isBare.desc).map (fun d => d.parameters.length) = some 1 := by decide +kernel
theorem hdX7_make : yX7_make.cls ≠ "java/lang/invoke/MethodHandle" ∧ yX7_make.cls ≠ "java/lang/invoke/VarHandle" ∧ (parseMethodDescriptor yX7_make.desc).map (fun d => d.parameters.length) = some 3 := by decide +kernel
theorem hdX7_sizeOf : yX7_sizeOf.cls ≠ "java/lang/invoke/MethodHandle" ∧ yX7_sizeOf.cls ≠ "java/lang/invoke/VarHandle" ∧ (parseMethodDescriptor yX7_sizeOf.desc).map (fun d => d.parameters.length) = some 1 := by decide +kernel
theorem hdX7_withRow : yX7_withRow.cls ≠ "java/lang/invoke/MethodHandle" ∧ yX7_withRow.cls ≠ "java/lang/invoke/VarHandle" ∧ (parseMethodDescriptor yX7_withRow.desc).map (fun d => d.parameters.length) = some 0 := by decide +kernel
theorem hdX8_init : yX8_init.name = "<init>" ∧ yX8_init.cls ≠ "java/lang/invoke/MethodHandle" ∧ yX8_init.cls ≠ "java/lang/invoke/VarHandle" ∧ (parseMethodDescriptor yX8_init.desc).map (fun d => d.parameters.length) = some 1 := by decide +kernel
theorem hdX9_append : yX9_append.cls ≠ "java/lang/invoke/MethodHandle" ∧ yX9_append.cls ≠ "java/lang/invoke/VarHandle" ∧ (parseMethodDescriptor yX9_append.desc).map (fun d => d.parameters.length) = some 1 := by decide +kernel
theorem hdX9_byteAt : yX9_byteAt.cls ≠ "java/lang/invoke/MethodHandle" ∧ yX9_byteAt.cls ≠ "java/lang/invoke/VarHandle" ∧ (parseMethodDescriptor yX9_byteAt.desc).map (fun d => d.parameters.length) = some 1 := by decide +kernel
theorem hdX9_hasRoom : yX9_hasRoom.cls ≠ "java/lang/invoke/MethodHandle" ∧ yX9_hasRoom.cls ≠ "java/lang/invoke/VarHandle" ∧ (parseMethodDescriptor yX9_hasRoom.desc).map (fun d => d.parameters.length) = some 1 := by decide +kernel
theorem hdX9_init : yX9_init.name = "<init>" ∧ yX9_init.cls ≠ "java/lang/invoke/MethodHandle" ∧ yX9_init.cls ≠ "java/lang/invoke/VarHandle" ∧ (parseMethodDescriptor yX9_init.desc).map (fun d => d.parameters.length) = some 0 := by decide +kernel
end
section
theorem dJ7_fill_53178_0 : decode cJ7_fill_53178 0 = .ok (.iconst 0, 1) := by decide +kernel
theorem dJ7_fill_53178_1 : decode cJ7_fill_53178 1 = .ok (.istore_n 2, 1) := by decide +kernel
theorem dJ7_fill_53178_2 : decode cJ7_fill_53178 2 = .ok (.aload_n 0, 1) := by decide +kernel
theorem dJ7_fill_53178_3 : decode cJ7_fill_53178 3 = .ok (.arraylength, 1) := by decide +kernel
theorem dJ7_fill_53178_4 : decode cJ7_fill_53178 4 = .ok (.istore_n 3, 1) := by decide +kernel
theorem dJ7_fill_53178_5 : decode cJ7_fill_53178 5 = .ok (.iload_n 2, 1) := by decide +kernel
theorem dJ7_fill_53178_6 : decode cJ7_fill_53178 6 = .ok (.iload_n 3, 1) := by decide +kernel
theorem dJ7_fill_53178_7 : decode cJ7_fill_53178 7 = .ok (.if_icmp .ge 13, 3) := by decide +kernel
theorem dJ7_fill_53178_10 : decode cJ7_fill_53178 10 = .ok (.aload_n 0, 1) := by decide +kernel
theorem dJ7_fill_53178_11 : decode cJ7_fill_53178 11 = .ok (.iload_n 2, 1) := by decide +kernel
theorem dJ7_fill_53178_12 : decode cJ7_fill_53178 12 = .ok (.iload_n 1, 1) := by decide +kernel
theorem dJ7_fill_53178_13 : decode cJ7_fill_53178 13 = .ok (.iastore, 1) := by decide +kernel
theorem dJ7_fill_53178_14 : decode cJ7_fill_53178 14 = .ok (.iinc 2 1, 3) := by decide +kernel
theorem dJ7_fill_53178_17 : decode cJ7_fill_53178 17 = .ok (.goto (-12), 3) := by decide +kernel
theorem dJ7_fill_53178_20 : decode cJ7_fill_53178 20 = .ok (.return_, 1) := by decide +kernel
theorem dX0_init_0 : decode cX0_init 0 = .ok (.aload_n 0, 1) := by decide +kernel
theorem dX0_init_1 : decode cX0_init 1 = .ok (.invokespecial 3, 3) := by decide +kernel
theorem dX0_init_4 : decode cX0_init 4 = .ok (.aload_n 0, 1) := by decide +kernel
theorem dX0_init_5 : decode cX0_init 5 = .ok (.iconst (-1), 1) := by decide +kernel
theorem dX0_init_6 : decode cX0_init 6 = .ok (.putfield 9, 3) := by decide +kernel
theorem dX0_init_9 : decode cX0_init 9 = .ok (.aload_n 0, 1) := by decide +kernel
theorem dX0_init_10 : decode cX0_init 10 = .ok (.sipush 128, 3) := by decide +kernel
theorem dX0_init_13 : decode cX0_init 13 = .ok (.newarray .int, 2) := by decide +kernel
theorem dX0_init_15 : decode cX0_init 15 = .ok (.putfield 15, 3) := by decide +kernel
theorem dX0_init_18 : decode cX0_init 18 = .ok (.aload_n 0, 1) := by decide +kernel
theorem dX0_init_19 : decode cX0_init 19 = .ok (.sipush 128, 3) := by decide +kernel
theorem dX0_init_22 : decode cX0_init 22 = .ok (.newarray .int, 2) := by decide +kernel
theorem dX0_init_24 : decode cX0_init 24 = .ok (.putfield 19, 3) := by decide +kernel
theorem dX0_init_27 : decode cX0_init 27 = .ok (.aload_n 0, 1) := by decide +kernel
theorem dX0_init_28 : decode cX0_init 28 = .ok (.sipush 128, 3) := by decide +kernel
theorem dX0_init_31 : decode cX0_init 31 = .ok (.newarray .int, 2) := by decide +kernel
theorem dX0_init_33 : decode cX0_init 33 = .ok (.putfield 22, 3) := by decide +kernel
theorem dX0_init_36 : decode cX0_init 36 = .ok (.aload_n 0, 1) := by decide +kernel
theorem dX0_init_37 : decode cX0_init 37 = .ok (.aload_n 1, 1) := by decide +kernel
theorem dX0_init_38 : decode cX0_init 38 = .ok (.putfield 25, 3) := by decide +kernel
theorem dX0_init_41 : decode cX0_init 41 = .ok (.return_, 1) := by decide +kernel
theorem dX10_init_0 : decode cX10_init 0 = .ok (.aload_n 0, 1) := by decide +kernel
theorem dX10_init_1 : decode cX10_init 1 = .ok (.invokespecial 3, 3) := by decide +kernel
theorem dX10_init_4 : decode cX10_init 4 = .ok (.aload_n 0, 1) := by decide +kernel
theorem dX10_init_5 : decode cX10_init 5 = .ok (.sipush 240, 3) := by decide +kernel
theorem dX10_init_8 : decode cX10_init 8 = .ok (.newarray .boolean, 2) := by decide +kernel
theorem dX10_init_10 : decode cX10_init 10 = .ok (.putfield 11, 3) := by decide +kernel
theorem dX10_init_13 : decode cX10_init 13 = .ok (.aload_n 0, 1) := by decide +kernel
theorem dX10_init_14 : decode cX10_init 14 = .ok (.bipush 40, 2) := by decide +kernel
theorem dX10_init_16 : decode cX10_init 16 = .ok (.newarray .int, 2) := by decide +kernel
theorem dX10_init_18 : decode cX10_init 18 = .ok (.putfield 15, 3) := by decide +kernel
theorem dX10_init_21 : decode cX10_init 21 = .ok (.aload_n 0, 1) := by decide +kernel
theorem dX10_init_22 : decode cX10_init 22 = .ok (.aload_n 1, 1) := by decide +kernel
theorem dX10_init_23 : decode cX10_init 23 = .ok (.putfield 19, 3) := by decide +kernel
theorem dX10_init_26 : decode cX10_init 26 = .ok (.aload_n 0, 1) := by decide +kernel
theorem dX10_init_27 : decode cX10_init 27 = .ok (.aload_n 2, 1) := by decide +kernel
theorem dX10_init_28 : decode cX10_init 28 = .ok (.putfield 23, 3) := by decide +kernel
theorem dX10_init_31 : decode cX10_init 31 = .ok (.return_, 1) := by decide +kernel
theorem dX11_able_0 : decode cX11_able 0 = .ok (.aload_n 0, 1) := by decide +kernel
theorem dX11_able_1 : decode cX11_able 1 = .ok (.getfield 28, 3) := by decide +kernel
theorem dX11_able_4 : decode cX11_able 4 = .ok (.invokevirtual 166, 3) := by decide +kernel
theorem dX11_able_7 : decode cX11_able 7 = .ok (.ifCond .ne 6, 3) := by decide +kernel
theorem dX11_able_10 : decode cX11_able 10 = .ok (.bipush (-2), 2) := by decide +kernel
theorem dX11_able_12 : decode cX11_able 12 = .ok (.ireturn, 1) := by decide +kernel
theorem dX11_anew_0 : decode cX11_anew 0 = .ok (.aload_n 0, 1) := by decide +kernel
theorem dX11_anew_1 : decode cX11_anew 1 = .ok (.getfield 28, 3) := by decide +kernel
theorem dX11_anew_4 : decode cX11_anew 4 = .ok (.invokevirtual 166, 3) := by decide +kernel
theorem dX11_anew_7 : decode cX11_anew 7 = .ok (.ifCond .ne 6, 3) := by decide +kernel
theorem dX11_anew_10 : decode cX11_anew 10 = .ok (.bipush (-2), 2) := by decide +kernel
theorem dX11_anew_12 : decode cX11_anew 12 = .ok (.ireturn, 1) := by decide +kernel
theorem dX11_ask_0 : decode cX11_ask 0 = .ok (.aload_n 0, 1) := by decide +kernel
theorem dX11_ask_1 : decode cX11_ask 1 = .ok (.iload_n 1, 1) := by decide +kernel
theorem dX11_ask_2 : decode cX11_ask 2 = .ok (.invokevirtual 300, 3) := by decide +kernel
theorem dX11_ask_5 : decode cX11_ask 5 = .ok (.istore_n 2, 1) := by decide +kernel
theorem dX11_ask_6 : decode cX11_ask 6 = .ok (.iload_n 2, 1) := by decide +kernel
theorem dX11_ask_7 : decode cX11_ask 7 = .ok (.ifCond .eq 5, 3) := by decide +kernel
theorem dX11_ask_10 : decode cX11_ask 10 = .ok (.iload_n 2, 1) := by decide +kernel
theorem dX11_ask_11 : decode cX11_ask 11 = .ok (.ireturn, 1) := by decide +kernel
theorem dX11_back_0 : decode cX11_back 0 = .ok (.iload_n 1, 1) := by decide +kernel
theorem dX11_back_1 : decode cX11_back 1 = .ok (.iconst 0, 1) := by decide +kernel
theorem dX11_back_2 : decode cX11_back 2 = .ok (.iconst 2, 1) := by decide +kernel
theorem dX11_back_3 : decode cX11_back 3 = .ok (.invokestatic 104, 3) := by decide +kernel
theorem dX11_back_6 : decode cX11_back 6 = .ok (.ifCond .ne 6, 3) := by decide +kernel
theorem dX11_back_9 : decode cX11_back 9 = .ok (.bipush (-2), 2) := by decide +kernel
theorem dX11_back_11 : decode cX11_back 11 = .ok (.ireturn, 1) := by decide +kernel
theorem dX11_back_12 : decode cX11_back 12 = .ok (.aload_n 0, 1) := by decide +kernel
theorem dX11_back_13 : decode cX11_back 13 = .ok (.getfield 41, 3) := by decide +kernel
theorem dX11_back_16 : decode cX11_back 16 = .ok (.iload_n 1, 1) := by decide +kernel
theorem dX11_back_17 : decode cX11_back 17 = .ok (.aaload, 1) := by decide +kernel
theorem dX11_back_18 : decode cX11_back 18 = .ok (.getfield 389, 3) := by decide +kernel
theorem dX11_back_21 : decode cX11_back 21 = .ok (.ifCond .ne 6, 3) := by decide +kernel
theorem dX11_back_24 : decode cX11_back 24 = .ok (.bipush (-6), 2) := by decide +kernel
theorem dX11_back_26 : decode cX11_back 26 = .ok (.ireturn, 1) := by decide +kernel
theorem dX11_bundle_0 : decode cX11_bundle 0 = .ok (.aload_n 0, 1) := by decide +kernel
theorem dX11_bundle_1 : decode cX11_bundle 1 = .ok (.getfield 28, 3) := by decide +kernel
theorem dX11_bundle_4 : decode cX11_bundle 4 = .ok (.invokevirtual 166, 3) := by decide +kernel
theorem dX11_bundle_7 : decode cX11_bundle 7 = .ok (.ifCond .ne 6, 3) := by decide +kernel
theorem dX11_bundle_10 : decode cX11_bundle 10 = .ok (.bipush (-2), 2) := by decide +kernel
theorem dX11_bundle_12 : decode cX11_bundle 12 = .ok (.ireturn, 1) := by decide +kernel
theorem dX11_bundles_0 : decode cX11_bundles 0 = .ok (.aload_n 0, 1) := by decide +kernel
theorem dX11_bundles_1 : decode cX11_bundles 1 = .ok (.getfield 28, 3) := by decide +kernel
theorem dX11_bundles_4 : decode cX11_bundles 4 = .ok (.invokevirtual 166, 3) := by decide +kernel
theorem dX11_bundles_7 : decode cX11_bundles 7 = .ok (.ifCond .ne 6, 3) := by decide +kernel
theorem dX11_bundles_10 : decode cX11_bundles 10 = .ok (.bipush (-2), 2) := by decide +kernel
theorem dX11_bundles_12 : decode cX11_bundles 12 = .ok (.ireturn, 1) := by decide +kernel
theorem dX11_by_0 : decode cX11_by 0 = .ok (.aload_n 0, 1) := by decide +kernel
theorem dX11_by_1 : decode cX11_by 1 = .ok (.getfield 28, 3) := by decide +kernel
theorem dX11_by_4 : decode cX11_by 4 = .ok (.iload_n 2, 1) := by decide +kernel
theorem dX11_by_5 : decode cX11_by 5 = .ok (.invokevirtual 130, 3) := by decide +kernel
theorem dX11_by_8 : decode cX11_by 8 = .ok (.ifCond .eq 11, 3) := by decide +kernel
theorem dX11_by_19 : decode cX11_by 19 = .ok (.bipush (-2), 2) := by decide +kernel
theorem dX11_by_21 : decode cX11_by 21 = .ok (.istore_n 3, 1) := by decide +kernel
theorem dX11_by_22 : decode cX11_by 22 = .ok (.iload_n 3, 1) := by decide +kernel
theorem dX11_by_23 : decode cX11_by 23 = .ok (.ifCond .eq 5, 3) := by decide +kernel
theorem dX11_by_26 : decode cX11_by 26 = .ok (.iload_n 3, 1) := by decide +kernel
theorem dX11_by_27 : decode cX11_by 27 = .ok (.ireturn, 1) := by decide +kernel
theorem dX11_chance_0 : decode cX11_chance 0 = .ok (.iload_n 3, 1) := by decide +kernel
theorem dX11_chance_1 : decode cX11_chance 1 = .ok (.iconst 0, 1) := by decide +kernel
theorem dX11_chance_2 : decode cX11_chance 2 = .ok (.bipush 18, 2) := by decide +kernel
theorem dX11_chance_4 : decode cX11_chance 4 = .ok (.invokestatic 104, 3) := by decide +kernel
theorem dX11_chance_7 : decode cX11_chance 7 = .ok (.ifCond .eq 13, 3) := by decide +kernel
theorem dX11_chance_10 : decode cX11_chance 10 = .ok (.iload 4, 2) := by decide +kernel
theorem dX11_chance_12 : decode cX11_chance 12 = .ok (.iconst 0, 1) := by decide +kernel
theorem dX11_chance_13 : decode cX11_chance 13 = .ok (.iconst 1, 1) := by decide +kernel
theorem dX11_chance_14 : decode cX11_chance 14 = .ok (.invokestatic 104, 3) := by decide +kernel
theorem dX11_chance_17 : decode cX11_chance 17 = .ok (.ifCond .ne 7, 3) := by decide +kernel
theorem dX11_chance_20 : decode cX11_chance 20 = .ok (.ldc2_w 315, 3) := by decide +kernel
theorem dX11_chance_23 : decode cX11_chance 23 = .ok (.lreturn, 1) := by decide +kernel
theorem dX11_chance_24 : decode cX11_chance 24 = .ok (.aload_n 0, 1) := by decide +kernel
theorem dX11_chance_25 : decode cX11_chance 25 = .ok (.getfield 28, 3) := by decide +kernel
theorem dX11_chance_28 : decode cX11_chance 28 = .ok (.iload_n 1, 1) := by decide +kernel
theorem dX11_chance_29 : decode cX11_chance 29 = .ok (.iload_n 2, 1) := by decide +kernel
theorem dX11_chance_30 : decode cX11_chance 30 = .ok (.invokevirtual 199, 3) := by decide +kernel
theorem dX11_chance_33 : decode cX11_chance 33 = .ok (.istore 5, 2) := by decide +kernel
theorem dX11_chance_35 : decode cX11_chance 35 = .ok (.iload 5, 2) := by decide +kernel
theorem dX11_chance_37 : decode cX11_chance 37 = .ok (.ifCond .ge 7, 3) := by decide +kernel
theorem dX11_chance_40 : decode cX11_chance 40 = .ok (.iload 5, 2) := by decide +kernel
theorem dX11_chance_42 : decode cX11_chance 42 = .ok (.i2l, 1) := by decide +kernel
theorem dX11_chance_43 : decode cX11_chance 43 = .ok (.lreturn, 1) := by decide +kernel
theorem dX11_clause_0 : decode cX11_clause 0 = .ok (.aload_n 0, 1) := by decide +kernel
theorem dX11_clause_1 : decode cX11_clause 1 = .ok (.getfield 28, 3) := by decide +kernel
theorem dX11_clause_4 : decode cX11_clause 4 = .ok (.iload_n 1, 1) := by decide +kernel
theorem dX11_clause_5 : decode cX11_clause 5 = .ok (.invokevirtual 143, 3) := by decide +kernel
theorem dX11_clause_8 : decode cX11_clause 8 = .ok (.ifCond .ne 7, 3) := by decide +kernel
theorem dX11_clause_11 : decode cX11_clause 11 = .ok (.sipush (-1000), 3) := by decide +kernel
theorem dX11_clause_14 : decode cX11_clause 14 = .ok (.ireturn, 1) := by decide +kernel
theorem dX11_count_0 : decode cX11_count 0 = .ok (.iload_n 1, 1) := by decide +kernel
theorem dX11_count_1 : decode cX11_count 1 = .ok (.tableswitch 149 0 10 #[59, 68, 77, 85, 93, 101, 109, 117, 125, 133, 141], 59) := by decide +kernel
theorem dX11_count_60 : decode cX11_count 60 = .ok (.aload_n 0, 1) := by decide +kernel
theorem dX11_count_61 : decode cX11_count 61 = .ok (.getfield 28, 3) := by decide +kernel
theorem dX11_count_64 : decode cX11_count 64 = .ok (.iconst 0, 1) := by decide +kernel
theorem dX11_count_65 : decode cX11_count 65 = .ok (.invokevirtual 160, 3) := by decide +kernel
theorem dX11_count_68 : decode cX11_count 68 = .ok (.ireturn, 1) := by decide +kernel
theorem dX11_count_69 : decode cX11_count 69 = .ok (.aload_n 0, 1) := by decide +kernel
theorem dX11_count_70 : decode cX11_count 70 = .ok (.getfield 28, 3) := by decide +kernel
theorem dX11_count_73 : decode cX11_count 73 = .ok (.iconst 1, 1) := by decide +kernel
theorem dX11_count_74 : decode cX11_count 74 = .ok (.invokevirtual 160, 3) := by decide +kernel
theorem dX11_count_77 : decode cX11_count 77 = .ok (.ireturn, 1) := by decide +kernel
theorem dX11_count_78 : decode cX11_count 78 = .ok (.aload_n 0, 1) := by decide +kernel
theorem dX11_count_79 : decode cX11_count 79 = .ok (.getfield 28, 3) := by decide +kernel
theorem dX11_count_82 : decode cX11_count 82 = .ok (.getfield 317, 3) := by decide +kernel
theorem dX11_count_85 : decode cX11_count 85 = .ok (.ireturn, 1) := by decide +kernel
theorem dX11_count_86 : decode cX11_count 86 = .ok (.aload_n 0, 1) := by decide +kernel
theorem dX11_count_87 : decode cX11_count 87 = .ok (.getfield 28, 3) := by decide +kernel
theorem dX11_count_90 : decode cX11_count 90 = .ok (.getfield 220, 3) := by decide +kernel
theorem dX11_count_93 : decode cX11_count 93 = .ok (.ireturn, 1) := by decide +kernel
theorem dX11_count_94 : decode cX11_count 94 = .ok (.aload_n 0, 1) := by decide +kernel
theorem dX11_count_95 : decode cX11_count 95 = .ok (.getfield 28, 3) := by decide +kernel
theorem dX11_count_98 : decode cX11_count 98 = .ok (.getfield 202, 3) := by decide +kernel
theorem dX11_count_101 : decode cX11_count 101 = .ok (.ireturn, 1) := by decide +kernel
theorem dX11_count_102 : decode cX11_count 102 = .ok (.aload_n 0, 1) := by decide +kernel
theorem dX11_count_103 : decode cX11_count 103 = .ok (.getfield 28, 3) := by decide +kernel
theorem dX11_count_106 : decode cX11_count 106 = .ok (.getfield 279, 3) := by decide +kernel
theorem dX11_count_109 : decode cX11_count 109 = .ok (.ireturn, 1) := by decide +kernel
theorem dX11_count_110 : decode cX11_count 110 = .ok (.aload_n 0, 1) := by decide +kernel
theorem dX11_count_111 : decode cX11_count 111 = .ok (.getfield 28, 3) := by decide +kernel
theorem dX11_count_114 : decode cX11_count 114 = .ok (.getfield 383, 3) := by decide +kernel
theorem dX11_count_117 : decode cX11_count 117 = .ok (.ireturn, 1) := by decide +kernel
theorem dX11_count_118 : decode cX11_count 118 = .ok (.aload_n 0, 1) := by decide +kernel
theorem dX11_count_119 : decode cX11_count 119 = .ok (.getfield 35, 3) := by decide +kernel
theorem dX11_count_122 : decode cX11_count 122 = .ok (.getfield 371, 3) := by decide +kernel
theorem dX11_count_125 : decode cX11_count 125 = .ok (.ireturn, 1) := by decide +kernel
theorem dX11_count_126 : decode cX11_count 126 = .ok (.aload_n 0, 1) := by decide +kernel
theorem dX11_count_127 : decode cX11_count 127 = .ok (.getfield 28, 3) := by decide +kernel
theorem dX11_count_130 : decode cX11_count 130 = .ok (.getfield 121, 3) := by decide +kernel
theorem dX11_count_133 : decode cX11_count 133 = .ok (.ireturn, 1) := by decide +kernel
theorem dX11_count_134 : decode cX11_count 134 = .ok (.aload_n 0, 1) := by decide +kernel
theorem dX11_count_135 : decode cX11_count 135 = .ok (.getfield 10, 3) := by decide +kernel
theorem dX11_count_138 : decode cX11_count 138 = .ok (.getfield 100, 3) := by decide +kernel
theorem dX11_count_141 : decode cX11_count 141 = .ok (.ireturn, 1) := by decide +kernel
theorem dX11_count_142 : decode cX11_count 142 = .ok (.aload_n 0, 1) := by decide +kernel
theorem dX11_count_143 : decode cX11_count 143 = .ok (.getfield 49, 3) := by decide +kernel
theorem dX11_count_146 : decode cX11_count 146 = .ok (.invokevirtual 386, 3) := by decide +kernel
theorem dX11_count_149 : decode cX11_count 149 = .ok (.ireturn, 1) := by decide +kernel
theorem dX11_count_150 : decode cX11_count 150 = .ok (.iconst (-1), 1) := by decide +kernel
theorem dX11_count_151 : decode cX11_count 151 = .ok (.ireturn, 1) := by decide +kernel
theorem dX11_cut_0 : decode cX11_cut 0 = .ok (.aload_n 0, 1) := by decide +kernel
theorem dX11_cut_1 : decode cX11_cut 1 = .ok (.iload_n 1, 1) := by decide +kernel
theorem dX11_cut_2 : decode cX11_cut 2 = .ok (.iload_n 2, 1) := by decide +kernel
theorem dX11_cut_3 : decode cX11_cut 3 = .ok (.invokevirtual 227, 3) := by decide +kernel
theorem dX11_cut_6 : decode cX11_cut 6 = .ok (.istore_n 3, 1) := by decide +kernel
theorem dX11_cut_7 : decode cX11_cut 7 = .ok (.iload_n 3, 1) := by decide +kernel
theorem dX11_cut_8 : decode cX11_cut 8 = .ok (.ifCond .eq 7, 3) := by decide +kernel
theorem dX11_cut_11 : decode cX11_cut 11 = .ok (.iload_n 3, 1) := by decide +kernel
theorem dX11_cut_12 : decode cX11_cut 12 = .ok (.goto 16, 3) := by decide +kernel
theorem dX11_cut_28 : decode cX11_cut 28 = .ok (.ireturn, 1) := by decide +kernel
theorem dX11_deal_0 : decode cX11_deal 0 = .ok (.aload_n 0, 1) := by decide +kernel
theorem dX11_deal_1 : decode cX11_deal 1 = .ok (.getfield 28, 3) := by decide +kernel
theorem dX11_deal_4 : decode cX11_deal 4 = .ok (.invokevirtual 166, 3) := by decide +kernel
theorem dX11_deal_7 : decode cX11_deal 7 = .ok (.ifCond .eq 13, 3) := by decide +kernel
theorem dX11_deal_20 : decode cX11_deal 20 = .ok (.bipush (-2), 2) := by decide +kernel
theorem dX11_deal_22 : decode cX11_deal 22 = .ok (.ireturn, 1) := by decide +kernel
theorem dX11_drawn_0 : decode cX11_drawn 0 = .ok (.iload_n 1, 1) := by decide +kernel
theorem dX11_drawn_1 : decode cX11_drawn 1 = .ok (.iconst 0, 1) := by decide +kernel
theorem dX11_drawn_2 : decode cX11_drawn 2 = .ok (.ldc 159, 2) := by decide +kernel
theorem dX11_drawn_4 : decode cX11_drawn 4 = .ok (.invokestatic 104, 3) := by decide +kernel
theorem dX11_drawn_7 : decode cX11_drawn 7 = .ok (.ifCond .ne 6, 3) := by decide +kernel
theorem dX11_drawn_10 : decode cX11_drawn 10 = .ok (.bipush (-2), 2) := by decide +kernel
theorem dX11_drawn_12 : decode cX11_drawn 12 = .ok (.ireturn, 1) := by decide +kernel
theorem dX11_drawn_13 : decode cX11_drawn 13 = .ok (.aload_n 0, 1) := by decide +kernel
theorem dX11_drawn_14 : decode cX11_drawn 14 = .ok (.getfield 28, 3) := by decide +kernel
theorem dX11_drawn_17 : decode cX11_drawn 17 = .ok (.iload_n 2, 1) := by decide +kernel
theorem dX11_drawn_18 : decode cX11_drawn 18 = .ok (.iload_n 3, 1) := by decide +kernel
theorem dX11_drawn_19 : decode cX11_drawn 19 = .ok (.invokevirtual 199, 3) := by decide +kernel
theorem dX11_drawn_22 : decode cX11_drawn 22 = .ok (.istore 4, 2) := by decide +kernel
theorem dX11_drawn_24 : decode cX11_drawn 24 = .ok (.iload 4, 2) := by decide +kernel
theorem dX11_drawn_26 : decode cX11_drawn 26 = .ok (.ifCond .ge 8, 3) := by decide +kernel
theorem dX11_drawn_29 : decode cX11_drawn 29 = .ok (.iload 4, 2) := by decide +kernel
theorem dX11_drawn_31 : decode cX11_drawn 31 = .ok (.goto 10, 3) := by decide +kernel
theorem dX11_drawn_41 : decode cX11_drawn 41 = .ok (.ireturn, 1) := by decide +kernel
theorem dX11_drop_0 : decode cX11_drop 0 = .ok (.aload_n 0, 1) := by decide +kernel
theorem dX11_drop_1 : decode cX11_drop 1 = .ok (.getfield 28, 3) := by decide +kernel
theorem dX11_drop_4 : decode cX11_drop 4 = .ok (.invokevirtual 166, 3) := by decide +kernel
theorem dX11_drop_7 : decode cX11_drop 7 = .ok (.ifCond .ne 6, 3) := by decide +kernel
theorem dX11_drop_10 : decode cX11_drop 10 = .ok (.bipush (-2), 2) := by decide +kernel
theorem dX11_drop_12 : decode cX11_drop 12 = .ok (.ireturn, 1) := by decide +kernel
theorem dX11_end_0 : decode cX11_end 0 = .ok (.iload_n 1, 1) := by decide +kernel
theorem dX11_end_1 : decode cX11_end 1 = .ok (.iconst 0, 1) := by decide +kernel
theorem dX11_end_2 : decode cX11_end 2 = .ok (.aload_n 0, 1) := by decide +kernel
theorem dX11_end_3 : decode cX11_end 3 = .ok (.getfield 10, 3) := by decide +kernel
theorem dX11_end_6 : decode cX11_end 6 = .ok (.getfield 100, 3) := by decide +kernel
theorem dX11_end_9 : decode cX11_end 9 = .ok (.invokestatic 104, 3) := by decide +kernel
theorem dX11_end_12 : decode cX11_end 12 = .ok (.ifCond .ne 5, 3) := by decide +kernel
theorem dX11_end_15 : decode cX11_end 15 = .ok (.iconst (-1), 1) := by decide +kernel
theorem dX11_end_16 : decode cX11_end 16 = .ok (.ireturn, 1) := by decide +kernel
theorem dX11_end_17 : decode cX11_end 17 = .ok (.aload_n 0, 1) := by decide +kernel
theorem dX11_end_18 : decode cX11_end 18 = .ok (.getfield 10, 3) := by decide +kernel
theorem dX11_end_21 : decode cX11_end 21 = .ok (.iload_n 1, 1) := by decide +kernel
theorem dX11_end_22 : decode cX11_end 22 = .ok (.putfield 100, 3) := by decide +kernel
theorem dX11_end_25 : decode cX11_end 25 = .ok (.iload_n 1, 1) := by decide +kernel
theorem dX11_end_26 : decode cX11_end 26 = .ok (.ireturn, 1) := by decide +kernel
theorem dX11_ends_0 : decode cX11_ends 0 = .ok (.aload_n 0, 1) := by decide +kernel
theorem dX11_ends_1 : decode cX11_ends 1 = .ok (.iload_n 1, 1) := by decide +kernel
theorem dX11_ends_2 : decode cX11_ends 2 = .ok (.iconst 1, 1) := by decide +kernel
theorem dX11_ends_3 : decode cX11_ends 3 = .ok (.invokevirtual 237, 3) := by decide +kernel
theorem dX11_ends_6 : decode cX11_ends 6 = .ok (.ifCond .ne 6, 3) := by decide +kernel
theorem dX11_ends_9 : decode cX11_ends 9 = .ok (.bipush (-2), 2) := by decide +kernel
theorem dX11_ends_11 : decode cX11_ends 11 = .ok (.ireturn, 1) := by decide +kernel
theorem dX11_even_0 : decode cX11_even 0 = .ok (.aload_n 0, 1) := by decide +kernel
theorem dX11_even_1 : decode cX11_even 1 = .ok (.getfield 28, 3) := by decide +kernel
theorem dX11_even_4 : decode cX11_even 4 = .ok (.invokevirtual 166, 3) := by decide +kernel
theorem dX11_even_7 : decode cX11_even 7 = .ok (.ifCond .eq 13, 3) := by decide +kernel
theorem dX11_even_20 : decode cX11_even 20 = .ok (.bipush (-2), 2) := by decide +kernel
theorem dX11_even_22 : decode cX11_even 22 = .ok (.ireturn, 1) := by decide +kernel
theorem dX11_fair_0 : decode cX11_fair 0 = .ok (.aload_n 0, 1) := by decide +kernel
theorem dX11_fair_1 : decode cX11_fair 1 = .ok (.getfield 28, 3) := by decide +kernel
theorem dX11_fair_4 : decode cX11_fair 4 = .ok (.invokevirtual 166, 3) := by decide +kernel
theorem dX11_fair_7 : decode cX11_fair 7 = .ok (.ifCond .ne 6, 3) := by decide +kernel
theorem dX11_fair_10 : decode cX11_fair 10 = .ok (.bipush (-2), 2) := by decide +kernel
theorem dX11_fair_12 : decode cX11_fair 12 = .ok (.ireturn, 1) := by decide +kernel
theorem dX11_fault_0 : decode cX11_fault 0 = .ok (.iload_n 1, 1) := by decide +kernel
theorem dX11_fault_1 : decode cX11_fault 1 = .ok (.ifCond .ne 11, 3) := by decide +kernel
theorem dX11_fault_4 : decode cX11_fault 4 = .ok (.aload_n 0, 1) := by decide +kernel
theorem dX11_fault_5 : decode cX11_fault 5 = .ok (.getfield 21, 3) := by decide +kernel
theorem dX11_fault_8 : decode cX11_fault 8 = .ok (.getfield 124, 3) := by decide +kernel
theorem dX11_fault_11 : decode cX11_fault 11 = .ok (.ireturn, 1) := by decide +kernel
theorem dX11_fault_12 : decode cX11_fault 12 = .ok (.iload_n 1, 1) := by decide +kernel
theorem dX11_fault_13 : decode cX11_fault 13 = .ok (.iconst 1, 1) := by decide +kernel
theorem dX11_fault_14 : decode cX11_fault 14 = .ok (.if_icmp .ne 13, 3) := by decide +kernel
theorem dX11_fault_17 : decode cX11_fault 17 = .ok (.aload_n 0, 1) := by decide +kernel
theorem dX11_fault_18 : decode cX11_fault 18 = .ok (.getfield 21, 3) := by decide +kernel
theorem dX11_fault_21 : decode cX11_fault 21 = .ok (.getfield 127, 3) := by decide +kernel
theorem dX11_fault_24 : decode cX11_fault 24 = .ok (.goto 4, 3) := by decide +kernel
theorem dX11_fault_27 : decode cX11_fault 27 = .ok (.iconst (-1), 1) := by decide +kernel
theorem dX11_fault_28 : decode cX11_fault 28 = .ok (.ireturn, 1) := by decide +kernel
theorem dX11_feed_0 : decode cX11_feed 0 = .ok (.aload_n 0, 1) := by decide +kernel
theorem dX11_feed_1 : decode cX11_feed 1 = .ok (.getfield 10, 3) := by decide +kernel
theorem dX11_feed_4 : decode cX11_feed 4 = .ok (.bipush 20, 2) := by decide +kernel
theorem dX11_feed_6 : decode cX11_feed 6 = .ok (.invokevirtual 92, 3) := by decide +kernel
theorem dX11_feed_9 : decode cX11_feed 9 = .ok (.ifCond .ne 5, 3) := by decide +kernel
theorem dX11_feed_14 : decode cX11_feed 14 = .ok (.aload_n 0, 1) := by decide +kernel
theorem dX11_feed_15 : decode cX11_feed 15 = .ok (.getfield 10, 3) := by decide +kernel
theorem dX11_feed_18 : decode cX11_feed 18 = .ok (.iload_n 1, 1) := by decide +kernel
theorem dX11_feed_19 : decode cX11_feed 19 = .ok (.invokevirtual 96, 3) := by decide +kernel
theorem dX11_feed_22 : decode cX11_feed 22 = .ok (.aload_n 0, 1) := by decide +kernel
theorem dX11_feed_23 : decode cX11_feed 23 = .ok (.getfield 10, 3) := by decide +kernel
theorem dX11_feed_26 : decode cX11_feed 26 = .ok (.iload_n 2, 1) := by decide +kernel
theorem dX11_feed_27 : decode cX11_feed 27 = .ok (.invokevirtual 96, 3) := by decide +kernel
theorem dX11_feed_30 : decode cX11_feed 30 = .ok (.aload_n 0, 1) := by decide +kernel
theorem dX11_feed_31 : decode cX11_feed 31 = .ok (.getfield 10, 3) := by decide +kernel
theorem dX11_feed_34 : decode cX11_feed 34 = .ok (.iload_n 3, 1) := by decide +kernel
theorem dX11_feed_35 : decode cX11_feed 35 = .ok (.invokevirtual 96, 3) := by decide +kernel
theorem dX11_feed_38 : decode cX11_feed 38 = .ok (.aload_n 0, 1) := by decide +kernel
theorem dX11_feed_39 : decode cX11_feed 39 = .ok (.getfield 10, 3) := by decide +kernel
theorem dX11_feed_42 : decode cX11_feed 42 = .ok (.iload 4, 2) := by decide +kernel
theorem dX11_feed_44 : decode cX11_feed 44 = .ok (.invokevirtual 96, 3) := by decide +kernel
theorem dX11_feed_47 : decode cX11_feed 47 = .ok (.aload_n 0, 1) := by decide +kernel
theorem dX11_feed_48 : decode cX11_feed 48 = .ok (.getfield 10, 3) := by decide +kernel
theorem dX11_feed_51 : decode cX11_feed 51 = .ok (.iload 5, 2) := by decide +kernel
theorem dX11_feed_53 : decode cX11_feed 53 = .ok (.invokevirtual 96, 3) := by decide +kernel
theorem dX11_feed_56 : decode cX11_feed 56 = .ok (.aload_n 0, 1) := by decide +kernel
theorem dX11_feed_57 : decode cX11_feed 57 = .ok (.getfield 10, 3) := by decide +kernel
theorem dX11_feed_60 : decode cX11_feed 60 = .ok (.getfield 100, 3) := by decide +kernel
theorem dX11_feed_63 : decode cX11_feed 63 = .ok (.ireturn, 1) := by decide +kernel
theorem dX11_firm_0 : decode cX11_firm 0 = .ok (.aload_n 0, 1) := by decide +kernel
theorem dX11_firm_1 : decode cX11_firm 1 = .ok (.getfield 28, 3) := by decide +kernel
theorem dX11_firm_4 : decode cX11_firm 4 = .ok (.invokevirtual 166, 3) := by decide +kernel
theorem dX11_firm_7 : decode cX11_firm 7 = .ok (.ifCond .eq 13, 3) := by decide +kernel
theorem dX11_firm_20 : decode cX11_firm 20 = .ok (.bipush (-2), 2) := by decide +kernel
theorem dX11_firm_22 : decode cX11_firm 22 = .ok (.ireturn, 1) := by decide +kernel
theorem dX11_fits_0 : decode cX11_fits 0 = .ok (.aload_n 0, 1) := by decide +kernel
theorem dX11_fits_1 : decode cX11_fits 1 = .ok (.iload_n 1, 1) := by decide +kernel
theorem dX11_fits_2 : decode cX11_fits 2 = .ok (.invokevirtual 300, 3) := by decide +kernel
theorem dX11_fits_5 : decode cX11_fits 5 = .ok (.istore_n 2, 1) := by decide +kernel
theorem dX11_fits_6 : decode cX11_fits 6 = .ok (.iload_n 2, 1) := by decide +kernel
theorem dX11_fits_7 : decode cX11_fits 7 = .ok (.ifCond .eq 5, 3) := by decide +kernel
theorem dX11_fits_10 : decode cX11_fits 10 = .ok (.iload_n 2, 1) := by decide +kernel
theorem dX11_fits_11 : decode cX11_fits 11 = .ok (.ireturn, 1) := by decide +kernel
theorem dX11_full_0 : decode cX11_full 0 = .ok (.aload_n 0, 1) := by decide +kernel
theorem dX11_full_1 : decode cX11_full 1 = .ok (.iload_n 1, 1) := by decide +kernel
theorem dX11_full_2 : decode cX11_full 2 = .ok (.iconst 0, 1) := by decide +kernel
theorem dX11_full_3 : decode cX11_full 3 = .ok (.invokevirtual 237, 3) := by decide +kernel
theorem dX11_full_6 : decode cX11_full 6 = .ok (.ifCond .eq 17, 3) := by decide +kernel
theorem dX11_full_23 : decode cX11_full 23 = .ok (.bipush (-2), 2) := by decide +kernel
theorem dX11_full_25 : decode cX11_full 25 = .ok (.ireturn, 1) := by decide +kernel
theorem dX11_fulls_0 : decode cX11_fulls 0 = .ok (.aload_n 0, 1) := by decide +kernel
theorem dX11_fulls_1 : decode cX11_fulls 1 = .ok (.iload_n 1, 1) := by decide +kernel
theorem dX11_fulls_2 : decode cX11_fulls 2 = .ok (.iconst 0, 1) := by decide +kernel
theorem dX11_fulls_3 : decode cX11_fulls 3 = .ok (.invokevirtual 237, 3) := by decide +kernel
theorem dX11_fulls_6 : decode cX11_fulls 6 = .ok (.ifCond .eq 14, 3) := by decide +kernel
theorem dX11_fulls_20 : decode cX11_fulls 20 = .ok (.bipush (-2), 2) := by decide +kernel
theorem dX11_fulls_22 : decode cX11_fulls 22 = .ok (.ireturn, 1) := by decide +kernel
theorem dX11_gorge_0 : decode cX11_gorge 0 = .ok (.aload_n 0, 1) := by decide +kernel
theorem dX11_gorge_1 : decode cX11_gorge 1 = .ok (.getfield 21, 3) := by decide +kernel
theorem dX11_gorge_4 : decode cX11_gorge 4 = .ok (.invokevirtual 108, 3) := by decide +kernel
theorem dX11_gorge_7 : decode cX11_gorge 7 = .ok (.ifCond .ne 6, 3) := by decide +kernel
theorem dX11_gorge_13 : decode cX11_gorge 13 = .ok (.aload_n 0, 1) := by decide +kernel
theorem dX11_gorge_14 : decode cX11_gorge 14 = .ok (.getfield 28, 3) := by decide +kernel
theorem dX11_gorge_17 : decode cX11_gorge 17 = .ok (.aload_n 0, 1) := by decide +kernel
theorem dX11_gorge_18 : decode cX11_gorge 18 = .ok (.getfield 21, 3) := by decide +kernel
theorem dX11_gorge_21 : decode cX11_gorge 21 = .ok (.getfield 112, 3) := by decide +kernel
theorem dX11_gorge_24 : decode cX11_gorge 24 = .ok (.invokevirtual 115, 3) := by decide +kernel
theorem dX11_gorge_27 : decode cX11_gorge 27 = .ok (.aload_n 0, 1) := by decide +kernel
theorem dX11_gorge_28 : decode cX11_gorge 28 = .ok (.getfield 35, 3) := by decide +kernel
theorem dX11_gorge_31 : decode cX11_gorge 31 = .ok (.invokevirtual 118, 3) := by decide +kernel
theorem dX11_gorge_34 : decode cX11_gorge 34 = .ok (.aload_n 0, 1) := by decide +kernel
theorem dX11_gorge_35 : decode cX11_gorge 35 = .ok (.getfield 10, 3) := by decide +kernel
theorem dX11_gorge_38 : decode cX11_gorge 38 = .ok (.iconst 0, 1) := by decide +kernel
theorem dX11_gorge_39 : decode cX11_gorge 39 = .ok (.putfield 100, 3) := by decide +kernel
theorem dX11_gorge_42 : decode cX11_gorge 42 = .ok (.aload_n 0, 1) := by decide +kernel
theorem dX11_gorge_43 : decode cX11_gorge 43 = .ok (.getfield 28, 3) := by decide +kernel
theorem dX11_gorge_46 : decode cX11_gorge 46 = .ok (.getfield 121, 3) := by decide +kernel
theorem dX11_gorge_49 : decode cX11_gorge 49 = .ok (.ireturn, 1) := by decide +kernel
theorem dX11_grip_0 : decode cX11_grip 0 = .ok (.aload_n 0, 1) := by decide +kernel
theorem dX11_grip_1 : decode cX11_grip 1 = .ok (.getfield 28, 3) := by decide +kernel
theorem dX11_grip_4 : decode cX11_grip 4 = .ok (.iload_n 1, 1) := by decide +kernel
theorem dX11_grip_5 : decode cX11_grip 5 = .ok (.invokevirtual 130, 3) := by decide +kernel
theorem dX11_grip_8 : decode cX11_grip 8 = .ok (.ifCond .eq 13, 3) := by decide +kernel
theorem dX11_grip_21 : decode cX11_grip 21 = .ok (.bipush (-2), 2) := by decide +kernel
theorem dX11_grip_23 : decode cX11_grip 23 = .ok (.ireturn, 1) := by decide +kernel
theorem dX11_hold_0 : decode cX11_hold 0 = .ok (.aload_n 0, 1) := by decide +kernel
theorem dX11_hold_1 : decode cX11_hold 1 = .ok (.getfield 28, 3) := by decide +kernel
theorem dX11_hold_4 : decode cX11_hold 4 = .ok (.iload_n 1, 1) := by decide +kernel
theorem dX11_hold_5 : decode cX11_hold 5 = .ok (.iload_n 2, 1) := by decide +kernel
theorem dX11_hold_6 : decode cX11_hold 6 = .ok (.invokevirtual 199, 3) := by decide +kernel
theorem dX11_hold_9 : decode cX11_hold 9 = .ok (.ireturn, 1) := by decide +kernel
theorem dX11_image_0 : decode cX11_image 0 = .ok (.iload_n 1, 1) := by decide +kernel
theorem dX11_image_1 : decode cX11_image 1 = .ok (.iconst 0, 1) := by decide +kernel
theorem dX11_image_2 : decode cX11_image 2 = .ok (.iconst 2, 1) := by decide +kernel
theorem dX11_image_3 : decode cX11_image 3 = .ok (.invokestatic 104, 3) := by decide +kernel
theorem dX11_image_6 : decode cX11_image 6 = .ok (.ifCond .ne 6, 3) := by decide +kernel
theorem dX11_image_9 : decode cX11_image 9 = .ok (.bipush (-2), 2) := by decide +kernel
theorem dX11_image_11 : decode cX11_image 11 = .ok (.ireturn, 1) := by decide +kernel
theorem dX11_image_12 : decode cX11_image 12 = .ok (.aload_n 0, 1) := by decide +kernel
theorem dX11_image_13 : decode cX11_image 13 = .ok (.getfield 41, 3) := by decide +kernel
theorem dX11_image_16 : decode cX11_image 16 = .ok (.iload_n 1, 1) := by decide +kernel
theorem dX11_image_17 : decode cX11_image 17 = .ok (.aaload, 1) := by decide +kernel
theorem dX11_image_18 : decode cX11_image 18 = .ok (.iconst 1, 1) := by decide +kernel
theorem dX11_image_19 : decode cX11_image 19 = .ok (.putfield 389, 3) := by decide +kernel
theorem dX11_image_22 : decode cX11_image 22 = .ok (.aload_n 0, 1) := by decide +kernel
theorem dX11_image_23 : decode cX11_image 23 = .ok (.getfield 41, 3) := by decide +kernel
theorem dX11_image_26 : decode cX11_image 26 = .ok (.iload_n 1, 1) := by decide +kernel
theorem dX11_image_27 : decode cX11_image 27 = .ok (.aaload, 1) := by decide +kernel
theorem dX11_image_28 : decode cX11_image 28 = .ok (.getfield 393, 3) := by decide +kernel
theorem dX11_image_31 : decode cX11_image 31 = .ok (.aload_n 0, 1) := by decide +kernel
theorem dX11_image_32 : decode cX11_image 32 = .ok (.getfield 28, 3) := by decide +kernel
theorem dX11_image_35 : decode cX11_image 35 = .ok (.invokevirtual 115, 3) := by decide +kernel
theorem dX11_image_38 : decode cX11_image 38 = .ok (.aload_n 0, 1) := by decide +kernel
theorem dX11_image_39 : decode cX11_image 39 = .ok (.getfield 41, 3) := by decide +kernel
theorem dX11_image_42 : decode cX11_image 42 = .ok (.iload_n 1, 1) := by decide +kernel
theorem dX11_image_43 : decode cX11_image 43 = .ok (.aaload, 1) := by decide +kernel
theorem dX11_image_44 : decode cX11_image 44 = .ok (.getfield 394, 3) := by decide +kernel
theorem dX11_image_47 : decode cX11_image 47 = .ok (.aload_n 0, 1) := by decide +kernel
theorem dX11_image_48 : decode cX11_image 48 = .ok (.getfield 35, 3) := by decide +kernel
theorem dX11_image_51 : decode cX11_image 51 = .ok (.invokevirtual 395, 3) := by decide +kernel
end
section
theorem dX11_image_54 : decode cX11_image 54 = .ok (.iconst 0, 1) := by decide +kernel
theorem dX11_image_55 : decode cX11_image 55 = .ok (.ireturn, 1) := by decide +kernel
theorem dX11_init_0 : decode cX11_init 0 = .ok (.aload_n 0, 1) := by decide +kernel
theorem dX11_init_1 : decode cX11_init 1 = .ok (.invokespecial 1, 3) := by decide +kernel
theorem dX11_init_4 : decode cX11_init 4 = .ok (.aload_n 0, 1) := by decide +kernel
theorem dX11_init_5 : decode cX11_init 5 = .ok (.new 7, 3) := by decide +kernel
theorem dX11_init_8 : decode cX11_init 8 = .ok (.dup, 1) := by decide +kernel
theorem dX11_init_9 : decode cX11_init 9 = .ok (.invokespecial 9, 3) := by decide +kernel
theorem dX11_init_12 : decode cX11_init 12 = .ok (.putfield 10, 3) := by decide +kernel
theorem dX11_init_15 : decode cX11_init 15 = .ok (.aload_n 0, 1) := by decide +kernel
theorem dX11_init_16 : decode cX11_init 16 = .ok (.new 16, 3) := by decide +kernel
theorem dX11_init_19 : decode cX11_init 19 = .ok (.dup, 1) := by decide +kernel
theorem dX11_init_20 : decode cX11_init 20 = .ok (.aload_n 0, 1) := by decide +kernel
theorem dX11_init_21 : decode cX11_init 21 = .ok (.getfield 10, 3) := by decide +kernel
theorem dX11_init_24 : decode cX11_init 24 = .ok (.invokespecial 18, 3) := by decide +kernel
theorem dX11_init_27 : decode cX11_init 27 = .ok (.putfield 21, 3) := by decide +kernel
theorem dX11_init_30 : decode cX11_init 30 = .ok (.aload_n 0, 1) := by decide +kernel
theorem dX11_init_31 : decode cX11_init 31 = .ok (.new 25, 3) := by decide +kernel
theorem dX11_init_34 : decode cX11_init 34 = .ok (.dup, 1) := by decide +kernel
theorem dX11_init_35 : decode cX11_init 35 = .ok (.invokespecial 27, 3) := by decide +kernel
theorem dX11_init_38 : decode cX11_init 38 = .ok (.putfield 28, 3) := by decide +kernel
theorem dX11_init_41 : decode cX11_init 41 = .ok (.aload_n 0, 1) := by decide +kernel
theorem dX11_init_42 : decode cX11_init 42 = .ok (.new 32, 3) := by decide +kernel
theorem dX11_init_45 : decode cX11_init 45 = .ok (.dup, 1) := by decide +kernel
theorem dX11_init_46 : decode cX11_init 46 = .ok (.invokespecial 34, 3) := by decide +kernel
theorem dX11_init_49 : decode cX11_init 49 = .ok (.putfield 35, 3) := by decide +kernel
theorem dX11_init_52 : decode cX11_init 52 = .ok (.aload_n 0, 1) := by decide +kernel
theorem dX11_init_53 : decode cX11_init 53 = .ok (.iconst 3, 1) := by decide +kernel
theorem dX11_init_54 : decode cX11_init 54 = .ok (.anewarray 39, 3) := by decide +kernel
theorem dX11_init_57 : decode cX11_init 57 = .ok (.putfield 41, 3) := by decide +kernel
theorem dX11_init_60 : decode cX11_init 60 = .ok (.iconst 0, 1) := by decide +kernel
theorem dX11_init_61 : decode cX11_init 61 = .ok (.istore_n 1, 1) := by decide +kernel
theorem dX11_init_62 : decode cX11_init 62 = .ok (.iload_n 1, 1) := by decide +kernel
theorem dX11_init_63 : decode cX11_init 63 = .ok (.iconst 3, 1) := by decide +kernel
theorem dX11_init_64 : decode cX11_init 64 = .ok (.if_icmp .ge 22, 3) := by decide +kernel
theorem dX11_init_67 : decode cX11_init 67 = .ok (.aload_n 0, 1) := by decide +kernel
theorem dX11_init_68 : decode cX11_init 68 = .ok (.getfield 41, 3) := by decide +kernel
theorem dX11_init_71 : decode cX11_init 71 = .ok (.iload_n 1, 1) := by decide +kernel
theorem dX11_init_72 : decode cX11_init 72 = .ok (.new 39, 3) := by decide +kernel
theorem dX11_init_75 : decode cX11_init 75 = .ok (.dup, 1) := by decide +kernel
theorem dX11_init_76 : decode cX11_init 76 = .ok (.invokespecial 45, 3) := by decide +kernel
theorem dX11_init_79 : decode cX11_init 79 = .ok (.aastore, 1) := by decide +kernel
theorem dX11_init_80 : decode cX11_init 80 = .ok (.iinc 1 1, 3) := by decide +kernel
theorem dX11_init_83 : decode cX11_init 83 = .ok (.goto (-21), 3) := by decide +kernel
theorem dX11_init_86 : decode cX11_init 86 = .ok (.aload_n 0, 1) := by decide +kernel
theorem dX11_init_87 : decode cX11_init 87 = .ok (.new 46, 3) := by decide +kernel
theorem dX11_init_90 : decode cX11_init 90 = .ok (.dup, 1) := by decide +kernel
theorem dX11_init_91 : decode cX11_init 91 = .ok (.invokespecial 48, 3) := by decide +kernel
theorem dX11_init_94 : decode cX11_init 94 = .ok (.putfield 49, 3) := by decide +kernel
theorem dX11_init_97 : decode cX11_init 97 = .ok (.aload_n 0, 1) := by decide +kernel
theorem dX11_init_98 : decode cX11_init 98 = .ok (.new 53, 3) := by decide +kernel
theorem dX11_init_101 : decode cX11_init 101 = .ok (.dup, 1) := by decide +kernel
theorem dX11_init_102 : decode cX11_init 102 = .ok (.aload_n 0, 1) := by decide +kernel
theorem dX11_init_103 : decode cX11_init 103 = .ok (.getfield 28, 3) := by decide +kernel
theorem dX11_init_106 : decode cX11_init 106 = .ok (.invokespecial 55, 3) := by decide +kernel
theorem dX11_init_109 : decode cX11_init 109 = .ok (.putfield 58, 3) := by decide +kernel
theorem dX11_init_112 : decode cX11_init 112 = .ok (.aload_n 0, 1) := by decide +kernel
theorem dX11_init_113 : decode cX11_init 113 = .ok (.new 62, 3) := by decide +kernel
theorem dX11_init_116 : decode cX11_init 116 = .ok (.dup, 1) := by decide +kernel
theorem dX11_init_117 : decode cX11_init 117 = .ok (.aload_n 0, 1) := by decide +kernel
theorem dX11_init_118 : decode cX11_init 118 = .ok (.getfield 28, 3) := by decide +kernel
theorem dX11_init_121 : decode cX11_init 121 = .ok (.invokespecial 64, 3) := by decide +kernel
theorem dX11_init_124 : decode cX11_init 124 = .ok (.putfield 65, 3) := by decide +kernel
theorem dX11_init_127 : decode cX11_init 127 = .ok (.aload_n 0, 1) := by decide +kernel
theorem dX11_init_128 : decode cX11_init 128 = .ok (.new 69, 3) := by decide +kernel
theorem dX11_init_131 : decode cX11_init 131 = .ok (.dup, 1) := by decide +kernel
theorem dX11_init_132 : decode cX11_init 132 = .ok (.aload_n 0, 1) := by decide +kernel
theorem dX11_init_133 : decode cX11_init 133 = .ok (.getfield 28, 3) := by decide +kernel
theorem dX11_init_136 : decode cX11_init 136 = .ok (.invokespecial 71, 3) := by decide +kernel
theorem dX11_init_139 : decode cX11_init 139 = .ok (.putfield 72, 3) := by decide +kernel
theorem dX11_init_142 : decode cX11_init 142 = .ok (.aload_n 0, 1) := by decide +kernel
theorem dX11_init_143 : decode cX11_init 143 = .ok (.new 76, 3) := by decide +kernel
theorem dX11_init_146 : decode cX11_init 146 = .ok (.dup, 1) := by decide +kernel
theorem dX11_init_147 : decode cX11_init 147 = .ok (.aload_n 0, 1) := by decide +kernel
theorem dX11_init_148 : decode cX11_init 148 = .ok (.getfield 28, 3) := by decide +kernel
theorem dX11_init_151 : decode cX11_init 151 = .ok (.invokespecial 78, 3) := by decide +kernel
theorem dX11_init_154 : decode cX11_init 154 = .ok (.putfield 79, 3) := by decide +kernel
theorem dX11_init_157 : decode cX11_init 157 = .ok (.aload_n 0, 1) := by decide +kernel
theorem dX11_init_158 : decode cX11_init 158 = .ok (.new 83, 3) := by decide +kernel
theorem dX11_init_161 : decode cX11_init 161 = .ok (.dup, 1) := by decide +kernel
theorem dX11_init_162 : decode cX11_init 162 = .ok (.aload_n 0, 1) := by decide +kernel
theorem dX11_init_163 : decode cX11_init 163 = .ok (.getfield 28, 3) := by decide +kernel
theorem dX11_init_166 : decode cX11_init 166 = .ok (.aload_n 0, 1) := by decide +kernel
theorem dX11_init_167 : decode cX11_init 167 = .ok (.getfield 49, 3) := by decide +kernel
theorem dX11_init_170 : decode cX11_init 170 = .ok (.invokespecial 85, 3) := by decide +kernel
theorem dX11_init_173 : decode cX11_init 173 = .ok (.putfield 88, 3) := by decide +kernel
theorem dX11_init_176 : decode cX11_init 176 = .ok (.return_, 1) := by decide +kernel
theorem dX11_isHold_0 : decode cX11_isHold 0 = .ok (.aload_n 0, 1) := by decide +kernel
theorem dX11_isHold_1 : decode cX11_isHold 1 = .ok (.getfield 28, 3) := by decide +kernel
theorem dX11_isHold_4 : decode cX11_isHold 4 = .ok (.invokevirtual 166, 3) := by decide +kernel
theorem dX11_isHold_7 : decode cX11_isHold 7 = .ok (.ifCond .eq 17, 3) := by decide +kernel
theorem dX11_isHold_24 : decode cX11_isHold 24 = .ok (.iconst 0, 1) := by decide +kernel
theorem dX11_isHold_25 : decode cX11_isHold 25 = .ok (.ireturn, 1) := by decide +kernel
theorem dX11_isWithin_0 : decode cX11_isWithin 0 = .ok (.iload_n 0, 1) := by decide +kernel
theorem dX11_isWithin_1 : decode cX11_isWithin 1 = .ok (.iload_n 1, 1) := by decide +kernel
theorem dX11_isWithin_2 : decode cX11_isWithin 2 = .ok (.if_icmp .lt 12, 3) := by decide +kernel
theorem dX11_isWithin_5 : decode cX11_isWithin 5 = .ok (.iload_n 0, 1) := by decide +kernel
theorem dX11_isWithin_6 : decode cX11_isWithin 6 = .ok (.iload_n 2, 1) := by decide +kernel
theorem dX11_isWithin_7 : decode cX11_isWithin 7 = .ok (.if_icmp .gt 7, 3) := by decide +kernel
theorem dX11_isWithin_10 : decode cX11_isWithin 10 = .ok (.iconst 1, 1) := by decide +kernel
theorem dX11_isWithin_11 : decode cX11_isWithin 11 = .ok (.goto 4, 3) := by decide +kernel
theorem dX11_isWithin_14 : decode cX11_isWithin 14 = .ok (.iconst 0, 1) := by decide +kernel
theorem dX11_isWithin_15 : decode cX11_isWithin 15 = .ok (.ireturn, 1) := by decide +kernel
theorem dX11_kept_0 : decode cX11_kept 0 = .ok (.aload_n 0, 1) := by decide +kernel
theorem dX11_kept_1 : decode cX11_kept 1 = .ok (.getfield 28, 3) := by decide +kernel
theorem dX11_kept_4 : decode cX11_kept 4 = .ok (.invokevirtual 166, 3) := by decide +kernel
theorem dX11_kept_7 : decode cX11_kept 7 = .ok (.ifCond .eq 13, 3) := by decide +kernel
theorem dX11_kept_20 : decode cX11_kept 20 = .ok (.bipush (-2), 2) := by decide +kernel
theorem dX11_kept_22 : decode cX11_kept 22 = .ok (.ireturn, 1) := by decide +kernel
theorem dX11_least_0 : decode cX11_least 0 = .ok (.aload_n 0, 1) := by decide +kernel
theorem dX11_least_1 : decode cX11_least 1 = .ok (.iload_n 1, 1) := by decide +kernel
theorem dX11_least_2 : decode cX11_least 2 = .ok (.iconst 1, 1) := by decide +kernel
theorem dX11_least_3 : decode cX11_least 3 = .ok (.invokevirtual 237, 3) := by decide +kernel
theorem dX11_least_6 : decode cX11_least 6 = .ok (.ifCond .eq 14, 3) := by decide +kernel
theorem dX11_least_20 : decode cX11_least 20 = .ok (.bipush (-2), 2) := by decide +kernel
theorem dX11_least_22 : decode cX11_least 22 = .ok (.ireturn, 1) := by decide +kernel
theorem dX11_loners_0 : decode cX11_loners 0 = .ok (.aload_n 0, 1) := by decide +kernel
theorem dX11_loners_1 : decode cX11_loners 1 = .ok (.getfield 28, 3) := by decide +kernel
theorem dX11_loners_4 : decode cX11_loners 4 = .ok (.invokevirtual 166, 3) := by decide +kernel
theorem dX11_loners_7 : decode cX11_loners 7 = .ok (.ifCond .ne 6, 3) := by decide +kernel
theorem dX11_loners_10 : decode cX11_loners 10 = .ok (.bipush (-2), 2) := by decide +kernel
theorem dX11_loners_12 : decode cX11_loners 12 = .ok (.ireturn, 1) := by decide +kernel
theorem dX11_longest_0 : decode cX11_longest 0 = .ok (.aload_n 0, 1) := by decide +kernel
theorem dX11_longest_1 : decode cX11_longest 1 = .ok (.getfield 28, 3) := by decide +kernel
theorem dX11_longest_4 : decode cX11_longest 4 = .ok (.invokevirtual 166, 3) := by decide +kernel
theorem dX11_longest_7 : decode cX11_longest 7 = .ok (.ifCond .eq 16, 3) := by decide +kernel
theorem dX11_longest_23 : decode cX11_longest 23 = .ok (.bipush (-2), 2) := by decide +kernel
theorem dX11_longest_25 : decode cX11_longest 25 = .ok (.ireturn, 1) := by decide +kernel
theorem dX11_luck_0 : decode cX11_luck 0 = .ok (.iload_n 1, 1) := by decide +kernel
theorem dX11_luck_1 : decode cX11_luck 1 = .ok (.iconst 0, 1) := by decide +kernel
theorem dX11_luck_2 : decode cX11_luck 2 = .ok (.ldc 159, 2) := by decide +kernel
theorem dX11_luck_4 : decode cX11_luck 4 = .ok (.invokestatic 104, 3) := by decide +kernel
theorem dX11_luck_7 : decode cX11_luck 7 = .ok (.ifCond .eq 25, 3) := by decide +kernel
theorem dX11_luck_10 : decode cX11_luck 10 = .ok (.iload_n 2, 1) := by decide +kernel
theorem dX11_luck_11 : decode cX11_luck 11 = .ok (.iconst 1, 1) := by decide +kernel
theorem dX11_luck_12 : decode cX11_luck 12 = .ok (.bipush 20, 2) := by decide +kernel
theorem dX11_luck_14 : decode cX11_luck 14 = .ok (.invokestatic 104, 3) := by decide +kernel
theorem dX11_luck_17 : decode cX11_luck 17 = .ok (.ifCond .eq 15, 3) := by decide +kernel
theorem dX11_luck_20 : decode cX11_luck 20 = .ok (.aload_n 0, 1) := by decide +kernel
theorem dX11_luck_21 : decode cX11_luck 21 = .ok (.getfield 28, 3) := by decide +kernel
theorem dX11_luck_24 : decode cX11_luck 24 = .ok (.iload 5, 2) := by decide +kernel
theorem dX11_luck_26 : decode cX11_luck 26 = .ok (.invokevirtual 143, 3) := by decide +kernel
theorem dX11_luck_29 : decode cX11_luck 29 = .ok (.ifCond .ne 6, 3) := by decide +kernel
theorem dX11_luck_32 : decode cX11_luck 32 = .ok (.bipush (-2), 2) := by decide +kernel
theorem dX11_luck_34 : decode cX11_luck 34 = .ok (.ireturn, 1) := by decide +kernel
theorem dX11_man_0 : decode cX11_man 0 = .ok (.aload_n 0, 1) := by decide +kernel
theorem dX11_man_1 : decode cX11_man 1 = .ok (.getfield 28, 3) := by decide +kernel
theorem dX11_man_4 : decode cX11_man 4 = .ok (.iload_n 1, 1) := by decide +kernel
theorem dX11_man_5 : decode cX11_man 5 = .ok (.invokevirtual 130, 3) := by decide +kernel
theorem dX11_man_8 : decode cX11_man 8 = .ok (.ifCond .ne 6, 3) := by decide +kernel
theorem dX11_man_11 : decode cX11_man 11 = .ok (.bipush (-2), 2) := by decide +kernel
theorem dX11_man_13 : decode cX11_man 13 = .ok (.ireturn, 1) := by decide +kernel
theorem dX11_match_0 : decode cX11_match 0 = .ok (.aload_n 0, 1) := by decide +kernel
theorem dX11_match_1 : decode cX11_match 1 = .ok (.getfield 28, 3) := by decide +kernel
theorem dX11_match_4 : decode cX11_match 4 = .ok (.invokevirtual 166, 3) := by decide +kernel
theorem dX11_match_7 : decode cX11_match 7 = .ok (.ifCond .ne 6, 3) := by decide +kernel
theorem dX11_match_10 : decode cX11_match 10 = .ok (.bipush (-2), 2) := by decide +kernel
theorem dX11_match_12 : decode cX11_match 12 = .ok (.ireturn, 1) := by decide +kernel
theorem dX11_matched_0 : decode cX11_matched 0 = .ok (.aload_n 0, 1) := by decide +kernel
theorem dX11_matched_1 : decode cX11_matched 1 = .ok (.getfield 28, 3) := by decide +kernel
theorem dX11_matched_4 : decode cX11_matched 4 = .ok (.iload_n 1, 1) := by decide +kernel
theorem dX11_matched_5 : decode cX11_matched 5 = .ok (.invokevirtual 130, 3) := by decide +kernel
theorem dX11_matched_8 : decode cX11_matched 8 = .ok (.ifCond .ne 6, 3) := by decide +kernel
theorem dX11_matched_11 : decode cX11_matched 11 = .ok (.bipush (-2), 2) := by decide +kernel
theorem dX11_matched_13 : decode cX11_matched 13 = .ok (.ireturn, 1) := by decide +kernel
theorem dX11_mean_0 : decode cX11_mean 0 = .ok (.iload_n 3, 1) := by decide +kernel
theorem dX11_mean_1 : decode cX11_mean 1 = .ok (.iconst 0, 1) := by decide +kernel
theorem dX11_mean_2 : decode cX11_mean 2 = .ok (.iconst 1, 1) := by decide +kernel
theorem dX11_mean_3 : decode cX11_mean 3 = .ok (.invokestatic 104, 3) := by decide +kernel
theorem dX11_mean_6 : decode cX11_mean 6 = .ok (.ifCond .ne 7, 3) := by decide +kernel
theorem dX11_mean_9 : decode cX11_mean 9 = .ok (.ldc2_w 315, 3) := by decide +kernel
theorem dX11_mean_12 : decode cX11_mean 12 = .ok (.lreturn, 1) := by decide +kernel
theorem dX11_mean_13 : decode cX11_mean 13 = .ok (.aload_n 0, 1) := by decide +kernel
theorem dX11_mean_14 : decode cX11_mean 14 = .ok (.getfield 28, 3) := by decide +kernel
theorem dX11_mean_17 : decode cX11_mean 17 = .ok (.iload_n 1, 1) := by decide +kernel
theorem dX11_mean_18 : decode cX11_mean 18 = .ok (.iload_n 2, 1) := by decide +kernel
theorem dX11_mean_19 : decode cX11_mean 19 = .ok (.invokevirtual 199, 3) := by decide +kernel
theorem dX11_mean_22 : decode cX11_mean 22 = .ok (.istore 4, 2) := by decide +kernel
theorem dX11_mean_24 : decode cX11_mean 24 = .ok (.iload 4, 2) := by decide +kernel
theorem dX11_mean_26 : decode cX11_mean 26 = .ok (.ifCond .ge 7, 3) := by decide +kernel
theorem dX11_mean_29 : decode cX11_mean 29 = .ok (.iload 4, 2) := by decide +kernel
theorem dX11_mean_31 : decode cX11_mean 31 = .ok (.i2l, 1) := by decide +kernel
theorem dX11_mean_32 : decode cX11_mean 32 = .ok (.lreturn, 1) := by decide +kernel
theorem dX11_meet_0 : decode cX11_meet 0 = .ok (.aload_n 0, 1) := by decide +kernel
theorem dX11_meet_1 : decode cX11_meet 1 = .ok (.getfield 28, 3) := by decide +kernel
theorem dX11_meet_4 : decode cX11_meet 4 = .ok (.invokevirtual 166, 3) := by decide +kernel
theorem dX11_meet_7 : decode cX11_meet 7 = .ok (.ifCond .eq 14, 3) := by decide +kernel
theorem dX11_meet_21 : decode cX11_meet 21 = .ok (.bipush (-2), 2) := by decide +kernel
theorem dX11_meet_23 : decode cX11_meet 23 = .ok (.ireturn, 1) := by decide +kernel
theorem dX11_meetings_0 : decode cX11_meetings 0 = .ok (.aload_n 0, 1) := by decide +kernel
theorem dX11_meetings_1 : decode cX11_meetings 1 = .ok (.getfield 28, 3) := by decide +kernel
theorem dX11_meetings_4 : decode cX11_meetings 4 = .ok (.invokevirtual 166, 3) := by decide +kernel
theorem dX11_meetings_7 : decode cX11_meetings 7 = .ok (.ifCond .eq 14, 3) := by decide +kernel
theorem dX11_meetings_21 : decode cX11_meetings 21 = .ok (.bipush (-2), 2) := by decide +kernel
theorem dX11_meetings_23 : decode cX11_meetings 23 = .ok (.ireturn, 1) := by decide +kernel
theorem dX11_must_0 : decode cX11_must 0 = .ok (.aload_n 0, 1) := by decide +kernel
theorem dX11_must_1 : decode cX11_must 1 = .ok (.getfield 28, 3) := by decide +kernel
theorem dX11_must_4 : decode cX11_must 4 = .ok (.iload_n 1, 1) := by decide +kernel
theorem dX11_must_5 : decode cX11_must 5 = .ok (.invokevirtual 153, 3) := by decide +kernel
theorem dX11_must_8 : decode cX11_must 8 = .ok (.ifCond .eq 17, 3) := by decide +kernel
theorem dX11_must_25 : decode cX11_must 25 = .ok (.bipush (-2), 2) := by decide +kernel
theorem dX11_must_27 : decode cX11_must 27 = .ok (.ireturn, 1) := by decide +kernel
theorem dX11_musts_0 : decode cX11_musts 0 = .ok (.aload_n 0, 1) := by decide +kernel
theorem dX11_musts_1 : decode cX11_musts 1 = .ok (.getfield 28, 3) := by decide +kernel
theorem dX11_musts_4 : decode cX11_musts 4 = .ok (.iload_n 1, 1) := by decide +kernel
theorem dX11_musts_5 : decode cX11_musts 5 = .ok (.invokevirtual 153, 3) := by decide +kernel
theorem dX11_musts_8 : decode cX11_musts 8 = .ok (.ifCond .eq 14, 3) := by decide +kernel
theorem dX11_musts_22 : decode cX11_musts 22 = .ok (.bipush (-2), 2) := by decide +kernel
theorem dX11_musts_24 : decode cX11_musts 24 = .ok (.ireturn, 1) := by decide +kernel
theorem dX11_needs_0 : decode cX11_needs 0 = .ok (.aload_n 0, 1) := by decide +kernel
theorem dX11_needs_1 : decode cX11_needs 1 = .ok (.getfield 28, 3) := by decide +kernel
theorem dX11_needs_4 : decode cX11_needs 4 = .ok (.invokevirtual 166, 3) := by decide +kernel
theorem dX11_needs_7 : decode cX11_needs 7 = .ok (.ifCond .eq 13, 3) := by decide +kernel
theorem dX11_needs_20 : decode cX11_needs 20 = .ok (.bipush (-2), 2) := by decide +kernel
theorem dX11_needs_22 : decode cX11_needs 22 = .ok (.ireturn, 1) := by decide +kernel
theorem dX11_next_0 : decode cX11_next 0 = .ok (.aload_n 0, 1) := by decide +kernel
theorem dX11_next_1 : decode cX11_next 1 = .ok (.getfield 28, 3) := by decide +kernel
theorem dX11_next_4 : decode cX11_next 4 = .ok (.invokevirtual 166, 3) := by decide +kernel
theorem dX11_next_7 : decode cX11_next 7 = .ok (.ifCond .eq 14, 3) := by decide +kernel
theorem dX11_next_21 : decode cX11_next 21 = .ok (.bipush (-2), 2) := by decide +kernel
theorem dX11_next_23 : decode cX11_next 23 = .ok (.ireturn, 1) := by decide +kernel
theorem dX11_now_0 : decode cX11_now 0 = .ok (.aload_n 0, 1) := by decide +kernel
theorem dX11_now_1 : decode cX11_now 1 = .ok (.getfield 28, 3) := by decide +kernel
theorem dX11_now_4 : decode cX11_now 4 = .ok (.invokevirtual 166, 3) := by decide +kernel
theorem dX11_now_7 : decode cX11_now 7 = .ok (.ifCond .ne 7, 3) := by decide +kernel
theorem dX11_now_10 : decode cX11_now 10 = .ok (.sipush (-1000), 3) := by decide +kernel
theorem dX11_now_13 : decode cX11_now 13 = .ok (.ireturn, 1) := by decide +kernel
theorem dX11_often_0 : decode cX11_often 0 = .ok (.aload_n 0, 1) := by decide +kernel
theorem dX11_often_1 : decode cX11_often 1 = .ok (.getfield 28, 3) := by decide +kernel
theorem dX11_often_4 : decode cX11_often 4 = .ok (.invokevirtual 166, 3) := by decide +kernel
theorem dX11_often_7 : decode cX11_often 7 = .ok (.ifCond .eq 14, 3) := by decide +kernel
theorem dX11_often_21 : decode cX11_often 21 = .ok (.bipush (-2), 2) := by decide +kernel
theorem dX11_often_23 : decode cX11_often 23 = .ok (.ireturn, 1) := by decide +kernel
theorem dX11_once_0 : decode cX11_once 0 = .ok (.aload_n 0, 1) := by decide +kernel
theorem dX11_once_1 : decode cX11_once 1 = .ok (.iload_n 1, 1) := by decide +kernel
theorem dX11_once_2 : decode cX11_once 2 = .ok (.iconst 0, 1) := by decide +kernel
theorem dX11_once_3 : decode cX11_once 3 = .ok (.invokevirtual 237, 3) := by decide +kernel
theorem dX11_once_6 : decode cX11_once 6 = .ok (.ifCond .eq 21, 3) := by decide +kernel
theorem dX11_once_27 : decode cX11_once 27 = .ok (.bipush (-2), 2) := by decide +kernel
theorem dX11_once_29 : decode cX11_once 29 = .ok (.ireturn, 1) := by decide +kernel
theorem dX11_onces_0 : decode cX11_onces 0 = .ok (.aload_n 0, 1) := by decide +kernel
theorem dX11_onces_1 : decode cX11_onces 1 = .ok (.iload_n 1, 1) := by decide +kernel
theorem dX11_onces_2 : decode cX11_onces 2 = .ok (.iconst 0, 1) := by decide +kernel
theorem dX11_onces_3 : decode cX11_onces 3 = .ok (.invokevirtual 237, 3) := by decide +kernel
theorem dX11_onces_6 : decode cX11_onces 6 = .ok (.ifCond .eq 14, 3) := by decide +kernel
theorem dX11_onces_20 : decode cX11_onces 20 = .ok (.bipush (-2), 2) := by decide +kernel
theorem dX11_onces_22 : decode cX11_onces 22 = .ok (.ireturn, 1) := by decide +kernel
theorem dX11_order_0 : decode cX11_order 0 = .ok (.aload_n 0, 1) := by decide +kernel
theorem dX11_order_1 : decode cX11_order 1 = .ok (.iload_n 1, 1) := by decide +kernel
theorem dX11_order_2 : decode cX11_order 2 = .ok (.iconst 1, 1) := by decide +kernel
theorem dX11_order_3 : decode cX11_order 3 = .ok (.invokevirtual 237, 3) := by decide +kernel
theorem dX11_order_6 : decode cX11_order 6 = .ok (.ifCond .eq 15, 3) := by decide +kernel
theorem dX11_order_21 : decode cX11_order 21 = .ok (.bipush (-2), 2) := by decide +kernel
theorem dX11_order_23 : decode cX11_order 23 = .ok (.ireturn, 1) := by decide +kernel
theorem dX11_out_0 : decode cX11_out 0 = .ok (.aload_n 0, 1) := by decide +kernel
theorem dX11_out_1 : decode cX11_out 1 = .ok (.getfield 28, 3) := by decide +kernel
theorem dX11_out_4 : decode cX11_out 4 = .ok (.iload_n 1, 1) := by decide +kernel
theorem dX11_out_5 : decode cX11_out 5 = .ok (.invokevirtual 153, 3) := by decide +kernel
theorem dX11_out_8 : decode cX11_out 8 = .ok (.ifCond .eq 13, 3) := by decide +kernel
theorem dX11_out_21 : decode cX11_out 21 = .ok (.bipush (-2), 2) := by decide +kernel
theorem dX11_out_23 : decode cX11_out 23 = .ok (.ireturn, 1) := by decide +kernel
theorem dX11_pair_0 : decode cX11_pair 0 = .ok (.aload_n 0, 1) := by decide +kernel
theorem dX11_pair_1 : decode cX11_pair 1 = .ok (.getfield 28, 3) := by decide +kernel
theorem dX11_pair_4 : decode cX11_pair 4 = .ok (.invokevirtual 166, 3) := by decide +kernel
theorem dX11_pair_7 : decode cX11_pair 7 = .ok (.ifCond .ne 6, 3) := by decide +kernel
theorem dX11_pair_10 : decode cX11_pair 10 = .ok (.bipush (-2), 2) := by decide +kernel
theorem dX11_pair_12 : decode cX11_pair 12 = .ok (.ireturn, 1) := by decide +kernel
theorem dX11_partner_0 : decode cX11_partner 0 = .ok (.aload_n 0, 1) := by decide +kernel
theorem dX11_partner_1 : decode cX11_partner 1 = .ok (.getfield 28, 3) := by decide +kernel
theorem dX11_partner_4 : decode cX11_partner 4 = .ok (.iload_n 1, 1) := by decide +kernel
theorem dX11_partner_5 : decode cX11_partner 5 = .ok (.invokevirtual 130, 3) := by decide +kernel
theorem dX11_partner_8 : decode cX11_partner 8 = .ok (.ifCond .eq 14, 3) := by decide +kernel
theorem dX11_partner_22 : decode cX11_partner 22 = .ok (.bipush (-2), 2) := by decide +kernel
theorem dX11_partner_24 : decode cX11_partner 24 = .ok (.ireturn, 1) := by decide +kernel
theorem dX11_paste_0 : decode cX11_paste 0 = .ok (.aload_n 0, 1) := by decide +kernel
theorem dX11_paste_1 : decode cX11_paste 1 = .ok (.getfield 49, 3) := by decide +kernel
theorem dX11_paste_4 : decode cX11_paste 4 = .ok (.iload_n 1, 1) := by decide +kernel
theorem dX11_paste_5 : decode cX11_paste 5 = .ok (.invokevirtual 398, 3) := by decide +kernel
theorem dX11_paste_8 : decode cX11_paste 8 = .ok (.ifCond .eq 14, 3) := by decide +kernel
theorem dX11_paste_11 : decode cX11_paste 11 = .ok (.aload_n 0, 1) := by decide +kernel
theorem dX11_paste_12 : decode cX11_paste 12 = .ok (.getfield 49, 3) := by decide +kernel
theorem dX11_paste_15 : decode cX11_paste 15 = .ok (.iload_n 3, 1) := by decide +kernel
theorem dX11_paste_16 : decode cX11_paste 16 = .ok (.invokevirtual 398, 3) := by decide +kernel
theorem dX11_paste_19 : decode cX11_paste 19 = .ok (.ifCond .ne 6, 3) := by decide +kernel
theorem dX11_paste_22 : decode cX11_paste 22 = .ok (.bipush (-2), 2) := by decide +kernel
theorem dX11_paste_24 : decode cX11_paste 24 = .ok (.ireturn, 1) := by decide +kernel
theorem dX11_paste_25 : decode cX11_paste 25 = .ok (.aload_n 0, 1) := by decide +kernel
theorem dX11_paste_26 : decode cX11_paste 26 = .ok (.getfield 49, 3) := by decide +kernel
theorem dX11_paste_29 : decode cX11_paste 29 = .ok (.iload_n 1, 1) := by decide +kernel
theorem dX11_paste_30 : decode cX11_paste 30 = .ok (.invokevirtual 405, 3) := by decide +kernel
theorem dX11_paste_33 : decode cX11_paste 33 = .ok (.ifCond .ne 14, 3) := by decide +kernel
theorem dX11_paste_47 : decode cX11_paste 47 = .ok (.bipush (-6), 2) := by decide +kernel
theorem dX11_paste_49 : decode cX11_paste 49 = .ok (.ireturn, 1) := by decide +kernel
theorem dX11_push_0 : decode cX11_push 0 = .ok (.aload_n 0, 1) := by decide +kernel
theorem dX11_push_1 : decode cX11_push 1 = .ok (.getfield 28, 3) := by decide +kernel
theorem dX11_push_4 : decode cX11_push 4 = .ok (.iload_n 1, 1) := by decide +kernel
theorem dX11_push_5 : decode cX11_push 5 = .ok (.invokevirtual 153, 3) := by decide +kernel
theorem dX11_push_8 : decode cX11_push 8 = .ok (.ifCond .eq 13, 3) := by decide +kernel
theorem dX11_push_21 : decode cX11_push 21 = .ok (.bipush (-2), 2) := by decide +kernel
theorem dX11_push_23 : decode cX11_push 23 = .ok (.ireturn, 1) := by decide +kernel
theorem dX11_pushes_0 : decode cX11_pushes 0 = .ok (.aload_n 0, 1) := by decide +kernel
theorem dX11_pushes_1 : decode cX11_pushes 1 = .ok (.getfield 28, 3) := by decide +kernel
theorem dX11_pushes_4 : decode cX11_pushes 4 = .ok (.invokevirtual 166, 3) := by decide +kernel
theorem dX11_pushes_7 : decode cX11_pushes 7 = .ok (.ifCond .eq 14, 3) := by decide +kernel
theorem dX11_pushes_21 : decode cX11_pushes 21 = .ok (.bipush (-2), 2) := by decide +kernel
theorem dX11_pushes_23 : decode cX11_pushes 23 = .ok (.ireturn, 1) := by decide +kernel
theorem dX11_resin_0 : decode cX11_resin 0 = .ok (.iload_n 3, 1) := by decide +kernel
theorem dX11_resin_1 : decode cX11_resin 1 = .ok (.iconst 0, 1) := by decide +kernel
theorem dX11_resin_2 : decode cX11_resin 2 = .ok (.aload_n 0, 1) := by decide +kernel
theorem dX11_resin_3 : decode cX11_resin 3 = .ok (.getfield 28, 3) := by decide +kernel
theorem dX11_resin_6 : decode cX11_resin 6 = .ok (.getfield 220, 3) := by decide +kernel
theorem dX11_resin_9 : decode cX11_resin 9 = .ok (.invokestatic 104, 3) := by decide +kernel
theorem dX11_resin_12 : decode cX11_resin 12 = .ok (.ifCond .ne 6, 3) := by decide +kernel
theorem dX11_resin_15 : decode cX11_resin 15 = .ok (.bipush (-2), 2) := by decide +kernel
theorem dX11_resin_17 : decode cX11_resin 17 = .ok (.ireturn, 1) := by decide +kernel
theorem dX11_resin_18 : decode cX11_resin 18 = .ok (.aload_n 0, 1) := by decide +kernel
theorem dX11_resin_19 : decode cX11_resin 19 = .ok (.getfield 28, 3) := by decide +kernel
theorem dX11_resin_22 : decode cX11_resin 22 = .ok (.iload_n 1, 1) := by decide +kernel
theorem dX11_resin_23 : decode cX11_resin 23 = .ok (.iload_n 2, 1) := by decide +kernel
theorem dX11_resin_24 : decode cX11_resin 24 = .ok (.invokevirtual 199, 3) := by decide +kernel
theorem dX11_resin_27 : decode cX11_resin 27 = .ok (.istore 4, 2) := by decide +kernel
theorem dX11_resin_29 : decode cX11_resin 29 = .ok (.iload 4, 2) := by decide +kernel
theorem dX11_resin_31 : decode cX11_resin 31 = .ok (.ifCond .ge 8, 3) := by decide +kernel
theorem dX11_resin_34 : decode cX11_resin 34 = .ok (.iload 4, 2) := by decide +kernel
theorem dX11_resin_36 : decode cX11_resin 36 = .ok (.goto 13, 3) := by decide +kernel
theorem dX11_resin_49 : decode cX11_resin 49 = .ok (.ireturn, 1) := by decide +kernel
theorem dX11_rests_0 : decode cX11_rests 0 = .ok (.aload_n 0, 1) := by decide +kernel
theorem dX11_rests_1 : decode cX11_rests 1 = .ok (.getfield 28, 3) := by decide +kernel
theorem dX11_rests_4 : decode cX11_rests 4 = .ok (.iload_n 1, 1) := by decide +kernel
theorem dX11_rests_5 : decode cX11_rests 5 = .ok (.invokevirtual 143, 3) := by decide +kernel
theorem dX11_rests_8 : decode cX11_rests 8 = .ok (.ifCond .eq 13, 3) := by decide +kernel
theorem dX11_rests_21 : decode cX11_rests 21 = .ok (.bipush (-2), 2) := by decide +kernel
theorem dX11_rests_23 : decode cX11_rests 23 = .ok (.ireturn, 1) := by decide +kernel
theorem dX11_row_0 : decode cX11_row 0 = .ok (.aload_n 0, 1) := by decide +kernel
theorem dX11_row_1 : decode cX11_row 1 = .ok (.getfield 49, 3) := by decide +kernel
theorem dX11_row_4 : decode cX11_row 4 = .ok (.iload_n 1, 1) := by decide +kernel
theorem dX11_row_5 : decode cX11_row 5 = .ok (.invokevirtual 398, 3) := by decide +kernel
theorem dX11_row_8 : decode cX11_row 8 = .ok (.ifCond .eq 18, 3) := by decide +kernel
theorem dX11_row_11 : decode cX11_row 11 = .ok (.iload_n 2, 1) := by decide +kernel
theorem dX11_row_12 : decode cX11_row 12 = .ok (.iconst 0, 1) := by decide +kernel
theorem dX11_row_13 : decode cX11_row 13 = .ok (.iconst 3, 1) := by decide +kernel
theorem dX11_row_14 : decode cX11_row 14 = .ok (.invokestatic 104, 3) := by decide +kernel
theorem dX11_row_17 : decode cX11_row 17 = .ok (.ifCond .eq 9, 3) := by decide +kernel
theorem dX11_row_20 : decode cX11_row 20 = .ok (.iload_n 3, 1) := by decide +kernel
theorem dX11_row_21 : decode cX11_row 21 = .ok (.bipush 60, 2) := by decide +kernel
theorem dX11_row_23 : decode cX11_row 23 = .ok (.if_icmp .le 6, 3) := by decide +kernel
theorem dX11_row_26 : decode cX11_row 26 = .ok (.bipush (-2), 2) := by decide +kernel
theorem dX11_row_28 : decode cX11_row 28 = .ok (.ireturn, 1) := by decide +kernel
theorem dX11_row_29 : decode cX11_row 29 = .ok (.iload_n 3, 1) := by decide +kernel
theorem dX11_row_30 : decode cX11_row 30 = .ok (.ifCond .ge 6, 3) := by decide +kernel
theorem dX11_row_33 : decode cX11_row 33 = .ok (.bipush (-3), 2) := by decide +kernel
theorem dX11_row_35 : decode cX11_row 35 = .ok (.ireturn, 1) := by decide +kernel
theorem dX11_row_36 : decode cX11_row 36 = .ok (.aload_n 0, 1) := by decide +kernel
theorem dX11_row_37 : decode cX11_row 37 = .ok (.getfield 49, 3) := by decide +kernel
theorem dX11_row_40 : decode cX11_row 40 = .ok (.iload_n 1, 1) := by decide +kernel
theorem dX11_row_41 : decode cX11_row 41 = .ok (.iload_n 2, 1) := by decide +kernel
theorem dX11_row_42 : decode cX11_row 42 = .ok (.iload_n 3, 1) := by decide +kernel
theorem dX11_row_43 : decode cX11_row 43 = .ok (.invokevirtual 401, 3) := by decide +kernel
theorem dX11_row_46 : decode cX11_row 46 = .ok (.iconst 0, 1) := by decide +kernel
theorem dX11_row_47 : decode cX11_row 47 = .ok (.ireturn, 1) := by decide +kernel
theorem dX11_saidRefusal_0 : decode cX11_saidRefusal 0 = .ok (.aload_n 0, 1) := by decide +kernel
theorem dX11_saidRefusal_1 : decode cX11_saidRefusal 1 = .ok (.iload_n 2, 1) := by decide +kernel
theorem dX11_saidRefusal_2 : decode cX11_saidRefusal 2 = .ok (.iconst 1, 1) := by decide +kernel
theorem dX11_saidRefusal_3 : decode cX11_saidRefusal 3 = .ok (.invokevirtual 237, 3) := by decide +kernel
theorem dX11_saidRefusal_6 : decode cX11_saidRefusal 6 = .ok (.ifCond .eq 14, 3) := by decide +kernel
theorem dX11_saidRefusal_20 : decode cX11_saidRefusal 20 = .ok (.bipush (-2), 2) := by decide +kernel
theorem dX11_saidRefusal_22 : decode cX11_saidRefusal 22 = .ok (.ireturn, 1) := by decide +kernel
theorem dX11_sign_0 : decode cX11_sign 0 = .ok (.aload_n 0, 1) := by decide +kernel
theorem dX11_sign_1 : decode cX11_sign 1 = .ok (.getfield 28, 3) := by decide +kernel
theorem dX11_sign_4 : decode cX11_sign 4 = .ok (.iload_n 1, 1) := by decide +kernel
theorem dX11_sign_5 : decode cX11_sign 5 = .ok (.invokevirtual 143, 3) := by decide +kernel
theorem dX11_sign_8 : decode cX11_sign 8 = .ok (.ifCond .ne 6, 3) := by decide +kernel
theorem dX11_sign_11 : decode cX11_sign 11 = .ok (.bipush (-2), 2) := by decide +kernel
theorem dX11_sign_13 : decode cX11_sign 13 = .ok (.ireturn, 1) := by decide +kernel
theorem dX11_signs_0 : decode cX11_signs 0 = .ok (.aload_n 0, 1) := by decide +kernel
theorem dX11_signs_1 : decode cX11_signs 1 = .ok (.getfield 28, 3) := by decide +kernel
theorem dX11_signs_4 : decode cX11_signs 4 = .ok (.invokevirtual 166, 3) := by decide +kernel
theorem dX11_signs_7 : decode cX11_signs 7 = .ok (.ifCond .eq 13, 3) := by decide +kernel
theorem dX11_signs_20 : decode cX11_signs 20 = .ok (.bipush (-2), 2) := by decide +kernel
theorem dX11_signs_22 : decode cX11_signs 22 = .ok (.ireturn, 1) := by decide +kernel
theorem dX11_soonest_0 : decode cX11_soonest 0 = .ok (.aload_n 0, 1) := by decide +kernel
theorem dX11_soonest_1 : decode cX11_soonest 1 = .ok (.getfield 28, 3) := by decide +kernel
theorem dX11_soonest_4 : decode cX11_soonest 4 = .ok (.invokevirtual 166, 3) := by decide +kernel
theorem dX11_soonest_7 : decode cX11_soonest 7 = .ok (.ifCond .ne 6, 3) := by decide +kernel
theorem dX11_soonest_10 : decode cX11_soonest 10 = .ok (.bipush (-2), 2) := by decide +kernel
theorem dX11_soonest_12 : decode cX11_soonest 12 = .ok (.ireturn, 1) := by decide +kernel
theorem dX11_spare_0 : decode cX11_spare 0 = .ok (.aload_n 0, 1) := by decide +kernel
theorem dX11_spare_1 : decode cX11_spare 1 = .ok (.getfield 28, 3) := by decide +kernel
theorem dX11_spare_4 : decode cX11_spare 4 = .ok (.iload_n 1, 1) := by decide +kernel
theorem dX11_spare_5 : decode cX11_spare 5 = .ok (.iload_n 2, 1) := by decide +kernel
theorem dX11_spare_6 : decode cX11_spare 6 = .ok (.invokevirtual 199, 3) := by decide +kernel
theorem dX11_spare_9 : decode cX11_spare 9 = .ok (.istore_n 3, 1) := by decide +kernel
theorem dX11_spare_10 : decode cX11_spare 10 = .ok (.iload_n 3, 1) := by decide +kernel
theorem dX11_spare_11 : decode cX11_spare 11 = .ok (.ifCond .ge 5, 3) := by decide +kernel
theorem dX11_spare_14 : decode cX11_spare 14 = .ok (.iload_n 3, 1) := by decide +kernel
theorem dX11_spare_15 : decode cX11_spare 15 = .ok (.ireturn, 1) := by decide +kernel
theorem dX11_stands_0 : decode cX11_stands 0 = .ok (.aload_n 0, 1) := by decide +kernel
theorem dX11_stands_1 : decode cX11_stands 1 = .ok (.getfield 28, 3) := by decide +kernel
theorem dX11_stands_4 : decode cX11_stands 4 = .ok (.invokevirtual 166, 3) := by decide +kernel
theorem dX11_stands_7 : decode cX11_stands 7 = .ok (.ifCond .ne 6, 3) := by decide +kernel
end
section
theorem dX11_stands_10 : decode cX11_stands 10 = .ok (.bipush (-2), 2) := by decide +kernel
theorem dX11_stands_12 : decode cX11_stands 12 = .ok (.ireturn, 1) := by decide +kernel
theorem dX11_start_0 : decode cX11_start 0 = .ok (.aload_n 0, 1) := by decide +kernel
theorem dX11_start_1 : decode cX11_start 1 = .ok (.getfield 28, 3) := by decide +kernel
theorem dX11_start_4 : decode cX11_start 4 = .ok (.iload_n 1, 1) := by decide +kernel
theorem dX11_start_5 : decode cX11_start 5 = .ok (.invokevirtual 153, 3) := by decide +kernel
theorem dX11_start_8 : decode cX11_start 8 = .ok (.ifCond .eq 14, 3) := by decide +kernel
theorem dX11_start_22 : decode cX11_start 22 = .ok (.bipush (-2), 2) := by decide +kernel
theorem dX11_start_24 : decode cX11_start 24 = .ok (.ireturn, 1) := by decide +kernel
theorem dX11_strong_0 : decode cX11_strong 0 = .ok (.aload_n 0, 1) := by decide +kernel
theorem dX11_strong_1 : decode cX11_strong 1 = .ok (.getfield 28, 3) := by decide +kernel
theorem dX11_strong_4 : decode cX11_strong 4 = .ok (.iload_n 1, 1) := by decide +kernel
theorem dX11_strong_5 : decode cX11_strong 5 = .ok (.invokevirtual 153, 3) := by decide +kernel
theorem dX11_strong_8 : decode cX11_strong 8 = .ok (.ifCond .ne 6, 3) := by decide +kernel
theorem dX11_strong_11 : decode cX11_strong 11 = .ok (.bipush (-2), 2) := by decide +kernel
theorem dX11_strong_13 : decode cX11_strong 13 = .ok (.ireturn, 1) := by decide +kernel
theorem dX11_sure_0 : decode cX11_sure 0 = .ok (.iload_n 3, 1) := by decide +kernel
theorem dX11_sure_1 : decode cX11_sure 1 = .ok (.iconst 0, 1) := by decide +kernel
theorem dX11_sure_2 : decode cX11_sure 2 = .ok (.bipush 100, 2) := by decide +kernel
theorem dX11_sure_4 : decode cX11_sure 4 = .ok (.invokestatic 104, 3) := by decide +kernel
theorem dX11_sure_7 : decode cX11_sure 7 = .ok (.ifCond .ne 6, 3) := by decide +kernel
theorem dX11_sure_10 : decode cX11_sure 10 = .ok (.bipush (-2), 2) := by decide +kernel
theorem dX11_sure_12 : decode cX11_sure 12 = .ok (.ireturn, 1) := by decide +kernel
theorem dX11_sure_13 : decode cX11_sure 13 = .ok (.aload_n 0, 1) := by decide +kernel
theorem dX11_sure_14 : decode cX11_sure 14 = .ok (.getfield 28, 3) := by decide +kernel
theorem dX11_sure_17 : decode cX11_sure 17 = .ok (.iload_n 1, 1) := by decide +kernel
theorem dX11_sure_18 : decode cX11_sure 18 = .ok (.iload_n 2, 1) := by decide +kernel
theorem dX11_sure_19 : decode cX11_sure 19 = .ok (.invokevirtual 199, 3) := by decide +kernel
theorem dX11_sure_22 : decode cX11_sure 22 = .ok (.istore 4, 2) := by decide +kernel
theorem dX11_sure_24 : decode cX11_sure 24 = .ok (.iload 4, 2) := by decide +kernel
theorem dX11_sure_26 : decode cX11_sure 26 = .ok (.ifCond .ge 6, 3) := by decide +kernel
theorem dX11_sure_29 : decode cX11_sure 29 = .ok (.iload 4, 2) := by decide +kernel
theorem dX11_sure_31 : decode cX11_sure 31 = .ok (.ireturn, 1) := by decide +kernel
theorem dX11_swing_0 : decode cX11_swing 0 = .ok (.aload_n 0, 1) := by decide +kernel
theorem dX11_swing_1 : decode cX11_swing 1 = .ok (.getfield 28, 3) := by decide +kernel
theorem dX11_swing_4 : decode cX11_swing 4 = .ok (.iload_n 1, 1) := by decide +kernel
theorem dX11_swing_5 : decode cX11_swing 5 = .ok (.iload_n 2, 1) := by decide +kernel
theorem dX11_swing_6 : decode cX11_swing 6 = .ok (.invokevirtual 199, 3) := by decide +kernel
theorem dX11_swing_9 : decode cX11_swing 9 = .ok (.istore_n 3, 1) := by decide +kernel
theorem dX11_swing_10 : decode cX11_swing 10 = .ok (.iload_n 3, 1) := by decide +kernel
theorem dX11_swing_11 : decode cX11_swing 11 = .ok (.ifCond .ge 6, 3) := by decide +kernel
theorem dX11_swing_14 : decode cX11_swing 14 = .ok (.bipush (-2), 2) := by decide +kernel
theorem dX11_swing_16 : decode cX11_swing 16 = .ok (.ireturn, 1) := by decide +kernel
theorem dX11_tired_0 : decode cX11_tired 0 = .ok (.aload_n 0, 1) := by decide +kernel
theorem dX11_tired_1 : decode cX11_tired 1 = .ok (.iload_n 1, 1) := by decide +kernel
theorem dX11_tired_2 : decode cX11_tired 2 = .ok (.invokevirtual 300, 3) := by decide +kernel
theorem dX11_tired_5 : decode cX11_tired 5 = .ok (.istore_n 2, 1) := by decide +kernel
theorem dX11_tired_6 : decode cX11_tired 6 = .ok (.iload_n 2, 1) := by decide +kernel
theorem dX11_tired_7 : decode cX11_tired 7 = .ok (.ifCond .eq 5, 3) := by decide +kernel
theorem dX11_tired_10 : decode cX11_tired 10 = .ok (.iload_n 2, 1) := by decide +kernel
theorem dX11_tired_11 : decode cX11_tired 11 = .ok (.ireturn, 1) := by decide +kernel
theorem dX11_toldRefusal_0 : decode cX11_toldRefusal 0 = .ok (.aload_n 0, 1) := by decide +kernel
theorem dX11_toldRefusal_1 : decode cX11_toldRefusal 1 = .ok (.getfield 28, 3) := by decide +kernel
theorem dX11_toldRefusal_4 : decode cX11_toldRefusal 4 = .ok (.invokevirtual 166, 3) := by decide +kernel
theorem dX11_toldRefusal_7 : decode cX11_toldRefusal 7 = .ok (.ifCond .eq 14, 3) := by decide +kernel
theorem dX11_toldRefusal_21 : decode cX11_toldRefusal 21 = .ok (.bipush (-2), 2) := by decide +kernel
theorem dX11_toldRefusal_23 : decode cX11_toldRefusal 23 = .ok (.ireturn, 1) := by decide +kernel
theorem dX11_undo_0 : decode cX11_undo 0 = .ok (.aload_n 0, 1) := by decide +kernel
theorem dX11_undo_1 : decode cX11_undo 1 = .ok (.getfield 28, 3) := by decide +kernel
theorem dX11_undo_4 : decode cX11_undo 4 = .ok (.invokevirtual 166, 3) := by decide +kernel
theorem dX11_undo_7 : decode cX11_undo 7 = .ok (.ifCond .ne 6, 3) := by decide +kernel
theorem dX11_undo_10 : decode cX11_undo 10 = .ok (.bipush (-2), 2) := by decide +kernel
theorem dX11_undo_12 : decode cX11_undo 12 = .ok (.ireturn, 1) := by decide +kernel
theorem dX11_veto_0 : decode cX11_veto 0 = .ok (.aload_n 0, 1) := by decide +kernel
theorem dX11_veto_1 : decode cX11_veto 1 = .ok (.getfield 28, 3) := by decide +kernel
theorem dX11_veto_4 : decode cX11_veto 4 = .ok (.iload_n 1, 1) := by decide +kernel
theorem dX11_veto_5 : decode cX11_veto 5 = .ok (.invokevirtual 153, 3) := by decide +kernel
theorem dX11_veto_8 : decode cX11_veto 8 = .ok (.ifCond .ne 6, 3) := by decide +kernel
theorem dX11_veto_11 : decode cX11_veto 11 = .ok (.bipush (-2), 2) := by decide +kernel
theorem dX11_veto_13 : decode cX11_veto 13 = .ok (.ireturn, 1) := by decide +kernel
theorem dX11_waits_0 : decode cX11_waits 0 = .ok (.aload_n 0, 1) := by decide +kernel
theorem dX11_waits_1 : decode cX11_waits 1 = .ok (.iload_n 1, 1) := by decide +kernel
theorem dX11_waits_2 : decode cX11_waits 2 = .ok (.iload_n 2, 1) := by decide +kernel
theorem dX11_waits_3 : decode cX11_waits 3 = .ok (.invokevirtual 227, 3) := by decide +kernel
theorem dX11_waits_6 : decode cX11_waits 6 = .ok (.istore_n 3, 1) := by decide +kernel
theorem dX11_waits_7 : decode cX11_waits 7 = .ok (.iload_n 3, 1) := by decide +kernel
theorem dX11_waits_8 : decode cX11_waits 8 = .ok (.ifCond .eq 7, 3) := by decide +kernel
theorem dX11_waits_11 : decode cX11_waits 11 = .ok (.iload_n 3, 1) := by decide +kernel
theorem dX11_waits_12 : decode cX11_waits 12 = .ok (.goto 16, 3) := by decide +kernel
theorem dX11_waits_28 : decode cX11_waits 28 = .ok (.ireturn, 1) := by decide +kernel
theorem dX11_weak_0 : decode cX11_weak 0 = .ok (.aload_n 0, 1) := by decide +kernel
theorem dX11_weak_1 : decode cX11_weak 1 = .ok (.getfield 28, 3) := by decide +kernel
theorem dX11_weak_4 : decode cX11_weak 4 = .ok (.iload_n 1, 1) := by decide +kernel
theorem dX11_weak_5 : decode cX11_weak 5 = .ok (.invokevirtual 153, 3) := by decide +kernel
theorem dX11_weak_8 : decode cX11_weak 8 = .ok (.ifCond .ne 6, 3) := by decide +kernel
theorem dX11_weak_11 : decode cX11_weak 11 = .ok (.bipush (-2), 2) := by decide +kernel
theorem dX11_weak_13 : decode cX11_weak 13 = .ok (.ireturn, 1) := by decide +kernel
theorem dX11_worth_0 : decode cX11_worth 0 = .ok (.aload_n 0, 1) := by decide +kernel
theorem dX11_worth_1 : decode cX11_worth 1 = .ok (.getfield 28, 3) := by decide +kernel
theorem dX11_worth_4 : decode cX11_worth 4 = .ok (.iload_n 2, 1) := by decide +kernel
theorem dX11_worth_5 : decode cX11_worth 5 = .ok (.invokevirtual 153, 3) := by decide +kernel
theorem dX11_worth_8 : decode cX11_worth 8 = .ok (.ifCond .eq 18, 3) := by decide +kernel
theorem dX11_worth_26 : decode cX11_worth 26 = .ok (.sipush (-1000), 3) := by decide +kernel
theorem dX11_worth_29 : decode cX11_worth 29 = .ok (.ireturn, 1) := by decide +kernel
theorem dX11_write_0 : decode cX11_write 0 = .ok (.aload_n 0, 1) := by decide +kernel
theorem dX11_write_1 : decode cX11_write 1 = .ok (.getfield 49, 3) := by decide +kernel
theorem dX11_write_4 : decode cX11_write 4 = .ok (.iload_n 1, 1) := by decide +kernel
theorem dX11_write_5 : decode cX11_write 5 = .ok (.invokevirtual 398, 3) := by decide +kernel
theorem dX11_write_8 : decode cX11_write 8 = .ok (.ifCond .ne 6, 3) := by decide +kernel
theorem dX11_write_11 : decode cX11_write 11 = .ok (.bipush (-2), 2) := by decide +kernel
theorem dX11_write_13 : decode cX11_write 13 = .ok (.ireturn, 1) := by decide +kernel
theorem dX11_write_14 : decode cX11_write 14 = .ok (.aload_n 0, 1) := by decide +kernel
theorem dX11_write_15 : decode cX11_write 15 = .ok (.getfield 49, 3) := by decide +kernel
theorem dX11_write_18 : decode cX11_write 18 = .ok (.iload_n 1, 1) := by decide +kernel
theorem dX11_write_19 : decode cX11_write 19 = .ok (.invokevirtual 405, 3) := by decide +kernel
theorem dX11_write_22 : decode cX11_write 22 = .ok (.ifCond .eq 6, 3) := by decide +kernel
theorem dX11_write_25 : decode cX11_write 25 = .ok (.bipush (-6), 2) := by decide +kernel
theorem dX11_write_27 : decode cX11_write 27 = .ok (.ireturn, 1) := by decide +kernel
theorem dX1_init_0 : decode cX1_init 0 = .ok (.aload_n 0, 1) := by decide +kernel
theorem dX1_init_1 : decode cX1_init 1 = .ok (.invokespecial 3, 3) := by decide +kernel
theorem dX1_init_4 : decode cX1_init 4 = .ok (.aload_n 0, 1) := by decide +kernel
theorem dX1_init_5 : decode cX1_init 5 = .ok (.iconst (-1), 1) := by decide +kernel
theorem dX1_init_6 : decode cX1_init 6 = .ok (.putfield 9, 3) := by decide +kernel
theorem dX1_init_9 : decode cX1_init 9 = .ok (.aload_n 0, 1) := by decide +kernel
theorem dX1_init_10 : decode cX1_init 10 = .ok (.iconst 1, 1) := by decide +kernel
theorem dX1_init_11 : decode cX1_init 11 = .ok (.putfield 15, 3) := by decide +kernel
theorem dX1_init_14 : decode cX1_init 14 = .ok (.aload_n 0, 1) := by decide +kernel
theorem dX1_init_15 : decode cX1_init 15 = .ok (.aload_n 1, 1) := by decide +kernel
theorem dX1_init_16 : decode cX1_init 16 = .ok (.putfield 18, 3) := by decide +kernel
theorem dX1_init_19 : decode cX1_init 19 = .ok (.return_, 1) := by decide +kernel
theorem dX2_clear_0 : decode cX2_clear 0 = .ok (.aload_n 0, 1) := by decide +kernel
theorem dX2_clear_1 : decode cX2_clear 1 = .ok (.iconst (-1), 1) := by decide +kernel
theorem dX2_clear_2 : decode cX2_clear 2 = .ok (.putfield 9, 3) := by decide +kernel
theorem dX2_clear_5 : decode cX2_clear 5 = .ok (.aload_n 0, 1) := by decide +kernel
theorem dX2_clear_6 : decode cX2_clear 6 = .ok (.iconst (-1), 1) := by decide +kernel
theorem dX2_clear_7 : decode cX2_clear 7 = .ok (.putfield 15, 3) := by decide +kernel
theorem dX2_clear_10 : decode cX2_clear 10 = .ok (.aload_n 0, 1) := by decide +kernel
theorem dX2_clear_11 : decode cX2_clear 11 = .ok (.iconst 0, 1) := by decide +kernel
theorem dX2_clear_12 : decode cX2_clear 12 = .ok (.putfield 28, 3) := by decide +kernel
theorem dX2_clear_15 : decode cX2_clear 15 = .ok (.aload_n 0, 1) := by decide +kernel
theorem dX2_clear_16 : decode cX2_clear 16 = .ok (.iconst 0, 1) := by decide +kernel
theorem dX2_clear_17 : decode cX2_clear 17 = .ok (.putfield 31, 3) := by decide +kernel
theorem dX2_clear_20 : decode cX2_clear 20 = .ok (.aload_n 0, 1) := by decide +kernel
theorem dX2_clear_21 : decode cX2_clear 21 = .ok (.iconst 0, 1) := by decide +kernel
theorem dX2_clear_22 : decode cX2_clear 22 = .ok (.putfield 34, 3) := by decide +kernel
theorem dX2_clear_25 : decode cX2_clear 25 = .ok (.aload_n 0, 1) := by decide +kernel
theorem dX2_clear_26 : decode cX2_clear 26 = .ok (.iconst 0, 1) := by decide +kernel
theorem dX2_clear_27 : decode cX2_clear 27 = .ok (.putfield 37, 3) := by decide +kernel
theorem dX2_clear_30 : decode cX2_clear 30 = .ok (.aload_n 0, 1) := by decide +kernel
theorem dX2_clear_31 : decode cX2_clear 31 = .ok (.iconst 0, 1) := by decide +kernel
theorem dX2_clear_32 : decode cX2_clear 32 = .ok (.putfield 40, 3) := by decide +kernel
theorem dX2_clear_35 : decode cX2_clear 35 = .ok (.return_, 1) := by decide +kernel
theorem dX2_copyFrom_0 : decode cX2_copyFrom 0 = .ok (.aload_n 0, 1) := by decide +kernel
theorem dX2_copyFrom_1 : decode cX2_copyFrom 1 = .ok (.aload_n 1, 1) := by decide +kernel
theorem dX2_copyFrom_2 : decode cX2_copyFrom 2 = .ok (.getfield 9, 3) := by decide +kernel
theorem dX2_copyFrom_5 : decode cX2_copyFrom 5 = .ok (.putfield 9, 3) := by decide +kernel
theorem dX2_copyFrom_8 : decode cX2_copyFrom 8 = .ok (.aload_n 0, 1) := by decide +kernel
theorem dX2_copyFrom_9 : decode cX2_copyFrom 9 = .ok (.aload_n 1, 1) := by decide +kernel
theorem dX2_copyFrom_10 : decode cX2_copyFrom 10 = .ok (.getfield 15, 3) := by decide +kernel
theorem dX2_copyFrom_13 : decode cX2_copyFrom 13 = .ok (.putfield 15, 3) := by decide +kernel
theorem dX2_copyFrom_16 : decode cX2_copyFrom 16 = .ok (.aload_n 0, 1) := by decide +kernel
theorem dX2_copyFrom_17 : decode cX2_copyFrom 17 = .ok (.aload_n 1, 1) := by decide +kernel
theorem dX2_copyFrom_18 : decode cX2_copyFrom 18 = .ok (.getfield 28, 3) := by decide +kernel
theorem dX2_copyFrom_21 : decode cX2_copyFrom 21 = .ok (.putfield 28, 3) := by decide +kernel
theorem dX2_copyFrom_24 : decode cX2_copyFrom 24 = .ok (.aload_n 0, 1) := by decide +kernel
theorem dX2_copyFrom_25 : decode cX2_copyFrom 25 = .ok (.aload_n 1, 1) := by decide +kernel
theorem dX2_copyFrom_26 : decode cX2_copyFrom 26 = .ok (.getfield 31, 3) := by decide +kernel
theorem dX2_copyFrom_29 : decode cX2_copyFrom 29 = .ok (.putfield 31, 3) := by decide +kernel
theorem dX2_copyFrom_32 : decode cX2_copyFrom 32 = .ok (.aload_n 0, 1) := by decide +kernel
theorem dX2_copyFrom_33 : decode cX2_copyFrom 33 = .ok (.aload_n 1, 1) := by decide +kernel
theorem dX2_copyFrom_34 : decode cX2_copyFrom 34 = .ok (.getfield 34, 3) := by decide +kernel
theorem dX2_copyFrom_37 : decode cX2_copyFrom 37 = .ok (.putfield 34, 3) := by decide +kernel
theorem dX2_copyFrom_40 : decode cX2_copyFrom 40 = .ok (.aload_n 0, 1) := by decide +kernel
theorem dX2_copyFrom_41 : decode cX2_copyFrom 41 = .ok (.aload_n 1, 1) := by decide +kernel
theorem dX2_copyFrom_42 : decode cX2_copyFrom 42 = .ok (.getfield 37, 3) := by decide +kernel
theorem dX2_copyFrom_45 : decode cX2_copyFrom 45 = .ok (.putfield 37, 3) := by decide +kernel
theorem dX2_copyFrom_48 : decode cX2_copyFrom 48 = .ok (.aload_n 0, 1) := by decide +kernel
theorem dX2_copyFrom_49 : decode cX2_copyFrom 49 = .ok (.aload_n 1, 1) := by decide +kernel
theorem dX2_copyFrom_50 : decode cX2_copyFrom 50 = .ok (.getfield 40, 3) := by decide +kernel
theorem dX2_copyFrom_53 : decode cX2_copyFrom 53 = .ok (.putfield 40, 3) := by decide +kernel
theorem dX2_copyFrom_56 : decode cX2_copyFrom 56 = .ok (.aload_n 1, 1) := by decide +kernel
theorem dX2_copyFrom_57 : decode cX2_copyFrom 57 = .ok (.getfield 18, 3) := by decide +kernel
theorem dX2_copyFrom_60 : decode cX2_copyFrom 60 = .ok (.iconst 0, 1) := by decide +kernel
theorem dX2_copyFrom_61 : decode cX2_copyFrom 61 = .ok (.aload_n 0, 1) := by decide +kernel
theorem dX2_copyFrom_62 : decode cX2_copyFrom 62 = .ok (.getfield 18, 3) := by decide +kernel
theorem dX2_copyFrom_65 : decode cX2_copyFrom 65 = .ok (.iconst 0, 1) := by decide +kernel
theorem dX2_copyFrom_66 : decode cX2_copyFrom 66 = .ok (.bipush 60, 2) := by decide +kernel
theorem dX2_copyFrom_68 : decode cX2_copyFrom 68 = .ok (.invokestatic 43, 3) := by decide +kernel
theorem dX2_copyFrom_71 : decode cX2_copyFrom 71 = .ok (.aload_n 1, 1) := by decide +kernel
theorem dX2_copyFrom_72 : decode cX2_copyFrom 72 = .ok (.getfield 22, 3) := by decide +kernel
theorem dX2_copyFrom_75 : decode cX2_copyFrom 75 = .ok (.iconst 0, 1) := by decide +kernel
theorem dX2_copyFrom_76 : decode cX2_copyFrom 76 = .ok (.aload_n 0, 1) := by decide +kernel
theorem dX2_copyFrom_77 : decode cX2_copyFrom 77 = .ok (.getfield 22, 3) := by decide +kernel
theorem dX2_copyFrom_80 : decode cX2_copyFrom 80 = .ok (.iconst 0, 1) := by decide +kernel
theorem dX2_copyFrom_81 : decode cX2_copyFrom 81 = .ok (.bipush 60, 2) := by decide +kernel
theorem dX2_copyFrom_83 : decode cX2_copyFrom 83 = .ok (.invokestatic 43, 3) := by decide +kernel
theorem dX2_copyFrom_86 : decode cX2_copyFrom 86 = .ok (.aload_n 1, 1) := by decide +kernel
theorem dX2_copyFrom_87 : decode cX2_copyFrom 87 = .ok (.getfield 25, 3) := by decide +kernel
theorem dX2_copyFrom_90 : decode cX2_copyFrom 90 = .ok (.iconst 0, 1) := by decide +kernel
theorem dX2_copyFrom_91 : decode cX2_copyFrom 91 = .ok (.aload_n 0, 1) := by decide +kernel
theorem dX2_copyFrom_92 : decode cX2_copyFrom 92 = .ok (.getfield 25, 3) := by decide +kernel
theorem dX2_copyFrom_95 : decode cX2_copyFrom 95 = .ok (.iconst 0, 1) := by decide +kernel
theorem dX2_copyFrom_96 : decode cX2_copyFrom 96 = .ok (.bipush 60, 2) := by decide +kernel
theorem dX2_copyFrom_98 : decode cX2_copyFrom 98 = .ok (.invokestatic 43, 3) := by decide +kernel
theorem dX2_copyFrom_101 : decode cX2_copyFrom 101 = .ok (.return_, 1) := by decide +kernel
theorem dX2_init_0 : decode cX2_init 0 = .ok (.aload_n 0, 1) := by decide +kernel
theorem dX2_init_1 : decode cX2_init 1 = .ok (.invokespecial 3, 3) := by decide +kernel
theorem dX2_init_4 : decode cX2_init 4 = .ok (.aload_n 0, 1) := by decide +kernel
theorem dX2_init_5 : decode cX2_init 5 = .ok (.iconst (-1), 1) := by decide +kernel
theorem dX2_init_6 : decode cX2_init 6 = .ok (.putfield 9, 3) := by decide +kernel
theorem dX2_init_9 : decode cX2_init 9 = .ok (.aload_n 0, 1) := by decide +kernel
theorem dX2_init_10 : decode cX2_init 10 = .ok (.iconst (-1), 1) := by decide +kernel
theorem dX2_init_11 : decode cX2_init 11 = .ok (.putfield 15, 3) := by decide +kernel
theorem dX2_init_14 : decode cX2_init 14 = .ok (.aload_n 0, 1) := by decide +kernel
theorem dX2_init_15 : decode cX2_init 15 = .ok (.bipush 60, 2) := by decide +kernel
theorem dX2_init_17 : decode cX2_init 17 = .ok (.newarray .int, 2) := by decide +kernel
theorem dX2_init_19 : decode cX2_init 19 = .ok (.putfield 18, 3) := by decide +kernel
theorem dX2_init_22 : decode cX2_init 22 = .ok (.aload_n 0, 1) := by decide +kernel
theorem dX2_init_23 : decode cX2_init 23 = .ok (.bipush 60, 2) := by decide +kernel
theorem dX2_init_25 : decode cX2_init 25 = .ok (.newarray .int, 2) := by decide +kernel
theorem dX2_init_27 : decode cX2_init 27 = .ok (.putfield 22, 3) := by decide +kernel
theorem dX2_init_30 : decode cX2_init 30 = .ok (.aload_n 0, 1) := by decide +kernel
theorem dX2_init_31 : decode cX2_init 31 = .ok (.bipush 60, 2) := by decide +kernel
theorem dX2_init_33 : decode cX2_init 33 = .ok (.newarray .int, 2) := by decide +kernel
theorem dX2_init_35 : decode cX2_init 35 = .ok (.putfield 25, 3) := by decide +kernel
theorem dX2_init_38 : decode cX2_init 38 = .ok (.return_, 1) := by decide +kernel
theorem dX3_clear_0 : decode cX3_clear 0 = .ok (.aload_n 0, 1) := by decide +kernel
theorem dX3_clear_1 : decode cX3_clear 1 = .ok (.iconst 0, 1) := by decide +kernel
theorem dX3_clear_2 : decode cX3_clear 2 = .ok (.iconst 0, 1) := by decide +kernel
theorem dX3_clear_3 : decode cX3_clear 3 = .ok (.invokevirtual 36, 3) := by decide +kernel
theorem dX3_clear_6 : decode cX3_clear 6 = .ok (.aload_n 0, 1) := by decide +kernel
theorem dX3_clear_7 : decode cX3_clear 7 = .ok (.iconst 0, 1) := by decide +kernel
theorem dX3_clear_8 : decode cX3_clear 8 = .ok (.putfield 40, 3) := by decide +kernel
theorem dX3_clear_11 : decode cX3_clear 11 = .ok (.aload_n 0, 1) := by decide +kernel
theorem dX3_clear_12 : decode cX3_clear 12 = .ok (.iconst 0, 1) := by decide +kernel
theorem dX3_clear_13 : decode cX3_clear 13 = .ok (.putfield 44, 3) := by decide +kernel
theorem dX3_clear_16 : decode cX3_clear 16 = .ok (.aload_n 0, 1) := by decide +kernel
theorem dX3_clear_17 : decode cX3_clear 17 = .ok (.iconst 0, 1) := by decide +kernel
theorem dX3_clear_18 : decode cX3_clear 18 = .ok (.putfield 47, 3) := by decide +kernel
theorem dX3_clear_21 : decode cX3_clear 21 = .ok (.aload_n 0, 1) := by decide +kernel
theorem dX3_clear_22 : decode cX3_clear 22 = .ok (.iconst 0, 1) := by decide +kernel
theorem dX3_clear_23 : decode cX3_clear 23 = .ok (.putfield 50, 3) := by decide +kernel
theorem dX3_clear_26 : decode cX3_clear 26 = .ok (.aload_n 0, 1) := by decide +kernel
theorem dX3_clear_27 : decode cX3_clear 27 = .ok (.iconst 0, 1) := by decide +kernel
theorem dX3_clear_28 : decode cX3_clear 28 = .ok (.putfield 53, 3) := by decide +kernel
theorem dX3_clear_31 : decode cX3_clear 31 = .ok (.aload_n 0, 1) := by decide +kernel
theorem dX3_clear_32 : decode cX3_clear 32 = .ok (.iconst 0, 1) := by decide +kernel
theorem dX3_clear_33 : decode cX3_clear 33 = .ok (.putfield 56, 3) := by decide +kernel
theorem dX3_clear_36 : decode cX3_clear 36 = .ok (.return_, 1) := by decide +kernel
theorem dX3_copyFrom_0 : decode cX3_copyFrom 0 = .ok (.aload_n 0, 1) := by decide +kernel
theorem dX3_copyFrom_1 : decode cX3_copyFrom 1 = .ok (.aload_n 1, 1) := by decide +kernel
theorem dX3_copyFrom_2 : decode cX3_copyFrom 2 = .ok (.getfield 59, 3) := by decide +kernel
theorem dX3_copyFrom_5 : decode cX3_copyFrom 5 = .ok (.aload_n 1, 1) := by decide +kernel
theorem dX3_copyFrom_6 : decode cX3_copyFrom 6 = .ok (.getfield 62, 3) := by decide +kernel
theorem dX3_copyFrom_9 : decode cX3_copyFrom 9 = .ok (.invokevirtual 36, 3) := by decide +kernel
theorem dX3_copyFrom_12 : decode cX3_copyFrom 12 = .ok (.aload_n 0, 1) := by decide +kernel
theorem dX3_copyFrom_13 : decode cX3_copyFrom 13 = .ok (.aload_n 1, 1) := by decide +kernel
theorem dX3_copyFrom_14 : decode cX3_copyFrom 14 = .ok (.getfield 40, 3) := by decide +kernel
theorem dX3_copyFrom_17 : decode cX3_copyFrom 17 = .ok (.putfield 40, 3) := by decide +kernel
theorem dX3_copyFrom_20 : decode cX3_copyFrom 20 = .ok (.aload_n 0, 1) := by decide +kernel
theorem dX3_copyFrom_21 : decode cX3_copyFrom 21 = .ok (.aload_n 1, 1) := by decide +kernel
theorem dX3_copyFrom_22 : decode cX3_copyFrom 22 = .ok (.getfield 44, 3) := by decide +kernel
theorem dX3_copyFrom_25 : decode cX3_copyFrom 25 = .ok (.putfield 44, 3) := by decide +kernel
theorem dX3_copyFrom_28 : decode cX3_copyFrom 28 = .ok (.aload_n 0, 1) := by decide +kernel
theorem dX3_copyFrom_29 : decode cX3_copyFrom 29 = .ok (.aload_n 1, 1) := by decide +kernel
theorem dX3_copyFrom_30 : decode cX3_copyFrom 30 = .ok (.getfield 47, 3) := by decide +kernel
theorem dX3_copyFrom_33 : decode cX3_copyFrom 33 = .ok (.putfield 47, 3) := by decide +kernel
theorem dX3_copyFrom_36 : decode cX3_copyFrom 36 = .ok (.aload_n 0, 1) := by decide +kernel
theorem dX3_copyFrom_37 : decode cX3_copyFrom 37 = .ok (.aload_n 1, 1) := by decide +kernel
theorem dX3_copyFrom_38 : decode cX3_copyFrom 38 = .ok (.getfield 50, 3) := by decide +kernel
theorem dX3_copyFrom_41 : decode cX3_copyFrom 41 = .ok (.putfield 50, 3) := by decide +kernel
theorem dX3_copyFrom_44 : decode cX3_copyFrom 44 = .ok (.aload_n 0, 1) := by decide +kernel
theorem dX3_copyFrom_45 : decode cX3_copyFrom 45 = .ok (.aload_n 1, 1) := by decide +kernel
theorem dX3_copyFrom_46 : decode cX3_copyFrom 46 = .ok (.getfield 53, 3) := by decide +kernel
theorem dX3_copyFrom_49 : decode cX3_copyFrom 49 = .ok (.putfield 53, 3) := by decide +kernel
theorem dX3_copyFrom_52 : decode cX3_copyFrom 52 = .ok (.aload_n 0, 1) := by decide +kernel
theorem dX3_copyFrom_53 : decode cX3_copyFrom 53 = .ok (.aload_n 1, 1) := by decide +kernel
theorem dX3_copyFrom_54 : decode cX3_copyFrom 54 = .ok (.getfield 56, 3) := by decide +kernel
theorem dX3_copyFrom_57 : decode cX3_copyFrom 57 = .ok (.putfield 56, 3) := by decide +kernel
theorem dX3_copyFrom_60 : decode cX3_copyFrom 60 = .ok (.aload_n 1, 1) := by decide +kernel
theorem dX3_copyFrom_61 : decode cX3_copyFrom 61 = .ok (.getfield 9, 3) := by decide +kernel
theorem dX3_copyFrom_64 : decode cX3_copyFrom 64 = .ok (.iconst 0, 1) := by decide +kernel
theorem dX3_copyFrom_65 : decode cX3_copyFrom 65 = .ok (.aload_n 0, 1) := by decide +kernel
theorem dX3_copyFrom_66 : decode cX3_copyFrom 66 = .ok (.getfield 9, 3) := by decide +kernel
theorem dX3_copyFrom_69 : decode cX3_copyFrom 69 = .ok (.iconst 0, 1) := by decide +kernel
theorem dX3_copyFrom_70 : decode cX3_copyFrom 70 = .ok (.bipush 8, 2) := by decide +kernel
theorem dX3_copyFrom_72 : decode cX3_copyFrom 72 = .ok (.invokestatic 65, 3) := by decide +kernel
theorem dX3_copyFrom_75 : decode cX3_copyFrom 75 = .ok (.aload_n 1, 1) := by decide +kernel
theorem dX3_copyFrom_76 : decode cX3_copyFrom 76 = .ok (.getfield 15, 3) := by decide +kernel
theorem dX3_copyFrom_79 : decode cX3_copyFrom 79 = .ok (.iconst 0, 1) := by decide +kernel
theorem dX3_copyFrom_80 : decode cX3_copyFrom 80 = .ok (.aload_n 0, 1) := by decide +kernel
theorem dX3_copyFrom_81 : decode cX3_copyFrom 81 = .ok (.getfield 15, 3) := by decide +kernel
theorem dX3_copyFrom_84 : decode cX3_copyFrom 84 = .ok (.iconst 0, 1) := by decide +kernel
theorem dX3_copyFrom_85 : decode cX3_copyFrom 85 = .ok (.bipush 8, 2) := by decide +kernel
theorem dX3_copyFrom_87 : decode cX3_copyFrom 87 = .ok (.invokestatic 65, 3) := by decide +kernel
theorem dX3_copyFrom_90 : decode cX3_copyFrom 90 = .ok (.aload_n 1, 1) := by decide +kernel
theorem dX3_copyFrom_91 : decode cX3_copyFrom 91 = .ok (.getfield 18, 3) := by decide +kernel
theorem dX3_copyFrom_94 : decode cX3_copyFrom 94 = .ok (.iconst 0, 1) := by decide +kernel
theorem dX3_copyFrom_95 : decode cX3_copyFrom 95 = .ok (.aload_n 0, 1) := by decide +kernel
theorem dX3_copyFrom_96 : decode cX3_copyFrom 96 = .ok (.getfield 18, 3) := by decide +kernel
theorem dX3_copyFrom_99 : decode cX3_copyFrom 99 = .ok (.iconst 0, 1) := by decide +kernel
theorem dX3_copyFrom_100 : decode cX3_copyFrom 100 = .ok (.bipush 8, 2) := by decide +kernel
theorem dX3_copyFrom_102 : decode cX3_copyFrom 102 = .ok (.invokestatic 65, 3) := by decide +kernel
theorem dX3_copyFrom_105 : decode cX3_copyFrom 105 = .ok (.aload_n 1, 1) := by decide +kernel
theorem dX3_copyFrom_106 : decode cX3_copyFrom 106 = .ok (.getfield 21, 3) := by decide +kernel
theorem dX3_copyFrom_109 : decode cX3_copyFrom 109 = .ok (.iconst 0, 1) := by decide +kernel
theorem dX3_copyFrom_110 : decode cX3_copyFrom 110 = .ok (.aload_n 0, 1) := by decide +kernel
theorem dX3_copyFrom_111 : decode cX3_copyFrom 111 = .ok (.getfield 21, 3) := by decide +kernel
theorem dX3_copyFrom_114 : decode cX3_copyFrom 114 = .ok (.iconst 0, 1) := by decide +kernel
theorem dX3_copyFrom_115 : decode cX3_copyFrom 115 = .ok (.bipush 7, 2) := by decide +kernel
theorem dX3_copyFrom_117 : decode cX3_copyFrom 117 = .ok (.invokestatic 65, 3) := by decide +kernel
theorem dX3_copyFrom_120 : decode cX3_copyFrom 120 = .ok (.aload_n 1, 1) := by decide +kernel
theorem dX3_copyFrom_121 : decode cX3_copyFrom 121 = .ok (.getfield 24, 3) := by decide +kernel
theorem dX3_copyFrom_124 : decode cX3_copyFrom 124 = .ok (.iconst 0, 1) := by decide +kernel
theorem dX3_copyFrom_125 : decode cX3_copyFrom 125 = .ok (.aload_n 0, 1) := by decide +kernel
theorem dX3_copyFrom_126 : decode cX3_copyFrom 126 = .ok (.getfield 24, 3) := by decide +kernel
theorem dX3_copyFrom_129 : decode cX3_copyFrom 129 = .ok (.iconst 0, 1) := by decide +kernel
theorem dX3_copyFrom_130 : decode cX3_copyFrom 130 = .ok (.bipush 7, 2) := by decide +kernel
theorem dX3_copyFrom_132 : decode cX3_copyFrom 132 = .ok (.invokestatic 65, 3) := by decide +kernel
theorem dX3_copyFrom_135 : decode cX3_copyFrom 135 = .ok (.aload_n 1, 1) := by decide +kernel
theorem dX3_copyFrom_136 : decode cX3_copyFrom 136 = .ok (.getfield 27, 3) := by decide +kernel
theorem dX3_copyFrom_139 : decode cX3_copyFrom 139 = .ok (.iconst 0, 1) := by decide +kernel
theorem dX3_copyFrom_140 : decode cX3_copyFrom 140 = .ok (.aload_n 0, 1) := by decide +kernel
theorem dX3_copyFrom_141 : decode cX3_copyFrom 141 = .ok (.getfield 27, 3) := by decide +kernel
theorem dX3_copyFrom_144 : decode cX3_copyFrom 144 = .ok (.iconst 0, 1) := by decide +kernel
theorem dX3_copyFrom_145 : decode cX3_copyFrom 145 = .ok (.bipush 7, 2) := by decide +kernel
theorem dX3_copyFrom_147 : decode cX3_copyFrom 147 = .ok (.invokestatic 65, 3) := by decide +kernel
theorem dX3_copyFrom_150 : decode cX3_copyFrom 150 = .ok (.aload_n 1, 1) := by decide +kernel
theorem dX3_copyFrom_151 : decode cX3_copyFrom 151 = .ok (.getfield 30, 3) := by decide +kernel
theorem dX3_copyFrom_154 : decode cX3_copyFrom 154 = .ok (.iconst 0, 1) := by decide +kernel
theorem dX3_copyFrom_155 : decode cX3_copyFrom 155 = .ok (.aload_n 0, 1) := by decide +kernel
theorem dX3_copyFrom_156 : decode cX3_copyFrom 156 = .ok (.getfield 30, 3) := by decide +kernel
theorem dX3_copyFrom_159 : decode cX3_copyFrom 159 = .ok (.iconst 0, 1) := by decide +kernel
theorem dX3_copyFrom_160 : decode cX3_copyFrom 160 = .ok (.iconst 4, 1) := by decide +kernel
theorem dX3_copyFrom_161 : decode cX3_copyFrom 161 = .ok (.invokestatic 65, 3) := by decide +kernel
theorem dX3_copyFrom_164 : decode cX3_copyFrom 164 = .ok (.aload_n 1, 1) := by decide +kernel
theorem dX3_copyFrom_165 : decode cX3_copyFrom 165 = .ok (.getfield 33, 3) := by decide +kernel
theorem dX3_copyFrom_168 : decode cX3_copyFrom 168 = .ok (.iconst 0, 1) := by decide +kernel
theorem dX3_copyFrom_169 : decode cX3_copyFrom 169 = .ok (.aload_n 0, 1) := by decide +kernel
theorem dX3_copyFrom_170 : decode cX3_copyFrom 170 = .ok (.getfield 33, 3) := by decide +kernel
theorem dX3_copyFrom_173 : decode cX3_copyFrom 173 = .ok (.iconst 0, 1) := by decide +kernel
theorem dX3_copyFrom_174 : decode cX3_copyFrom 174 = .ok (.iconst 4, 1) := by decide +kernel
theorem dX3_copyFrom_175 : decode cX3_copyFrom 175 = .ok (.invokestatic 65, 3) := by decide +kernel
theorem dX3_copyFrom_178 : decode cX3_copyFrom 178 = .ok (.return_, 1) := by decide +kernel
theorem dX3_exists_0 : decode cX3_exists 0 = .ok (.aload_n 0, 1) := by decide +kernel
theorem dX3_exists_1 : decode cX3_exists 1 = .ok (.getfield 47, 3) := by decide +kernel
theorem dX3_exists_4 : decode cX3_exists 4 = .ok (.ifCond .le 7, 3) := by decide +kernel
theorem dX3_exists_11 : decode cX3_exists 11 = .ok (.iconst 0, 1) := by decide +kernel
theorem dX3_exists_12 : decode cX3_exists 12 = .ok (.ireturn, 1) := by decide +kernel
theorem dX3_farOf_0 : decode cX3_farOf 0 = .ok (.iload_n 1, 1) := by decide +kernel
theorem dX3_farOf_1 : decode cX3_farOf 1 = .ok (.ifCond .ne 10, 3) := by decide +kernel
theorem dX3_farOf_4 : decode cX3_farOf 4 = .ok (.aload_n 0, 1) := by decide +kernel
theorem dX3_farOf_5 : decode cX3_farOf 5 = .ok (.getfield 59, 3) := by decide +kernel
theorem dX3_farOf_8 : decode cX3_farOf 8 = .ok (.goto 7, 3) := by decide +kernel
theorem dX3_farOf_11 : decode cX3_farOf 11 = .ok (.aload_n 0, 1) := by decide +kernel
theorem dX3_farOf_12 : decode cX3_farOf 12 = .ok (.getfield 62, 3) := by decide +kernel
theorem dX3_farOf_15 : decode cX3_farOf 15 = .ok (.ireturn, 1) := by decide +kernel
theorem dX3_hasClause_0 : decode cX3_hasClause 0 = .ok (.iload_n 1, 1) := by decide +kernel
theorem dX3_hasClause_1 : decode cX3_hasClause 1 = .ok (.ifCond .lt 21, 3) := by decide +kernel
theorem dX3_hasClause_4 : decode cX3_hasClause 4 = .ok (.iload_n 1, 1) := by decide +kernel
theorem dX3_hasClause_5 : decode cX3_hasClause 5 = .ok (.aload_n 0, 1) := by decide +kernel
theorem dX3_hasClause_6 : decode cX3_hasClause 6 = .ok (.getfield 53, 3) := by decide +kernel
theorem dX3_hasClause_9 : decode cX3_hasClause 9 = .ok (.if_icmp .ge 13, 3) := by decide +kernel
theorem dX3_hasClause_22 : decode cX3_hasClause 22 = .ok (.iconst 0, 1) := by decide +kernel
theorem dX3_hasClause_23 : decode cX3_hasClause 23 = .ok (.ireturn, 1) := by decide +kernel
theorem dX3_hasMan_0 : decode cX3_hasMan 0 = .ok (.iload_n 1, 1) := by decide +kernel
theorem dX3_hasMan_1 : decode cX3_hasMan 1 = .ok (.ifCond .lt 21, 3) := by decide +kernel
theorem dX3_hasMan_4 : decode cX3_hasMan 4 = .ok (.iload_n 1, 1) := by decide +kernel
theorem dX3_hasMan_5 : decode cX3_hasMan 5 = .ok (.aload_n 0, 1) := by decide +kernel
theorem dX3_hasMan_6 : decode cX3_hasMan 6 = .ok (.getfield 50, 3) := by decide +kernel
theorem dX3_hasMan_9 : decode cX3_hasMan 9 = .ok (.if_icmp .ge 13, 3) := by decide +kernel
theorem dX3_hasMan_22 : decode cX3_hasMan 22 = .ok (.iconst 0, 1) := by decide +kernel
theorem dX3_hasMan_23 : decode cX3_hasMan 23 = .ok (.ireturn, 1) := by decide +kernel
theorem dX3_hasSide_0 : decode cX3_hasSide 0 = .ok (.aload_n 0, 1) := by decide +kernel
theorem dX3_hasSide_1 : decode cX3_hasSide 1 = .ok (.invokevirtual 71, 3) := by decide +kernel
theorem dX3_hasSide_4 : decode cX3_hasSide 4 = .ok (.ifCond .eq 16, 3) := by decide +kernel
theorem dX3_hasSide_20 : decode cX3_hasSide 20 = .ok (.iconst 0, 1) := by decide +kernel
theorem dX3_hasSide_21 : decode cX3_hasSide 21 = .ok (.ireturn, 1) := by decide +kernel
theorem dX3_holdOrRefusal_0 : decode cX3_holdOrRefusal 0 = .ok (.aload_n 0, 1) := by decide +kernel
theorem dX3_holdOrRefusal_1 : decode cX3_holdOrRefusal 1 = .ok (.iload_n 1, 1) := by decide +kernel
theorem dX3_holdOrRefusal_2 : decode cX3_holdOrRefusal 2 = .ok (.invokevirtual 79, 3) := by decide +kernel
theorem dX3_holdOrRefusal_5 : decode cX3_holdOrRefusal 5 = .ok (.ifCond .eq 11, 3) := by decide +kernel
theorem dX3_holdOrRefusal_16 : decode cX3_holdOrRefusal 16 = .ok (.bipush (-2), 2) := by decide +kernel
theorem dX3_holdOrRefusal_18 : decode cX3_holdOrRefusal 18 = .ok (.ireturn, 1) := by decide +kernel
theorem dX3_init_0 : decode cX3_init 0 = .ok (.aload_n 0, 1) := by decide +kernel
theorem dX3_init_1 : decode cX3_init 1 = .ok (.invokespecial 3, 3) := by decide +kernel
theorem dX3_init_4 : decode cX3_init 4 = .ok (.aload_n 0, 1) := by decide +kernel
theorem dX3_init_5 : decode cX3_init 5 = .ok (.bipush 8, 2) := by decide +kernel
theorem dX3_init_7 : decode cX3_init 7 = .ok (.newarray .int, 2) := by decide +kernel
theorem dX3_init_9 : decode cX3_init 9 = .ok (.putfield 9, 3) := by decide +kernel
theorem dX3_init_12 : decode cX3_init 12 = .ok (.aload_n 0, 1) := by decide +kernel
theorem dX3_init_13 : decode cX3_init 13 = .ok (.bipush 8, 2) := by decide +kernel
theorem dX3_init_15 : decode cX3_init 15 = .ok (.newarray .int, 2) := by decide +kernel
theorem dX3_init_17 : decode cX3_init 17 = .ok (.putfield 15, 3) := by decide +kernel
theorem dX3_init_20 : decode cX3_init 20 = .ok (.aload_n 0, 1) := by decide +kernel
theorem dX3_init_21 : decode cX3_init 21 = .ok (.bipush 8, 2) := by decide +kernel
theorem dX3_init_23 : decode cX3_init 23 = .ok (.newarray .int, 2) := by decide +kernel
theorem dX3_init_25 : decode cX3_init 25 = .ok (.putfield 18, 3) := by decide +kernel
theorem dX3_init_28 : decode cX3_init 28 = .ok (.aload_n 0, 1) := by decide +kernel
theorem dX3_init_29 : decode cX3_init 29 = .ok (.bipush 7, 2) := by decide +kernel
theorem dX3_init_31 : decode cX3_init 31 = .ok (.newarray .int, 2) := by decide +kernel
theorem dX3_init_33 : decode cX3_init 33 = .ok (.putfield 21, 3) := by decide +kernel
theorem dX3_init_36 : decode cX3_init 36 = .ok (.aload_n 0, 1) := by decide +kernel
theorem dX3_init_37 : decode cX3_init 37 = .ok (.bipush 7, 2) := by decide +kernel
theorem dX3_init_39 : decode cX3_init 39 = .ok (.newarray .int, 2) := by decide +kernel
theorem dX3_init_41 : decode cX3_init 41 = .ok (.putfield 24, 3) := by decide +kernel
theorem dX3_init_44 : decode cX3_init 44 = .ok (.aload_n 0, 1) := by decide +kernel
theorem dX3_init_45 : decode cX3_init 45 = .ok (.bipush 7, 2) := by decide +kernel
theorem dX3_init_47 : decode cX3_init 47 = .ok (.newarray .int, 2) := by decide +kernel
theorem dX3_init_49 : decode cX3_init 49 = .ok (.putfield 27, 3) := by decide +kernel
end
section
theorem dX3_init_52 : decode cX3_init 52 = .ok (.aload_n 0, 1) := by decide +kernel
theorem dX3_init_53 : decode cX3_init 53 = .ok (.iconst 4, 1) := by decide +kernel
theorem dX3_init_54 : decode cX3_init 54 = .ok (.newarray .int, 2) := by decide +kernel
theorem dX3_init_56 : decode cX3_init 56 = .ok (.putfield 30, 3) := by decide +kernel
theorem dX3_init_59 : decode cX3_init 59 = .ok (.aload_n 0, 1) := by decide +kernel
theorem dX3_init_60 : decode cX3_init 60 = .ok (.iconst 4, 1) := by decide +kernel
theorem dX3_init_61 : decode cX3_init 61 = .ok (.newarray .int, 2) := by decide +kernel
theorem dX3_init_63 : decode cX3_init 63 = .ok (.putfield 33, 3) := by decide +kernel
theorem dX3_init_66 : decode cX3_init 66 = .ok (.return_, 1) := by decide +kernel
theorem dX3_setFars_0 : decode cX3_setFars 0 = .ok (.aload_n 0, 1) := by decide +kernel
theorem dX3_setFars_1 : decode cX3_setFars 1 = .ok (.iload_n 1, 1) := by decide +kernel
theorem dX3_setFars_2 : decode cX3_setFars 2 = .ok (.putfield 59, 3) := by decide +kernel
theorem dX3_setFars_5 : decode cX3_setFars 5 = .ok (.aload_n 0, 1) := by decide +kernel
theorem dX3_setFars_6 : decode cX3_setFars 6 = .ok (.iload_n 2, 1) := by decide +kernel
theorem dX3_setFars_7 : decode cX3_setFars 7 = .ok (.putfield 62, 3) := by decide +kernel
theorem dX3_setFars_10 : decode cX3_setFars 10 = .ok (.return_, 1) := by decide +kernel
theorem dX4_init_0 : decode cX4_init 0 = .ok (.aload_n 0, 1) := by decide +kernel
theorem dX4_init_1 : decode cX4_init 1 = .ok (.invokespecial 1, 3) := by decide +kernel
theorem dX4_init_4 : decode cX4_init 4 = .ok (.aload_n 0, 1) := by decide +kernel
theorem dX4_init_5 : decode cX4_init 5 = .ok (.new 7, 3) := by decide +kernel
theorem dX4_init_8 : decode cX4_init 8 = .ok (.dup, 1) := by decide +kernel
theorem dX4_init_9 : decode cX4_init 9 = .ok (.invokespecial 9, 3) := by decide +kernel
theorem dX4_init_12 : decode cX4_init 12 = .ok (.putfield 10, 3) := by decide +kernel
theorem dX4_init_15 : decode cX4_init 15 = .ok (.aload_n 0, 1) := by decide +kernel
theorem dX4_init_16 : decode cX4_init 16 = .ok (.new 16, 3) := by decide +kernel
theorem dX4_init_19 : decode cX4_init 19 = .ok (.dup, 1) := by decide +kernel
theorem dX4_init_20 : decode cX4_init 20 = .ok (.invokespecial 18, 3) := by decide +kernel
theorem dX4_init_23 : decode cX4_init 23 = .ok (.putfield 19, 3) := by decide +kernel
theorem dX4_init_26 : decode cX4_init 26 = .ok (.return_, 1) := by decide +kernel
theorem dX5_init_0 : decode cX5_init 0 = .ok (.aload_n 0, 1) := by decide +kernel
theorem dX5_init_1 : decode cX5_init 1 = .ok (.invokespecial 3, 3) := by decide +kernel
theorem dX5_init_4 : decode cX5_init 4 = .ok (.aload_n 0, 1) := by decide +kernel
theorem dX5_init_5 : decode cX5_init 5 = .ok (.bipush 8, 2) := by decide +kernel
theorem dX5_init_7 : decode cX5_init 7 = .ok (.newarray .int, 2) := by decide +kernel
theorem dX5_init_9 : decode cX5_init 9 = .ok (.putfield 9, 3) := by decide +kernel
theorem dX5_init_12 : decode cX5_init 12 = .ok (.aload_n 0, 1) := by decide +kernel
theorem dX5_init_13 : decode cX5_init 13 = .ok (.bipush 8, 2) := by decide +kernel
theorem dX5_init_15 : decode cX5_init 15 = .ok (.newarray .int, 2) := by decide +kernel
theorem dX5_init_17 : decode cX5_init 17 = .ok (.putfield 15, 3) := by decide +kernel
theorem dX5_init_20 : decode cX5_init 20 = .ok (.aload_n 0, 1) := by decide +kernel
theorem dX5_init_21 : decode cX5_init 21 = .ok (.aload_n 1, 1) := by decide +kernel
theorem dX5_init_22 : decode cX5_init 22 = .ok (.putfield 18, 3) := by decide +kernel
theorem dX5_init_25 : decode cX5_init 25 = .ok (.return_, 1) := by decide +kernel
theorem dX6_init_0 : decode cX6_init 0 = .ok (.aload_n 0, 1) := by decide +kernel
theorem dX6_init_1 : decode cX6_init 1 = .ok (.invokespecial 3, 3) := by decide +kernel
theorem dX6_init_4 : decode cX6_init 4 = .ok (.aload_n 0, 1) := by decide +kernel
theorem dX6_init_5 : decode cX6_init 5 = .ok (.new 9, 3) := by decide +kernel
theorem dX6_init_8 : decode cX6_init 8 = .ok (.dup, 1) := by decide +kernel
theorem dX6_init_9 : decode cX6_init 9 = .ok (.invokespecial 11, 3) := by decide +kernel
theorem dX6_init_12 : decode cX6_init 12 = .ok (.putfield 12, 3) := by decide +kernel
theorem dX6_init_15 : decode cX6_init 15 = .ok (.aload_n 0, 1) := by decide +kernel
theorem dX6_init_16 : decode cX6_init 16 = .ok (.iconst (-1), 1) := by decide +kernel
theorem dX6_init_17 : decode cX6_init 17 = .ok (.putfield 18, 3) := by decide +kernel
theorem dX6_init_20 : decode cX6_init 20 = .ok (.aload_n 0, 1) := by decide +kernel
theorem dX6_init_21 : decode cX6_init 21 = .ok (.iconst 3, 1) := by decide +kernel
theorem dX6_init_22 : decode cX6_init 22 = .ok (.newarray .int, 2) := by decide +kernel
theorem dX6_init_24 : decode cX6_init 24 = .ok (.putfield 22, 3) := by decide +kernel
theorem dX6_init_27 : decode cX6_init 27 = .ok (.aload_n 0, 1) := by decide +kernel
theorem dX6_init_28 : decode cX6_init 28 = .ok (.aload_n 1, 1) := by decide +kernel
theorem dX6_init_29 : decode cX6_init 29 = .ok (.putfield 26, 3) := by decide +kernel
theorem dX6_init_32 : decode cX6_init 32 = .ok (.return_, 1) := by decide +kernel
theorem dX6_kindOf_0 : decode cX6_kindOf 0 = .ok (.iload_n 0, 1) := by decide +kernel
theorem dX6_kindOf_1 : decode cX6_kindOf 1 = .ok (.iconst (-1), 1) := by decide +kernel
theorem dX6_kindOf_2 : decode cX6_kindOf 2 = .ok (.if_icmp .ne 5, 3) := by decide +kernel
theorem dX6_kindOf_5 : decode cX6_kindOf 5 = .ok (.iconst 0, 1) := by decide +kernel
theorem dX6_kindOf_6 : decode cX6_kindOf 6 = .ok (.ireturn, 1) := by decide +kernel
theorem dX6_readAll_0 : decode cX6_readAll 0 = .ok (.aload_n 0, 1) := by decide +kernel
theorem dX6_readAll_1 : decode cX6_readAll 1 = .ok (.getfield 12, 3) := by decide +kernel
theorem dX6_readAll_4 : decode cX6_readAll 4 = .ok (.invokevirtual 30, 3) := by decide +kernel
theorem dX6_readAll_7 : decode cX6_readAll 7 = .ok (.aload_n 0, 1) := by decide +kernel
theorem dX6_readAll_8 : decode cX6_readAll 8 = .ok (.iconst 0, 1) := by decide +kernel
theorem dX6_readAll_9 : decode cX6_readAll 9 = .ok (.putfield 33, 3) := by decide +kernel
theorem dX6_readAll_12 : decode cX6_readAll 12 = .ok (.aload_n 0, 1) := by decide +kernel
theorem dX6_readAll_13 : decode cX6_readAll 13 = .ok (.iconst (-1), 1) := by decide +kernel
theorem dX6_readAll_14 : decode cX6_readAll 14 = .ok (.putfield 18, 3) := by decide +kernel
theorem dX6_readAll_17 : decode cX6_readAll 17 = .ok (.aload_n 0, 1) := by decide +kernel
theorem dX6_readAll_18 : decode cX6_readAll 18 = .ok (.iconst 0, 1) := by decide +kernel
theorem dX6_readAll_19 : decode cX6_readAll 19 = .ok (.putfield 36, 3) := by decide +kernel
theorem dX6_readAll_22 : decode cX6_readAll 22 = .ok (.aload_n 0, 1) := by decide +kernel
theorem dX6_readAll_23 : decode cX6_readAll 23 = .ok (.iconst 5, 1) := by decide +kernel
theorem dX6_readAll_24 : decode cX6_readAll 24 = .ok (.putfield 39, 3) := by decide +kernel
theorem dX6_readAll_27 : decode cX6_readAll 27 = .ok (.iconst 0, 1) := by decide +kernel
theorem dX6_readAll_28 : decode cX6_readAll 28 = .ok (.istore_n 1, 1) := by decide +kernel
theorem dX6_readAll_29 : decode cX6_readAll 29 = .ok (.iload_n 1, 1) := by decide +kernel
theorem dX6_readAll_30 : decode cX6_readAll 30 = .ok (.sipush 800, 3) := by decide +kernel
theorem dX6_readAll_33 : decode cX6_readAll 33 = .ok (.if_icmp .gt 41, 3) := by decide +kernel
theorem dX6_readAll_36 : decode cX6_readAll 36 = .ok (.aload_n 0, 1) := by decide +kernel
theorem dX6_readAll_37 : decode cX6_readAll 37 = .ok (.getfield 33, 3) := by decide +kernel
theorem dX6_readAll_40 : decode cX6_readAll 40 = .ok (.ifCond .ne 34, 3) := by decide +kernel
theorem dX6_readAll_43 : decode cX6_readAll 43 = .ok (.aload_n 0, 1) := by decide +kernel
theorem dX6_readAll_44 : decode cX6_readAll 44 = .ok (.invokevirtual 42, 3) := by decide +kernel
theorem dX6_readAll_47 : decode cX6_readAll 47 = .ok (.aload_n 0, 1) := by decide +kernel
theorem dX6_readAll_48 : decode cX6_readAll 48 = .ok (.getfield 45, 3) := by decide +kernel
theorem dX6_readAll_51 : decode cX6_readAll 51 = .ok (.ifCond .ne 13, 3) := by decide +kernel
theorem dX6_readAll_54 : decode cX6_readAll 54 = .ok (.aload_n 0, 1) := by decide +kernel
theorem dX6_readAll_55 : decode cX6_readAll 55 = .ok (.getfield 39, 3) := by decide +kernel
theorem dX6_readAll_58 : decode cX6_readAll 58 = .ok (.iconst 5, 1) := by decide +kernel
theorem dX6_readAll_59 : decode cX6_readAll 59 = .ok (.if_icmp .ne 5, 3) := by decide +kernel
theorem dX6_readAll_62 : decode cX6_readAll 62 = .ok (.iconst 1, 1) := by decide +kernel
theorem dX6_readAll_63 : decode cX6_readAll 63 = .ok (.ireturn, 1) := by decide +kernel
theorem dX6_readToken_0 : decode cX6_readToken 0 = .ok (.aload_n 0, 1) := by decide +kernel
theorem dX6_readToken_1 : decode cX6_readToken 1 = .ok (.getfield 36, 3) := by decide +kernel
theorem dX6_readToken_4 : decode cX6_readToken 4 = .ok (.aload_n 0, 1) := by decide +kernel
theorem dX6_readToken_5 : decode cX6_readToken 5 = .ok (.getfield 26, 3) := by decide +kernel
theorem dX6_readToken_8 : decode cX6_readToken 8 = .ok (.getfield 51, 3) := by decide +kernel
theorem dX6_readToken_11 : decode cX6_readToken 11 = .ok (.if_icmp .ge 33, 3) := by decide +kernel
theorem dX6_readToken_44 : decode cX6_readToken 44 = .ok (.aload_n 0, 1) := by decide +kernel
theorem dX6_readToken_45 : decode cX6_readToken 45 = .ok (.aload_n 0, 1) := by decide +kernel
theorem dX6_readToken_46 : decode cX6_readToken 46 = .ok (.getfield 36, 3) := by decide +kernel
theorem dX6_readToken_49 : decode cX6_readToken 49 = .ok (.putfield 64, 3) := by decide +kernel
theorem dX6_readToken_52 : decode cX6_readToken 52 = .ok (.aload_n 0, 1) := by decide +kernel
theorem dX6_readToken_53 : decode cX6_readToken 53 = .ok (.aload_n 0, 1) := by decide +kernel
theorem dX6_readToken_54 : decode cX6_readToken 54 = .ok (.getfield 26, 3) := by decide +kernel
theorem dX6_readToken_57 : decode cX6_readToken 57 = .ok (.aload_n 0, 1) := by decide +kernel
theorem dX6_readToken_58 : decode cX6_readToken 58 = .ok (.getfield 36, 3) := by decide +kernel
theorem dX6_readToken_61 : decode cX6_readToken 61 = .ok (.invokevirtual 56, 3) := by decide +kernel
theorem dX6_readToken_64 : decode cX6_readToken 64 = .ok (.invokestatic 67, 3) := by decide +kernel
theorem dX6_readToken_67 : decode cX6_readToken 67 = .ok (.putfield 45, 3) := by decide +kernel
theorem dX6_readToken_70 : decode cX6_readToken 70 = .ok (.aload_n 0, 1) := by decide +kernel
theorem dX6_readToken_71 : decode cX6_readToken 71 = .ok (.getfield 45, 3) := by decide +kernel
theorem dX6_readToken_74 : decode cX6_readToken 74 = .ok (.iconst 1, 1) := by decide +kernel
theorem dX6_readToken_75 : decode cX6_readToken 75 = .ok (.if_icmp .eq 11, 3) := by decide +kernel
theorem dX6_readToken_78 : decode cX6_readToken 78 = .ok (.aload_n 0, 1) := by decide +kernel
theorem dX6_readToken_79 : decode cX6_readToken 79 = .ok (.getfield 45, 3) := by decide +kernel
theorem dX6_readToken_82 : decode cX6_readToken 82 = .ok (.iconst 2, 1) := by decide +kernel
theorem dX6_readToken_83 : decode cX6_readToken 83 = .ok (.if_icmp .ne 10, 3) := by decide +kernel
theorem dX6_readToken_93 : decode cX6_readToken 93 = .ok (.aload_n 0, 1) := by decide +kernel
theorem dX6_readToken_94 : decode cX6_readToken 94 = .ok (.getfield 45, 3) := by decide +kernel
theorem dX6_readToken_97 : decode cX6_readToken 97 = .ok (.ifCond .eq 13, 3) := by decide +kernel
theorem dX6_readToken_110 : decode cX6_readToken 110 = .ok (.return_, 1) := by decide +kernel
theorem dX7_has_0 : decode cX7_has 0 = .ok (.iload_n 1, 1) := by decide +kernel
theorem dX7_has_1 : decode cX7_has 1 = .ok (.ifCond .lt 12, 3) := by decide +kernel
theorem dX7_has_4 : decode cX7_has 4 = .ok (.iload_n 1, 1) := by decide +kernel
theorem dX7_has_5 : decode cX7_has 5 = .ok (.iconst 4, 1) := by decide +kernel
theorem dX7_has_6 : decode cX7_has 6 = .ok (.if_icmp .ge 7, 3) := by decide +kernel
theorem dX7_has_9 : decode cX7_has 9 = .ok (.iconst 1, 1) := by decide +kernel
theorem dX7_has_10 : decode cX7_has 10 = .ok (.goto 4, 3) := by decide +kernel
theorem dX7_has_13 : decode cX7_has 13 = .ok (.iconst 0, 1) := by decide +kernel
theorem dX7_has_14 : decode cX7_has 14 = .ok (.ireturn, 1) := by decide +kernel
theorem dX7_init_0 : decode cX7_init 0 = .ok (.aload_n 0, 1) := by decide +kernel
theorem dX7_init_1 : decode cX7_init 1 = .ok (.invokespecial 3, 3) := by decide +kernel
theorem dX7_init_4 : decode cX7_init 4 = .ok (.aload_n 0, 1) := by decide +kernel
theorem dX7_init_5 : decode cX7_init 5 = .ok (.iconst 4, 1) := by decide +kernel
theorem dX7_init_6 : decode cX7_init 6 = .ok (.newarray .int, 2) := by decide +kernel
theorem dX7_init_8 : decode cX7_init 8 = .ok (.putfield 9, 3) := by decide +kernel
theorem dX7_init_11 : decode cX7_init 11 = .ok (.aload_n 0, 1) := by decide +kernel
theorem dX7_init_12 : decode cX7_init 12 = .ok (.iconst 4, 1) := by decide +kernel
theorem dX7_init_13 : decode cX7_init 13 = .ok (.newarray .int, 2) := by decide +kernel
theorem dX7_init_15 : decode cX7_init 15 = .ok (.putfield 15, 3) := by decide +kernel
theorem dX7_init_18 : decode cX7_init 18 = .ok (.aload_n 0, 1) := by decide +kernel
theorem dX7_init_19 : decode cX7_init 19 = .ok (.sipush 240, 3) := by decide +kernel
theorem dX7_init_22 : decode cX7_init 22 = .ok (.newarray .long, 2) := by decide +kernel
theorem dX7_init_24 : decode cX7_init 24 = .ok (.putfield 18, 3) := by decide +kernel
theorem dX7_init_27 : decode cX7_init 27 = .ok (.aload_n 0, 1) := by decide +kernel
theorem dX7_init_28 : decode cX7_init 28 = .ok (.getfield 9, 3) := by decide +kernel
theorem dX7_init_31 : decode cX7_init 31 = .ok (.iconst (-1), 1) := by decide +kernel
theorem dX7_init_32 : decode cX7_init 32 = .ok (.invokestatic 22, 3) := by decide +kernel
theorem dX7_init_35 : decode cX7_init 35 = .ok (.return_, 1) := by decide +kernel
theorem dX7_isBare_0 : decode cX7_isBare 0 = .ok (.aload_n 0, 1) := by decide +kernel
theorem dX7_isBare_1 : decode cX7_isBare 1 = .ok (.iload_n 1, 1) := by decide +kernel
theorem dX7_isBare_2 : decode cX7_isBare 2 = .ok (.invokevirtual 28, 3) := by decide +kernel
theorem dX7_isBare_5 : decode cX7_isBare 5 = .ok (.iconst (-1), 1) := by decide +kernel
theorem dX7_isBare_6 : decode cX7_isBare 6 = .ok (.if_icmp .ne 7, 3) := by decide +kernel
theorem dX7_isBare_9 : decode cX7_isBare 9 = .ok (.iconst 1, 1) := by decide +kernel
theorem dX7_isBare_10 : decode cX7_isBare 10 = .ok (.goto 4, 3) := by decide +kernel
theorem dX7_isBare_14 : decode cX7_isBare 14 = .ok (.ireturn, 1) := by decide +kernel
theorem dX7_make_0 : decode cX7_make 0 = .ok (.aload_n 0, 1) := by decide +kernel
theorem dX7_make_1 : decode cX7_make 1 = .ok (.iload_n 1, 1) := by decide +kernel
theorem dX7_make_2 : decode cX7_make 2 = .ok (.invokevirtual 32, 3) := by decide +kernel
theorem dX7_make_5 : decode cX7_make 5 = .ok (.ifCond .eq 55, 3) := by decide +kernel
theorem dX7_make_8 : decode cX7_make 8 = .ok (.iload_n 3, 1) := by decide +kernel
theorem dX7_make_9 : decode cX7_make 9 = .ok (.iconst 0, 1) := by decide +kernel
theorem dX7_make_10 : decode cX7_make 10 = .ok (.bipush 60, 2) := by decide +kernel
theorem dX7_make_12 : decode cX7_make 12 = .ok (.invokestatic 39, 3) := by decide +kernel
theorem dX7_make_15 : decode cX7_make 15 = .ok (.ifCond .eq 45, 3) := by decide +kernel
theorem dX7_make_18 : decode cX7_make 18 = .ok (.aload_n 0, 1) := by decide +kernel
theorem dX7_make_19 : decode cX7_make 19 = .ok (.getfield 9, 3) := by decide +kernel
theorem dX7_make_22 : decode cX7_make 22 = .ok (.iload_n 1, 1) := by decide +kernel
theorem dX7_make_23 : decode cX7_make 23 = .ok (.iload_n 3, 1) := by decide +kernel
theorem dX7_make_24 : decode cX7_make 24 = .ok (.iastore, 1) := by decide +kernel
theorem dX7_make_25 : decode cX7_make 25 = .ok (.aload_n 0, 1) := by decide +kernel
theorem dX7_make_26 : decode cX7_make 26 = .ok (.getfield 15, 3) := by decide +kernel
theorem dX7_make_29 : decode cX7_make 29 = .ok (.iload_n 1, 1) := by decide +kernel
theorem dX7_make_30 : decode cX7_make 30 = .ok (.iload_n 2, 1) := by decide +kernel
theorem dX7_make_31 : decode cX7_make 31 = .ok (.iastore, 1) := by decide +kernel
theorem dX7_make_32 : decode cX7_make 32 = .ok (.iconst 0, 1) := by decide +kernel
theorem dX7_make_33 : decode cX7_make 33 = .ok (.istore 4, 2) := by decide +kernel
theorem dX7_make_35 : decode cX7_make 35 = .ok (.iload 4, 2) := by decide +kernel
theorem dX7_make_37 : decode cX7_make 37 = .ok (.iload_n 3, 1) := by decide +kernel
theorem dX7_make_38 : decode cX7_make 38 = .ok (.if_icmp .ge 22, 3) := by decide +kernel
theorem dX7_make_41 : decode cX7_make 41 = .ok (.aload_n 0, 1) := by decide +kernel
theorem dX7_make_42 : decode cX7_make 42 = .ok (.getfield 18, 3) := by decide +kernel
theorem dX7_make_45 : decode cX7_make 45 = .ok (.iload_n 1, 1) := by decide +kernel
theorem dX7_make_46 : decode cX7_make 46 = .ok (.bipush 60, 2) := by decide +kernel
theorem dX7_make_48 : decode cX7_make 48 = .ok (.imul, 1) := by decide +kernel
theorem dX7_make_49 : decode cX7_make 49 = .ok (.iload 4, 2) := by decide +kernel
theorem dX7_make_51 : decode cX7_make 51 = .ok (.iadd, 1) := by decide +kernel
theorem dX7_make_52 : decode cX7_make 52 = .ok (.lconst 0, 1) := by decide +kernel
theorem dX7_make_53 : decode cX7_make 53 = .ok (.lastore, 1) := by decide +kernel
theorem dX7_make_54 : decode cX7_make 54 = .ok (.iinc 4 1, 3) := by decide +kernel
theorem dX7_make_57 : decode cX7_make 57 = .ok (.goto (-22), 3) := by decide +kernel
theorem dX7_make_60 : decode cX7_make 60 = .ok (.return_, 1) := by decide +kernel
theorem dX7_sizeOf_0 : decode cX7_sizeOf 0 = .ok (.aload_n 0, 1) := by decide +kernel
theorem dX7_sizeOf_1 : decode cX7_sizeOf 1 = .ok (.iload_n 1, 1) := by decide +kernel
theorem dX7_sizeOf_2 : decode cX7_sizeOf 2 = .ok (.invokevirtual 32, 3) := by decide +kernel
theorem dX7_sizeOf_5 : decode cX7_sizeOf 5 = .ok (.ifCond .eq 12, 3) := by decide +kernel
theorem dX7_sizeOf_8 : decode cX7_sizeOf 8 = .ok (.aload_n 0, 1) := by decide +kernel
theorem dX7_sizeOf_9 : decode cX7_sizeOf 9 = .ok (.getfield 9, 3) := by decide +kernel
theorem dX7_sizeOf_12 : decode cX7_sizeOf 12 = .ok (.iload_n 1, 1) := by decide +kernel
theorem dX7_sizeOf_13 : decode cX7_sizeOf 13 = .ok (.iaload, 1) := by decide +kernel
theorem dX7_sizeOf_14 : decode cX7_sizeOf 14 = .ok (.goto 4, 3) := by decide +kernel
theorem dX7_sizeOf_17 : decode cX7_sizeOf 17 = .ok (.iconst (-1), 1) := by decide +kernel
theorem dX7_sizeOf_18 : decode cX7_sizeOf 18 = .ok (.ireturn, 1) := by decide +kernel
theorem dX7_withRow_0 : decode cX7_withRow 0 = .ok (.iconst 0, 1) := by decide +kernel
theorem dX7_withRow_1 : decode cX7_withRow 1 = .ok (.istore_n 1, 1) := by decide +kernel
theorem dX7_withRow_2 : decode cX7_withRow 2 = .ok (.iconst 0, 1) := by decide +kernel
theorem dX7_withRow_3 : decode cX7_withRow 3 = .ok (.istore_n 2, 1) := by decide +kernel
theorem dX7_withRow_4 : decode cX7_withRow 4 = .ok (.iload_n 2, 1) := by decide +kernel
theorem dX7_withRow_5 : decode cX7_withRow 5 = .ok (.iconst 4, 1) := by decide +kernel
theorem dX7_withRow_6 : decode cX7_withRow 6 = .ok (.if_icmp .ge 20, 3) := by decide +kernel
theorem dX7_withRow_9 : decode cX7_withRow 9 = .ok (.aload_n 0, 1) := by decide +kernel
theorem dX7_withRow_10 : decode cX7_withRow 10 = .ok (.iload_n 2, 1) := by decide +kernel
theorem dX7_withRow_11 : decode cX7_withRow 11 = .ok (.invokevirtual 36, 3) := by decide +kernel
theorem dX7_withRow_14 : decode cX7_withRow 14 = .ok (.ifCond .ne 6, 3) := by decide +kernel
theorem dX7_withRow_20 : decode cX7_withRow 20 = .ok (.iinc 2 1, 3) := by decide +kernel
theorem dX7_withRow_23 : decode cX7_withRow 23 = .ok (.goto (-19), 3) := by decide +kernel
theorem dX7_withRow_26 : decode cX7_withRow 26 = .ok (.iload_n 1, 1) := by decide +kernel
theorem dX7_withRow_27 : decode cX7_withRow 27 = .ok (.ireturn, 1) := by decide +kernel
theorem dX8_init_0 : decode cX8_init 0 = .ok (.aload_n 0, 1) := by decide +kernel
theorem dX8_init_1 : decode cX8_init 1 = .ok (.invokespecial 5, 3) := by decide +kernel
theorem dX8_init_4 : decode cX8_init 4 = .ok (.aload_n 0, 1) := by decide +kernel
theorem dX8_init_5 : decode cX8_init 5 = .ok (.sipush 128, 3) := by decide +kernel
theorem dX8_init_8 : decode cX8_init 8 = .ok (.newarray .int, 2) := by decide +kernel
theorem dX8_init_10 : decode cX8_init 10 = .ok (.putfield 11, 3) := by decide +kernel
theorem dX8_init_13 : decode cX8_init 13 = .ok (.aload_n 0, 1) := by decide +kernel
theorem dX8_init_14 : decode cX8_init 14 = .ok (.aload_n 1, 1) := by decide +kernel
theorem dX8_init_15 : decode cX8_init 15 = .ok (.putfield 15, 3) := by decide +kernel
theorem dX8_init_18 : decode cX8_init 18 = .ok (.return_, 1) := by decide +kernel
theorem dX9_append_0 : decode cX9_append 0 = .ok (.bipush 24, 2) := by decide +kernel
theorem dX9_append_2 : decode cX9_append 2 = .ok (.istore_n 2, 1) := by decide +kernel
theorem dX9_append_3 : decode cX9_append 3 = .ok (.iload_n 2, 1) := by decide +kernel
theorem dX9_append_4 : decode cX9_append 4 = .ok (.ifCond .lt 42, 3) := by decide +kernel
theorem dX9_append_7 : decode cX9_append 7 = .ok (.aload_n 0, 1) := by decide +kernel
theorem dX9_append_8 : decode cX9_append 8 = .ok (.getfield 15, 3) := by decide +kernel
theorem dX9_append_11 : decode cX9_append 11 = .ok (.sipush 800, 3) := by decide +kernel
theorem dX9_append_14 : decode cX9_append 14 = .ok (.if_icmp .ge 26, 3) := by decide +kernel
theorem dX9_append_17 : decode cX9_append 17 = .ok (.aload_n 0, 1) := by decide +kernel
theorem dX9_append_18 : decode cX9_append 18 = .ok (.getfield 9, 3) := by decide +kernel
theorem dX9_append_21 : decode cX9_append 21 = .ok (.aload_n 0, 1) := by decide +kernel
theorem dX9_append_22 : decode cX9_append 22 = .ok (.getfield 15, 3) := by decide +kernel
theorem dX9_append_25 : decode cX9_append 25 = .ok (.iload_n 1, 1) := by decide +kernel
theorem dX9_append_26 : decode cX9_append 26 = .ok (.iload_n 2, 1) := by decide +kernel
theorem dX9_append_27 : decode cX9_append 27 = .ok (.ishr, 1) := by decide +kernel
theorem dX9_append_28 : decode cX9_append 28 = .ok (.i2b, 1) := by decide +kernel
theorem dX9_append_29 : decode cX9_append 29 = .ok (.bastore, 1) := by decide +kernel
theorem dX9_append_30 : decode cX9_append 30 = .ok (.aload_n 0, 1) := by decide +kernel
theorem dX9_append_31 : decode cX9_append 31 = .ok (.dup, 1) := by decide +kernel
theorem dX9_append_32 : decode cX9_append 32 = .ok (.getfield 15, 3) := by decide +kernel
theorem dX9_append_35 : decode cX9_append 35 = .ok (.iconst 1, 1) := by decide +kernel
theorem dX9_append_36 : decode cX9_append 36 = .ok (.iadd, 1) := by decide +kernel
theorem dX9_append_37 : decode cX9_append 37 = .ok (.putfield 15, 3) := by decide +kernel
theorem dX9_append_40 : decode cX9_append 40 = .ok (.iinc 2 (-8), 3) := by decide +kernel
theorem dX9_append_43 : decode cX9_append 43 = .ok (.goto (-40), 3) := by decide +kernel
theorem dX9_append_46 : decode cX9_append 46 = .ok (.return_, 1) := by decide +kernel
theorem dX9_byteAt_0 : decode cX9_byteAt 0 = .ok (.iload_n 1, 1) := by decide +kernel
theorem dX9_byteAt_1 : decode cX9_byteAt 1 = .ok (.ifCond .lt 31, 3) := by decide +kernel
theorem dX9_byteAt_4 : decode cX9_byteAt 4 = .ok (.iload_n 1, 1) := by decide +kernel
theorem dX9_byteAt_5 : decode cX9_byteAt 5 = .ok (.aload_n 0, 1) := by decide +kernel
theorem dX9_byteAt_6 : decode cX9_byteAt 6 = .ok (.getfield 15, 3) := by decide +kernel
theorem dX9_byteAt_9 : decode cX9_byteAt 9 = .ok (.if_icmp .ge 23, 3) := by decide +kernel
theorem dX9_byteAt_32 : decode cX9_byteAt 32 = .ok (.iconst (-1), 1) := by decide +kernel
theorem dX9_byteAt_33 : decode cX9_byteAt 33 = .ok (.ireturn, 1) := by decide +kernel
theorem dX9_hasRoom_0 : decode cX9_hasRoom 0 = .ok (.aload_n 0, 1) := by decide +kernel
theorem dX9_hasRoom_1 : decode cX9_hasRoom 1 = .ok (.getfield 15, 3) := by decide +kernel
theorem dX9_hasRoom_4 : decode cX9_hasRoom 4 = .ok (.iload_n 1, 1) := by decide +kernel
theorem dX9_hasRoom_5 : decode cX9_hasRoom 5 = .ok (.iadd, 1) := by decide +kernel
theorem dX9_hasRoom_6 : decode cX9_hasRoom 6 = .ok (.sipush 800, 3) := by decide +kernel
theorem dX9_hasRoom_9 : decode cX9_hasRoom 9 = .ok (.if_icmp .gt 7, 3) := by decide +kernel
theorem dX9_hasRoom_12 : decode cX9_hasRoom 12 = .ok (.iconst 1, 1) := by decide +kernel
theorem dX9_hasRoom_13 : decode cX9_hasRoom 13 = .ok (.goto 4, 3) := by decide +kernel
theorem dX9_hasRoom_17 : decode cX9_hasRoom 17 = .ok (.ireturn, 1) := by decide +kernel
theorem dX9_init_0 : decode cX9_init 0 = .ok (.aload_n 0, 1) := by decide +kernel
theorem dX9_init_1 : decode cX9_init 1 = .ok (.invokespecial 3, 3) := by decide +kernel
theorem dX9_init_4 : decode cX9_init 4 = .ok (.aload_n 0, 1) := by decide +kernel
theorem dX9_init_5 : decode cX9_init 5 = .ok (.sipush 800, 3) := by decide +kernel
theorem dX9_init_8 : decode cX9_init 8 = .ok (.newarray .byte, 2) := by decide +kernel
theorem dX9_init_10 : decode cX9_init 10 = .ok (.putfield 9, 3) := by decide +kernel
theorem dX9_init_13 : decode cX9_init 13 = .ok (.return_, 1) := by decide +kernel
end
section
/-! what the contracts are made of: worlds, words, calls -/
theorem tt_lt {a b : Int32} (h : a < b) : a.toInt < b.toInt := Int32.lt_iff_toInt_lt.mp h
theorem tt_nlt {a b : Int32} (h : ¬ a < b) : b.toInt ≤ a.toInt := Int.not_lt.mp (fun q => h (Int32.lt_iff_toInt_lt.mpr q))
theorem tt_le {a b : Int32} (h : a ≤ b) : a.toInt ≤ b.toInt := Int32.le_iff_toInt_le.mp h
theorem tt_nle {a b : Int32} (h : ¬ a ≤ b) : b.toInt < a.toInt := Int.not_le.mp (fun q => h (Int32.le_iff_toInt_le.mpr q))
theorem tt_eq {a b : Int32} (h : a = b) : a.toInt = b.toInt := congrArg _ h
theorem tt_ne {a b : Int32} (h : ¬ a = b) : a.toInt ≠ b.toInt := fun q => h (Int32.toInt_inj.mp q)
/-- what comes back of a call that writes: addresses, numbers, contents of rows -/
abbrev SU : Type := (Nat → Nat) × (Nat → Int32) × (Nat → Nat → Int32) × (Nat → Nat → Int64)
def selN (l : List Nat) (k : Nat) : Nat := l.getD k 0
def selI (l : List Int32) (k : Nat) : Int32 := l.getD k 0
def selF (l : List (Nat → Int32)) (k : Nat) : Nat → Int32 := l.getD k (fun _ => 0)
def selJ (l : List (Nat → Int64)) (k : Nat) : Nat → Int64 := l.getD k (fun _ => 0)
def selO (l : List Nat) (k : Nat) : Option Nat := l[k]?
abbrev rmd (d c sl : Nat) : Room := { frames := d, cells := c, slots := sl, locals := 64 * d }
abbrev tyL (cA : Nat → ClassId) : List (ClassId × FieldType) := [(cA 0, .byte), (cA 1, .int), (cA 2, .long), (cA 3, .boolean), (cA 4, .object "WristTreaty$Image")]
def NW (U : State) : Prop := ∀ q ∈ nestT, va_Nw (.methodLinkNest q.1 q.2.1 q.2.2.1 q.2.2.2) U
theorem NW.warm {s U : State} (hW : s.WarmedH U.vm) (h : NW s) : NW U := fun q hq => va_Nw.warmM hW (h q hq)
theorem NW.same {u U : State} (h : u.vm = U.vm) (hN : NW u) : NW U := fun q hq => va_Nw.same rfl h (hN q hq)
def KN (D : va_G) (cA : Nat → ClassId) (U : State) : Prop := va_K D vwCl (tyL cA) U ∧ NW U ∧ va_AO "WristTreaty$Image" U
theorem KN.warm {D : va_G} {cA : Nat → ClassId} {s U : State} (hW : s.WarmedH U.vm) (h : KN D cA s) : KN D cA U := ⟨va_K.moved hW.alike h.1, NW.warm hW h.2.1, va_AO.moved hW.alike h.2.2⟩
theorem KN.calling {D : va_G} {cA : Nat → ClassId} {U : State} {g : JFrame} {mk : MethodId} {a : Array Value} (h : KN D cA U) : KN D cA (U.calling g mk a) := ⟨va_K.moved (u := U) (U := U.calling g mk a) (Vm.Alike.refl U.vm) h.1, NW.same rfl h.2.1, va_AO.moved (u := U) (U := U.calling g mk a) (Vm.Alike.refl U.vm) h.2.2⟩
def PP (D : va_G) (cA : Nat → ClassId) (ws : va_W) (av : List Value) : Array Value → State → Prop := va_Pc av (fun U => va_P D vwCl ws U.heap ∧ KN D cA U)
theorem PP.blind {D : va_G} {cA : Nat → ClassId} {ws : va_W} {av : List Value} : FrameBlind (PP D cA ws av) := fun _ _ _ _ q => ⟨q.1, q.2.1, KN.calling q.2.2⟩
def PM (D : va_G) (cA : Nat → ClassId) (sz : Nat) (ws : va_W) (av : List Value) : Array Value → State → Prop := va_Pc av (fun U => U.heap.size = sz ∧ va_P D vwCl ws U.heap ∧ KN D cA U ∧ va_D (fun _ => True) ws)
theorem PM.blind {D : va_G} {cA : Nat → ClassId} {sz : Nat} {ws : va_W} {av : List Value} : FrameBlind (PM D cA sz ws av) := fun _ _ _ _ q => ⟨q.1, q.2.1, q.2.2.1, KN.calling q.2.2.2.1, q.2.2.2.2⟩
theorem tb_good {w : Cond} (h : w ∈ TB) : (w.onTables && w.keeps) = true ∨ ∃ ty, w = .arrayClass ty := good_of_word (List.mem_filter.mp h).2
theorem tb_gi {ws : List Cond} (h : ∀ w ∈ ws, w ∈ TB) : GoodIn TB ws := fun w hw => ⟨h w hw, tb_good (h w hw)⟩
theorem tb_c {k : Cond} (h : k ∈ TB) : GoodIn TB (k :: TB) := tb_gi (fun w hw => by
  rcases List.mem_cons.mp hw with rfl | hw
  · exact h
  · exact hw)
theorem tb_V {own : String} {idx : Nat} {y : MethodName} {k : Cond} (h1 : Cond.methodLink own idx y ∈ TB) (h2 : Cond.instanceMethod y ∈ TB) (h3 : Cond.selects y.cls y y ∈ TB) (h4 : Cond.initialized y.cls ∈ TB) (h5 : k ∈ TB) : GoodIn TB (wsV own idx y.cls y (k :: TB)) := tb_gi (fun w hw => by
  unfold wsV at hw
  rcases List.mem_append.mp hw with hw | hw
  · simp only [List.mem_cons, List.not_mem_nil, or_false] at hw
    rcases hw with rfl | rfl | rfl | rfl <;> assumption
  · rcases List.mem_cons.mp hw with rfl | hw
    · exact h5
    · exact hw)
theorem tb_S {own : String} {idx : Nat} {y : MethodName} {k : Cond} (h1 : Cond.methodLink own idx y ∈ TB) (h2 : Cond.static y ∈ TB) (h4 : Cond.initialized y.cls ∈ TB) (h5 : k ∈ TB) : GoodIn TB (va_wsS own idx y (k :: TB)) := tb_gi (fun w hw => by
  unfold va_wsS at hw
  rcases List.mem_append.mp hw with hw | hw
  · simp only [List.mem_cons, List.not_mem_nil, or_false] at hw
    rcases hw with rfl | rfl | rfl <;> assumption
  · rcases List.mem_cons.mp hw with rfl | hw
    · exact h5
    · exact hw)
abbrev Hd (y : MethodName) (n : Nat) : Prop := y.cls ≠ "java/lang/invoke/MethodHandle" ∧ y.cls ≠ "java/lang/invoke/VarHandle" ∧ (parseMethodDescriptor y.desc).map (fun d => d.parameters.length) = some n
abbrev Rm (rm R : Room) (mL mc ms : Nat) : Prop := rm.cells = mc ∧ rm.slots = ms ∧ rm.frames + 1 ≤ R.frames ∧ 8 + (mL + 11) + rm.locals ≤ R.locals
section CP
variable {p : Program} {l : Launch} {e : Env} {R : Room} {s : State} {m : MethodId} {args : Array Value} {below : List Frame} {meth : Method} {c : Code} {H H0 : Heap} {locs : List Loc} {cells slots : Nat} {Q : State → Prop}
variable {D : va_G} {cA : Nat → ClassId} {cc cc' : ByteArray} {nL mL pc index n mc ms : Nat} {own host : String} {y : MethodName} {ret : Option FieldType} {rm : Room} {ws wsC wr : va_W} {As rest st0 : List Value} {b ci : Nat} {fs : List Value} {T : u_T} {N : Nat} {ls : Array Slot} {A0 : Nat → Prop}
/-- a call that only reads: what goes on -/
theorem runSi {post : Int32 → Prop} {a : Array Value} (hr : va_Run p l e R s m args below meth c H locs cells slots 0 0 (F0 m pc ls st0) rest (vp_Si post a) (fun _ => False))
    (kk : ∀ r : Int32, post r → W p l e R s m args below meth c H locs cells slots Q (F0 m (pc + 3) ls (.int r :: rest))) : W p l e R s m args below meth c H locs cells slots Q (F0 m pc ls st0) := by
  intro T hT X
  obtain ⟨v, st₀, t, T', L, h0, X', hL, e1, e2, ⟨r, hv, hp, hh⟩, st⟩ := hr T hT X
  cases hv
  obtain ⟨t2, a1, b1⟩ := kk r hp T' (by rw [e1, hh, h0]) (Stand.forget X' (fun q h => (hL q h).elim))
  exact ⟨t2, st t2 a1, b1⟩
theorem runSl {post : Int64 → Prop} {a : Array Value} (hr : va_Run p l e R s m args below meth c H locs cells slots 0 0 (F0 m pc ls st0) rest (vp_Sl post a) (fun _ => False))
    (kk : ∀ r : Int64, post r → W p l e R s m args below meth c H locs cells slots Q (F0 m (pc + 3) ls (.long r :: rest))) : W p l e R s m args below meth c H locs cells slots Q (F0 m pc ls st0) := by
  intro T hT X
  obtain ⟨v, st₀, t, T', L, h0, X', hL, e1, e2, ⟨r, hv, hp, hh⟩, st⟩ := hr T hT X
  cases hv
  obtain ⟨t2, a1, b1⟩ := kk r hp T' (by rw [e1, hh, h0]) (Stand.forget X' (fun q h => (hL q h).elim))
  exact ⟨t2, st t2 a1, b1⟩
theorem ppS (hKN : KN D cA s) (hP : va_P D vwCl wsC H) : PreS s H (PP D cA wsC As) As := ⟨PP.blind, fun _ hU hW => ⟨rfl, by rw [hU]; exact hP, KN.warm hW hKN⟩⟩
theorem ppV (hKN : KN D cA s) (hP : va_P D vwCl wsC H) (he : wsC[0]? = some (b, .inr (ci, fs))) (hc : vwCl[ci]? = some (y.cls, T, N)) : PreV s H y.cls b (PP D cA wsC (.ref b :: As)) As := ⟨PP.blind, va_recv hKN.1 hP hc he, fun _ hU hW => ⟨rfl, by rw [hU]; exact hP, KN.warm hW hKN⟩⟩
theorem pmS (hKN : KN D cA s) (hP : va_P D vwCl wsC H) (hD : va_D A0 wsC) : PreS s H (PM D cA H.size wsC As) As := ⟨PM.blind, fun _ hU hW => ⟨rfl, by rw [hU], by rw [hU]; exact hP, KN.warm hW hKN, hD.weaken (fun _ _ _ _ => trivial)⟩⟩
theorem pmV (hKN : KN D cA s) (hP : va_P D vwCl wsC H) (hD : va_D A0 wsC) (he : wsC[0]? = some (b, .inr (ci, fs))) (hc : vwCl[ci]? = some (y.cls, T, N)) : PreV s H y.cls b (PM D cA H.size wsC (.ref b :: As)) As := ⟨PM.blind, va_recv hKN.1 hP hc he, fun _ hU hW => ⟨rfl, by rw [hU], by rw [hU]; exact hP, KN.warm hW hKN, hD.weaken (fun _ _ _ _ => trivial)⟩⟩
theorem cpVi {post : Int32 → Prop} (X : CallFix p m c cc nL s args TB own) (hKN : KN D cA s) (hP : va_P D vwCl wsC H)
    (hM : Met l y (Cond.code y cc' mL ret :: TB) rm (PP D cA wsC (.ref b :: As)) (vp_Si post) 0 0 (fun _ => False))
    (g : GoodIn TB (wsV own index y.cls y (Cond.code y cc' mL ret :: TB))) (hd : Hd y n) (hrm : Rm rm R mL 0 0) (hf : cells ≤ R.cells ∧ slots ≤ R.slots)
    (he : wsC[0]? = some (b, .inr (ci, fs))) (hc : vwCl[ci]? = some (y.cls, T, N)) (hn : As.length = n) (hsz : ls.size = nL) (hst : st0 = As.reverse ++ .ref b :: rest) (hW : (rest.map fun v => v.category).sum ≤ 8)
    (hdg : decode cc pc = .ok (.invokevirtual index, 3))
    (kk : ∀ r : Int32, post r → W p l e R s m args below meth c H locs cells slots Q (F0 m (pc + 3) ls (.int r :: rest))) : W p l e R s m args below meth c H locs cells slots Q (F0 m pc ls st0) :=
  runSi (va_runV (As := As) (rest := rest) X hM (cwV n X.2.2.2.2 g rfl hrm.1 hrm.2.1 ⟨rfl, hd⟩ ⟨hrm.2.2.1, hrm.2.2.2⟩) (ppV hKN hP he hc) rfl hn hsz hst (lv_room hW) hdg hf) kk
theorem cpVl {post : Int64 → Prop} (X : CallFix p m c cc nL s args TB own) (hKN : KN D cA s) (hP : va_P D vwCl wsC H)
    (hM : Met l y (Cond.code y cc' mL ret :: TB) rm (PP D cA wsC (.ref b :: As)) (vp_Sl post) 0 0 (fun _ => False))
    (g : GoodIn TB (wsV own index y.cls y (Cond.code y cc' mL ret :: TB))) (hd : Hd y n) (hrm : Rm rm R mL 0 0) (hf : cells ≤ R.cells ∧ slots ≤ R.slots)
    (he : wsC[0]? = some (b, .inr (ci, fs))) (hc : vwCl[ci]? = some (y.cls, T, N)) (hn : As.length = n) (hsz : ls.size = nL) (hst : st0 = As.reverse ++ .ref b :: rest) (hW : (rest.map fun v => v.category).sum ≤ 8)
    (hdg : decode cc pc = .ok (.invokevirtual index, 3))
    (kk : ∀ r : Int64, post r → W p l e R s m args below meth c H locs cells slots Q (F0 m (pc + 3) ls (.long r :: rest))) : W p l e R s m args below meth c H locs cells slots Q (F0 m pc ls st0) :=
  runSl (va_runV (As := As) (rest := rest) X hM (cwV n X.2.2.2.2 g rfl hrm.1 hrm.2.1 ⟨rfl, hd⟩ ⟨hrm.2.2.1, hrm.2.2.2⟩) (ppV hKN hP he hc) rfl hn hsz hst (lv_room hW) hdg hf) kk
theorem cpSi {post : Int32 → Prop} (X : CallFix p m c cc nL s args TB own) (hKN : KN D cA s) (hP : va_P D vwCl wsC H)
    (hM : Met l y (Cond.code y cc' mL ret :: TB) rm (PP D cA wsC As) (vp_Si post) 0 0 (fun _ => False))
    (g : GoodIn TB (va_wsS own index y (Cond.code y cc' mL ret :: TB))) (hd : Hd y n) (hrm : Rm rm R mL 0 0) (hf : cells ≤ R.cells ∧ slots ≤ R.slots)
    (hn : As.length = n) (hsz : ls.size = nL) (hst : st0 = As.reverse ++ rest) (hW : (rest.map fun v => v.category).sum ≤ 8)
    (hdg : decode cc pc = .ok (.invokestatic index, 3))
    (kk : ∀ r : Int32, post r → W p l e R s m args below meth c H locs cells slots Q (F0 m (pc + 3) ls (.int r :: rest))) : W p l e R s m args below meth c H locs cells slots Q (F0 m pc ls st0) :=
  runSi (va_runS (As := As) (rest := rest) X hM (va_cwS n X.2.2.2.2 g rfl hrm.1 hrm.2.1 hd ⟨hrm.2.2.1, hrm.2.2.2⟩) (ppS hKN hP) rfl hn hsz hst (lv_room hW) hdg hf) kk
theorem cpSNi {post : Int32 → Prop} (X : CallFix p m c cc nL s args TB own) (hKN : KN D cA s) (hP : va_P D vwCl wsC H)
    (hM : Met l y (Cond.code y cc' mL ret :: TB) rm (PP D cA wsC As) (vp_Si post) 0 0 (fun _ => False))
    (g : (own, index, y, host) ∈ nestT ∧ Cond.static y ∈ TB ∧ Cond.initialized y.cls ∈ TB ∧ Cond.code y cc' mL ret ∈ TB) (hd : Hd y n) (hrm : Rm rm R mL 0 0) (hf : cells ≤ R.cells ∧ slots ≤ R.slots)
    (hn : As.length = n) (hsz : ls.size = nL) (hst : st0 = As.reverse ++ rest) (hW : (rest.map fun v => v.category).sum ≤ 8)
    (hdg : decode cc pc = .ok (.invokestatic index, 3))
    (kk : ∀ r : Int32, post r → W p l e R s m args below meth c H locs cells slots Q (F0 m (pc + 3) ls (.int r :: rest))) : W p l e R s m args below meth c H locs cells slots Q (F0 m pc ls st0) :=
  runSi (va_runSN (host := host) (As := As) (rest := rest) X hM ⟨va_cnB n X.2.2.2.2 (tb_c g.2.2.2) rfl hrm.1 hrm.2.1 (hKN.2.1 _ g.1) (X.2.2.2.2 _ g.2.2.1) hd ⟨hrm.2.2.1, hrm.2.2.2⟩, X.2.2.2.2 _ g.2.1, trivial⟩ (ppS hKN hP) rfl hn hsz hst (lv_room hW) hdg hf) kk
/-- a call that may write, void -/
theorem cmRv {S : Type} {post : S → Prop} {w' : S → va_W} {a : Array Value} {isC isR : List Nat} (hP : va_P D vwCl ws H) (hD : va_D A0 ws) (hS : va_S A0 H0 H locs) (hA : ∀ q, H0.size ≤ q → A0 q)
    (hC : isC.map (fun i => ws[i]?) = wsC.map some) (hR : isR.map (fun i => ws[i]?) = wr.map some) (hnd : va_nd isR = true) (hdis : ∀ i ∈ isR, i ∉ isC)
    (hr : va_Run p l e R s m args below meth c H locs cells slots mc ms (F0 m pc ls st0) rest (va_Qv post (fun u t => va_P D vwCl (w' u) t.heap ∧ va_D (va_A wsC H.size) (w' u)) (va_A wsC H.size) a) (va_A wsC H.size))
    (kk : ∀ (u : S) (H1 : Heap) (locs1 : List Loc), post u → va_P D vwCl (wr ++ w' u) H1 → va_D A0 (wr ++ w' u) → va_S A0 H0 H1 locs1 → W p l e R s m args below meth c H1 locs1 (cells + mc) (slots + ms) Q (F0 m (pc + 3) ls rest)) : W p l e R s m args below meth c H locs cells slots Q (F0 m pc ls st0) := by
  have hFc := va_free (wc := wsC) hD hS hA isC hC
  refine va_callv hr hS (fun q _ h => hFc q h) hFc (fun u t H1 locs ht hvm hw hB hz1 hk1 hS => ?_)
  obtain ⟨hP1, hD1⟩ := hB
  rw [ht] at hP1
  obtain ⟨hP, hD⟩ := va_join (wr := wr) (w1 := w' u) hP hD isC isR hC hR hnd hdis hk1 hFc hP1 hD1
  exact kk u H1 locs hw hP hD hS
theorem cmRi {S : Type} {post : Int32 → S → Prop} {w' : S → va_W} {a : Array Value} {isC isR : List Nat} (hP : va_P D vwCl ws H) (hD : va_D A0 ws) (hS : va_S A0 H0 H locs) (hA : ∀ q, H0.size ≤ q → A0 q)
    (hC : isC.map (fun i => ws[i]?) = wsC.map some) (hR : isR.map (fun i => ws[i]?) = wr.map some) (hnd : va_nd isR = true) (hdis : ∀ i ∈ isR, i ∉ isC)
    (hr : va_Run p l e R s m args below meth c H locs cells slots mc ms (F0 m pc ls st0) rest (va_Qi post (fun u t => va_P D vwCl (w' u) t.heap ∧ va_D (va_A wsC H.size) (w' u)) (va_A wsC H.size) a) (va_A wsC H.size))
    (kk : ∀ (r : Int32) (u : S) (H1 : Heap) (locs1 : List Loc), post r u → va_P D vwCl (wr ++ w' u) H1 → va_D A0 (wr ++ w' u) → va_S A0 H0 H1 locs1 → W p l e R s m args below meth c H1 locs1 (cells + mc) (slots + ms) Q (F0 m (pc + 3) ls (.int r :: rest))) : W p l e R s m args below meth c H locs cells slots Q (F0 m pc ls st0) := by
  have hFc := va_free (wc := wsC) hD hS hA isC hC
  refine va_calli hr hS (fun q _ h => hFc q h) hFc (fun r u t H1 locs ht hvm hw hB hz1 hk1 hS => ?_)
  obtain ⟨hP1, hD1⟩ := hB
  rw [ht] at hP1
  obtain ⟨hP, hD⟩ := va_join (wr := wr) (w1 := w' u) hP hD isC isR hC hR hnd hdis hk1 hFc hP1 hD1
  exact kk r u H1 locs hw hP hD hS
theorem subP {isC : List Nat} (hP : va_P D vwCl ws H) (hC : isC.map (fun i => ws[i]?) = wsC.map some) : va_P D vwCl wsC H := by
  intro k q hk
  have h1 : (isC.map (fun i => ws[i]?))[k]? = some (some q) := by rw [hC, List.getElem?_map, hk]; rfl
  rw [List.getElem?_map] at h1
  cases hi : isC[k]? with
  | none => rw [hi] at h1; cases h1
  | some i => rw [hi] at h1; exact hP i q (Option.some.inj h1)
theorem cmVv {S : Type} {post : S → Prop} {w' : S → va_W} (X : CallFix p m c cc nL s args TB own) (hKN : KN D cA s) (hP : va_P D vwCl ws H) (hD : va_D A0 ws) (hS : va_S A0 H0 H locs) (hA : ∀ q, H0.size ≤ q → A0 q)
    (isC isR : List Nat) (hC : isC.map (fun i => ws[i]?) = wsC.map some) (hR : isR.map (fun i => ws[i]?) = wr.map some) (hndC : va_nd isC = true) (hnd : va_nd isR = true) (hdis : ∀ i ∈ isR, i ∉ isC)
    (hM : Met l y (Cond.code y cc' mL ret :: TB) rm (PM D cA H.size wsC (.ref b :: As)) (va_Qv post (fun u t => va_P D vwCl (w' u) t.heap ∧ va_D (va_A wsC H.size) (w' u)) (va_A wsC H.size)) mc ms (va_A wsC H.size))
    (g : GoodIn TB (wsV own index y.cls y (Cond.code y cc' mL ret :: TB))) (hd : Hd y n) (hrm : Rm rm R mL mc ms) (hf : cells + mc ≤ R.cells ∧ slots + ms ≤ R.slots)
    (he : wsC[0]? = some (b, .inr (ci, fs))) (hc : vwCl[ci]? = some (y.cls, T, N)) (hn : As.length = n) (hsz : ls.size = nL) (hst : st0 = As.reverse ++ .ref b :: rest) (hW : (rest.map fun v => v.category).sum ≤ 8)
    (hdg : decode cc pc = .ok (.invokevirtual index, 3))
    (kk : ∀ (u : S) (H1 : Heap) (locs1 : List Loc), post u → va_P D vwCl (wr ++ w' u) H1 → va_D A0 (wr ++ w' u) → va_S A0 H0 H1 locs1 → W p l e R s m args below meth c H1 locs1 (cells + mc) (slots + ms) Q (F0 m (pc + 3) ls rest)) : W p l e R s m args below meth c H locs cells slots Q (F0 m pc ls st0) :=
  cmRv hP hD hS hA hC hR hnd hdis (va_runV (As := As) (rest := rest) X hM (cwV n X.2.2.2.2 g rfl hrm.1 hrm.2.1 ⟨rfl, hd⟩ ⟨hrm.2.2.1, hrm.2.2.2⟩) (pmV hKN (subP hP hC) (hD.sub isC hndC hC) he hc) rfl hn hsz hst (lv_room hW) hdg hf) kk
theorem cmVi {S : Type} {post : Int32 → S → Prop} {w' : S → va_W} (X : CallFix p m c cc nL s args TB own) (hKN : KN D cA s) (hP : va_P D vwCl ws H) (hD : va_D A0 ws) (hS : va_S A0 H0 H locs) (hA : ∀ q, H0.size ≤ q → A0 q)
    (isC isR : List Nat) (hC : isC.map (fun i => ws[i]?) = wsC.map some) (hR : isR.map (fun i => ws[i]?) = wr.map some) (hndC : va_nd isC = true) (hnd : va_nd isR = true) (hdis : ∀ i ∈ isR, i ∉ isC)
    (hM : Met l y (Cond.code y cc' mL ret :: TB) rm (PM D cA H.size wsC (.ref b :: As)) (va_Qi post (fun u t => va_P D vwCl (w' u) t.heap ∧ va_D (va_A wsC H.size) (w' u)) (va_A wsC H.size)) mc ms (va_A wsC H.size))
    (g : GoodIn TB (wsV own index y.cls y (Cond.code y cc' mL ret :: TB))) (hd : Hd y n) (hrm : Rm rm R mL mc ms) (hf : cells + mc ≤ R.cells ∧ slots + ms ≤ R.slots)
    (he : wsC[0]? = some (b, .inr (ci, fs))) (hc : vwCl[ci]? = some (y.cls, T, N)) (hn : As.length = n) (hsz : ls.size = nL) (hst : st0 = As.reverse ++ .ref b :: rest) (hW : (rest.map fun v => v.category).sum ≤ 8)
    (hdg : decode cc pc = .ok (.invokevirtual index, 3))
    (kk : ∀ (r : Int32) (u : S) (H1 : Heap) (locs1 : List Loc), post r u → va_P D vwCl (wr ++ w' u) H1 → va_D A0 (wr ++ w' u) → va_S A0 H0 H1 locs1 → W p l e R s m args below meth c H1 locs1 (cells + mc) (slots + ms) Q (F0 m (pc + 3) ls (.int r :: rest))) : W p l e R s m args below meth c H locs cells slots Q (F0 m pc ls st0) :=
  cmRi hP hD hS hA hC hR hnd hdis (va_runV (As := As) (rest := rest) X hM (cwV n X.2.2.2.2 g rfl hrm.1 hrm.2.1 ⟨rfl, hd⟩ ⟨hrm.2.2.1, hrm.2.2.2⟩) (pmV hKN (subP hP hC) (hD.sub isC hndC hC) he hc) rfl hn hsz hst (lv_room hW) hdg hf) kk
theorem cmSv {S : Type} {post : S → Prop} {w' : S → va_W} (X : CallFix p m c cc nL s args TB own) (hKN : KN D cA s) (hP : va_P D vwCl ws H) (hD : va_D A0 ws) (hS : va_S A0 H0 H locs) (hA : ∀ q, H0.size ≤ q → A0 q)
    (isC isR : List Nat) (hC : isC.map (fun i => ws[i]?) = wsC.map some) (hR : isR.map (fun i => ws[i]?) = wr.map some) (hndC : va_nd isC = true) (hnd : va_nd isR = true) (hdis : ∀ i ∈ isR, i ∉ isC)
    (hM : Met l y (Cond.code y cc' mL ret :: TB) rm (PM D cA H.size wsC As) (va_Qv post (fun u t => va_P D vwCl (w' u) t.heap ∧ va_D (va_A wsC H.size) (w' u)) (va_A wsC H.size)) mc ms (va_A wsC H.size))
    (g : GoodIn TB (va_wsS own index y (Cond.code y cc' mL ret :: TB))) (hd : Hd y n) (hrm : Rm rm R mL mc ms) (hf : cells + mc ≤ R.cells ∧ slots + ms ≤ R.slots)
    (hn : As.length = n) (hsz : ls.size = nL) (hst : st0 = As.reverse ++ rest) (hW : (rest.map fun v => v.category).sum ≤ 8)
    (hdg : decode cc pc = .ok (.invokestatic index, 3))
    (kk : ∀ (u : S) (H1 : Heap) (locs1 : List Loc), post u → va_P D vwCl (wr ++ w' u) H1 → va_D A0 (wr ++ w' u) → va_S A0 H0 H1 locs1 → W p l e R s m args below meth c H1 locs1 (cells + mc) (slots + ms) Q (F0 m (pc + 3) ls rest)) : W p l e R s m args below meth c H locs cells slots Q (F0 m pc ls st0) :=
  cmRv hP hD hS hA hC hR hnd hdis (va_runS (As := As) (rest := rest) X hM (va_cwS n X.2.2.2.2 g rfl hrm.1 hrm.2.1 hd ⟨hrm.2.2.1, hrm.2.2.2⟩) (pmS hKN (subP hP hC) (hD.sub isC hndC hC)) rfl hn hsz hst (lv_room hW) hdg hf) kk
theorem cmIv {S : Type} {post : S → Prop} {w' : S → va_W} (X : CallFix p m c cc nL s args TB own) (hKN : KN D cA s) (hP : va_P D vwCl ws H) (hD : va_D A0 ws) (hS : va_S A0 H0 H locs) (hA : ∀ q, H0.size ≤ q → A0 q)
    (isC isR : List Nat) (hC : isC.map (fun i => ws[i]?) = wsC.map some) (hR : isR.map (fun i => ws[i]?) = wr.map some) (hndC : va_nd isC = true) (hnd : va_nd isR = true) (hdis : ∀ i ∈ isR, i ∉ isC)
    (hM : Met l y (Cond.code y cc' mL none :: TB) rm (PM D cA H.size wsC (.ref b :: As)) (va_Qv post (fun u t => va_P D vwCl (w' u) t.heap ∧ va_D (va_A wsC H.size) (w' u)) (va_A wsC H.size)) mc ms (va_A wsC H.size))
    (g : Cond.methodLink own index y ∈ TB ∧ Cond.instanceMethod y ∈ TB ∧ Cond.initialized y.cls ∈ TB ∧ Cond.code y cc' mL none ∈ TB) (hd : y.name = "<init>" ∧ Hd y n) (hrm : Rm rm R mL mc ms) (hf : cells + mc ≤ R.cells ∧ slots + ms ≤ R.slots)
    (hn : As.length = n) (hsz : ls.size = nL) (hst : st0 = As.reverse ++ .ref b :: rest) (hW : (rest.map fun v => v.category).sum ≤ 8)
    (hdg : decode cc pc = .ok (.invokespecial index, 3))
    (kk : ∀ (u : S) (H1 : Heap) (locs1 : List Loc), post u → va_P D vwCl (wr ++ w' u) H1 → va_D A0 (wr ++ w' u) → va_S A0 H0 H1 locs1 → W p l e R s m args below meth c H1 locs1 (cells + mc) (slots + ms) Q (F0 m (pc + 3) ls rest)) : W p l e R s m args below meth c H locs cells slots Q (F0 m pc ls st0) :=
  cmRv hP hD hS hA hC hR hnd hdis (va_runI (As := As) (rest := rest) X hM (cwI n X.2.2.2.2 (tb_c g.2.2.2) rfl hrm.1 hrm.2.1 (X.2.2.2.2 _ g.2.2.1) (X.2.2.2.2 _ g.1) (X.2.2.2.2 _ g.2.1) hd.1 hd.2 ⟨hrm.2.2.1, hrm.2.2.2⟩) (pmS hKN (subP hP hC) (hD.sub isC hndC hC)) rfl hn hsz hst (lv_room hW) hdg hf) kk
theorem cmINv {S : Type} {post : S → Prop} {w' : S → va_W} (X : CallFix p m c cc nL s args TB own) (hKN : KN D cA s) (hP : va_P D vwCl ws H) (hD : va_D A0 ws) (hS : va_S A0 H0 H locs) (hA : ∀ q, H0.size ≤ q → A0 q)
    (isC isR : List Nat) (hC : isC.map (fun i => ws[i]?) = wsC.map some) (hR : isR.map (fun i => ws[i]?) = wr.map some) (hndC : va_nd isC = true) (hnd : va_nd isR = true) (hdis : ∀ i ∈ isR, i ∉ isC)
    (hM : Met l y (Cond.code y cc' mL none :: TB) rm (PM D cA H.size wsC (.ref b :: As)) (va_Qv post (fun u t => va_P D vwCl (w' u) t.heap ∧ va_D (va_A wsC H.size) (w' u)) (va_A wsC H.size)) mc ms (va_A wsC H.size))
    (g : (own, index, y, host) ∈ nestT ∧ Cond.instanceMethod y ∈ TB ∧ Cond.initialized y.cls ∈ TB ∧ Cond.code y cc' mL none ∈ TB) (hd : y.name = "<init>" ∧ Hd y n) (hrm : Rm rm R mL mc ms) (hf : cells + mc ≤ R.cells ∧ slots + ms ≤ R.slots)
    (hn : As.length = n) (hsz : ls.size = nL) (hst : st0 = As.reverse ++ .ref b :: rest) (hW : (rest.map fun v => v.category).sum ≤ 8)
    (hdg : decode cc pc = .ok (.invokespecial index, 3))
    (kk : ∀ (u : S) (H1 : Heap) (locs1 : List Loc), post u → va_P D vwCl (wr ++ w' u) H1 → va_D A0 (wr ++ w' u) → va_S A0 H0 H1 locs1 → W p l e R s m args below meth c H1 locs1 (cells + mc) (slots + ms) Q (F0 m (pc + 3) ls rest)) : W p l e R s m args below meth c H locs cells slots Q (F0 m pc ls st0) :=
  cmRv hP hD hS hA hC hR hnd hdis (va_runIN (host := host) (As := As) (rest := rest) X hM ⟨va_cnB n X.2.2.2.2 (tb_c g.2.2.2) rfl hrm.1 hrm.2.1 (hKN.2.1 _ g.1) (X.2.2.2.2 _ g.2.2.1) hd.2 ⟨hrm.2.2.1, hrm.2.2.2⟩, hd.1, X.2.2.2.2 _ g.2.1⟩ (pmS hKN (subP hP hC) (hD.sub isC hndC hC)) rfl hn hsz hst (lv_room hW) hdg hf) kk
/-- a new array of numbers, its class as the world has it -/
theorem nwA (hx : p.tables.exec = Jvm.exec) (hb : c.code = cc) {atype : ArrayType} {ty : FieldType} {a0 : vp_A} (harr : (Cond.arrayClass (newarray.typeOf atype)).before args s = true) (hty : newarray.typeOf atype = ty) (hKN : KN D cA s) (t0 : Nat) {cX : ClassId} (ht : (tyL cA)[t0]? = some (cX, ty))
    (hpr : ∀ c1, va_RA s c1 ty → s.vm.findClass ("[" ++ ty.toString) = some c1) (hP : va_P D vwCl ws H) (hD : va_D A0 ws) (hS : va_S A0 H0 H locs) (hA : ∀ q, H0.size ≤ q → A0 q)
    {i : Int32} {N' : Nat} (ha : ∀ cA : ClassId, vp_cell cA a0 = arrV cA N' (fun _ => defaultValue ty)) (hn : ¬ i < 0) (hN : i.toNatClampNeg = N') (hbytes : N' * componentBytes ty ≤ 536870912) (hcells : cells + 1 ≤ R.cells) (hslots : slots + N' ≤ R.slots) (hdg : decode cc pc = .ok (.newarray atype, 2))
    (kk : ∀ (q : Nat) (H1 : Heap), va_P D vwCl (ws ++ [(q, .inl (cX, a0))]) H1 → va_D A0 (ws ++ [(q, .inl (cX, a0))]) → va_S A0 H0 H1 locs →
      W p l e R s m args below meth c H1 locs (cells + 1) (slots + N') Q (F0 m (pc + 2) ls (.ref q :: rest))) : W p l e R s m args below meth c H locs cells slots Q (F0 m pc ls (.int i :: rest)) := by
  refine va_newa (atype := atype) (ty := ty) (a0 := a0) hx hb harr hty hKN.1 hP hD hS hA ha hn hN hbytes hcells hslots hdg (fun q c1 H1 hK1 hP1 hD1 hS1 => ?_)
  have h1 := hpr c1 (hK1.2 5 (c1, ty) rfl).2
  have h2 := hpr cX (hKN.1.2 t0 (cX, ty) ht).2
  have h3 : c1 = cX := Option.some.inj (h1.symm.trans h2)
  subst h3
  exact kk q H1 hP1 hD1 hS1
/-- a new array of references -/
theorem nwQ (hx : p.tables.exec = Jvm.exec) (hb : c.code = cc) {C : String} (hown : s.vm.findClass own = some m.cls) (hclink : (Cond.classLink own index C).before args s = true) (hKN : KN D cA s) (t0 : Nat) {cX : ClassId} (ht : (tyL cA)[t0]? = some (cX, .object C)) (hover : va_AO C s)
    (hP : va_P D vwCl ws H) (hD : va_D A0 ws) (hS : va_S A0 H0 H locs) (hA : ∀ q, H0.size ≤ q → A0 q)
    {n : Int32} {N' : Nat} (hn : ¬ n < 0) (hN : n.toNatClampNeg = N') (hbytes : N' * 4 ≤ 536870912) (hcells : cells + 1 ≤ R.cells) (hslots : slots + N' ≤ R.slots) (hdg : decode cc pc = .ok (.anewarray index, 3))
    (kk : ∀ (q : Nat) (H1 : Heap), va_P D vwCl (ws ++ [(q, .inl (cX, N', .inr (.inr (.inr (.inr (fun _ => none))))))]) H1 → va_D A0 (ws ++ [(q, .inl (cX, N', .inr (.inr (.inr (.inr (fun _ => none))))))]) → va_S A0 H0 H1 locs →
      W p l e R s m args below meth c H1 locs (cells + 1) (slots + N') Q (F0 m (pc + 3) ls (.ref q :: rest))) : W p l e R s m args below meth c H locs cells slots Q (F0 m pc ls (.int n :: rest)) := by
  refine va_newq hx hb hown hclink hover hKN.1 hP hD hS hA hn hN hbytes hcells hslots hdg (fun q c1 H1 hK1 hP1 hD1 hS1 => ?_)
  obtain ⟨-, -, -, -, -, h1⟩ := (hK1.2 5 (c1, .object C) rfl).2
  obtain ⟨-, -, -, -, -, h2⟩ := (hKN.1.2 t0 (cX, .object C) ht).2
  have h3 : c1 = cX := Option.some.inj (h1.symm.trans h2)
  subst h3
  exact kk q H1 hP1 hD1 hS1
end CP
theorem arrV_same {cI : ClassId} {N : Nat} {f g : Nat → Value} (h : ∀ j, j < N → f j = g j) : arrV cI N f = arrV cI N g := by
  unfold arrV
  have e : (fun j : Fin N => f j.val) = (fun j : Fin N => g j.val) := funext (fun j => h j.val j.isLt)
  rw [e]
/-- other contents that are the same within the row's length -/
theorem recellI {D : va_G} {cl : List vw_C} {ws : va_W} {H : Heap} {i a n : Nat} {cX : ClassId} {f g : Nat → Int32} (hP : va_P D cl ws H) (h : ws[i]? = some (a, .inl (cX, n, .inl f))) (hfg : ∀ j, j < n → f j = g j) : va_P D cl (ws.set i (a, .inl (cX, n, .inl g))) H := by
  intro k q hk
  by_cases e : k = i
  · subst e
    have hl := (List.getElem?_eq_some_iff.mp h).1
    rw [List.getElem?_set_self hl] at hk
    cases hk
    have h1 : H[a]? = some (vp_cell cX (n, .inl f)) := hP k _ h
    show H[a]? = some (vp_cell cX (n, .inl g))
    rw [h1, vp_cell_i, vp_cell_i, arrV_same (fun j hj => by rw [hfg j hj])]
  · rw [List.getElem?_set_ne (fun x => e x.symm)] at hk
    exact hP k q hk
theorem recellQ {D : va_G} {cl : List vw_C} {ws : va_W} {H : Heap} {i a n : Nat} {cX : ClassId} {f g : Nat → Option Nat} (hP : va_P D cl ws H) (h : ws[i]? = some (a, .inl (cX, n, .inr (.inr (.inr (.inr f)))))) (hfg : ∀ j, j < n → f j = g j) : va_P D cl (ws.set i (a, .inl (cX, n, .inr (.inr (.inr (.inr g)))))) H := by
  intro k q hk
  by_cases e : k = i
  · subst e
    have hl := (List.getElem?_eq_some_iff.mp h).1
    rw [List.getElem?_set_self hl] at hk
    cases hk
    have h1 : H[a]? = some (vp_cell cX (n, .inr (.inr (.inr (.inr f))))) := hP k _ h
    show H[a]? = some (vp_cell cX (n, .inr (.inr (.inr (.inr g)))))
    rw [h1, vp_cell_q, vp_cell_q, arrV_same (fun j hj => by rw [hfg j hj])]
  · rw [List.getElem?_set_ne (fun x => e x.symm)] at hk
    exact hP k q hk
/-- a loop: the machine at its head, by a measure that falls -/
theorem loopW {p : Program} {l : Launch} {e : Env} {R : Room} {s : State} {m : MethodId} {args : Array Value} {below : List Frame} {meth : Method} {c : Code} {cells slots : Nat} {Q : State → Prop} {σ : Type} {pc : Nat} (st : σ → List Value) (I : σ → Heap → List Loc → Array Slot → Prop) (μ : σ → Nat)
    (step : ∀ (x : σ) (H : Heap) (locs : List Loc) (ls : Array Slot), I x H locs ls → (∀ (y : σ) (H' : Heap) (locs' : List Loc) (ls' : Array Slot), I y H' locs' ls' → μ y < μ x → W p l e R s m args below meth c H' locs' cells slots Q (F0 m pc ls' (st y))) → W p l e R s m args below meth c H locs cells slots Q (F0 m pc ls (st x)))
    (x : σ) {H : Heap} {locs : List Loc} {ls : Array Slot} (h : I x H locs ls) : W p l e R s m args below meth c H locs cells slots Q (F0 m pc ls (st x)) := by
  have key : ∀ (n : Nat) (x : σ) (H : Heap) (locs : List Loc) (ls : Array Slot), μ x < n → I x H locs ls → W p l e R s m args below meth c H locs cells slots Q (F0 m pc ls (st x)) := by
    intro n
    induction n with
    | zero => exact fun _ _ _ _ h => absurd h (Nat.not_lt_zero _)
    | succ n ih => exact fun x H locs ls hn hI => step x H locs ls hI (fun y H' locs' ls' hy hlt => ih y H' locs' ls' (by omega) hy)
  exact key (μ x + 1) x H locs ls (Nat.lt_succ_self _) h
theorem tt_add {a b x : Int32} (e : x = a + b) (h1 : -2147483648 ≤ a.toInt + b.toInt) (h2 : a.toInt + b.toInt ≤ 2147483647) : x.toInt = a.toInt + b.toInt := by
  subst e
  rw [Int32.toInt_add]
  exact Int.bmod_eq_of_le (by omega) (by omega)
theorem tt_sub {a b x : Int32} (e : x = a - b) (h1 : -2147483648 ≤ a.toInt - b.toInt) (h2 : a.toInt - b.toInt ≤ 2147483647) : x.toInt = a.toInt - b.toInt := by
  subst e
  rw [Int32.toInt_sub]
  exact Int.bmod_eq_of_le (by omega) (by omega)
theorem tt_mul {a b x : Int32} {k : Int} (e : x = a * b) (hb : b.toInt = k) (h1 : -2147483648 ≤ a.toInt * k) (h2 : a.toInt * k ≤ 2147483647) : x.toInt = a.toInt * k := by
  subst e
  rw [Int32.toInt_mul, hb]
  exact Int.bmod_eq_of_le (by omega) (by omega)
theorem sw_11 (x : Int32) : x = 0 ∨ x = 1 ∨ x = 2 ∨ x = 3 ∨ x = 4 ∨ x = 5 ∨ x = 6 ∨ x = 7 ∨ x = 8 ∨ x = 9 ∨ x = 10 ∨ (x.toInt < 0 ∨ 10 < x.toInt) := by
  have h : x.toInt = 0 ∨ x.toInt = 1 ∨ x.toInt = 2 ∨ x.toInt = 3 ∨ x.toInt = 4 ∨ x.toInt = 5 ∨ x.toInt = 6 ∨ x.toInt = 7 ∨ x.toInt = 8 ∨ x.toInt = 9 ∨ x.toInt = 10 ∨ (x.toInt < 0 ∨ 10 < x.toInt) := by omega
  rcases h with h | h | h | h | h | h | h | h | h | h | h | h
  · exact Or.inl (Int32.toInt_inj.mp h)
  · exact Or.inr (Or.inl (Int32.toInt_inj.mp h))
  · exact Or.inr (Or.inr (Or.inl (Int32.toInt_inj.mp h)))
  · exact Or.inr (Or.inr (Or.inr (Or.inl (Int32.toInt_inj.mp h))))
  · exact Or.inr (Or.inr (Or.inr (Or.inr (Or.inl (Int32.toInt_inj.mp h)))))
  · exact Or.inr (Or.inr (Or.inr (Or.inr (Or.inr (Or.inl (Int32.toInt_inj.mp h))))))
  · exact Or.inr (Or.inr (Or.inr (Or.inr (Or.inr (Or.inr (Or.inl (Int32.toInt_inj.mp h)))))))
  · exact Or.inr (Or.inr (Or.inr (Or.inr (Or.inr (Or.inr (Or.inr (Or.inl (Int32.toInt_inj.mp h))))))))
  · exact Or.inr (Or.inr (Or.inr (Or.inr (Or.inr (Or.inr (Or.inr (Or.inr (Or.inl (Int32.toInt_inj.mp h)))))))))
  · exact Or.inr (Or.inr (Or.inr (Or.inr (Or.inr (Or.inr (Or.inr (Or.inr (Or.inr (Or.inl (Int32.toInt_inj.mp h))))))))))
  · exact Or.inr (Or.inr (Or.inr (Or.inr (Or.inr (Or.inr (Or.inr (Or.inr (Or.inr (Or.inr (Or.inl (Int32.toInt_inj.mp h)))))))))))
  · exact Or.inr (Or.inr (Or.inr (Or.inr (Or.inr (Or.inr (Or.inr (Or.inr (Or.inr (Or.inr (Or.inr h))))))))))
theorem rng3 {x : Int32} (h : 0 ≤ x.toInt ∧ x.toInt ≤ 2) : x = 0 ∨ x = 1 ∨ x = 2 := by
  have h : x.toInt = 0 ∨ x.toInt = 1 ∨ x.toInt = 2 := by omega
  rcases h with h | h | h
  · exact Or.inl (Int32.toInt_inj.mp h)
  · exact Or.inr (Or.inl (Int32.toInt_inj.mp h))
  · exact Or.inr (Or.inr (Int32.toInt_inj.mp h))
end
section
set_option maxHeartbeats 4000000 in
set_option maxRecDepth 100000 in
theorem k_X11_isWithin (l : Launch) (D : va_G) (cA : Nat → ClassId) (x : Int32) (lo : Int32) (hi : Int32) : Met l yX11_isWithin (Cond.code yX11_isWithin cX11_isWithin 3 (some .boolean) :: TB) (rmd 0 0 0) (PP D cA [] [.int x, .int lo, .int hi]) (vp_Si (fun r => ((lo : Int32).toInt ≤ (x : Int32).toInt ∧ (x : Int32).toInt ≤ (hi : Int32).toInt) ∧ r = 1 ∨ ((x : Int32).toInt < (lo : Int32).toInt ∨ (hi : Int32).toInt < (x : Int32).toInt) ∧ r = 0)) 0 0 (fun _ => False) := by
  refine Met.ofW (cc := cX11_isWithin) (maxL := 3) (ret := (some .boolean)) (by decide) rfl ?_
  intro p e s m args below meth c s₁ B hml hv
  obtain ⟨rfl, hP, hKN⟩ := hv
  have hx := B.exec
  have hb := B.bytes
  have hr := B.returns
  have hts : ∀ w ∈ TB, w.before _ s = true := fun w h => atoms_spec B.pre w (List.mem_cons_of_mem _ h)
  have hown : s.vm.findClass RX11 = some m.cls := findClass_of_methodNamed B.named
  have hlocks := B.notSynchronized
  have hl := lv_entry ([.int x, .int lo, .int hi]) (n := 3) (Nat.le_of_ble_eq_true rfl)
  rw [lg_entry_eq]
  generalize (lg_sl ([.int x, .int lo, .int hi]) ++ List.replicate (3 - (lg_sl ([.int x, .int lo, .int hi])).length) Slot.unset).toArray = ls at hl ⊢
  have hl : lv_has ls 3 [(0, .int x), (1, .int lo), (2, .int hi)] := hl
  refine lv_iload_n hx hb dX11_isWithin_0 rfl (lv_at hl 0 rfl) ?_
  refine lv_iload_n hx hb dX11_isWithin_1 rfl (lv_at hl 1 rfl) ?_
  refine lv_icmp_lt (tgt := 14) hx hb dX11_isWithin_2 (by decide) (fun c_1 => ?_) (fun c_1 => ?_)
  · skip
    have k_2 := tt_lt c_1
    refine lv_iconst (v := 0) hx hb dX11_isWithin_14 (by decide) ?_
    exact W.zret (v := 0) hx hb hr (by decide) (fun t ht hW => ⟨0, rfl, (Or.inr ⟨(by omega), rfl⟩), ht⟩) (fun _ h => by cases h) dX11_isWithin_15
  · skip
    have k_3 := tt_nlt c_1
    refine lv_iload_n hx hb dX11_isWithin_5 rfl (lv_at hl 0 rfl) ?_
    refine lv_iload_n hx hb dX11_isWithin_6 rfl (lv_at hl 2 rfl) ?_
    refine lv_icmp_gt (tgt := 14) hx hb dX11_isWithin_7 (by decide) (fun c_4 => ?_) (fun c_4 => ?_)
    · skip
      have k_5 := tt_lt c_4
      refine lv_iconst (v := 0) hx hb dX11_isWithin_14 (by decide) ?_
      exact W.zret (v := 0) hx hb hr (by decide) (fun t ht hW => ⟨0, rfl, (Or.inr ⟨(by omega), rfl⟩), ht⟩) (fun _ h => by cases h) dX11_isWithin_15
    · skip
      have k_6 := tt_nlt c_4
      refine lv_iconst (v := 1) hx hb dX11_isWithin_10 (by decide) ?_
      refine lv_goto (tgt := 15) hx hb dX11_isWithin_11 (by decide) ?_
      exact W.zret (v := 1) hx hb hr (by decide) (fun t ht hW => ⟨1, rfl, (Or.inl ⟨(by omega), rfl⟩), ht⟩) (fun _ h => by cases h) dX11_isWithin_15
set_option maxHeartbeats 4000000 in
set_option maxRecDepth 100000 in
theorem k_X3_exists (l : Launch) (D : va_G) (cA : Nat → ClassId) (h0 : Nat) (g_sides : Nat) (g_grips : Nat) (g_wits : Nat) (g_says : Nat) (g_gives0 : Nat) (g_gives1 : Nat) (g_froms : Nat) (g_tos : Nat) : Met l yX3_exists (Cond.code yX3_exists cX3_exists 1 (some .boolean) :: TB) (rmd 0 0 0) (PP D cA [(h0, .inr (3, [.int 0, .int 0, .int 0, .int 0, .int 0, .int 0, .int 0, .int 0, .ref g_sides, .ref g_grips, .ref g_wits, .ref g_says, .ref g_gives0, .ref g_gives1, .ref g_froms, .ref g_tos]))] [.ref h0]) (vp_Si (fun r => r = 0)) 0 0 (fun _ => False) := by
  refine Met.ofW (cc := cX3_exists) (maxL := 1) (ret := (some .boolean)) (by decide) rfl ?_
  intro p e s m args below meth c s₁ B hml hv
  obtain ⟨rfl, hP, hKN⟩ := hv
  have hx := B.exec
  have hb := B.bytes
  have hr := B.returns
  have hts : ∀ w ∈ TB, w.before _ s = true := fun w h => atoms_spec B.pre w (List.mem_cons_of_mem _ h)
  have hown : s.vm.findClass RX3 = some m.cls := findClass_of_methodNamed B.named
  have hlocks := B.notSynchronized
  have hl := lv_entry ([.ref h0]) (n := 1) (Nat.le_of_ble_eq_true rfl)
  rw [lg_entry_eq]
  generalize (lg_sl ([.ref h0]) ++ List.replicate (1 - (lg_sl ([.ref h0])).length) Slot.unset).toArray = ls at hl ⊢
  have hl : lv_has ls 1 [(0, .ref h0)] := hl
  refine lv_aload_n hx hb dX3_exists_0 rfl (lv_at hl 0 rfl) ?_
  refine va_get (D := D) (ci := 3) (v := .int 0) (C := RX3) (T := TX3) (N := 16) hx hb hts inX3 hown hKN.1 hP 0 rfl rfl 2 (by decide) (hts _ tw_164) (fun _ h9 => h9) rfl dX3_exists_1 ?_
  refine lv_if_le (tgt := 11) hx hb dX3_exists_4 (by decide) (fun c_1 => ?_) (fun c_1 => absurd (by decide) c_1)
  refine lv_iconst (v := 0) hx hb dX3_exists_11 (by decide) ?_
  exact W.zret (v := 0) hx hb hr (by decide) (fun t ht hW => ⟨0, rfl, rfl, ht⟩) (fun _ h => by cases h) dX3_exists_12
set_option maxHeartbeats 4000000 in
set_option maxRecDepth 100000 in
theorem k_X3_hasSide (l : Launch) (D : va_G) (cA : Nat → ClassId) (h0 : Nat) (g_sides : Nat) (g_grips : Nat) (g_wits : Nat) (g_says : Nat) (g_gives0 : Nat) (g_gives1 : Nat) (g_froms : Nat) (g_tos : Nat) (side : Int32) : Met l yX3_hasSide (Cond.code yX3_hasSide cX3_hasSide 2 (some .boolean) :: TB) (rmd 1 0 0) (PP D cA [(h0, .inr (3, [.int 0, .int 0, .int 0, .int 0, .int 0, .int 0, .int 0, .int 0, .ref g_sides, .ref g_grips, .ref g_wits, .ref g_says, .ref g_gives0, .ref g_gives1, .ref g_froms, .ref g_tos]))] [.ref h0, .int side]) (vp_Si (fun r => r = 0)) 0 0 (fun _ => False) := by
  refine Met.ofW (cc := cX3_hasSide) (maxL := 2) (ret := (some .boolean)) (by decide) rfl ?_
  intro p e s m args below meth c s₁ B hml hv
  obtain ⟨rfl, hP, hKN⟩ := hv
  have hx := B.exec
  have hb := B.bytes
  have hr := B.returns
  have hts : ∀ w ∈ TB, w.before _ s = true := fun w h => atoms_spec B.pre w (List.mem_cons_of_mem _ h)
  have hown : s.vm.findClass RX3 = some m.cls := findClass_of_methodNamed B.named
  have hlocks := B.notSynchronized
  have hl := lv_entry ([.ref h0, .int side]) (n := 2) (Nat.le_of_ble_eq_true rfl)
  rw [lg_entry_eq]
  generalize (lg_sl ([.ref h0, .int side]) ++ List.replicate (2 - (lg_sl ([.ref h0, .int side])).length) Slot.unset).toArray = ls at hl ⊢
  have hl : lv_has ls 2 [(0, .ref h0), (1, .int side)] := hl
  refine lv_aload_n hx hb dX3_hasSide_0 rfl (lv_at hl 0 rfl) ?_
  refine cpVi (rest := []) ⟨hx, hb, hml, hown, hts⟩ hKN (hP.sub (ws' := [(h0, .inr (3, [.int 0, .int 0, .int 0, .int 0, .int 0, .int 0, .int 0, .int 0, .ref g_sides, .ref g_grips, .ref g_wits, .ref g_says, .ref g_gives0, .ref g_gives1, .ref g_froms, .ref g_tos]))]) [0] rfl) (k_X3_exists l D cA h0 g_sides g_grips g_wits g_says g_gives0 g_gives1 g_froms g_tos) (tb_V tw_740 tw_741 tw_742 tw_104 tw_743) hdX3_exists ⟨rfl, rfl, Nat.le_of_ble_eq_true rfl, Nat.le_of_ble_eq_true rfl⟩ ⟨Nat.le_of_ble_eq_true rfl, Nat.le_of_ble_eq_true rfl⟩ rfl rfl rfl hl.1 rfl (Nat.le_of_ble_eq_true rfl) dX3_hasSide_1 (fun r_1 hr_1 => ?_)
  obtain rfl : r_1 = 0 := hr_1
  refine lv_if_eq (tgt := 20) hx hb dX3_hasSide_4 (by decide) (fun c_2 => ?_) (fun c_2 => absurd (by decide) c_2)
  refine lv_iconst (v := 0) hx hb dX3_hasSide_20 (by decide) ?_
  exact W.zret (v := 0) hx hb hr (by decide) (fun t ht hW => ⟨0, rfl, rfl, ht⟩) (fun _ h => by cases h) dX3_hasSide_21
set_option maxHeartbeats 4000000 in
set_option maxRecDepth 100000 in
theorem k_X3_hasMan (l : Launch) (D : va_G) (cA : Nat → ClassId) (h0 : Nat) (g_sides : Nat) (g_grips : Nat) (g_wits : Nat) (g_says : Nat) (g_gives0 : Nat) (g_gives1 : Nat) (g_froms : Nat) (g_tos : Nat) (man : Int32) : Met l yX3_hasMan (Cond.code yX3_hasMan cX3_hasMan 2 (some .boolean) :: TB) (rmd 0 0 0) (PP D cA [(h0, .inr (3, [.int 0, .int 0, .int 0, .int 0, .int 0, .int 0, .int 0, .int 0, .ref g_sides, .ref g_grips, .ref g_wits, .ref g_says, .ref g_gives0, .ref g_gives1, .ref g_froms, .ref g_tos]))] [.ref h0, .int man]) (vp_Si (fun r => r = 0)) 0 0 (fun _ => False) := by
  refine Met.ofW (cc := cX3_hasMan) (maxL := 2) (ret := (some .boolean)) (by decide) rfl ?_
  intro p e s m args below meth c s₁ B hml hv
  obtain ⟨rfl, hP, hKN⟩ := hv
  have hx := B.exec
  have hb := B.bytes
  have hr := B.returns
  have hts : ∀ w ∈ TB, w.before _ s = true := fun w h => atoms_spec B.pre w (List.mem_cons_of_mem _ h)
  have hown : s.vm.findClass RX3 = some m.cls := findClass_of_methodNamed B.named
  have hlocks := B.notSynchronized
  have hl := lv_entry ([.ref h0, .int man]) (n := 2) (Nat.le_of_ble_eq_true rfl)
  rw [lg_entry_eq]
  generalize (lg_sl ([.ref h0, .int man]) ++ List.replicate (2 - (lg_sl ([.ref h0, .int man])).length) Slot.unset).toArray = ls at hl ⊢
  have hl : lv_has ls 2 [(0, .ref h0), (1, .int man)] := hl
  refine lv_iload_n hx hb dX3_hasMan_0 rfl (lv_at hl 1 rfl) ?_
  refine lv_if_lt (tgt := 22) hx hb dX3_hasMan_1 (by decide) (fun c_1 => ?_) (fun c_1 => ?_)
  · skip
    have k_2 := tt_lt c_1
    refine lv_iconst (v := 0) hx hb dX3_hasMan_22 (by decide) ?_
    exact W.zret (v := 0) hx hb hr (by decide) (fun t ht hW => ⟨0, rfl, rfl, ht⟩) (fun _ h => by cases h) dX3_hasMan_23
  · skip
    have k_3 := tt_nlt c_1
    refine lv_iload_n hx hb dX3_hasMan_4 rfl (lv_at hl 1 rfl) ?_
    refine lv_aload_n hx hb dX3_hasMan_5 rfl (lv_at hl 0 rfl) ?_
    refine va_get (D := D) (ci := 3) (v := .int 0) (C := RX3) (T := TX3) (N := 16) hx hb hts inX3 hown hKN.1 hP 0 rfl rfl 3 (by decide) (hts _ tw_167) (fun _ h9 => h9) rfl dX3_hasMan_6 ?_
    refine lv_icmp_ge (tgt := 22) hx hb dX3_hasMan_9 (by decide) (fun c_4 => ?_) (fun c_4 => ?_)
    · skip
      have k_5 := tt_le c_4
      refine lv_iconst (v := 0) hx hb dX3_hasMan_22 (by decide) ?_
      exact W.zret (v := 0) hx hb hr (by decide) (fun t ht hW => ⟨0, rfl, rfl, ht⟩) (fun _ h => by cases h) dX3_hasMan_23
    · skip
      have k_6 := tt_nle c_4
      exfalso
      have z_0 : (0 : Int32).toInt = 0 := by decide
      omega
set_option maxHeartbeats 4000000 in
set_option maxRecDepth 100000 in
theorem k_X3_hasClause (l : Launch) (D : va_G) (cA : Nat → ClassId) (h0 : Nat) (g_sides : Nat) (g_grips : Nat) (g_wits : Nat) (g_says : Nat) (g_gives0 : Nat) (g_gives1 : Nat) (g_froms : Nat) (g_tos : Nat) (clause : Int32) : Met l yX3_hasClause (Cond.code yX3_hasClause cX3_hasClause 2 (some .boolean) :: TB) (rmd 0 0 0) (PP D cA [(h0, .inr (3, [.int 0, .int 0, .int 0, .int 0, .int 0, .int 0, .int 0, .int 0, .ref g_sides, .ref g_grips, .ref g_wits, .ref g_says, .ref g_gives0, .ref g_gives1, .ref g_froms, .ref g_tos]))] [.ref h0, .int clause]) (vp_Si (fun r => r = 0)) 0 0 (fun _ => False) := by
  refine Met.ofW (cc := cX3_hasClause) (maxL := 2) (ret := (some .boolean)) (by decide) rfl ?_
  intro p e s m args below meth c s₁ B hml hv
  obtain ⟨rfl, hP, hKN⟩ := hv
  have hx := B.exec
  have hb := B.bytes
  have hr := B.returns
  have hts : ∀ w ∈ TB, w.before _ s = true := fun w h => atoms_spec B.pre w (List.mem_cons_of_mem _ h)
  have hown : s.vm.findClass RX3 = some m.cls := findClass_of_methodNamed B.named
  have hlocks := B.notSynchronized
  have hl := lv_entry ([.ref h0, .int clause]) (n := 2) (Nat.le_of_ble_eq_true rfl)
  rw [lg_entry_eq]
  generalize (lg_sl ([.ref h0, .int clause]) ++ List.replicate (2 - (lg_sl ([.ref h0, .int clause])).length) Slot.unset).toArray = ls at hl ⊢
  have hl : lv_has ls 2 [(0, .ref h0), (1, .int clause)] := hl
  refine lv_iload_n hx hb dX3_hasClause_0 rfl (lv_at hl 1 rfl) ?_
  refine lv_if_lt (tgt := 22) hx hb dX3_hasClause_1 (by decide) (fun c_1 => ?_) (fun c_1 => ?_)
  · skip
    have k_2 := tt_lt c_1
    refine lv_iconst (v := 0) hx hb dX3_hasClause_22 (by decide) ?_
    exact W.zret (v := 0) hx hb hr (by decide) (fun t ht hW => ⟨0, rfl, rfl, ht⟩) (fun _ h => by cases h) dX3_hasClause_23
  · skip
    have k_3 := tt_nlt c_1
    refine lv_iload_n hx hb dX3_hasClause_4 rfl (lv_at hl 1 rfl) ?_
    refine lv_aload_n hx hb dX3_hasClause_5 rfl (lv_at hl 0 rfl) ?_
    refine va_get (D := D) (ci := 3) (v := .int 0) (C := RX3) (T := TX3) (N := 16) hx hb hts inX3 hown hKN.1 hP 0 rfl rfl 4 (by decide) (hts _ tw_172) (fun _ h9 => h9) rfl dX3_hasClause_6 ?_
    refine lv_icmp_ge (tgt := 22) hx hb dX3_hasClause_9 (by decide) (fun c_4 => ?_) (fun c_4 => ?_)
    · skip
      have k_5 := tt_le c_4
      refine lv_iconst (v := 0) hx hb dX3_hasClause_22 (by decide) ?_
      exact W.zret (v := 0) hx hb hr (by decide) (fun t ht hW => ⟨0, rfl, rfl, ht⟩) (fun _ h => by cases h) dX3_hasClause_23
    · skip
      have k_6 := tt_nle c_4
      exfalso
      have z_0 : (0 : Int32).toInt = 0 := by decide
      omega
set_option maxHeartbeats 4000000 in
set_option maxRecDepth 100000 in
theorem k_X3_holdOrRefusal (l : Launch) (D : va_G) (cA : Nat → ClassId) (h0 : Nat) (g_sides : Nat) (g_grips : Nat) (g_wits : Nat) (g_says : Nat) (g_gives0 : Nat) (g_gives1 : Nat) (g_froms : Nat) (g_tos : Nat) (man : Int32) (other : Int32) : Met l yX3_holdOrRefusal (Cond.code yX3_holdOrRefusal cX3_holdOrRefusal 3 (some .int) :: TB) (rmd 1 0 0) (PP D cA [(h0, .inr (3, [.int 0, .int 0, .int 0, .int 0, .int 0, .int 0, .int 0, .int 0, .ref g_sides, .ref g_grips, .ref g_wits, .ref g_says, .ref g_gives0, .ref g_gives1, .ref g_froms, .ref g_tos]))] [.ref h0, .int man, .int other]) (vp_Si (fun r => r = (-2))) 0 0 (fun _ => False) := by
  refine Met.ofW (cc := cX3_holdOrRefusal) (maxL := 3) (ret := (some .int)) (by decide) rfl ?_
  intro p e s m args below meth c s₁ B hml hv
  obtain ⟨rfl, hP, hKN⟩ := hv
  have hx := B.exec
  have hb := B.bytes
  have hr := B.returns
  have hts : ∀ w ∈ TB, w.before _ s = true := fun w h => atoms_spec B.pre w (List.mem_cons_of_mem _ h)
  have hown : s.vm.findClass RX3 = some m.cls := findClass_of_methodNamed B.named
  have hlocks := B.notSynchronized
  have hl := lv_entry ([.ref h0, .int man, .int other]) (n := 3) (Nat.le_of_ble_eq_true rfl)
  rw [lg_entry_eq]
  generalize (lg_sl ([.ref h0, .int man, .int other]) ++ List.replicate (3 - (lg_sl ([.ref h0, .int man, .int other])).length) Slot.unset).toArray = ls at hl ⊢
  have hl : lv_has ls 3 [(0, .ref h0), (1, .int man), (2, .int other)] := hl
  refine lv_aload_n hx hb dX3_holdOrRefusal_0 rfl (lv_at hl 0 rfl) ?_
  refine lv_iload_n hx hb dX3_holdOrRefusal_1 rfl (lv_at hl 1 rfl) ?_
  refine cpVi (rest := []) ⟨hx, hb, hml, hown, hts⟩ hKN (hP.sub (ws' := [(h0, .inr (3, [.int 0, .int 0, .int 0, .int 0, .int 0, .int 0, .int 0, .int 0, .ref g_sides, .ref g_grips, .ref g_wits, .ref g_says, .ref g_gives0, .ref g_gives1, .ref g_froms, .ref g_tos]))]) [0] rfl) (k_X3_hasMan l D cA h0 g_sides g_grips g_wits g_says g_gives0 g_gives1 g_froms g_tos man) (tb_V tw_706 tw_699 tw_700 tw_104 tw_701) hdX3_hasMan ⟨rfl, rfl, Nat.le_of_ble_eq_true rfl, Nat.le_of_ble_eq_true rfl⟩ ⟨Nat.le_of_ble_eq_true rfl, Nat.le_of_ble_eq_true rfl⟩ rfl rfl rfl hl.1 rfl (Nat.le_of_ble_eq_true rfl) dX3_holdOrRefusal_2 (fun r_1 hr_1 => ?_)
  obtain rfl : r_1 = 0 := hr_1
  refine lv_if_eq (tgt := 16) hx hb dX3_holdOrRefusal_5 (by decide) (fun c_2 => ?_) (fun c_2 => absurd (by decide) c_2)
  refine lv_bipush (v := (-2)) hx hb dX3_holdOrRefusal_16 (by decide) ?_
  exact W.iret (v := (-2)) hx hb hr (fun t ht hW => ⟨(-2), rfl, rfl, ht⟩) (fun _ h => by cases h) dX3_holdOrRefusal_18
set_option maxHeartbeats 4000000 in
set_option maxRecDepth 100000 in
theorem k_X3_farOf (l : Launch) (D : va_G) (cA : Nat → ClassId) (h0 : Nat) (g_sides : Nat) (g_grips : Nat) (g_wits : Nat) (g_says : Nat) (g_gives0 : Nat) (g_gives1 : Nat) (g_froms : Nat) (g_tos : Nat) (side : Int32) : Met l yX3_farOf (Cond.code yX3_farOf cX3_farOf 2 (some .int) :: TB) (rmd 0 0 0) (PP D cA [(h0, .inr (3, [.int 0, .int 0, .int 0, .int 0, .int 0, .int 0, .int 0, .int 0, .ref g_sides, .ref g_grips, .ref g_wits, .ref g_says, .ref g_gives0, .ref g_gives1, .ref g_froms, .ref g_tos]))] [.ref h0, .int side]) (vp_Si (fun r => r = 0)) 0 0 (fun _ => False) := by
  refine Met.ofW (cc := cX3_farOf) (maxL := 2) (ret := (some .int)) (by decide) rfl ?_
  intro p e s m args below meth c s₁ B hml hv
  obtain ⟨rfl, hP, hKN⟩ := hv
  have hx := B.exec
  have hb := B.bytes
  have hr := B.returns
  have hts : ∀ w ∈ TB, w.before _ s = true := fun w h => atoms_spec B.pre w (List.mem_cons_of_mem _ h)
  have hown : s.vm.findClass RX3 = some m.cls := findClass_of_methodNamed B.named
  have hlocks := B.notSynchronized
  have hl := lv_entry ([.ref h0, .int side]) (n := 2) (Nat.le_of_ble_eq_true rfl)
  rw [lg_entry_eq]
  generalize (lg_sl ([.ref h0, .int side]) ++ List.replicate (2 - (lg_sl ([.ref h0, .int side])).length) Slot.unset).toArray = ls at hl ⊢
  have hl : lv_has ls 2 [(0, .ref h0), (1, .int side)] := hl
  refine lv_iload_n hx hb dX3_farOf_0 rfl (lv_at hl 1 rfl) ?_
  refine lv_if_ne (tgt := 11) hx hb dX3_farOf_1 (by decide) (fun c_1 => ?_) (fun c_1 => ?_)
  · skip
    have k_2 := tt_ne c_1
    refine lv_aload_n hx hb dX3_farOf_11 rfl (lv_at hl 0 rfl) ?_
    refine va_get (D := D) (ci := 3) (v := .int 0) (C := RX3) (T := TX3) (N := 16) hx hb hts inX3 hown hKN.1 hP 0 rfl rfl 7 (by decide) (hts _ tw_181) (fun _ h9 => h9) rfl dX3_farOf_12 ?_
    exact W.iret (v := 0) hx hb hr (fun t ht hW => ⟨0, rfl, rfl, ht⟩) (fun _ h => by cases h) dX3_farOf_15
  · skip
    have k_3 := tt_eq c_1
    refine lv_aload_n hx hb dX3_farOf_4 rfl (lv_at hl 0 rfl) ?_
    refine va_get (D := D) (ci := 3) (v := .int 0) (C := RX3) (T := TX3) (N := 16) hx hb hts inX3 hown hKN.1 hP 0 rfl rfl 6 (by decide) (hts _ tw_180) (fun _ h9 => h9) rfl dX3_farOf_5 ?_
    refine lv_goto (tgt := 15) hx hb dX3_farOf_8 (by decide) ?_
    exact W.iret (v := 0) hx hb hr (fun t ht hW => ⟨0, rfl, rfl, ht⟩) (fun _ h => by cases h) dX3_farOf_15
set_option maxHeartbeats 4000000 in
set_option maxRecDepth 100000 in
theorem k_X7_has (l : Launch) (D : va_G) (cA : Nat → ClassId) (h0 : Nat) (s_sizes : Nat) (s_widths : Nat) (s_numbers : Nat) (slot : Int32) : Met l yX7_has (Cond.code yX7_has cX7_has 2 (some .boolean) :: TB) (rmd 0 0 0) (PP D cA [(h0, .inr (7, [.ref s_sizes, .ref s_widths, .ref s_numbers]))] [.ref h0, .int slot]) (vp_Si (fun r => (0 ≤ (slot : Int32).toInt ∧ (slot : Int32).toInt < 4) ∧ r = 1 ∨ ((slot : Int32).toInt < 0 ∨ 4 ≤ (slot : Int32).toInt) ∧ r = 0)) 0 0 (fun _ => False) := by
  refine Met.ofW (cc := cX7_has) (maxL := 2) (ret := (some .boolean)) (by decide) rfl ?_
  intro p e s m args below meth c s₁ B hml hv
  obtain ⟨rfl, hP, hKN⟩ := hv
  have hx := B.exec
  have hb := B.bytes
  have hr := B.returns
  have hts : ∀ w ∈ TB, w.before _ s = true := fun w h => atoms_spec B.pre w (List.mem_cons_of_mem _ h)
  have hown : s.vm.findClass RX7 = some m.cls := findClass_of_methodNamed B.named
  have hlocks := B.notSynchronized
  have hl := lv_entry ([.ref h0, .int slot]) (n := 2) (Nat.le_of_ble_eq_true rfl)
  rw [lg_entry_eq]
  generalize (lg_sl ([.ref h0, .int slot]) ++ List.replicate (2 - (lg_sl ([.ref h0, .int slot])).length) Slot.unset).toArray = ls at hl ⊢
  have hl : lv_has ls 2 [(0, .ref h0), (1, .int slot)] := hl
  refine lv_iload_n hx hb dX7_has_0 rfl (lv_at hl 1 rfl) ?_
  refine lv_if_lt (tgt := 13) hx hb dX7_has_1 (by decide) (fun c_1 => ?_) (fun c_1 => ?_)
  · skip
    have k_2 := tt_lt c_1
    refine lv_iconst (v := 0) hx hb dX7_has_13 (by decide) ?_
    exact W.zret (v := 0) hx hb hr (by decide) (fun t ht hW => ⟨0, rfl, (Or.inr ⟨(by have z_0 : (0 : Int32).toInt = 0 := (by decide); omega), rfl⟩), ht⟩) (fun _ h => by cases h) dX7_has_14
  · skip
    have k_3 := tt_nlt c_1
    refine lv_iload_n hx hb dX7_has_4 rfl (lv_at hl 1 rfl) ?_
    refine lv_iconst (v := 4) hx hb dX7_has_5 (by decide) ?_
    refine lv_icmp_ge (tgt := 13) hx hb dX7_has_6 (by decide) (fun c_4 => ?_) (fun c_4 => ?_)
    · skip
      have k_5 := tt_le c_4
      refine lv_iconst (v := 0) hx hb dX7_has_13 (by decide) ?_
      exact W.zret (v := 0) hx hb hr (by decide) (fun t ht hW => ⟨0, rfl, (Or.inr ⟨(by have z_0 : (0 : Int32).toInt = 0 := (by decide); have z_4 : (4 : Int32).toInt = 4 := (by decide); omega), rfl⟩), ht⟩) (fun _ h => by cases h) dX7_has_14
    · skip
      have k_6 := tt_nle c_4
      refine lv_iconst (v := 1) hx hb dX7_has_9 (by decide) ?_
      refine lv_goto (tgt := 14) hx hb dX7_has_10 (by decide) ?_
      exact W.zret (v := 1) hx hb hr (by decide) (fun t ht hW => ⟨1, rfl, (Or.inl ⟨(by have z_0 : (0 : Int32).toInt = 0 := (by decide); have z_4 : (4 : Int32).toInt = 4 := (by decide); omega), rfl⟩), ht⟩) (fun _ h => by cases h) dX7_has_14
set_option maxHeartbeats 4000000 in
set_option maxRecDepth 100000 in
theorem k_X7_sizeOf (l : Launch) (D : va_G) (cA : Nat → ClassId) (h0 : Nat) (s_sizes : Nat) (s_widths : Nat) (s_numbers : Nat) (slot : Int32) : Met l yX7_sizeOf (Cond.code yX7_sizeOf cX7_sizeOf 2 (some .int) :: TB) (rmd 1 0 0) (PP D cA [(h0, .inr (7, [.ref s_sizes, .ref s_widths, .ref s_numbers])), (s_sizes, .inl (cA 1, 4, .inl (fun _ => (-1))))] [.ref h0, .int slot]) (vp_Si (fun r => r = (-1))) 0 0 (fun _ => False) := by
  refine Met.ofW (cc := cX7_sizeOf) (maxL := 2) (ret := (some .int)) (by decide) rfl ?_
  intro p e s m args below meth c s₁ B hml hv
  obtain ⟨rfl, hP, hKN⟩ := hv
  have hx := B.exec
  have hb := B.bytes
  have hr := B.returns
  have hts : ∀ w ∈ TB, w.before _ s = true := fun w h => atoms_spec B.pre w (List.mem_cons_of_mem _ h)
  have hown : s.vm.findClass RX7 = some m.cls := findClass_of_methodNamed B.named
  have hlocks := B.notSynchronized
  have hl := lv_entry ([.ref h0, .int slot]) (n := 2) (Nat.le_of_ble_eq_true rfl)
  rw [lg_entry_eq]
  generalize (lg_sl ([.ref h0, .int slot]) ++ List.replicate (2 - (lg_sl ([.ref h0, .int slot])).length) Slot.unset).toArray = ls at hl ⊢
  have hl : lv_has ls 2 [(0, .ref h0), (1, .int slot)] := hl
  refine lv_aload_n hx hb dX7_sizeOf_0 rfl (lv_at hl 0 rfl) ?_
  refine lv_iload_n hx hb dX7_sizeOf_1 rfl (lv_at hl 1 rfl) ?_
  refine cpVi (rest := []) ⟨hx, hb, hml, hown, hts⟩ hKN (hP.sub (ws' := [(h0, .inr (7, [.ref s_sizes, .ref s_widths, .ref s_numbers]))]) [0] rfl) (k_X7_has l D cA h0 s_sizes s_widths s_numbers slot) (tb_V tw_950 tw_939 tw_940 tw_107 tw_941) hdX7_has ⟨rfl, rfl, Nat.le_of_ble_eq_true rfl, Nat.le_of_ble_eq_true rfl⟩ ⟨Nat.le_of_ble_eq_true rfl, Nat.le_of_ble_eq_true rfl⟩ rfl rfl rfl hl.1 rfl (Nat.le_of_ble_eq_true rfl) dX7_sizeOf_2 (fun r_1 hr_1 => ?_)
  rcases hr_1 with ⟨k_1_0, rfl⟩ | ⟨k_1_1, rfl⟩
  · skip
    refine lv_if_eq (tgt := 17) hx hb dX7_sizeOf_5 (by decide) (fun c_2 => absurd c_2 (by decide)) (fun c_2 => ?_)
    refine lv_aload_n hx hb dX7_sizeOf_8 rfl (lv_at hl 0 rfl) ?_
    refine va_get (D := D) (ci := 7) (v := .ref s_sizes) (C := RX7) (T := TX7) (N := 3) hx hb hts inX7 hown hKN.1 hP 0 rfl rfl 0 (by decide) (hts _ tw_343) (fun _ h9 => h9) rfl dX7_sizeOf_9 ?_
    refine lv_iload_n hx hb dX7_sizeOf_12 rfl (lv_at hl 1 rfl) ?_
    refine va_iald hx hb hKN.1 hP 1 1 rfl rfl (vp_in_iff.mpr ⟨by omega, by omega⟩) dX7_sizeOf_13 ?_
    refine lv_topi (fun x_3 ex_3 => ?_)
    obtain rfl : x_3 = (-1) := ex_3
    refine lv_goto (tgt := 18) hx hb dX7_sizeOf_14 (by decide) ?_
    exact W.iret (v := (-1)) hx hb hr (fun t ht hW => ⟨(-1), rfl, rfl, ht⟩) (fun _ h => by cases h) dX7_sizeOf_18
  · skip
    refine lv_if_eq (tgt := 17) hx hb dX7_sizeOf_5 (by decide) (fun c_4 => ?_) (fun c_4 => absurd (by decide) c_4)
    refine lv_iconst (v := (-1)) hx hb dX7_sizeOf_17 (by decide) ?_
    exact W.iret (v := (-1)) hx hb hr (fun t ht hW => ⟨(-1), rfl, rfl, ht⟩) (fun _ h => by cases h) dX7_sizeOf_18
set_option maxHeartbeats 4000000 in
set_option maxRecDepth 100000 in
theorem k_X7_isBare (l : Launch) (D : va_G) (cA : Nat → ClassId) (h0 : Nat) (s_sizes : Nat) (s_widths : Nat) (s_numbers : Nat) (slot : Int32) : Met l yX7_isBare (Cond.code yX7_isBare cX7_isBare 2 (some .boolean) :: TB) (rmd 2 0 0) (PP D cA [(h0, .inr (7, [.ref s_sizes, .ref s_widths, .ref s_numbers])), (s_sizes, .inl (cA 1, 4, .inl (fun _ => (-1))))] [.ref h0, .int slot]) (vp_Si (fun r => r = 1)) 0 0 (fun _ => False) := by
  refine Met.ofW (cc := cX7_isBare) (maxL := 2) (ret := (some .boolean)) (by decide) rfl ?_
  intro p e s m args below meth c s₁ B hml hv
  obtain ⟨rfl, hP, hKN⟩ := hv
  have hx := B.exec
  have hb := B.bytes
  have hr := B.returns
  have hts : ∀ w ∈ TB, w.before _ s = true := fun w h => atoms_spec B.pre w (List.mem_cons_of_mem _ h)
  have hown : s.vm.findClass RX7 = some m.cls := findClass_of_methodNamed B.named
  have hlocks := B.notSynchronized
  have hl := lv_entry ([.ref h0, .int slot]) (n := 2) (Nat.le_of_ble_eq_true rfl)
  rw [lg_entry_eq]
  generalize (lg_sl ([.ref h0, .int slot]) ++ List.replicate (2 - (lg_sl ([.ref h0, .int slot])).length) Slot.unset).toArray = ls at hl ⊢
  have hl : lv_has ls 2 [(0, .ref h0), (1, .int slot)] := hl
  refine lv_aload_n hx hb dX7_isBare_0 rfl (lv_at hl 0 rfl) ?_
  refine lv_iload_n hx hb dX7_isBare_1 rfl (lv_at hl 1 rfl) ?_
  refine cpVi (rest := []) ⟨hx, hb, hml, hown, hts⟩ hKN (hP.sub (ws' := [(h0, .inr (7, [.ref s_sizes, .ref s_widths, .ref s_numbers])), (s_sizes, .inl (cA 1, 4, .inl (fun _ => (-1))))]) [0, 1] rfl) (k_X7_sizeOf l D cA h0 s_sizes s_widths s_numbers slot) (tb_V tw_946 tw_947 tw_948 tw_107 tw_949) hdX7_sizeOf ⟨rfl, rfl, Nat.le_of_ble_eq_true rfl, Nat.le_of_ble_eq_true rfl⟩ ⟨Nat.le_of_ble_eq_true rfl, Nat.le_of_ble_eq_true rfl⟩ rfl rfl rfl hl.1 rfl (Nat.le_of_ble_eq_true rfl) dX7_isBare_2 (fun r_1 hr_1 => ?_)
  obtain rfl : r_1 = (-1) := hr_1
  refine lv_iconst (v := (-1)) hx hb dX7_isBare_5 (by decide) ?_
  refine lv_icmp_ne (tgt := 13) hx hb dX7_isBare_6 (by decide) (fun c_2 => absurd (by decide) c_2) (fun c_2 => ?_)
  refine lv_iconst (v := 1) hx hb dX7_isBare_9 (by decide) ?_
  refine lv_goto (tgt := 14) hx hb dX7_isBare_10 (by decide) ?_
  exact W.zret (v := 1) hx hb hr (by decide) (fun t ht hW => ⟨1, rfl, rfl, ht⟩) (fun _ h => by cases h) dX7_isBare_14
set_option maxHeartbeats 4000000 in
set_option maxRecDepth 100000 in
theorem k_X7_withRow (l : Launch) (D : va_G) (cA : Nat → ClassId) (h0 : Nat) (s_sizes : Nat) (s_widths : Nat) (s_numbers : Nat) : Met l yX7_withRow (Cond.code yX7_withRow cX7_withRow 3 (some .int) :: TB) (rmd 3 0 0) (PP D cA [(h0, .inr (7, [.ref s_sizes, .ref s_widths, .ref s_numbers])), (s_sizes, .inl (cA 1, 4, .inl (fun _ => (-1))))] [.ref h0]) (vp_Si (fun r => r = 0)) 0 0 (fun _ => False) := by
  refine Met.ofW (cc := cX7_withRow) (maxL := 3) (ret := (some .int)) (by decide) rfl ?_
  intro p e s m args below meth c s₁ B hml hv
  obtain ⟨rfl, hP, hKN⟩ := hv
  have hx := B.exec
  have hb := B.bytes
  have hr := B.returns
  have hts : ∀ w ∈ TB, w.before _ s = true := fun w h => atoms_spec B.pre w (List.mem_cons_of_mem _ h)
  have hown : s.vm.findClass RX7 = some m.cls := findClass_of_methodNamed B.named
  have hlocks := B.notSynchronized
  have hl := lv_entry ([.ref h0]) (n := 3) (Nat.le_of_ble_eq_true rfl)
  rw [lg_entry_eq]
  generalize (lg_sl ([.ref h0]) ++ List.replicate (3 - (lg_sl ([.ref h0])).length) Slot.unset).toArray = ls at hl ⊢
  have hl : lv_has ls 3 [(0, .ref h0)] := hl
  refine lv_iconst (v := 0) hx hb dX7_withRow_0 (by decide) ?_
  refine lv_istore_n (lv' := [(1, .int 0), (0, .ref h0)]) hx hb dX7_withRow_1 rfl hl (by decide) rfl (fun ls hl => ?_)
  refine lv_iconst (v := 0) hx hb dX7_withRow_2 (by decide) ?_
  refine lv_istore_n (lv' := [(2, .int 0), (1, .int 0), (0, .ref h0)]) hx hb dX7_withRow_3 rfl hl (by decide) rfl (fun ls hl => ?_)
  refine lv_iload_n hx hb dX7_withRow_4 rfl (lv_at hl 0 rfl) ?_
  refine lv_iconst (v := 4) hx hb dX7_withRow_5 (by decide) ?_
  refine lv_icmp_ge (tgt := 26) hx hb dX7_withRow_6 (by decide) (fun c_1 => absurd c_1 (by decide)) (fun c_1 => ?_)
  refine lv_aload_n hx hb dX7_withRow_9 rfl (lv_at hl 2 rfl) ?_
  refine lv_iload_n hx hb dX7_withRow_10 rfl (lv_at hl 0 rfl) ?_
  refine cpVi (rest := []) ⟨hx, hb, hml, hown, hts⟩ hKN (hP.sub (ws' := [(h0, .inr (7, [.ref s_sizes, .ref s_widths, .ref s_numbers])), (s_sizes, .inl (cA 1, 4, .inl (fun _ => (-1))))]) [0, 1] rfl) (k_X7_isBare l D cA h0 s_sizes s_widths s_numbers 0) (tb_V tw_1367 tw_943 tw_944 tw_107 tw_945) hdX7_isBare ⟨rfl, rfl, Nat.le_of_ble_eq_true rfl, Nat.le_of_ble_eq_true rfl⟩ ⟨Nat.le_of_ble_eq_true rfl, Nat.le_of_ble_eq_true rfl⟩ rfl rfl rfl hl.1 rfl (Nat.le_of_ble_eq_true rfl) dX7_withRow_11 (fun r_2 hr_2 => ?_)
  obtain rfl : r_2 = 1 := hr_2
  refine lv_if_ne (tgt := 20) hx hb dX7_withRow_14 (by decide) (fun c_3 => ?_) (fun c_3 => absurd c_3 (by decide))
  refine lv_iinc (v := 1) (lv' := [(2, .int 1), (1, .int 0), (0, .ref h0)]) hx hb dX7_withRow_20 hl (k := 0) rfl (by decide) (by decide) rfl (fun ls hl => ?_)
  refine lv_goto (tgt := 4) hx hb dX7_withRow_23 (by decide) ?_
  refine lv_iload_n hx hb dX7_withRow_4 rfl (lv_at hl 0 rfl) ?_
  refine lv_iconst (v := 4) hx hb dX7_withRow_5 (by decide) ?_
  refine lv_icmp_ge (tgt := 26) hx hb dX7_withRow_6 (by decide) (fun c_4 => absurd c_4 (by decide)) (fun c_4 => ?_)
  refine lv_aload_n hx hb dX7_withRow_9 rfl (lv_at hl 2 rfl) ?_
  refine lv_iload_n hx hb dX7_withRow_10 rfl (lv_at hl 0 rfl) ?_
  refine cpVi (rest := []) ⟨hx, hb, hml, hown, hts⟩ hKN (hP.sub (ws' := [(h0, .inr (7, [.ref s_sizes, .ref s_widths, .ref s_numbers])), (s_sizes, .inl (cA 1, 4, .inl (fun _ => (-1))))]) [0, 1] rfl) (k_X7_isBare l D cA h0 s_sizes s_widths s_numbers 1) (tb_V tw_1367 tw_943 tw_944 tw_107 tw_945) hdX7_isBare ⟨rfl, rfl, Nat.le_of_ble_eq_true rfl, Nat.le_of_ble_eq_true rfl⟩ ⟨Nat.le_of_ble_eq_true rfl, Nat.le_of_ble_eq_true rfl⟩ rfl rfl rfl hl.1 rfl (Nat.le_of_ble_eq_true rfl) dX7_withRow_11 (fun r_5 hr_5 => ?_)
  obtain rfl : r_5 = 1 := hr_5
  refine lv_if_ne (tgt := 20) hx hb dX7_withRow_14 (by decide) (fun c_6 => ?_) (fun c_6 => absurd c_6 (by decide))
  refine lv_iinc (v := 2) (lv' := [(2, .int 2), (1, .int 0), (0, .ref h0)]) hx hb dX7_withRow_20 hl (k := 0) rfl (by decide) (by decide) rfl (fun ls hl => ?_)
  refine lv_goto (tgt := 4) hx hb dX7_withRow_23 (by decide) ?_
  refine lv_iload_n hx hb dX7_withRow_4 rfl (lv_at hl 0 rfl) ?_
  refine lv_iconst (v := 4) hx hb dX7_withRow_5 (by decide) ?_
  refine lv_icmp_ge (tgt := 26) hx hb dX7_withRow_6 (by decide) (fun c_7 => absurd c_7 (by decide)) (fun c_7 => ?_)
  refine lv_aload_n hx hb dX7_withRow_9 rfl (lv_at hl 2 rfl) ?_
  refine lv_iload_n hx hb dX7_withRow_10 rfl (lv_at hl 0 rfl) ?_
  refine cpVi (rest := []) ⟨hx, hb, hml, hown, hts⟩ hKN (hP.sub (ws' := [(h0, .inr (7, [.ref s_sizes, .ref s_widths, .ref s_numbers])), (s_sizes, .inl (cA 1, 4, .inl (fun _ => (-1))))]) [0, 1] rfl) (k_X7_isBare l D cA h0 s_sizes s_widths s_numbers 2) (tb_V tw_1367 tw_943 tw_944 tw_107 tw_945) hdX7_isBare ⟨rfl, rfl, Nat.le_of_ble_eq_true rfl, Nat.le_of_ble_eq_true rfl⟩ ⟨Nat.le_of_ble_eq_true rfl, Nat.le_of_ble_eq_true rfl⟩ rfl rfl rfl hl.1 rfl (Nat.le_of_ble_eq_true rfl) dX7_withRow_11 (fun r_8 hr_8 => ?_)
  obtain rfl : r_8 = 1 := hr_8
  refine lv_if_ne (tgt := 20) hx hb dX7_withRow_14 (by decide) (fun c_9 => ?_) (fun c_9 => absurd c_9 (by decide))
  refine lv_iinc (v := 3) (lv' := [(2, .int 3), (1, .int 0), (0, .ref h0)]) hx hb dX7_withRow_20 hl (k := 0) rfl (by decide) (by decide) rfl (fun ls hl => ?_)
  refine lv_goto (tgt := 4) hx hb dX7_withRow_23 (by decide) ?_
  refine lv_iload_n hx hb dX7_withRow_4 rfl (lv_at hl 0 rfl) ?_
  refine lv_iconst (v := 4) hx hb dX7_withRow_5 (by decide) ?_
  refine lv_icmp_ge (tgt := 26) hx hb dX7_withRow_6 (by decide) (fun c_10 => absurd c_10 (by decide)) (fun c_10 => ?_)
  refine lv_aload_n hx hb dX7_withRow_9 rfl (lv_at hl 2 rfl) ?_
  refine lv_iload_n hx hb dX7_withRow_10 rfl (lv_at hl 0 rfl) ?_
  refine cpVi (rest := []) ⟨hx, hb, hml, hown, hts⟩ hKN (hP.sub (ws' := [(h0, .inr (7, [.ref s_sizes, .ref s_widths, .ref s_numbers])), (s_sizes, .inl (cA 1, 4, .inl (fun _ => (-1))))]) [0, 1] rfl) (k_X7_isBare l D cA h0 s_sizes s_widths s_numbers 3) (tb_V tw_1367 tw_943 tw_944 tw_107 tw_945) hdX7_isBare ⟨rfl, rfl, Nat.le_of_ble_eq_true rfl, Nat.le_of_ble_eq_true rfl⟩ ⟨Nat.le_of_ble_eq_true rfl, Nat.le_of_ble_eq_true rfl⟩ rfl rfl rfl hl.1 rfl (Nat.le_of_ble_eq_true rfl) dX7_withRow_11 (fun r_11 hr_11 => ?_)
  obtain rfl : r_11 = 1 := hr_11
  refine lv_if_ne (tgt := 20) hx hb dX7_withRow_14 (by decide) (fun c_12 => ?_) (fun c_12 => absurd c_12 (by decide))
  refine lv_iinc (v := 4) (lv' := [(2, .int 4), (1, .int 0), (0, .ref h0)]) hx hb dX7_withRow_20 hl (k := 0) rfl (by decide) (by decide) rfl (fun ls hl => ?_)
  refine lv_goto (tgt := 4) hx hb dX7_withRow_23 (by decide) ?_
  refine lv_iload_n hx hb dX7_withRow_4 rfl (lv_at hl 0 rfl) ?_
  refine lv_iconst (v := 4) hx hb dX7_withRow_5 (by decide) ?_
  refine lv_icmp_ge (tgt := 26) hx hb dX7_withRow_6 (by decide) (fun c_13 => ?_) (fun c_13 => absurd (by decide) c_13)
  refine lv_iload_n hx hb dX7_withRow_26 rfl (lv_at hl 1 rfl) ?_
  exact W.iret (v := 0) hx hb hr (fun t ht hW => ⟨0, rfl, rfl, ht⟩) (fun _ h => by cases h) dX7_withRow_27
set_option maxHeartbeats 4000000 in
set_option maxRecDepth 100000 in
theorem k_X9_hasRoom (l : Launch) (D : va_G) (cA : Nat → ClassId) (h0 : Nat) (t_bytes : Nat) : Met l yX9_hasRoom (Cond.code yX9_hasRoom cX9_hasRoom 2 (some .boolean) :: TB) (rmd 0 0 0) (PP D cA [(h0, .inr (9, [.ref t_bytes, .int 0]))] [.ref h0, .int 20]) (vp_Si (fun r => r = 1)) 0 0 (fun _ => False) := by
  refine Met.ofW (cc := cX9_hasRoom) (maxL := 2) (ret := (some .boolean)) (by decide) rfl ?_
  intro p e s m args below meth c s₁ B hml hv
  obtain ⟨rfl, hP, hKN⟩ := hv
  have hx := B.exec
  have hb := B.bytes
  have hr := B.returns
  have hts : ∀ w ∈ TB, w.before _ s = true := fun w h => atoms_spec B.pre w (List.mem_cons_of_mem _ h)
  have hown : s.vm.findClass RX9 = some m.cls := findClass_of_methodNamed B.named
  have hlocks := B.notSynchronized
  have hl := lv_entry ([.ref h0, .int 20]) (n := 2) (Nat.le_of_ble_eq_true rfl)
  rw [lg_entry_eq]
  generalize (lg_sl ([.ref h0, .int 20]) ++ List.replicate (2 - (lg_sl ([.ref h0, .int 20])).length) Slot.unset).toArray = ls at hl ⊢
  have hl : lv_has ls 2 [(0, .ref h0), (1, .int 20)] := hl
  refine lv_aload_n hx hb dX9_hasRoom_0 rfl (lv_at hl 0 rfl) ?_
  refine va_get (D := D) (ci := 9) (v := .int 0) (C := RX9) (T := TX9) (N := 2) hx hb hts inX9 hown hKN.1 hP 0 rfl rfl 1 (by decide) (hts _ tw_137) (fun _ h9 => h9) rfl dX9_hasRoom_1 ?_
  refine lv_iload_n hx hb dX9_hasRoom_4 rfl (lv_at hl 1 rfl) ?_
  refine lv_iadd hx hb dX9_hasRoom_5 ?_
  refine lv_topi (fun x_1 ex_1 => ?_)
  obtain rfl : x_1 = 20 := ex_1.trans (by decide)
  refine lv_sipush (v := 800) hx hb dX9_hasRoom_6 (by decide) ?_
  refine lv_icmp_gt (tgt := 16) hx hb dX9_hasRoom_9 (by decide) (fun c_2 => absurd c_2 (by decide)) (fun c_2 => ?_)
  refine lv_iconst (v := 1) hx hb dX9_hasRoom_12 (by decide) ?_
  refine lv_goto (tgt := 17) hx hb dX9_hasRoom_13 (by decide) ?_
  exact W.zret (v := 1) hx hb hr (by decide) (fun t ht hW => ⟨1, rfl, rfl, ht⟩) (fun _ h => by cases h) dX9_hasRoom_17
set_option maxHeartbeats 4000000 in
set_option maxRecDepth 100000 in
theorem k_X9_append_0 (l : Launch) (D : va_G) (cA : Nat → ClassId) (sz : Nat) (h0 : Nat) (t_bytes : Nat) (f : Nat → Int32) (four : Int32) : Met l yX9_append (Cond.code yX9_append cX9_append 3 none :: TB) (rmd 0 0 0) (PM D cA sz [(h0, .inr (9, [.ref t_bytes, .int 0])), (t_bytes, .inl (cA 0, 800, .inl f))] [.ref h0, .int four]) (va_Qv (fun _ : SU => True) (fun u t => va_P D vwCl [(h0, .inr (9, [.ref t_bytes, .int 4])), (t_bytes, .inl (cA 0, 800, .inl (u.2.2.1 0)))] t.heap ∧ va_D (va_A [(h0, .inr (9, [.ref t_bytes, .int 0])), (t_bytes, .inl (cA 0, 800, .inl f))] sz) [(h0, .inr (9, [.ref t_bytes, .int 4])), (t_bytes, .inl (cA 0, 800, .inl (u.2.2.1 0)))]) (va_A [(h0, .inr (9, [.ref t_bytes, .int 0])), (t_bytes, .inl (cA 0, 800, .inl f))] sz)) 0 0 (va_A [(h0, .inr (9, [.ref t_bytes, .int 0])), (t_bytes, .inl (cA 0, 800, .inl f))] sz) := by
  refine Met.ofW (cc := cX9_append) (maxL := 3) (ret := none) (by decide) rfl ?_
  intro p e s m args below meth c s₁ B hml hv
  obtain ⟨rfl, hsz, hP, hKN, hD0⟩ := hv
  have hx := B.exec
  have hb := B.bytes
  have hr := B.returns
  have hts : ∀ w ∈ TB, w.before _ s = true := fun w h => atoms_spec B.pre w (List.mem_cons_of_mem _ h)
  have hown : s.vm.findClass RX9 = some m.cls := findClass_of_methodNamed B.named
  have hlocks := B.notSynchronized
  subst hsz
  have hD := hD0.self (sz := s.heap.size)
  generalize hAe : va_A [(h0, .inr (9, [.ref t_bytes, .int 0])), (t_bytes, .inl (cA 0, 800, .inl f))] s.heap.size = A at hD ⊢
  have hA : ∀ q : Nat, s.heap.size ≤ q → A q := fun q h => by rw [← hAe]; exact Or.inr h
  have hS : va_S A s.heap s.heap [] := va_S.rf
  have hl := lv_entry ([.ref h0, .int four]) (n := 3) (Nat.le_of_ble_eq_true rfl)
  rw [lg_entry_eq]
  generalize (lg_sl ([.ref h0, .int four]) ++ List.replicate (3 - (lg_sl ([.ref h0, .int four])).length) Slot.unset).toArray = ls at hl ⊢
  have hl : lv_has ls 3 [(0, .ref h0), (1, .int four)] := hl
  refine lv_bipush (v := 24) hx hb dX9_append_0 (by decide) ?_
  refine lv_istore_n (lv' := [(2, .int 24), (0, .ref h0), (1, .int four)]) hx hb dX9_append_2 rfl hl (by decide) rfl (fun ls hl => ?_)
  refine lv_iload_n hx hb dX9_append_3 rfl (lv_at hl 0 rfl) ?_
  refine lv_if_lt (tgt := 46) hx hb dX9_append_4 (by decide) (fun c_1 => absurd c_1 (by decide)) (fun c_1 => ?_)
  refine lv_aload_n hx hb dX9_append_7 rfl (lv_at hl 1 rfl) ?_
  refine va_get (D := D) (ci := 9) (v := .int 0) (C := RX9) (T := TX9) (N := 2) hx hb hts inX9 hown hKN.1 hP 0 rfl rfl 1 (by decide) (hts _ tw_137) (fun _ h9 => h9) rfl dX9_append_8 ?_
  refine lv_sipush (v := 800) hx hb dX9_append_11 (by decide) ?_
  refine lv_icmp_ge (tgt := 40) hx hb dX9_append_14 (by decide) (fun c_2 => absurd c_2 (by decide)) (fun c_2 => ?_)
  refine lv_aload_n hx hb dX9_append_17 rfl (lv_at hl 1 rfl) ?_
  refine va_get (D := D) (ci := 9) (v := .ref t_bytes) (C := RX9) (T := TX9) (N := 2) hx hb hts inX9 hown hKN.1 hP 0 rfl rfl 0 (by decide) (hts _ tw_136) (fun _ h9 => h9) rfl dX9_append_18 ?_
  refine lv_aload_n hx hb dX9_append_21 rfl (lv_at hl 1 rfl) ?_
  refine va_get (D := D) (ci := 9) (v := .int 0) (C := RX9) (T := TX9) (N := 2) hx hb hts inX9 hown hKN.1 hP 0 rfl rfl 1 (by decide) (hts _ tw_137) (fun _ h9 => h9) rfl dX9_append_22 ?_
  refine lv_iload_n hx hb dX9_append_25 rfl (lv_at hl 2 rfl) ?_
  refine lv_iload_n hx hb dX9_append_26 rfl (lv_at hl 0 rfl) ?_
  refine lv_ishr hx hb dX9_append_27 ?_
  refine lv_topi (fun x_3 ex_3 => ?_)
  obtain ⟨x_4, ex_4⟩ : ∃ y, x_3.toInt8.toInt32 = y := ⟨_, rfl⟩
  refine lv_i2b (v := x_4) hx hb dX9_append_28 ex_4 ?_
  refine va_bast hx hb hKN.1 hP hD hS 1 0 rfl rfl (by unfold vp_in; decide) dX9_append_29 (fun H locs hP hD hS => ?_)
  have hP : va_P D vwCl [(h0, .inr (9, [.ref t_bytes, .int 0])), (t_bytes, .inl (cA 0, 800, .inl (upd f 0 (vp_nar .byte x_4))))] H := hP
  have hD : va_D A [(h0, .inr (9, [.ref t_bytes, .int 0])), (t_bytes, .inl (cA 0, 800, .inl (upd f 0 (vp_nar .byte x_4))))] := hD
  generalize ef_5 : (upd f 0 (vp_nar .byte x_4)) = f_5 at hP hD
  refine lv_aload_n hx hb dX9_append_30 rfl (lv_at hl 1 rfl) ?_
  refine lv_dup hx hb dX9_append_31 rfl ?_
  refine va_get (D := D) (ci := 9) (v := .int 0) (C := RX9) (T := TX9) (N := 2) hx hb hts inX9 hown hKN.1 hP 0 rfl rfl 1 (by decide) (hts _ tw_137) (fun _ h9 => h9) rfl dX9_append_32 ?_
  refine lv_iconst (v := 1) hx hb dX9_append_35 (by decide) ?_
  refine lv_iadd hx hb dX9_append_36 ?_
  refine lv_topi (fun x_6 ex_6 => ?_)
  obtain rfl : x_6 = 1 := ex_6.trans (by decide)
  refine va_put (D := D) (ci := 9) (v := .int 1) (ty := .int) (C := RX9) (T := TX9) (N := 2) hx hb hts inX9 tyX9 tyX9_ok nmX9 hown hKN.1 hP hD hS 0 rfl rfl 1 (by decide) (hts _ tw_137) (fun _ h9 => h9) rfl (by decide +kernel) rfl rfl (Nat.le_of_ble_eq_true rfl) dX9_append_37 (fun H locs hP hD hS => ?_)
  have hP : va_P D vwCl [(h0, .inr (9, [.ref t_bytes, .int 1])), (t_bytes, .inl (cA 0, 800, .inl f_5))] H := hP
  have hD : va_D A [(h0, .inr (9, [.ref t_bytes, .int 1])), (t_bytes, .inl (cA 0, 800, .inl f_5))] := hD
  refine lv_iinc (v := 16) (lv' := [(2, .int 16), (0, .ref h0), (1, .int four)]) hx hb dX9_append_40 hl (k := 0) rfl (by decide) (by decide) rfl (fun ls hl => ?_)
  refine lv_goto (tgt := 3) hx hb dX9_append_43 (by decide) ?_
  refine lv_iload_n hx hb dX9_append_3 rfl (lv_at hl 0 rfl) ?_
  refine lv_if_lt (tgt := 46) hx hb dX9_append_4 (by decide) (fun c_7 => absurd c_7 (by decide)) (fun c_7 => ?_)
  refine lv_aload_n hx hb dX9_append_7 rfl (lv_at hl 1 rfl) ?_
  refine va_get (D := D) (ci := 9) (v := .int 1) (C := RX9) (T := TX9) (N := 2) hx hb hts inX9 hown hKN.1 hP 0 rfl rfl 1 (by decide) (hts _ tw_137) (fun _ h9 => h9) rfl dX9_append_8 ?_
  refine lv_sipush (v := 800) hx hb dX9_append_11 (by decide) ?_
  refine lv_icmp_ge (tgt := 40) hx hb dX9_append_14 (by decide) (fun c_8 => absurd c_8 (by decide)) (fun c_8 => ?_)
  refine lv_aload_n hx hb dX9_append_17 rfl (lv_at hl 1 rfl) ?_
  refine va_get (D := D) (ci := 9) (v := .ref t_bytes) (C := RX9) (T := TX9) (N := 2) hx hb hts inX9 hown hKN.1 hP 0 rfl rfl 0 (by decide) (hts _ tw_136) (fun _ h9 => h9) rfl dX9_append_18 ?_
  refine lv_aload_n hx hb dX9_append_21 rfl (lv_at hl 1 rfl) ?_
  refine va_get (D := D) (ci := 9) (v := .int 1) (C := RX9) (T := TX9) (N := 2) hx hb hts inX9 hown hKN.1 hP 0 rfl rfl 1 (by decide) (hts _ tw_137) (fun _ h9 => h9) rfl dX9_append_22 ?_
  refine lv_iload_n hx hb dX9_append_25 rfl (lv_at hl 2 rfl) ?_
  refine lv_iload_n hx hb dX9_append_26 rfl (lv_at hl 0 rfl) ?_
  refine lv_ishr hx hb dX9_append_27 ?_
  refine lv_topi (fun x_9 ex_9 => ?_)
  obtain ⟨x_10, ex_10⟩ : ∃ y, x_9.toInt8.toInt32 = y := ⟨_, rfl⟩
  refine lv_i2b (v := x_10) hx hb dX9_append_28 ex_10 ?_
  refine va_bast hx hb hKN.1 hP hD hS 1 0 rfl rfl (by unfold vp_in; decide) dX9_append_29 (fun H locs hP hD hS => ?_)
  have hP : va_P D vwCl [(h0, .inr (9, [.ref t_bytes, .int 1])), (t_bytes, .inl (cA 0, 800, .inl (upd f_5 1 (vp_nar .byte x_10))))] H := hP
  have hD : va_D A [(h0, .inr (9, [.ref t_bytes, .int 1])), (t_bytes, .inl (cA 0, 800, .inl (upd f_5 1 (vp_nar .byte x_10))))] := hD
  generalize ef_11 : (upd f_5 1 (vp_nar .byte x_10)) = f_11 at hP hD
  refine lv_aload_n hx hb dX9_append_30 rfl (lv_at hl 1 rfl) ?_
  refine lv_dup hx hb dX9_append_31 rfl ?_
  refine va_get (D := D) (ci := 9) (v := .int 1) (C := RX9) (T := TX9) (N := 2) hx hb hts inX9 hown hKN.1 hP 0 rfl rfl 1 (by decide) (hts _ tw_137) (fun _ h9 => h9) rfl dX9_append_32 ?_
  refine lv_iconst (v := 1) hx hb dX9_append_35 (by decide) ?_
  refine lv_iadd hx hb dX9_append_36 ?_
  refine lv_topi (fun x_12 ex_12 => ?_)
  obtain rfl : x_12 = 2 := ex_12.trans (by decide)
  refine va_put (D := D) (ci := 9) (v := .int 2) (ty := .int) (C := RX9) (T := TX9) (N := 2) hx hb hts inX9 tyX9 tyX9_ok nmX9 hown hKN.1 hP hD hS 0 rfl rfl 1 (by decide) (hts _ tw_137) (fun _ h9 => h9) rfl (by decide +kernel) rfl rfl (Nat.le_of_ble_eq_true rfl) dX9_append_37 (fun H locs hP hD hS => ?_)
  have hP : va_P D vwCl [(h0, .inr (9, [.ref t_bytes, .int 2])), (t_bytes, .inl (cA 0, 800, .inl f_11))] H := hP
  have hD : va_D A [(h0, .inr (9, [.ref t_bytes, .int 2])), (t_bytes, .inl (cA 0, 800, .inl f_11))] := hD
  refine lv_iinc (v := 8) (lv' := [(2, .int 8), (0, .ref h0), (1, .int four)]) hx hb dX9_append_40 hl (k := 0) rfl (by decide) (by decide) rfl (fun ls hl => ?_)
  refine lv_goto (tgt := 3) hx hb dX9_append_43 (by decide) ?_
  refine lv_iload_n hx hb dX9_append_3 rfl (lv_at hl 0 rfl) ?_
  refine lv_if_lt (tgt := 46) hx hb dX9_append_4 (by decide) (fun c_13 => absurd c_13 (by decide)) (fun c_13 => ?_)
  refine lv_aload_n hx hb dX9_append_7 rfl (lv_at hl 1 rfl) ?_
  refine va_get (D := D) (ci := 9) (v := .int 2) (C := RX9) (T := TX9) (N := 2) hx hb hts inX9 hown hKN.1 hP 0 rfl rfl 1 (by decide) (hts _ tw_137) (fun _ h9 => h9) rfl dX9_append_8 ?_
  refine lv_sipush (v := 800) hx hb dX9_append_11 (by decide) ?_
  refine lv_icmp_ge (tgt := 40) hx hb dX9_append_14 (by decide) (fun c_14 => absurd c_14 (by decide)) (fun c_14 => ?_)
  refine lv_aload_n hx hb dX9_append_17 rfl (lv_at hl 1 rfl) ?_
  refine va_get (D := D) (ci := 9) (v := .ref t_bytes) (C := RX9) (T := TX9) (N := 2) hx hb hts inX9 hown hKN.1 hP 0 rfl rfl 0 (by decide) (hts _ tw_136) (fun _ h9 => h9) rfl dX9_append_18 ?_
  refine lv_aload_n hx hb dX9_append_21 rfl (lv_at hl 1 rfl) ?_
  refine va_get (D := D) (ci := 9) (v := .int 2) (C := RX9) (T := TX9) (N := 2) hx hb hts inX9 hown hKN.1 hP 0 rfl rfl 1 (by decide) (hts _ tw_137) (fun _ h9 => h9) rfl dX9_append_22 ?_
  refine lv_iload_n hx hb dX9_append_25 rfl (lv_at hl 2 rfl) ?_
  refine lv_iload_n hx hb dX9_append_26 rfl (lv_at hl 0 rfl) ?_
  refine lv_ishr hx hb dX9_append_27 ?_
  refine lv_topi (fun x_15 ex_15 => ?_)
  obtain ⟨x_16, ex_16⟩ : ∃ y, x_15.toInt8.toInt32 = y := ⟨_, rfl⟩
  refine lv_i2b (v := x_16) hx hb dX9_append_28 ex_16 ?_
  refine va_bast hx hb hKN.1 hP hD hS 1 0 rfl rfl (by unfold vp_in; decide) dX9_append_29 (fun H locs hP hD hS => ?_)
  have hP : va_P D vwCl [(h0, .inr (9, [.ref t_bytes, .int 2])), (t_bytes, .inl (cA 0, 800, .inl (upd f_11 2 (vp_nar .byte x_16))))] H := hP
  have hD : va_D A [(h0, .inr (9, [.ref t_bytes, .int 2])), (t_bytes, .inl (cA 0, 800, .inl (upd f_11 2 (vp_nar .byte x_16))))] := hD
  generalize ef_17 : (upd f_11 2 (vp_nar .byte x_16)) = f_17 at hP hD
  refine lv_aload_n hx hb dX9_append_30 rfl (lv_at hl 1 rfl) ?_
  refine lv_dup hx hb dX9_append_31 rfl ?_
  refine va_get (D := D) (ci := 9) (v := .int 2) (C := RX9) (T := TX9) (N := 2) hx hb hts inX9 hown hKN.1 hP 0 rfl rfl 1 (by decide) (hts _ tw_137) (fun _ h9 => h9) rfl dX9_append_32 ?_
  refine lv_iconst (v := 1) hx hb dX9_append_35 (by decide) ?_
  refine lv_iadd hx hb dX9_append_36 ?_
  refine lv_topi (fun x_18 ex_18 => ?_)
  obtain rfl : x_18 = 3 := ex_18.trans (by decide)
  refine va_put (D := D) (ci := 9) (v := .int 3) (ty := .int) (C := RX9) (T := TX9) (N := 2) hx hb hts inX9 tyX9 tyX9_ok nmX9 hown hKN.1 hP hD hS 0 rfl rfl 1 (by decide) (hts _ tw_137) (fun _ h9 => h9) rfl (by decide +kernel) rfl rfl (Nat.le_of_ble_eq_true rfl) dX9_append_37 (fun H locs hP hD hS => ?_)
  have hP : va_P D vwCl [(h0, .inr (9, [.ref t_bytes, .int 3])), (t_bytes, .inl (cA 0, 800, .inl f_17))] H := hP
  have hD : va_D A [(h0, .inr (9, [.ref t_bytes, .int 3])), (t_bytes, .inl (cA 0, 800, .inl f_17))] := hD
  refine lv_iinc (v := 0) (lv' := [(2, .int 0), (0, .ref h0), (1, .int four)]) hx hb dX9_append_40 hl (k := 0) rfl (by decide) (by decide) rfl (fun ls hl => ?_)
  refine lv_goto (tgt := 3) hx hb dX9_append_43 (by decide) ?_
  refine lv_iload_n hx hb dX9_append_3 rfl (lv_at hl 0 rfl) ?_
  refine lv_if_lt (tgt := 46) hx hb dX9_append_4 (by decide) (fun c_19 => absurd c_19 (by decide)) (fun c_19 => ?_)
  refine lv_aload_n hx hb dX9_append_7 rfl (lv_at hl 1 rfl) ?_
  refine va_get (D := D) (ci := 9) (v := .int 3) (C := RX9) (T := TX9) (N := 2) hx hb hts inX9 hown hKN.1 hP 0 rfl rfl 1 (by decide) (hts _ tw_137) (fun _ h9 => h9) rfl dX9_append_8 ?_
  refine lv_sipush (v := 800) hx hb dX9_append_11 (by decide) ?_
  refine lv_icmp_ge (tgt := 40) hx hb dX9_append_14 (by decide) (fun c_20 => absurd c_20 (by decide)) (fun c_20 => ?_)
  refine lv_aload_n hx hb dX9_append_17 rfl (lv_at hl 1 rfl) ?_
  refine va_get (D := D) (ci := 9) (v := .ref t_bytes) (C := RX9) (T := TX9) (N := 2) hx hb hts inX9 hown hKN.1 hP 0 rfl rfl 0 (by decide) (hts _ tw_136) (fun _ h9 => h9) rfl dX9_append_18 ?_
  refine lv_aload_n hx hb dX9_append_21 rfl (lv_at hl 1 rfl) ?_
  refine va_get (D := D) (ci := 9) (v := .int 3) (C := RX9) (T := TX9) (N := 2) hx hb hts inX9 hown hKN.1 hP 0 rfl rfl 1 (by decide) (hts _ tw_137) (fun _ h9 => h9) rfl dX9_append_22 ?_
  refine lv_iload_n hx hb dX9_append_25 rfl (lv_at hl 2 rfl) ?_
  refine lv_iload_n hx hb dX9_append_26 rfl (lv_at hl 0 rfl) ?_
  refine lv_ishr hx hb dX9_append_27 ?_
  refine lv_topi (fun x_21 ex_21 => ?_)
  obtain ⟨x_22, ex_22⟩ : ∃ y, x_21.toInt8.toInt32 = y := ⟨_, rfl⟩
  refine lv_i2b (v := x_22) hx hb dX9_append_28 ex_22 ?_
  refine va_bast hx hb hKN.1 hP hD hS 1 0 rfl rfl (by unfold vp_in; decide) dX9_append_29 (fun H locs hP hD hS => ?_)
  have hP : va_P D vwCl [(h0, .inr (9, [.ref t_bytes, .int 3])), (t_bytes, .inl (cA 0, 800, .inl (upd f_17 3 (vp_nar .byte x_22))))] H := hP
  have hD : va_D A [(h0, .inr (9, [.ref t_bytes, .int 3])), (t_bytes, .inl (cA 0, 800, .inl (upd f_17 3 (vp_nar .byte x_22))))] := hD
  generalize ef_23 : (upd f_17 3 (vp_nar .byte x_22)) = f_23 at hP hD
  refine lv_aload_n hx hb dX9_append_30 rfl (lv_at hl 1 rfl) ?_
  refine lv_dup hx hb dX9_append_31 rfl ?_
  refine va_get (D := D) (ci := 9) (v := .int 3) (C := RX9) (T := TX9) (N := 2) hx hb hts inX9 hown hKN.1 hP 0 rfl rfl 1 (by decide) (hts _ tw_137) (fun _ h9 => h9) rfl dX9_append_32 ?_
  refine lv_iconst (v := 1) hx hb dX9_append_35 (by decide) ?_
  refine lv_iadd hx hb dX9_append_36 ?_
  refine lv_topi (fun x_24 ex_24 => ?_)
  obtain rfl : x_24 = 4 := ex_24.trans (by decide)
  refine va_put (D := D) (ci := 9) (v := .int 4) (ty := .int) (C := RX9) (T := TX9) (N := 2) hx hb hts inX9 tyX9 tyX9_ok nmX9 hown hKN.1 hP hD hS 0 rfl rfl 1 (by decide) (hts _ tw_137) (fun _ h9 => h9) rfl (by decide +kernel) rfl rfl (Nat.le_of_ble_eq_true rfl) dX9_append_37 (fun H locs hP hD hS => ?_)
  have hP : va_P D vwCl [(h0, .inr (9, [.ref t_bytes, .int 4])), (t_bytes, .inl (cA 0, 800, .inl f_23))] H := hP
  have hD : va_D A [(h0, .inr (9, [.ref t_bytes, .int 4])), (t_bytes, .inl (cA 0, 800, .inl f_23))] := hD
  refine lv_iinc (v := (-8)) (lv' := [(2, .int (-8)), (0, .ref h0), (1, .int four)]) hx hb dX9_append_40 hl (k := 0) rfl (by decide) (by decide) rfl (fun ls hl => ?_)
  refine lv_goto (tgt := 3) hx hb dX9_append_43 (by decide) ?_
  refine lv_iload_n hx hb dX9_append_3 rfl (lv_at hl 0 rfl) ?_
  refine lv_if_lt (tgt := 46) hx hb dX9_append_4 (by decide) (fun c_25 => ?_) (fun c_25 => absurd (by decide) c_25)
  have hP9 := hP.sub (ws' := [(h0, .inr (9, [.ref t_bytes, .int 4])), (t_bytes, .inl (cA 0, 800, .inl f_23))]) [0, 1] rfl
  have hD9 := hD.sub (ws' := [(h0, .inr (9, [.ref t_bytes, .int 4])), (t_bytes, .inl (cA 0, 800, .inl f_23))]) [0, 1] (by decide) rfl
  exact W.vret hx hb hr (fun t ht hW => ⟨⟨((fun _ => 0), (fun _ => 0), (selF [f_23]), (fun _ _ => 0)), rfl, trivial, by rw [ht]; exact hP9, hD9⟩, hS.F ht⟩) hS.2.2 dX9_append_46
set_option maxHeartbeats 4000000 in
set_option maxRecDepth 100000 in
theorem k_X9_append_4 (l : Launch) (D : va_G) (cA : Nat → ClassId) (sz : Nat) (h0 : Nat) (t_bytes : Nat) (f : Nat → Int32) (four : Int32) : Met l yX9_append (Cond.code yX9_append cX9_append 3 none :: TB) (rmd 0 0 0) (PM D cA sz [(h0, .inr (9, [.ref t_bytes, .int 4])), (t_bytes, .inl (cA 0, 800, .inl f))] [.ref h0, .int four]) (va_Qv (fun _ : SU => True) (fun u t => va_P D vwCl [(h0, .inr (9, [.ref t_bytes, .int 8])), (t_bytes, .inl (cA 0, 800, .inl (u.2.2.1 0)))] t.heap ∧ va_D (va_A [(h0, .inr (9, [.ref t_bytes, .int 4])), (t_bytes, .inl (cA 0, 800, .inl f))] sz) [(h0, .inr (9, [.ref t_bytes, .int 8])), (t_bytes, .inl (cA 0, 800, .inl (u.2.2.1 0)))]) (va_A [(h0, .inr (9, [.ref t_bytes, .int 4])), (t_bytes, .inl (cA 0, 800, .inl f))] sz)) 0 0 (va_A [(h0, .inr (9, [.ref t_bytes, .int 4])), (t_bytes, .inl (cA 0, 800, .inl f))] sz) := by
  refine Met.ofW (cc := cX9_append) (maxL := 3) (ret := none) (by decide) rfl ?_
  intro p e s m args below meth c s₁ B hml hv
  obtain ⟨rfl, hsz, hP, hKN, hD0⟩ := hv
  have hx := B.exec
  have hb := B.bytes
  have hr := B.returns
  have hts : ∀ w ∈ TB, w.before _ s = true := fun w h => atoms_spec B.pre w (List.mem_cons_of_mem _ h)
  have hown : s.vm.findClass RX9 = some m.cls := findClass_of_methodNamed B.named
  have hlocks := B.notSynchronized
  subst hsz
  have hD := hD0.self (sz := s.heap.size)
  generalize hAe : va_A [(h0, .inr (9, [.ref t_bytes, .int 4])), (t_bytes, .inl (cA 0, 800, .inl f))] s.heap.size = A at hD ⊢
  have hA : ∀ q : Nat, s.heap.size ≤ q → A q := fun q h => by rw [← hAe]; exact Or.inr h
  have hS : va_S A s.heap s.heap [] := va_S.rf
  have hl := lv_entry ([.ref h0, .int four]) (n := 3) (Nat.le_of_ble_eq_true rfl)
  rw [lg_entry_eq]
  generalize (lg_sl ([.ref h0, .int four]) ++ List.replicate (3 - (lg_sl ([.ref h0, .int four])).length) Slot.unset).toArray = ls at hl ⊢
  have hl : lv_has ls 3 [(0, .ref h0), (1, .int four)] := hl
  refine lv_bipush (v := 24) hx hb dX9_append_0 (by decide) ?_
  refine lv_istore_n (lv' := [(2, .int 24), (0, .ref h0), (1, .int four)]) hx hb dX9_append_2 rfl hl (by decide) rfl (fun ls hl => ?_)
  refine lv_iload_n hx hb dX9_append_3 rfl (lv_at hl 0 rfl) ?_
  refine lv_if_lt (tgt := 46) hx hb dX9_append_4 (by decide) (fun c_1 => absurd c_1 (by decide)) (fun c_1 => ?_)
  refine lv_aload_n hx hb dX9_append_7 rfl (lv_at hl 1 rfl) ?_
  refine va_get (D := D) (ci := 9) (v := .int 4) (C := RX9) (T := TX9) (N := 2) hx hb hts inX9 hown hKN.1 hP 0 rfl rfl 1 (by decide) (hts _ tw_137) (fun _ h9 => h9) rfl dX9_append_8 ?_
  refine lv_sipush (v := 800) hx hb dX9_append_11 (by decide) ?_
  refine lv_icmp_ge (tgt := 40) hx hb dX9_append_14 (by decide) (fun c_2 => absurd c_2 (by decide)) (fun c_2 => ?_)
  refine lv_aload_n hx hb dX9_append_17 rfl (lv_at hl 1 rfl) ?_
  refine va_get (D := D) (ci := 9) (v := .ref t_bytes) (C := RX9) (T := TX9) (N := 2) hx hb hts inX9 hown hKN.1 hP 0 rfl rfl 0 (by decide) (hts _ tw_136) (fun _ h9 => h9) rfl dX9_append_18 ?_
  refine lv_aload_n hx hb dX9_append_21 rfl (lv_at hl 1 rfl) ?_
  refine va_get (D := D) (ci := 9) (v := .int 4) (C := RX9) (T := TX9) (N := 2) hx hb hts inX9 hown hKN.1 hP 0 rfl rfl 1 (by decide) (hts _ tw_137) (fun _ h9 => h9) rfl dX9_append_22 ?_
  refine lv_iload_n hx hb dX9_append_25 rfl (lv_at hl 2 rfl) ?_
  refine lv_iload_n hx hb dX9_append_26 rfl (lv_at hl 0 rfl) ?_
  refine lv_ishr hx hb dX9_append_27 ?_
  refine lv_topi (fun x_3 ex_3 => ?_)
  obtain ⟨x_4, ex_4⟩ : ∃ y, x_3.toInt8.toInt32 = y := ⟨_, rfl⟩
  refine lv_i2b (v := x_4) hx hb dX9_append_28 ex_4 ?_
  refine va_bast hx hb hKN.1 hP hD hS 1 0 rfl rfl (by unfold vp_in; decide) dX9_append_29 (fun H locs hP hD hS => ?_)
  have hP : va_P D vwCl [(h0, .inr (9, [.ref t_bytes, .int 4])), (t_bytes, .inl (cA 0, 800, .inl (upd f 4 (vp_nar .byte x_4))))] H := hP
  have hD : va_D A [(h0, .inr (9, [.ref t_bytes, .int 4])), (t_bytes, .inl (cA 0, 800, .inl (upd f 4 (vp_nar .byte x_4))))] := hD
  generalize ef_5 : (upd f 4 (vp_nar .byte x_4)) = f_5 at hP hD
  refine lv_aload_n hx hb dX9_append_30 rfl (lv_at hl 1 rfl) ?_
  refine lv_dup hx hb dX9_append_31 rfl ?_
  refine va_get (D := D) (ci := 9) (v := .int 4) (C := RX9) (T := TX9) (N := 2) hx hb hts inX9 hown hKN.1 hP 0 rfl rfl 1 (by decide) (hts _ tw_137) (fun _ h9 => h9) rfl dX9_append_32 ?_
  refine lv_iconst (v := 1) hx hb dX9_append_35 (by decide) ?_
  refine lv_iadd hx hb dX9_append_36 ?_
  refine lv_topi (fun x_6 ex_6 => ?_)
  obtain rfl : x_6 = 5 := ex_6.trans (by decide)
  refine va_put (D := D) (ci := 9) (v := .int 5) (ty := .int) (C := RX9) (T := TX9) (N := 2) hx hb hts inX9 tyX9 tyX9_ok nmX9 hown hKN.1 hP hD hS 0 rfl rfl 1 (by decide) (hts _ tw_137) (fun _ h9 => h9) rfl (by decide +kernel) rfl rfl (Nat.le_of_ble_eq_true rfl) dX9_append_37 (fun H locs hP hD hS => ?_)
  have hP : va_P D vwCl [(h0, .inr (9, [.ref t_bytes, .int 5])), (t_bytes, .inl (cA 0, 800, .inl f_5))] H := hP
  have hD : va_D A [(h0, .inr (9, [.ref t_bytes, .int 5])), (t_bytes, .inl (cA 0, 800, .inl f_5))] := hD
  refine lv_iinc (v := 16) (lv' := [(2, .int 16), (0, .ref h0), (1, .int four)]) hx hb dX9_append_40 hl (k := 0) rfl (by decide) (by decide) rfl (fun ls hl => ?_)
  refine lv_goto (tgt := 3) hx hb dX9_append_43 (by decide) ?_
  refine lv_iload_n hx hb dX9_append_3 rfl (lv_at hl 0 rfl) ?_
  refine lv_if_lt (tgt := 46) hx hb dX9_append_4 (by decide) (fun c_7 => absurd c_7 (by decide)) (fun c_7 => ?_)
  refine lv_aload_n hx hb dX9_append_7 rfl (lv_at hl 1 rfl) ?_
  refine va_get (D := D) (ci := 9) (v := .int 5) (C := RX9) (T := TX9) (N := 2) hx hb hts inX9 hown hKN.1 hP 0 rfl rfl 1 (by decide) (hts _ tw_137) (fun _ h9 => h9) rfl dX9_append_8 ?_
  refine lv_sipush (v := 800) hx hb dX9_append_11 (by decide) ?_
  refine lv_icmp_ge (tgt := 40) hx hb dX9_append_14 (by decide) (fun c_8 => absurd c_8 (by decide)) (fun c_8 => ?_)
  refine lv_aload_n hx hb dX9_append_17 rfl (lv_at hl 1 rfl) ?_
  refine va_get (D := D) (ci := 9) (v := .ref t_bytes) (C := RX9) (T := TX9) (N := 2) hx hb hts inX9 hown hKN.1 hP 0 rfl rfl 0 (by decide) (hts _ tw_136) (fun _ h9 => h9) rfl dX9_append_18 ?_
  refine lv_aload_n hx hb dX9_append_21 rfl (lv_at hl 1 rfl) ?_
  refine va_get (D := D) (ci := 9) (v := .int 5) (C := RX9) (T := TX9) (N := 2) hx hb hts inX9 hown hKN.1 hP 0 rfl rfl 1 (by decide) (hts _ tw_137) (fun _ h9 => h9) rfl dX9_append_22 ?_
  refine lv_iload_n hx hb dX9_append_25 rfl (lv_at hl 2 rfl) ?_
  refine lv_iload_n hx hb dX9_append_26 rfl (lv_at hl 0 rfl) ?_
  refine lv_ishr hx hb dX9_append_27 ?_
  refine lv_topi (fun x_9 ex_9 => ?_)
  obtain ⟨x_10, ex_10⟩ : ∃ y, x_9.toInt8.toInt32 = y := ⟨_, rfl⟩
  refine lv_i2b (v := x_10) hx hb dX9_append_28 ex_10 ?_
  refine va_bast hx hb hKN.1 hP hD hS 1 0 rfl rfl (by unfold vp_in; decide) dX9_append_29 (fun H locs hP hD hS => ?_)
  have hP : va_P D vwCl [(h0, .inr (9, [.ref t_bytes, .int 5])), (t_bytes, .inl (cA 0, 800, .inl (upd f_5 5 (vp_nar .byte x_10))))] H := hP
  have hD : va_D A [(h0, .inr (9, [.ref t_bytes, .int 5])), (t_bytes, .inl (cA 0, 800, .inl (upd f_5 5 (vp_nar .byte x_10))))] := hD
  generalize ef_11 : (upd f_5 5 (vp_nar .byte x_10)) = f_11 at hP hD
  refine lv_aload_n hx hb dX9_append_30 rfl (lv_at hl 1 rfl) ?_
  refine lv_dup hx hb dX9_append_31 rfl ?_
  refine va_get (D := D) (ci := 9) (v := .int 5) (C := RX9) (T := TX9) (N := 2) hx hb hts inX9 hown hKN.1 hP 0 rfl rfl 1 (by decide) (hts _ tw_137) (fun _ h9 => h9) rfl dX9_append_32 ?_
  refine lv_iconst (v := 1) hx hb dX9_append_35 (by decide) ?_
  refine lv_iadd hx hb dX9_append_36 ?_
  refine lv_topi (fun x_12 ex_12 => ?_)
  obtain rfl : x_12 = 6 := ex_12.trans (by decide)
  refine va_put (D := D) (ci := 9) (v := .int 6) (ty := .int) (C := RX9) (T := TX9) (N := 2) hx hb hts inX9 tyX9 tyX9_ok nmX9 hown hKN.1 hP hD hS 0 rfl rfl 1 (by decide) (hts _ tw_137) (fun _ h9 => h9) rfl (by decide +kernel) rfl rfl (Nat.le_of_ble_eq_true rfl) dX9_append_37 (fun H locs hP hD hS => ?_)
  have hP : va_P D vwCl [(h0, .inr (9, [.ref t_bytes, .int 6])), (t_bytes, .inl (cA 0, 800, .inl f_11))] H := hP
  have hD : va_D A [(h0, .inr (9, [.ref t_bytes, .int 6])), (t_bytes, .inl (cA 0, 800, .inl f_11))] := hD
  refine lv_iinc (v := 8) (lv' := [(2, .int 8), (0, .ref h0), (1, .int four)]) hx hb dX9_append_40 hl (k := 0) rfl (by decide) (by decide) rfl (fun ls hl => ?_)
  refine lv_goto (tgt := 3) hx hb dX9_append_43 (by decide) ?_
  refine lv_iload_n hx hb dX9_append_3 rfl (lv_at hl 0 rfl) ?_
  refine lv_if_lt (tgt := 46) hx hb dX9_append_4 (by decide) (fun c_13 => absurd c_13 (by decide)) (fun c_13 => ?_)
  refine lv_aload_n hx hb dX9_append_7 rfl (lv_at hl 1 rfl) ?_
  refine va_get (D := D) (ci := 9) (v := .int 6) (C := RX9) (T := TX9) (N := 2) hx hb hts inX9 hown hKN.1 hP 0 rfl rfl 1 (by decide) (hts _ tw_137) (fun _ h9 => h9) rfl dX9_append_8 ?_
  refine lv_sipush (v := 800) hx hb dX9_append_11 (by decide) ?_
  refine lv_icmp_ge (tgt := 40) hx hb dX9_append_14 (by decide) (fun c_14 => absurd c_14 (by decide)) (fun c_14 => ?_)
  refine lv_aload_n hx hb dX9_append_17 rfl (lv_at hl 1 rfl) ?_
  refine va_get (D := D) (ci := 9) (v := .ref t_bytes) (C := RX9) (T := TX9) (N := 2) hx hb hts inX9 hown hKN.1 hP 0 rfl rfl 0 (by decide) (hts _ tw_136) (fun _ h9 => h9) rfl dX9_append_18 ?_
  refine lv_aload_n hx hb dX9_append_21 rfl (lv_at hl 1 rfl) ?_
  refine va_get (D := D) (ci := 9) (v := .int 6) (C := RX9) (T := TX9) (N := 2) hx hb hts inX9 hown hKN.1 hP 0 rfl rfl 1 (by decide) (hts _ tw_137) (fun _ h9 => h9) rfl dX9_append_22 ?_
  refine lv_iload_n hx hb dX9_append_25 rfl (lv_at hl 2 rfl) ?_
  refine lv_iload_n hx hb dX9_append_26 rfl (lv_at hl 0 rfl) ?_
  refine lv_ishr hx hb dX9_append_27 ?_
  refine lv_topi (fun x_15 ex_15 => ?_)
  obtain ⟨x_16, ex_16⟩ : ∃ y, x_15.toInt8.toInt32 = y := ⟨_, rfl⟩
  refine lv_i2b (v := x_16) hx hb dX9_append_28 ex_16 ?_
  refine va_bast hx hb hKN.1 hP hD hS 1 0 rfl rfl (by unfold vp_in; decide) dX9_append_29 (fun H locs hP hD hS => ?_)
  have hP : va_P D vwCl [(h0, .inr (9, [.ref t_bytes, .int 6])), (t_bytes, .inl (cA 0, 800, .inl (upd f_11 6 (vp_nar .byte x_16))))] H := hP
  have hD : va_D A [(h0, .inr (9, [.ref t_bytes, .int 6])), (t_bytes, .inl (cA 0, 800, .inl (upd f_11 6 (vp_nar .byte x_16))))] := hD
  generalize ef_17 : (upd f_11 6 (vp_nar .byte x_16)) = f_17 at hP hD
  refine lv_aload_n hx hb dX9_append_30 rfl (lv_at hl 1 rfl) ?_
  refine lv_dup hx hb dX9_append_31 rfl ?_
  refine va_get (D := D) (ci := 9) (v := .int 6) (C := RX9) (T := TX9) (N := 2) hx hb hts inX9 hown hKN.1 hP 0 rfl rfl 1 (by decide) (hts _ tw_137) (fun _ h9 => h9) rfl dX9_append_32 ?_
  refine lv_iconst (v := 1) hx hb dX9_append_35 (by decide) ?_
  refine lv_iadd hx hb dX9_append_36 ?_
  refine lv_topi (fun x_18 ex_18 => ?_)
  obtain rfl : x_18 = 7 := ex_18.trans (by decide)
  refine va_put (D := D) (ci := 9) (v := .int 7) (ty := .int) (C := RX9) (T := TX9) (N := 2) hx hb hts inX9 tyX9 tyX9_ok nmX9 hown hKN.1 hP hD hS 0 rfl rfl 1 (by decide) (hts _ tw_137) (fun _ h9 => h9) rfl (by decide +kernel) rfl rfl (Nat.le_of_ble_eq_true rfl) dX9_append_37 (fun H locs hP hD hS => ?_)
  have hP : va_P D vwCl [(h0, .inr (9, [.ref t_bytes, .int 7])), (t_bytes, .inl (cA 0, 800, .inl f_17))] H := hP
  have hD : va_D A [(h0, .inr (9, [.ref t_bytes, .int 7])), (t_bytes, .inl (cA 0, 800, .inl f_17))] := hD
  refine lv_iinc (v := 0) (lv' := [(2, .int 0), (0, .ref h0), (1, .int four)]) hx hb dX9_append_40 hl (k := 0) rfl (by decide) (by decide) rfl (fun ls hl => ?_)
  refine lv_goto (tgt := 3) hx hb dX9_append_43 (by decide) ?_
  refine lv_iload_n hx hb dX9_append_3 rfl (lv_at hl 0 rfl) ?_
  refine lv_if_lt (tgt := 46) hx hb dX9_append_4 (by decide) (fun c_19 => absurd c_19 (by decide)) (fun c_19 => ?_)
  refine lv_aload_n hx hb dX9_append_7 rfl (lv_at hl 1 rfl) ?_
  refine va_get (D := D) (ci := 9) (v := .int 7) (C := RX9) (T := TX9) (N := 2) hx hb hts inX9 hown hKN.1 hP 0 rfl rfl 1 (by decide) (hts _ tw_137) (fun _ h9 => h9) rfl dX9_append_8 ?_
  refine lv_sipush (v := 800) hx hb dX9_append_11 (by decide) ?_
  refine lv_icmp_ge (tgt := 40) hx hb dX9_append_14 (by decide) (fun c_20 => absurd c_20 (by decide)) (fun c_20 => ?_)
  refine lv_aload_n hx hb dX9_append_17 rfl (lv_at hl 1 rfl) ?_
  refine va_get (D := D) (ci := 9) (v := .ref t_bytes) (C := RX9) (T := TX9) (N := 2) hx hb hts inX9 hown hKN.1 hP 0 rfl rfl 0 (by decide) (hts _ tw_136) (fun _ h9 => h9) rfl dX9_append_18 ?_
  refine lv_aload_n hx hb dX9_append_21 rfl (lv_at hl 1 rfl) ?_
  refine va_get (D := D) (ci := 9) (v := .int 7) (C := RX9) (T := TX9) (N := 2) hx hb hts inX9 hown hKN.1 hP 0 rfl rfl 1 (by decide) (hts _ tw_137) (fun _ h9 => h9) rfl dX9_append_22 ?_
  refine lv_iload_n hx hb dX9_append_25 rfl (lv_at hl 2 rfl) ?_
  refine lv_iload_n hx hb dX9_append_26 rfl (lv_at hl 0 rfl) ?_
  refine lv_ishr hx hb dX9_append_27 ?_
  refine lv_topi (fun x_21 ex_21 => ?_)
  obtain ⟨x_22, ex_22⟩ : ∃ y, x_21.toInt8.toInt32 = y := ⟨_, rfl⟩
  refine lv_i2b (v := x_22) hx hb dX9_append_28 ex_22 ?_
  refine va_bast hx hb hKN.1 hP hD hS 1 0 rfl rfl (by unfold vp_in; decide) dX9_append_29 (fun H locs hP hD hS => ?_)
  have hP : va_P D vwCl [(h0, .inr (9, [.ref t_bytes, .int 7])), (t_bytes, .inl (cA 0, 800, .inl (upd f_17 7 (vp_nar .byte x_22))))] H := hP
  have hD : va_D A [(h0, .inr (9, [.ref t_bytes, .int 7])), (t_bytes, .inl (cA 0, 800, .inl (upd f_17 7 (vp_nar .byte x_22))))] := hD
  generalize ef_23 : (upd f_17 7 (vp_nar .byte x_22)) = f_23 at hP hD
  refine lv_aload_n hx hb dX9_append_30 rfl (lv_at hl 1 rfl) ?_
  refine lv_dup hx hb dX9_append_31 rfl ?_
  refine va_get (D := D) (ci := 9) (v := .int 7) (C := RX9) (T := TX9) (N := 2) hx hb hts inX9 hown hKN.1 hP 0 rfl rfl 1 (by decide) (hts _ tw_137) (fun _ h9 => h9) rfl dX9_append_32 ?_
  refine lv_iconst (v := 1) hx hb dX9_append_35 (by decide) ?_
  refine lv_iadd hx hb dX9_append_36 ?_
  refine lv_topi (fun x_24 ex_24 => ?_)
  obtain rfl : x_24 = 8 := ex_24.trans (by decide)
  refine va_put (D := D) (ci := 9) (v := .int 8) (ty := .int) (C := RX9) (T := TX9) (N := 2) hx hb hts inX9 tyX9 tyX9_ok nmX9 hown hKN.1 hP hD hS 0 rfl rfl 1 (by decide) (hts _ tw_137) (fun _ h9 => h9) rfl (by decide +kernel) rfl rfl (Nat.le_of_ble_eq_true rfl) dX9_append_37 (fun H locs hP hD hS => ?_)
  have hP : va_P D vwCl [(h0, .inr (9, [.ref t_bytes, .int 8])), (t_bytes, .inl (cA 0, 800, .inl f_23))] H := hP
  have hD : va_D A [(h0, .inr (9, [.ref t_bytes, .int 8])), (t_bytes, .inl (cA 0, 800, .inl f_23))] := hD
  refine lv_iinc (v := (-8)) (lv' := [(2, .int (-8)), (0, .ref h0), (1, .int four)]) hx hb dX9_append_40 hl (k := 0) rfl (by decide) (by decide) rfl (fun ls hl => ?_)
  refine lv_goto (tgt := 3) hx hb dX9_append_43 (by decide) ?_
  refine lv_iload_n hx hb dX9_append_3 rfl (lv_at hl 0 rfl) ?_
  refine lv_if_lt (tgt := 46) hx hb dX9_append_4 (by decide) (fun c_25 => ?_) (fun c_25 => absurd (by decide) c_25)
  have hP9 := hP.sub (ws' := [(h0, .inr (9, [.ref t_bytes, .int 8])), (t_bytes, .inl (cA 0, 800, .inl f_23))]) [0, 1] rfl
  have hD9 := hD.sub (ws' := [(h0, .inr (9, [.ref t_bytes, .int 8])), (t_bytes, .inl (cA 0, 800, .inl f_23))]) [0, 1] (by decide) rfl
  exact W.vret hx hb hr (fun t ht hW => ⟨⟨((fun _ => 0), (fun _ => 0), (selF [f_23]), (fun _ _ => 0)), rfl, trivial, by rw [ht]; exact hP9, hD9⟩, hS.F ht⟩) hS.2.2 dX9_append_46
set_option maxHeartbeats 4000000 in
set_option maxRecDepth 100000 in
theorem k_X9_append_8 (l : Launch) (D : va_G) (cA : Nat → ClassId) (sz : Nat) (h0 : Nat) (t_bytes : Nat) (f : Nat → Int32) (four : Int32) : Met l yX9_append (Cond.code yX9_append cX9_append 3 none :: TB) (rmd 0 0 0) (PM D cA sz [(h0, .inr (9, [.ref t_bytes, .int 8])), (t_bytes, .inl (cA 0, 800, .inl f))] [.ref h0, .int four]) (va_Qv (fun _ : SU => True) (fun u t => va_P D vwCl [(h0, .inr (9, [.ref t_bytes, .int 12])), (t_bytes, .inl (cA 0, 800, .inl (u.2.2.1 0)))] t.heap ∧ va_D (va_A [(h0, .inr (9, [.ref t_bytes, .int 8])), (t_bytes, .inl (cA 0, 800, .inl f))] sz) [(h0, .inr (9, [.ref t_bytes, .int 12])), (t_bytes, .inl (cA 0, 800, .inl (u.2.2.1 0)))]) (va_A [(h0, .inr (9, [.ref t_bytes, .int 8])), (t_bytes, .inl (cA 0, 800, .inl f))] sz)) 0 0 (va_A [(h0, .inr (9, [.ref t_bytes, .int 8])), (t_bytes, .inl (cA 0, 800, .inl f))] sz) := by
  refine Met.ofW (cc := cX9_append) (maxL := 3) (ret := none) (by decide) rfl ?_
  intro p e s m args below meth c s₁ B hml hv
  obtain ⟨rfl, hsz, hP, hKN, hD0⟩ := hv
  have hx := B.exec
  have hb := B.bytes
  have hr := B.returns
  have hts : ∀ w ∈ TB, w.before _ s = true := fun w h => atoms_spec B.pre w (List.mem_cons_of_mem _ h)
  have hown : s.vm.findClass RX9 = some m.cls := findClass_of_methodNamed B.named
  have hlocks := B.notSynchronized
  subst hsz
  have hD := hD0.self (sz := s.heap.size)
  generalize hAe : va_A [(h0, .inr (9, [.ref t_bytes, .int 8])), (t_bytes, .inl (cA 0, 800, .inl f))] s.heap.size = A at hD ⊢
  have hA : ∀ q : Nat, s.heap.size ≤ q → A q := fun q h => by rw [← hAe]; exact Or.inr h
  have hS : va_S A s.heap s.heap [] := va_S.rf
  have hl := lv_entry ([.ref h0, .int four]) (n := 3) (Nat.le_of_ble_eq_true rfl)
  rw [lg_entry_eq]
  generalize (lg_sl ([.ref h0, .int four]) ++ List.replicate (3 - (lg_sl ([.ref h0, .int four])).length) Slot.unset).toArray = ls at hl ⊢
  have hl : lv_has ls 3 [(0, .ref h0), (1, .int four)] := hl
  refine lv_bipush (v := 24) hx hb dX9_append_0 (by decide) ?_
  refine lv_istore_n (lv' := [(2, .int 24), (0, .ref h0), (1, .int four)]) hx hb dX9_append_2 rfl hl (by decide) rfl (fun ls hl => ?_)
  refine lv_iload_n hx hb dX9_append_3 rfl (lv_at hl 0 rfl) ?_
  refine lv_if_lt (tgt := 46) hx hb dX9_append_4 (by decide) (fun c_1 => absurd c_1 (by decide)) (fun c_1 => ?_)
  refine lv_aload_n hx hb dX9_append_7 rfl (lv_at hl 1 rfl) ?_
  refine va_get (D := D) (ci := 9) (v := .int 8) (C := RX9) (T := TX9) (N := 2) hx hb hts inX9 hown hKN.1 hP 0 rfl rfl 1 (by decide) (hts _ tw_137) (fun _ h9 => h9) rfl dX9_append_8 ?_
  refine lv_sipush (v := 800) hx hb dX9_append_11 (by decide) ?_
  refine lv_icmp_ge (tgt := 40) hx hb dX9_append_14 (by decide) (fun c_2 => absurd c_2 (by decide)) (fun c_2 => ?_)
  refine lv_aload_n hx hb dX9_append_17 rfl (lv_at hl 1 rfl) ?_
  refine va_get (D := D) (ci := 9) (v := .ref t_bytes) (C := RX9) (T := TX9) (N := 2) hx hb hts inX9 hown hKN.1 hP 0 rfl rfl 0 (by decide) (hts _ tw_136) (fun _ h9 => h9) rfl dX9_append_18 ?_
  refine lv_aload_n hx hb dX9_append_21 rfl (lv_at hl 1 rfl) ?_
  refine va_get (D := D) (ci := 9) (v := .int 8) (C := RX9) (T := TX9) (N := 2) hx hb hts inX9 hown hKN.1 hP 0 rfl rfl 1 (by decide) (hts _ tw_137) (fun _ h9 => h9) rfl dX9_append_22 ?_
  refine lv_iload_n hx hb dX9_append_25 rfl (lv_at hl 2 rfl) ?_
  refine lv_iload_n hx hb dX9_append_26 rfl (lv_at hl 0 rfl) ?_
  refine lv_ishr hx hb dX9_append_27 ?_
  refine lv_topi (fun x_3 ex_3 => ?_)
  obtain ⟨x_4, ex_4⟩ : ∃ y, x_3.toInt8.toInt32 = y := ⟨_, rfl⟩
  refine lv_i2b (v := x_4) hx hb dX9_append_28 ex_4 ?_
  refine va_bast hx hb hKN.1 hP hD hS 1 0 rfl rfl (by unfold vp_in; decide) dX9_append_29 (fun H locs hP hD hS => ?_)
  have hP : va_P D vwCl [(h0, .inr (9, [.ref t_bytes, .int 8])), (t_bytes, .inl (cA 0, 800, .inl (upd f 8 (vp_nar .byte x_4))))] H := hP
  have hD : va_D A [(h0, .inr (9, [.ref t_bytes, .int 8])), (t_bytes, .inl (cA 0, 800, .inl (upd f 8 (vp_nar .byte x_4))))] := hD
  generalize ef_5 : (upd f 8 (vp_nar .byte x_4)) = f_5 at hP hD
  refine lv_aload_n hx hb dX9_append_30 rfl (lv_at hl 1 rfl) ?_
  refine lv_dup hx hb dX9_append_31 rfl ?_
  refine va_get (D := D) (ci := 9) (v := .int 8) (C := RX9) (T := TX9) (N := 2) hx hb hts inX9 hown hKN.1 hP 0 rfl rfl 1 (by decide) (hts _ tw_137) (fun _ h9 => h9) rfl dX9_append_32 ?_
  refine lv_iconst (v := 1) hx hb dX9_append_35 (by decide) ?_
  refine lv_iadd hx hb dX9_append_36 ?_
  refine lv_topi (fun x_6 ex_6 => ?_)
  obtain rfl : x_6 = 9 := ex_6.trans (by decide)
  refine va_put (D := D) (ci := 9) (v := .int 9) (ty := .int) (C := RX9) (T := TX9) (N := 2) hx hb hts inX9 tyX9 tyX9_ok nmX9 hown hKN.1 hP hD hS 0 rfl rfl 1 (by decide) (hts _ tw_137) (fun _ h9 => h9) rfl (by decide +kernel) rfl rfl (Nat.le_of_ble_eq_true rfl) dX9_append_37 (fun H locs hP hD hS => ?_)
  have hP : va_P D vwCl [(h0, .inr (9, [.ref t_bytes, .int 9])), (t_bytes, .inl (cA 0, 800, .inl f_5))] H := hP
  have hD : va_D A [(h0, .inr (9, [.ref t_bytes, .int 9])), (t_bytes, .inl (cA 0, 800, .inl f_5))] := hD
  refine lv_iinc (v := 16) (lv' := [(2, .int 16), (0, .ref h0), (1, .int four)]) hx hb dX9_append_40 hl (k := 0) rfl (by decide) (by decide) rfl (fun ls hl => ?_)
  refine lv_goto (tgt := 3) hx hb dX9_append_43 (by decide) ?_
  refine lv_iload_n hx hb dX9_append_3 rfl (lv_at hl 0 rfl) ?_
  refine lv_if_lt (tgt := 46) hx hb dX9_append_4 (by decide) (fun c_7 => absurd c_7 (by decide)) (fun c_7 => ?_)
  refine lv_aload_n hx hb dX9_append_7 rfl (lv_at hl 1 rfl) ?_
  refine va_get (D := D) (ci := 9) (v := .int 9) (C := RX9) (T := TX9) (N := 2) hx hb hts inX9 hown hKN.1 hP 0 rfl rfl 1 (by decide) (hts _ tw_137) (fun _ h9 => h9) rfl dX9_append_8 ?_
  refine lv_sipush (v := 800) hx hb dX9_append_11 (by decide) ?_
  refine lv_icmp_ge (tgt := 40) hx hb dX9_append_14 (by decide) (fun c_8 => absurd c_8 (by decide)) (fun c_8 => ?_)
  refine lv_aload_n hx hb dX9_append_17 rfl (lv_at hl 1 rfl) ?_
  refine va_get (D := D) (ci := 9) (v := .ref t_bytes) (C := RX9) (T := TX9) (N := 2) hx hb hts inX9 hown hKN.1 hP 0 rfl rfl 0 (by decide) (hts _ tw_136) (fun _ h9 => h9) rfl dX9_append_18 ?_
  refine lv_aload_n hx hb dX9_append_21 rfl (lv_at hl 1 rfl) ?_
  refine va_get (D := D) (ci := 9) (v := .int 9) (C := RX9) (T := TX9) (N := 2) hx hb hts inX9 hown hKN.1 hP 0 rfl rfl 1 (by decide) (hts _ tw_137) (fun _ h9 => h9) rfl dX9_append_22 ?_
  refine lv_iload_n hx hb dX9_append_25 rfl (lv_at hl 2 rfl) ?_
  refine lv_iload_n hx hb dX9_append_26 rfl (lv_at hl 0 rfl) ?_
  refine lv_ishr hx hb dX9_append_27 ?_
  refine lv_topi (fun x_9 ex_9 => ?_)
  obtain ⟨x_10, ex_10⟩ : ∃ y, x_9.toInt8.toInt32 = y := ⟨_, rfl⟩
  refine lv_i2b (v := x_10) hx hb dX9_append_28 ex_10 ?_
  refine va_bast hx hb hKN.1 hP hD hS 1 0 rfl rfl (by unfold vp_in; decide) dX9_append_29 (fun H locs hP hD hS => ?_)
  have hP : va_P D vwCl [(h0, .inr (9, [.ref t_bytes, .int 9])), (t_bytes, .inl (cA 0, 800, .inl (upd f_5 9 (vp_nar .byte x_10))))] H := hP
  have hD : va_D A [(h0, .inr (9, [.ref t_bytes, .int 9])), (t_bytes, .inl (cA 0, 800, .inl (upd f_5 9 (vp_nar .byte x_10))))] := hD
  generalize ef_11 : (upd f_5 9 (vp_nar .byte x_10)) = f_11 at hP hD
  refine lv_aload_n hx hb dX9_append_30 rfl (lv_at hl 1 rfl) ?_
  refine lv_dup hx hb dX9_append_31 rfl ?_
  refine va_get (D := D) (ci := 9) (v := .int 9) (C := RX9) (T := TX9) (N := 2) hx hb hts inX9 hown hKN.1 hP 0 rfl rfl 1 (by decide) (hts _ tw_137) (fun _ h9 => h9) rfl dX9_append_32 ?_
  refine lv_iconst (v := 1) hx hb dX9_append_35 (by decide) ?_
  refine lv_iadd hx hb dX9_append_36 ?_
  refine lv_topi (fun x_12 ex_12 => ?_)
  obtain rfl : x_12 = 10 := ex_12.trans (by decide)
  refine va_put (D := D) (ci := 9) (v := .int 10) (ty := .int) (C := RX9) (T := TX9) (N := 2) hx hb hts inX9 tyX9 tyX9_ok nmX9 hown hKN.1 hP hD hS 0 rfl rfl 1 (by decide) (hts _ tw_137) (fun _ h9 => h9) rfl (by decide +kernel) rfl rfl (Nat.le_of_ble_eq_true rfl) dX9_append_37 (fun H locs hP hD hS => ?_)
  have hP : va_P D vwCl [(h0, .inr (9, [.ref t_bytes, .int 10])), (t_bytes, .inl (cA 0, 800, .inl f_11))] H := hP
  have hD : va_D A [(h0, .inr (9, [.ref t_bytes, .int 10])), (t_bytes, .inl (cA 0, 800, .inl f_11))] := hD
  refine lv_iinc (v := 8) (lv' := [(2, .int 8), (0, .ref h0), (1, .int four)]) hx hb dX9_append_40 hl (k := 0) rfl (by decide) (by decide) rfl (fun ls hl => ?_)
  refine lv_goto (tgt := 3) hx hb dX9_append_43 (by decide) ?_
  refine lv_iload_n hx hb dX9_append_3 rfl (lv_at hl 0 rfl) ?_
  refine lv_if_lt (tgt := 46) hx hb dX9_append_4 (by decide) (fun c_13 => absurd c_13 (by decide)) (fun c_13 => ?_)
  refine lv_aload_n hx hb dX9_append_7 rfl (lv_at hl 1 rfl) ?_
  refine va_get (D := D) (ci := 9) (v := .int 10) (C := RX9) (T := TX9) (N := 2) hx hb hts inX9 hown hKN.1 hP 0 rfl rfl 1 (by decide) (hts _ tw_137) (fun _ h9 => h9) rfl dX9_append_8 ?_
  refine lv_sipush (v := 800) hx hb dX9_append_11 (by decide) ?_
  refine lv_icmp_ge (tgt := 40) hx hb dX9_append_14 (by decide) (fun c_14 => absurd c_14 (by decide)) (fun c_14 => ?_)
  refine lv_aload_n hx hb dX9_append_17 rfl (lv_at hl 1 rfl) ?_
  refine va_get (D := D) (ci := 9) (v := .ref t_bytes) (C := RX9) (T := TX9) (N := 2) hx hb hts inX9 hown hKN.1 hP 0 rfl rfl 0 (by decide) (hts _ tw_136) (fun _ h9 => h9) rfl dX9_append_18 ?_
  refine lv_aload_n hx hb dX9_append_21 rfl (lv_at hl 1 rfl) ?_
  refine va_get (D := D) (ci := 9) (v := .int 10) (C := RX9) (T := TX9) (N := 2) hx hb hts inX9 hown hKN.1 hP 0 rfl rfl 1 (by decide) (hts _ tw_137) (fun _ h9 => h9) rfl dX9_append_22 ?_
  refine lv_iload_n hx hb dX9_append_25 rfl (lv_at hl 2 rfl) ?_
  refine lv_iload_n hx hb dX9_append_26 rfl (lv_at hl 0 rfl) ?_
  refine lv_ishr hx hb dX9_append_27 ?_
  refine lv_topi (fun x_15 ex_15 => ?_)
  obtain ⟨x_16, ex_16⟩ : ∃ y, x_15.toInt8.toInt32 = y := ⟨_, rfl⟩
  refine lv_i2b (v := x_16) hx hb dX9_append_28 ex_16 ?_
  refine va_bast hx hb hKN.1 hP hD hS 1 0 rfl rfl (by unfold vp_in; decide) dX9_append_29 (fun H locs hP hD hS => ?_)
  have hP : va_P D vwCl [(h0, .inr (9, [.ref t_bytes, .int 10])), (t_bytes, .inl (cA 0, 800, .inl (upd f_11 10 (vp_nar .byte x_16))))] H := hP
  have hD : va_D A [(h0, .inr (9, [.ref t_bytes, .int 10])), (t_bytes, .inl (cA 0, 800, .inl (upd f_11 10 (vp_nar .byte x_16))))] := hD
  generalize ef_17 : (upd f_11 10 (vp_nar .byte x_16)) = f_17 at hP hD
  refine lv_aload_n hx hb dX9_append_30 rfl (lv_at hl 1 rfl) ?_
  refine lv_dup hx hb dX9_append_31 rfl ?_
  refine va_get (D := D) (ci := 9) (v := .int 10) (C := RX9) (T := TX9) (N := 2) hx hb hts inX9 hown hKN.1 hP 0 rfl rfl 1 (by decide) (hts _ tw_137) (fun _ h9 => h9) rfl dX9_append_32 ?_
  refine lv_iconst (v := 1) hx hb dX9_append_35 (by decide) ?_
  refine lv_iadd hx hb dX9_append_36 ?_
  refine lv_topi (fun x_18 ex_18 => ?_)
  obtain rfl : x_18 = 11 := ex_18.trans (by decide)
  refine va_put (D := D) (ci := 9) (v := .int 11) (ty := .int) (C := RX9) (T := TX9) (N := 2) hx hb hts inX9 tyX9 tyX9_ok nmX9 hown hKN.1 hP hD hS 0 rfl rfl 1 (by decide) (hts _ tw_137) (fun _ h9 => h9) rfl (by decide +kernel) rfl rfl (Nat.le_of_ble_eq_true rfl) dX9_append_37 (fun H locs hP hD hS => ?_)
  have hP : va_P D vwCl [(h0, .inr (9, [.ref t_bytes, .int 11])), (t_bytes, .inl (cA 0, 800, .inl f_17))] H := hP
  have hD : va_D A [(h0, .inr (9, [.ref t_bytes, .int 11])), (t_bytes, .inl (cA 0, 800, .inl f_17))] := hD
  refine lv_iinc (v := 0) (lv' := [(2, .int 0), (0, .ref h0), (1, .int four)]) hx hb dX9_append_40 hl (k := 0) rfl (by decide) (by decide) rfl (fun ls hl => ?_)
  refine lv_goto (tgt := 3) hx hb dX9_append_43 (by decide) ?_
  refine lv_iload_n hx hb dX9_append_3 rfl (lv_at hl 0 rfl) ?_
  refine lv_if_lt (tgt := 46) hx hb dX9_append_4 (by decide) (fun c_19 => absurd c_19 (by decide)) (fun c_19 => ?_)
  refine lv_aload_n hx hb dX9_append_7 rfl (lv_at hl 1 rfl) ?_
  refine va_get (D := D) (ci := 9) (v := .int 11) (C := RX9) (T := TX9) (N := 2) hx hb hts inX9 hown hKN.1 hP 0 rfl rfl 1 (by decide) (hts _ tw_137) (fun _ h9 => h9) rfl dX9_append_8 ?_
  refine lv_sipush (v := 800) hx hb dX9_append_11 (by decide) ?_
  refine lv_icmp_ge (tgt := 40) hx hb dX9_append_14 (by decide) (fun c_20 => absurd c_20 (by decide)) (fun c_20 => ?_)
  refine lv_aload_n hx hb dX9_append_17 rfl (lv_at hl 1 rfl) ?_
  refine va_get (D := D) (ci := 9) (v := .ref t_bytes) (C := RX9) (T := TX9) (N := 2) hx hb hts inX9 hown hKN.1 hP 0 rfl rfl 0 (by decide) (hts _ tw_136) (fun _ h9 => h9) rfl dX9_append_18 ?_
  refine lv_aload_n hx hb dX9_append_21 rfl (lv_at hl 1 rfl) ?_
  refine va_get (D := D) (ci := 9) (v := .int 11) (C := RX9) (T := TX9) (N := 2) hx hb hts inX9 hown hKN.1 hP 0 rfl rfl 1 (by decide) (hts _ tw_137) (fun _ h9 => h9) rfl dX9_append_22 ?_
  refine lv_iload_n hx hb dX9_append_25 rfl (lv_at hl 2 rfl) ?_
  refine lv_iload_n hx hb dX9_append_26 rfl (lv_at hl 0 rfl) ?_
  refine lv_ishr hx hb dX9_append_27 ?_
  refine lv_topi (fun x_21 ex_21 => ?_)
  obtain ⟨x_22, ex_22⟩ : ∃ y, x_21.toInt8.toInt32 = y := ⟨_, rfl⟩
  refine lv_i2b (v := x_22) hx hb dX9_append_28 ex_22 ?_
  refine va_bast hx hb hKN.1 hP hD hS 1 0 rfl rfl (by unfold vp_in; decide) dX9_append_29 (fun H locs hP hD hS => ?_)
  have hP : va_P D vwCl [(h0, .inr (9, [.ref t_bytes, .int 11])), (t_bytes, .inl (cA 0, 800, .inl (upd f_17 11 (vp_nar .byte x_22))))] H := hP
  have hD : va_D A [(h0, .inr (9, [.ref t_bytes, .int 11])), (t_bytes, .inl (cA 0, 800, .inl (upd f_17 11 (vp_nar .byte x_22))))] := hD
  generalize ef_23 : (upd f_17 11 (vp_nar .byte x_22)) = f_23 at hP hD
  refine lv_aload_n hx hb dX9_append_30 rfl (lv_at hl 1 rfl) ?_
  refine lv_dup hx hb dX9_append_31 rfl ?_
  refine va_get (D := D) (ci := 9) (v := .int 11) (C := RX9) (T := TX9) (N := 2) hx hb hts inX9 hown hKN.1 hP 0 rfl rfl 1 (by decide) (hts _ tw_137) (fun _ h9 => h9) rfl dX9_append_32 ?_
  refine lv_iconst (v := 1) hx hb dX9_append_35 (by decide) ?_
  refine lv_iadd hx hb dX9_append_36 ?_
  refine lv_topi (fun x_24 ex_24 => ?_)
  obtain rfl : x_24 = 12 := ex_24.trans (by decide)
  refine va_put (D := D) (ci := 9) (v := .int 12) (ty := .int) (C := RX9) (T := TX9) (N := 2) hx hb hts inX9 tyX9 tyX9_ok nmX9 hown hKN.1 hP hD hS 0 rfl rfl 1 (by decide) (hts _ tw_137) (fun _ h9 => h9) rfl (by decide +kernel) rfl rfl (Nat.le_of_ble_eq_true rfl) dX9_append_37 (fun H locs hP hD hS => ?_)
  have hP : va_P D vwCl [(h0, .inr (9, [.ref t_bytes, .int 12])), (t_bytes, .inl (cA 0, 800, .inl f_23))] H := hP
  have hD : va_D A [(h0, .inr (9, [.ref t_bytes, .int 12])), (t_bytes, .inl (cA 0, 800, .inl f_23))] := hD
  refine lv_iinc (v := (-8)) (lv' := [(2, .int (-8)), (0, .ref h0), (1, .int four)]) hx hb dX9_append_40 hl (k := 0) rfl (by decide) (by decide) rfl (fun ls hl => ?_)
  refine lv_goto (tgt := 3) hx hb dX9_append_43 (by decide) ?_
  refine lv_iload_n hx hb dX9_append_3 rfl (lv_at hl 0 rfl) ?_
  refine lv_if_lt (tgt := 46) hx hb dX9_append_4 (by decide) (fun c_25 => ?_) (fun c_25 => absurd (by decide) c_25)
  have hP9 := hP.sub (ws' := [(h0, .inr (9, [.ref t_bytes, .int 12])), (t_bytes, .inl (cA 0, 800, .inl f_23))]) [0, 1] rfl
  have hD9 := hD.sub (ws' := [(h0, .inr (9, [.ref t_bytes, .int 12])), (t_bytes, .inl (cA 0, 800, .inl f_23))]) [0, 1] (by decide) rfl
  exact W.vret hx hb hr (fun t ht hW => ⟨⟨((fun _ => 0), (fun _ => 0), (selF [f_23]), (fun _ _ => 0)), rfl, trivial, by rw [ht]; exact hP9, hD9⟩, hS.F ht⟩) hS.2.2 dX9_append_46
set_option maxHeartbeats 4000000 in
set_option maxRecDepth 100000 in
theorem k_X9_append_12 (l : Launch) (D : va_G) (cA : Nat → ClassId) (sz : Nat) (h0 : Nat) (t_bytes : Nat) (f : Nat → Int32) (four : Int32) : Met l yX9_append (Cond.code yX9_append cX9_append 3 none :: TB) (rmd 0 0 0) (PM D cA sz [(h0, .inr (9, [.ref t_bytes, .int 12])), (t_bytes, .inl (cA 0, 800, .inl f))] [.ref h0, .int four]) (va_Qv (fun _ : SU => True) (fun u t => va_P D vwCl [(h0, .inr (9, [.ref t_bytes, .int 16])), (t_bytes, .inl (cA 0, 800, .inl (u.2.2.1 0)))] t.heap ∧ va_D (va_A [(h0, .inr (9, [.ref t_bytes, .int 12])), (t_bytes, .inl (cA 0, 800, .inl f))] sz) [(h0, .inr (9, [.ref t_bytes, .int 16])), (t_bytes, .inl (cA 0, 800, .inl (u.2.2.1 0)))]) (va_A [(h0, .inr (9, [.ref t_bytes, .int 12])), (t_bytes, .inl (cA 0, 800, .inl f))] sz)) 0 0 (va_A [(h0, .inr (9, [.ref t_bytes, .int 12])), (t_bytes, .inl (cA 0, 800, .inl f))] sz) := by
  refine Met.ofW (cc := cX9_append) (maxL := 3) (ret := none) (by decide) rfl ?_
  intro p e s m args below meth c s₁ B hml hv
  obtain ⟨rfl, hsz, hP, hKN, hD0⟩ := hv
  have hx := B.exec
  have hb := B.bytes
  have hr := B.returns
  have hts : ∀ w ∈ TB, w.before _ s = true := fun w h => atoms_spec B.pre w (List.mem_cons_of_mem _ h)
  have hown : s.vm.findClass RX9 = some m.cls := findClass_of_methodNamed B.named
  have hlocks := B.notSynchronized
  subst hsz
  have hD := hD0.self (sz := s.heap.size)
  generalize hAe : va_A [(h0, .inr (9, [.ref t_bytes, .int 12])), (t_bytes, .inl (cA 0, 800, .inl f))] s.heap.size = A at hD ⊢
  have hA : ∀ q : Nat, s.heap.size ≤ q → A q := fun q h => by rw [← hAe]; exact Or.inr h
  have hS : va_S A s.heap s.heap [] := va_S.rf
  have hl := lv_entry ([.ref h0, .int four]) (n := 3) (Nat.le_of_ble_eq_true rfl)
  rw [lg_entry_eq]
  generalize (lg_sl ([.ref h0, .int four]) ++ List.replicate (3 - (lg_sl ([.ref h0, .int four])).length) Slot.unset).toArray = ls at hl ⊢
  have hl : lv_has ls 3 [(0, .ref h0), (1, .int four)] := hl
  refine lv_bipush (v := 24) hx hb dX9_append_0 (by decide) ?_
  refine lv_istore_n (lv' := [(2, .int 24), (0, .ref h0), (1, .int four)]) hx hb dX9_append_2 rfl hl (by decide) rfl (fun ls hl => ?_)
  refine lv_iload_n hx hb dX9_append_3 rfl (lv_at hl 0 rfl) ?_
  refine lv_if_lt (tgt := 46) hx hb dX9_append_4 (by decide) (fun c_1 => absurd c_1 (by decide)) (fun c_1 => ?_)
  refine lv_aload_n hx hb dX9_append_7 rfl (lv_at hl 1 rfl) ?_
  refine va_get (D := D) (ci := 9) (v := .int 12) (C := RX9) (T := TX9) (N := 2) hx hb hts inX9 hown hKN.1 hP 0 rfl rfl 1 (by decide) (hts _ tw_137) (fun _ h9 => h9) rfl dX9_append_8 ?_
  refine lv_sipush (v := 800) hx hb dX9_append_11 (by decide) ?_
  refine lv_icmp_ge (tgt := 40) hx hb dX9_append_14 (by decide) (fun c_2 => absurd c_2 (by decide)) (fun c_2 => ?_)
  refine lv_aload_n hx hb dX9_append_17 rfl (lv_at hl 1 rfl) ?_
  refine va_get (D := D) (ci := 9) (v := .ref t_bytes) (C := RX9) (T := TX9) (N := 2) hx hb hts inX9 hown hKN.1 hP 0 rfl rfl 0 (by decide) (hts _ tw_136) (fun _ h9 => h9) rfl dX9_append_18 ?_
  refine lv_aload_n hx hb dX9_append_21 rfl (lv_at hl 1 rfl) ?_
  refine va_get (D := D) (ci := 9) (v := .int 12) (C := RX9) (T := TX9) (N := 2) hx hb hts inX9 hown hKN.1 hP 0 rfl rfl 1 (by decide) (hts _ tw_137) (fun _ h9 => h9) rfl dX9_append_22 ?_
  refine lv_iload_n hx hb dX9_append_25 rfl (lv_at hl 2 rfl) ?_
  refine lv_iload_n hx hb dX9_append_26 rfl (lv_at hl 0 rfl) ?_
  refine lv_ishr hx hb dX9_append_27 ?_
  refine lv_topi (fun x_3 ex_3 => ?_)
  obtain ⟨x_4, ex_4⟩ : ∃ y, x_3.toInt8.toInt32 = y := ⟨_, rfl⟩
  refine lv_i2b (v := x_4) hx hb dX9_append_28 ex_4 ?_
  refine va_bast hx hb hKN.1 hP hD hS 1 0 rfl rfl (by unfold vp_in; decide) dX9_append_29 (fun H locs hP hD hS => ?_)
  have hP : va_P D vwCl [(h0, .inr (9, [.ref t_bytes, .int 12])), (t_bytes, .inl (cA 0, 800, .inl (upd f 12 (vp_nar .byte x_4))))] H := hP
  have hD : va_D A [(h0, .inr (9, [.ref t_bytes, .int 12])), (t_bytes, .inl (cA 0, 800, .inl (upd f 12 (vp_nar .byte x_4))))] := hD
  generalize ef_5 : (upd f 12 (vp_nar .byte x_4)) = f_5 at hP hD
  refine lv_aload_n hx hb dX9_append_30 rfl (lv_at hl 1 rfl) ?_
  refine lv_dup hx hb dX9_append_31 rfl ?_
  refine va_get (D := D) (ci := 9) (v := .int 12) (C := RX9) (T := TX9) (N := 2) hx hb hts inX9 hown hKN.1 hP 0 rfl rfl 1 (by decide) (hts _ tw_137) (fun _ h9 => h9) rfl dX9_append_32 ?_
  refine lv_iconst (v := 1) hx hb dX9_append_35 (by decide) ?_
  refine lv_iadd hx hb dX9_append_36 ?_
  refine lv_topi (fun x_6 ex_6 => ?_)
  obtain rfl : x_6 = 13 := ex_6.trans (by decide)
  refine va_put (D := D) (ci := 9) (v := .int 13) (ty := .int) (C := RX9) (T := TX9) (N := 2) hx hb hts inX9 tyX9 tyX9_ok nmX9 hown hKN.1 hP hD hS 0 rfl rfl 1 (by decide) (hts _ tw_137) (fun _ h9 => h9) rfl (by decide +kernel) rfl rfl (Nat.le_of_ble_eq_true rfl) dX9_append_37 (fun H locs hP hD hS => ?_)
  have hP : va_P D vwCl [(h0, .inr (9, [.ref t_bytes, .int 13])), (t_bytes, .inl (cA 0, 800, .inl f_5))] H := hP
  have hD : va_D A [(h0, .inr (9, [.ref t_bytes, .int 13])), (t_bytes, .inl (cA 0, 800, .inl f_5))] := hD
  refine lv_iinc (v := 16) (lv' := [(2, .int 16), (0, .ref h0), (1, .int four)]) hx hb dX9_append_40 hl (k := 0) rfl (by decide) (by decide) rfl (fun ls hl => ?_)
  refine lv_goto (tgt := 3) hx hb dX9_append_43 (by decide) ?_
  refine lv_iload_n hx hb dX9_append_3 rfl (lv_at hl 0 rfl) ?_
  refine lv_if_lt (tgt := 46) hx hb dX9_append_4 (by decide) (fun c_7 => absurd c_7 (by decide)) (fun c_7 => ?_)
  refine lv_aload_n hx hb dX9_append_7 rfl (lv_at hl 1 rfl) ?_
  refine va_get (D := D) (ci := 9) (v := .int 13) (C := RX9) (T := TX9) (N := 2) hx hb hts inX9 hown hKN.1 hP 0 rfl rfl 1 (by decide) (hts _ tw_137) (fun _ h9 => h9) rfl dX9_append_8 ?_
  refine lv_sipush (v := 800) hx hb dX9_append_11 (by decide) ?_
  refine lv_icmp_ge (tgt := 40) hx hb dX9_append_14 (by decide) (fun c_8 => absurd c_8 (by decide)) (fun c_8 => ?_)
  refine lv_aload_n hx hb dX9_append_17 rfl (lv_at hl 1 rfl) ?_
  refine va_get (D := D) (ci := 9) (v := .ref t_bytes) (C := RX9) (T := TX9) (N := 2) hx hb hts inX9 hown hKN.1 hP 0 rfl rfl 0 (by decide) (hts _ tw_136) (fun _ h9 => h9) rfl dX9_append_18 ?_
  refine lv_aload_n hx hb dX9_append_21 rfl (lv_at hl 1 rfl) ?_
  refine va_get (D := D) (ci := 9) (v := .int 13) (C := RX9) (T := TX9) (N := 2) hx hb hts inX9 hown hKN.1 hP 0 rfl rfl 1 (by decide) (hts _ tw_137) (fun _ h9 => h9) rfl dX9_append_22 ?_
  refine lv_iload_n hx hb dX9_append_25 rfl (lv_at hl 2 rfl) ?_
  refine lv_iload_n hx hb dX9_append_26 rfl (lv_at hl 0 rfl) ?_
  refine lv_ishr hx hb dX9_append_27 ?_
  refine lv_topi (fun x_9 ex_9 => ?_)
  obtain ⟨x_10, ex_10⟩ : ∃ y, x_9.toInt8.toInt32 = y := ⟨_, rfl⟩
  refine lv_i2b (v := x_10) hx hb dX9_append_28 ex_10 ?_
  refine va_bast hx hb hKN.1 hP hD hS 1 0 rfl rfl (by unfold vp_in; decide) dX9_append_29 (fun H locs hP hD hS => ?_)
  have hP : va_P D vwCl [(h0, .inr (9, [.ref t_bytes, .int 13])), (t_bytes, .inl (cA 0, 800, .inl (upd f_5 13 (vp_nar .byte x_10))))] H := hP
  have hD : va_D A [(h0, .inr (9, [.ref t_bytes, .int 13])), (t_bytes, .inl (cA 0, 800, .inl (upd f_5 13 (vp_nar .byte x_10))))] := hD
  generalize ef_11 : (upd f_5 13 (vp_nar .byte x_10)) = f_11 at hP hD
  refine lv_aload_n hx hb dX9_append_30 rfl (lv_at hl 1 rfl) ?_
  refine lv_dup hx hb dX9_append_31 rfl ?_
  refine va_get (D := D) (ci := 9) (v := .int 13) (C := RX9) (T := TX9) (N := 2) hx hb hts inX9 hown hKN.1 hP 0 rfl rfl 1 (by decide) (hts _ tw_137) (fun _ h9 => h9) rfl dX9_append_32 ?_
  refine lv_iconst (v := 1) hx hb dX9_append_35 (by decide) ?_
  refine lv_iadd hx hb dX9_append_36 ?_
  refine lv_topi (fun x_12 ex_12 => ?_)
  obtain rfl : x_12 = 14 := ex_12.trans (by decide)
  refine va_put (D := D) (ci := 9) (v := .int 14) (ty := .int) (C := RX9) (T := TX9) (N := 2) hx hb hts inX9 tyX9 tyX9_ok nmX9 hown hKN.1 hP hD hS 0 rfl rfl 1 (by decide) (hts _ tw_137) (fun _ h9 => h9) rfl (by decide +kernel) rfl rfl (Nat.le_of_ble_eq_true rfl) dX9_append_37 (fun H locs hP hD hS => ?_)
  have hP : va_P D vwCl [(h0, .inr (9, [.ref t_bytes, .int 14])), (t_bytes, .inl (cA 0, 800, .inl f_11))] H := hP
  have hD : va_D A [(h0, .inr (9, [.ref t_bytes, .int 14])), (t_bytes, .inl (cA 0, 800, .inl f_11))] := hD
  refine lv_iinc (v := 8) (lv' := [(2, .int 8), (0, .ref h0), (1, .int four)]) hx hb dX9_append_40 hl (k := 0) rfl (by decide) (by decide) rfl (fun ls hl => ?_)
  refine lv_goto (tgt := 3) hx hb dX9_append_43 (by decide) ?_
  refine lv_iload_n hx hb dX9_append_3 rfl (lv_at hl 0 rfl) ?_
  refine lv_if_lt (tgt := 46) hx hb dX9_append_4 (by decide) (fun c_13 => absurd c_13 (by decide)) (fun c_13 => ?_)
  refine lv_aload_n hx hb dX9_append_7 rfl (lv_at hl 1 rfl) ?_
  refine va_get (D := D) (ci := 9) (v := .int 14) (C := RX9) (T := TX9) (N := 2) hx hb hts inX9 hown hKN.1 hP 0 rfl rfl 1 (by decide) (hts _ tw_137) (fun _ h9 => h9) rfl dX9_append_8 ?_
  refine lv_sipush (v := 800) hx hb dX9_append_11 (by decide) ?_
  refine lv_icmp_ge (tgt := 40) hx hb dX9_append_14 (by decide) (fun c_14 => absurd c_14 (by decide)) (fun c_14 => ?_)
  refine lv_aload_n hx hb dX9_append_17 rfl (lv_at hl 1 rfl) ?_
  refine va_get (D := D) (ci := 9) (v := .ref t_bytes) (C := RX9) (T := TX9) (N := 2) hx hb hts inX9 hown hKN.1 hP 0 rfl rfl 0 (by decide) (hts _ tw_136) (fun _ h9 => h9) rfl dX9_append_18 ?_
  refine lv_aload_n hx hb dX9_append_21 rfl (lv_at hl 1 rfl) ?_
  refine va_get (D := D) (ci := 9) (v := .int 14) (C := RX9) (T := TX9) (N := 2) hx hb hts inX9 hown hKN.1 hP 0 rfl rfl 1 (by decide) (hts _ tw_137) (fun _ h9 => h9) rfl dX9_append_22 ?_
  refine lv_iload_n hx hb dX9_append_25 rfl (lv_at hl 2 rfl) ?_
  refine lv_iload_n hx hb dX9_append_26 rfl (lv_at hl 0 rfl) ?_
  refine lv_ishr hx hb dX9_append_27 ?_
  refine lv_topi (fun x_15 ex_15 => ?_)
  obtain ⟨x_16, ex_16⟩ : ∃ y, x_15.toInt8.toInt32 = y := ⟨_, rfl⟩
  refine lv_i2b (v := x_16) hx hb dX9_append_28 ex_16 ?_
  refine va_bast hx hb hKN.1 hP hD hS 1 0 rfl rfl (by unfold vp_in; decide) dX9_append_29 (fun H locs hP hD hS => ?_)
  have hP : va_P D vwCl [(h0, .inr (9, [.ref t_bytes, .int 14])), (t_bytes, .inl (cA 0, 800, .inl (upd f_11 14 (vp_nar .byte x_16))))] H := hP
  have hD : va_D A [(h0, .inr (9, [.ref t_bytes, .int 14])), (t_bytes, .inl (cA 0, 800, .inl (upd f_11 14 (vp_nar .byte x_16))))] := hD
  generalize ef_17 : (upd f_11 14 (vp_nar .byte x_16)) = f_17 at hP hD
  refine lv_aload_n hx hb dX9_append_30 rfl (lv_at hl 1 rfl) ?_
  refine lv_dup hx hb dX9_append_31 rfl ?_
  refine va_get (D := D) (ci := 9) (v := .int 14) (C := RX9) (T := TX9) (N := 2) hx hb hts inX9 hown hKN.1 hP 0 rfl rfl 1 (by decide) (hts _ tw_137) (fun _ h9 => h9) rfl dX9_append_32 ?_
  refine lv_iconst (v := 1) hx hb dX9_append_35 (by decide) ?_
  refine lv_iadd hx hb dX9_append_36 ?_
  refine lv_topi (fun x_18 ex_18 => ?_)
  obtain rfl : x_18 = 15 := ex_18.trans (by decide)
  refine va_put (D := D) (ci := 9) (v := .int 15) (ty := .int) (C := RX9) (T := TX9) (N := 2) hx hb hts inX9 tyX9 tyX9_ok nmX9 hown hKN.1 hP hD hS 0 rfl rfl 1 (by decide) (hts _ tw_137) (fun _ h9 => h9) rfl (by decide +kernel) rfl rfl (Nat.le_of_ble_eq_true rfl) dX9_append_37 (fun H locs hP hD hS => ?_)
  have hP : va_P D vwCl [(h0, .inr (9, [.ref t_bytes, .int 15])), (t_bytes, .inl (cA 0, 800, .inl f_17))] H := hP
  have hD : va_D A [(h0, .inr (9, [.ref t_bytes, .int 15])), (t_bytes, .inl (cA 0, 800, .inl f_17))] := hD
  refine lv_iinc (v := 0) (lv' := [(2, .int 0), (0, .ref h0), (1, .int four)]) hx hb dX9_append_40 hl (k := 0) rfl (by decide) (by decide) rfl (fun ls hl => ?_)
  refine lv_goto (tgt := 3) hx hb dX9_append_43 (by decide) ?_
  refine lv_iload_n hx hb dX9_append_3 rfl (lv_at hl 0 rfl) ?_
  refine lv_if_lt (tgt := 46) hx hb dX9_append_4 (by decide) (fun c_19 => absurd c_19 (by decide)) (fun c_19 => ?_)
  refine lv_aload_n hx hb dX9_append_7 rfl (lv_at hl 1 rfl) ?_
  refine va_get (D := D) (ci := 9) (v := .int 15) (C := RX9) (T := TX9) (N := 2) hx hb hts inX9 hown hKN.1 hP 0 rfl rfl 1 (by decide) (hts _ tw_137) (fun _ h9 => h9) rfl dX9_append_8 ?_
  refine lv_sipush (v := 800) hx hb dX9_append_11 (by decide) ?_
  refine lv_icmp_ge (tgt := 40) hx hb dX9_append_14 (by decide) (fun c_20 => absurd c_20 (by decide)) (fun c_20 => ?_)
  refine lv_aload_n hx hb dX9_append_17 rfl (lv_at hl 1 rfl) ?_
  refine va_get (D := D) (ci := 9) (v := .ref t_bytes) (C := RX9) (T := TX9) (N := 2) hx hb hts inX9 hown hKN.1 hP 0 rfl rfl 0 (by decide) (hts _ tw_136) (fun _ h9 => h9) rfl dX9_append_18 ?_
  refine lv_aload_n hx hb dX9_append_21 rfl (lv_at hl 1 rfl) ?_
  refine va_get (D := D) (ci := 9) (v := .int 15) (C := RX9) (T := TX9) (N := 2) hx hb hts inX9 hown hKN.1 hP 0 rfl rfl 1 (by decide) (hts _ tw_137) (fun _ h9 => h9) rfl dX9_append_22 ?_
  refine lv_iload_n hx hb dX9_append_25 rfl (lv_at hl 2 rfl) ?_
  refine lv_iload_n hx hb dX9_append_26 rfl (lv_at hl 0 rfl) ?_
  refine lv_ishr hx hb dX9_append_27 ?_
  refine lv_topi (fun x_21 ex_21 => ?_)
  obtain ⟨x_22, ex_22⟩ : ∃ y, x_21.toInt8.toInt32 = y := ⟨_, rfl⟩
  refine lv_i2b (v := x_22) hx hb dX9_append_28 ex_22 ?_
  refine va_bast hx hb hKN.1 hP hD hS 1 0 rfl rfl (by unfold vp_in; decide) dX9_append_29 (fun H locs hP hD hS => ?_)
  have hP : va_P D vwCl [(h0, .inr (9, [.ref t_bytes, .int 15])), (t_bytes, .inl (cA 0, 800, .inl (upd f_17 15 (vp_nar .byte x_22))))] H := hP
  have hD : va_D A [(h0, .inr (9, [.ref t_bytes, .int 15])), (t_bytes, .inl (cA 0, 800, .inl (upd f_17 15 (vp_nar .byte x_22))))] := hD
  generalize ef_23 : (upd f_17 15 (vp_nar .byte x_22)) = f_23 at hP hD
  refine lv_aload_n hx hb dX9_append_30 rfl (lv_at hl 1 rfl) ?_
  refine lv_dup hx hb dX9_append_31 rfl ?_
  refine va_get (D := D) (ci := 9) (v := .int 15) (C := RX9) (T := TX9) (N := 2) hx hb hts inX9 hown hKN.1 hP 0 rfl rfl 1 (by decide) (hts _ tw_137) (fun _ h9 => h9) rfl dX9_append_32 ?_
  refine lv_iconst (v := 1) hx hb dX9_append_35 (by decide) ?_
  refine lv_iadd hx hb dX9_append_36 ?_
  refine lv_topi (fun x_24 ex_24 => ?_)
  obtain rfl : x_24 = 16 := ex_24.trans (by decide)
  refine va_put (D := D) (ci := 9) (v := .int 16) (ty := .int) (C := RX9) (T := TX9) (N := 2) hx hb hts inX9 tyX9 tyX9_ok nmX9 hown hKN.1 hP hD hS 0 rfl rfl 1 (by decide) (hts _ tw_137) (fun _ h9 => h9) rfl (by decide +kernel) rfl rfl (Nat.le_of_ble_eq_true rfl) dX9_append_37 (fun H locs hP hD hS => ?_)
  have hP : va_P D vwCl [(h0, .inr (9, [.ref t_bytes, .int 16])), (t_bytes, .inl (cA 0, 800, .inl f_23))] H := hP
  have hD : va_D A [(h0, .inr (9, [.ref t_bytes, .int 16])), (t_bytes, .inl (cA 0, 800, .inl f_23))] := hD
  refine lv_iinc (v := (-8)) (lv' := [(2, .int (-8)), (0, .ref h0), (1, .int four)]) hx hb dX9_append_40 hl (k := 0) rfl (by decide) (by decide) rfl (fun ls hl => ?_)
  refine lv_goto (tgt := 3) hx hb dX9_append_43 (by decide) ?_
  refine lv_iload_n hx hb dX9_append_3 rfl (lv_at hl 0 rfl) ?_
  refine lv_if_lt (tgt := 46) hx hb dX9_append_4 (by decide) (fun c_25 => ?_) (fun c_25 => absurd (by decide) c_25)
  have hP9 := hP.sub (ws' := [(h0, .inr (9, [.ref t_bytes, .int 16])), (t_bytes, .inl (cA 0, 800, .inl f_23))]) [0, 1] rfl
  have hD9 := hD.sub (ws' := [(h0, .inr (9, [.ref t_bytes, .int 16])), (t_bytes, .inl (cA 0, 800, .inl f_23))]) [0, 1] (by decide) rfl
  exact W.vret hx hb hr (fun t ht hW => ⟨⟨((fun _ => 0), (fun _ => 0), (selF [f_23]), (fun _ _ => 0)), rfl, trivial, by rw [ht]; exact hP9, hD9⟩, hS.F ht⟩) hS.2.2 dX9_append_46
set_option maxHeartbeats 4000000 in
set_option maxRecDepth 100000 in
theorem k_X9_append_16 (l : Launch) (D : va_G) (cA : Nat → ClassId) (sz : Nat) (h0 : Nat) (t_bytes : Nat) (f : Nat → Int32) (four : Int32) : Met l yX9_append (Cond.code yX9_append cX9_append 3 none :: TB) (rmd 0 0 0) (PM D cA sz [(h0, .inr (9, [.ref t_bytes, .int 16])), (t_bytes, .inl (cA 0, 800, .inl f))] [.ref h0, .int four]) (va_Qv (fun _ : SU => True) (fun u t => va_P D vwCl [(h0, .inr (9, [.ref t_bytes, .int 20])), (t_bytes, .inl (cA 0, 800, .inl (u.2.2.1 0)))] t.heap ∧ va_D (va_A [(h0, .inr (9, [.ref t_bytes, .int 16])), (t_bytes, .inl (cA 0, 800, .inl f))] sz) [(h0, .inr (9, [.ref t_bytes, .int 20])), (t_bytes, .inl (cA 0, 800, .inl (u.2.2.1 0)))]) (va_A [(h0, .inr (9, [.ref t_bytes, .int 16])), (t_bytes, .inl (cA 0, 800, .inl f))] sz)) 0 0 (va_A [(h0, .inr (9, [.ref t_bytes, .int 16])), (t_bytes, .inl (cA 0, 800, .inl f))] sz) := by
  refine Met.ofW (cc := cX9_append) (maxL := 3) (ret := none) (by decide) rfl ?_
  intro p e s m args below meth c s₁ B hml hv
  obtain ⟨rfl, hsz, hP, hKN, hD0⟩ := hv
  have hx := B.exec
  have hb := B.bytes
  have hr := B.returns
  have hts : ∀ w ∈ TB, w.before _ s = true := fun w h => atoms_spec B.pre w (List.mem_cons_of_mem _ h)
  have hown : s.vm.findClass RX9 = some m.cls := findClass_of_methodNamed B.named
  have hlocks := B.notSynchronized
  subst hsz
  have hD := hD0.self (sz := s.heap.size)
  generalize hAe : va_A [(h0, .inr (9, [.ref t_bytes, .int 16])), (t_bytes, .inl (cA 0, 800, .inl f))] s.heap.size = A at hD ⊢
  have hA : ∀ q : Nat, s.heap.size ≤ q → A q := fun q h => by rw [← hAe]; exact Or.inr h
  have hS : va_S A s.heap s.heap [] := va_S.rf
  have hl := lv_entry ([.ref h0, .int four]) (n := 3) (Nat.le_of_ble_eq_true rfl)
  rw [lg_entry_eq]
  generalize (lg_sl ([.ref h0, .int four]) ++ List.replicate (3 - (lg_sl ([.ref h0, .int four])).length) Slot.unset).toArray = ls at hl ⊢
  have hl : lv_has ls 3 [(0, .ref h0), (1, .int four)] := hl
  refine lv_bipush (v := 24) hx hb dX9_append_0 (by decide) ?_
  refine lv_istore_n (lv' := [(2, .int 24), (0, .ref h0), (1, .int four)]) hx hb dX9_append_2 rfl hl (by decide) rfl (fun ls hl => ?_)
  refine lv_iload_n hx hb dX9_append_3 rfl (lv_at hl 0 rfl) ?_
  refine lv_if_lt (tgt := 46) hx hb dX9_append_4 (by decide) (fun c_1 => absurd c_1 (by decide)) (fun c_1 => ?_)
  refine lv_aload_n hx hb dX9_append_7 rfl (lv_at hl 1 rfl) ?_
  refine va_get (D := D) (ci := 9) (v := .int 16) (C := RX9) (T := TX9) (N := 2) hx hb hts inX9 hown hKN.1 hP 0 rfl rfl 1 (by decide) (hts _ tw_137) (fun _ h9 => h9) rfl dX9_append_8 ?_
  refine lv_sipush (v := 800) hx hb dX9_append_11 (by decide) ?_
  refine lv_icmp_ge (tgt := 40) hx hb dX9_append_14 (by decide) (fun c_2 => absurd c_2 (by decide)) (fun c_2 => ?_)
  refine lv_aload_n hx hb dX9_append_17 rfl (lv_at hl 1 rfl) ?_
  refine va_get (D := D) (ci := 9) (v := .ref t_bytes) (C := RX9) (T := TX9) (N := 2) hx hb hts inX9 hown hKN.1 hP 0 rfl rfl 0 (by decide) (hts _ tw_136) (fun _ h9 => h9) rfl dX9_append_18 ?_
  refine lv_aload_n hx hb dX9_append_21 rfl (lv_at hl 1 rfl) ?_
  refine va_get (D := D) (ci := 9) (v := .int 16) (C := RX9) (T := TX9) (N := 2) hx hb hts inX9 hown hKN.1 hP 0 rfl rfl 1 (by decide) (hts _ tw_137) (fun _ h9 => h9) rfl dX9_append_22 ?_
  refine lv_iload_n hx hb dX9_append_25 rfl (lv_at hl 2 rfl) ?_
  refine lv_iload_n hx hb dX9_append_26 rfl (lv_at hl 0 rfl) ?_
  refine lv_ishr hx hb dX9_append_27 ?_
  refine lv_topi (fun x_3 ex_3 => ?_)
  obtain ⟨x_4, ex_4⟩ : ∃ y, x_3.toInt8.toInt32 = y := ⟨_, rfl⟩
  refine lv_i2b (v := x_4) hx hb dX9_append_28 ex_4 ?_
  refine va_bast hx hb hKN.1 hP hD hS 1 0 rfl rfl (by unfold vp_in; decide) dX9_append_29 (fun H locs hP hD hS => ?_)
  have hP : va_P D vwCl [(h0, .inr (9, [.ref t_bytes, .int 16])), (t_bytes, .inl (cA 0, 800, .inl (upd f 16 (vp_nar .byte x_4))))] H := hP
  have hD : va_D A [(h0, .inr (9, [.ref t_bytes, .int 16])), (t_bytes, .inl (cA 0, 800, .inl (upd f 16 (vp_nar .byte x_4))))] := hD
  generalize ef_5 : (upd f 16 (vp_nar .byte x_4)) = f_5 at hP hD
  refine lv_aload_n hx hb dX9_append_30 rfl (lv_at hl 1 rfl) ?_
  refine lv_dup hx hb dX9_append_31 rfl ?_
  refine va_get (D := D) (ci := 9) (v := .int 16) (C := RX9) (T := TX9) (N := 2) hx hb hts inX9 hown hKN.1 hP 0 rfl rfl 1 (by decide) (hts _ tw_137) (fun _ h9 => h9) rfl dX9_append_32 ?_
  refine lv_iconst (v := 1) hx hb dX9_append_35 (by decide) ?_
  refine lv_iadd hx hb dX9_append_36 ?_
  refine lv_topi (fun x_6 ex_6 => ?_)
  obtain rfl : x_6 = 17 := ex_6.trans (by decide)
  refine va_put (D := D) (ci := 9) (v := .int 17) (ty := .int) (C := RX9) (T := TX9) (N := 2) hx hb hts inX9 tyX9 tyX9_ok nmX9 hown hKN.1 hP hD hS 0 rfl rfl 1 (by decide) (hts _ tw_137) (fun _ h9 => h9) rfl (by decide +kernel) rfl rfl (Nat.le_of_ble_eq_true rfl) dX9_append_37 (fun H locs hP hD hS => ?_)
  have hP : va_P D vwCl [(h0, .inr (9, [.ref t_bytes, .int 17])), (t_bytes, .inl (cA 0, 800, .inl f_5))] H := hP
  have hD : va_D A [(h0, .inr (9, [.ref t_bytes, .int 17])), (t_bytes, .inl (cA 0, 800, .inl f_5))] := hD
  refine lv_iinc (v := 16) (lv' := [(2, .int 16), (0, .ref h0), (1, .int four)]) hx hb dX9_append_40 hl (k := 0) rfl (by decide) (by decide) rfl (fun ls hl => ?_)
  refine lv_goto (tgt := 3) hx hb dX9_append_43 (by decide) ?_
  refine lv_iload_n hx hb dX9_append_3 rfl (lv_at hl 0 rfl) ?_
  refine lv_if_lt (tgt := 46) hx hb dX9_append_4 (by decide) (fun c_7 => absurd c_7 (by decide)) (fun c_7 => ?_)
  refine lv_aload_n hx hb dX9_append_7 rfl (lv_at hl 1 rfl) ?_
  refine va_get (D := D) (ci := 9) (v := .int 17) (C := RX9) (T := TX9) (N := 2) hx hb hts inX9 hown hKN.1 hP 0 rfl rfl 1 (by decide) (hts _ tw_137) (fun _ h9 => h9) rfl dX9_append_8 ?_
  refine lv_sipush (v := 800) hx hb dX9_append_11 (by decide) ?_
  refine lv_icmp_ge (tgt := 40) hx hb dX9_append_14 (by decide) (fun c_8 => absurd c_8 (by decide)) (fun c_8 => ?_)
  refine lv_aload_n hx hb dX9_append_17 rfl (lv_at hl 1 rfl) ?_
  refine va_get (D := D) (ci := 9) (v := .ref t_bytes) (C := RX9) (T := TX9) (N := 2) hx hb hts inX9 hown hKN.1 hP 0 rfl rfl 0 (by decide) (hts _ tw_136) (fun _ h9 => h9) rfl dX9_append_18 ?_
  refine lv_aload_n hx hb dX9_append_21 rfl (lv_at hl 1 rfl) ?_
  refine va_get (D := D) (ci := 9) (v := .int 17) (C := RX9) (T := TX9) (N := 2) hx hb hts inX9 hown hKN.1 hP 0 rfl rfl 1 (by decide) (hts _ tw_137) (fun _ h9 => h9) rfl dX9_append_22 ?_
  refine lv_iload_n hx hb dX9_append_25 rfl (lv_at hl 2 rfl) ?_
  refine lv_iload_n hx hb dX9_append_26 rfl (lv_at hl 0 rfl) ?_
  refine lv_ishr hx hb dX9_append_27 ?_
  refine lv_topi (fun x_9 ex_9 => ?_)
  obtain ⟨x_10, ex_10⟩ : ∃ y, x_9.toInt8.toInt32 = y := ⟨_, rfl⟩
  refine lv_i2b (v := x_10) hx hb dX9_append_28 ex_10 ?_
  refine va_bast hx hb hKN.1 hP hD hS 1 0 rfl rfl (by unfold vp_in; decide) dX9_append_29 (fun H locs hP hD hS => ?_)
  have hP : va_P D vwCl [(h0, .inr (9, [.ref t_bytes, .int 17])), (t_bytes, .inl (cA 0, 800, .inl (upd f_5 17 (vp_nar .byte x_10))))] H := hP
  have hD : va_D A [(h0, .inr (9, [.ref t_bytes, .int 17])), (t_bytes, .inl (cA 0, 800, .inl (upd f_5 17 (vp_nar .byte x_10))))] := hD
  generalize ef_11 : (upd f_5 17 (vp_nar .byte x_10)) = f_11 at hP hD
  refine lv_aload_n hx hb dX9_append_30 rfl (lv_at hl 1 rfl) ?_
  refine lv_dup hx hb dX9_append_31 rfl ?_
  refine va_get (D := D) (ci := 9) (v := .int 17) (C := RX9) (T := TX9) (N := 2) hx hb hts inX9 hown hKN.1 hP 0 rfl rfl 1 (by decide) (hts _ tw_137) (fun _ h9 => h9) rfl dX9_append_32 ?_
  refine lv_iconst (v := 1) hx hb dX9_append_35 (by decide) ?_
  refine lv_iadd hx hb dX9_append_36 ?_
  refine lv_topi (fun x_12 ex_12 => ?_)
  obtain rfl : x_12 = 18 := ex_12.trans (by decide)
  refine va_put (D := D) (ci := 9) (v := .int 18) (ty := .int) (C := RX9) (T := TX9) (N := 2) hx hb hts inX9 tyX9 tyX9_ok nmX9 hown hKN.1 hP hD hS 0 rfl rfl 1 (by decide) (hts _ tw_137) (fun _ h9 => h9) rfl (by decide +kernel) rfl rfl (Nat.le_of_ble_eq_true rfl) dX9_append_37 (fun H locs hP hD hS => ?_)
  have hP : va_P D vwCl [(h0, .inr (9, [.ref t_bytes, .int 18])), (t_bytes, .inl (cA 0, 800, .inl f_11))] H := hP
  have hD : va_D A [(h0, .inr (9, [.ref t_bytes, .int 18])), (t_bytes, .inl (cA 0, 800, .inl f_11))] := hD
  refine lv_iinc (v := 8) (lv' := [(2, .int 8), (0, .ref h0), (1, .int four)]) hx hb dX9_append_40 hl (k := 0) rfl (by decide) (by decide) rfl (fun ls hl => ?_)
  refine lv_goto (tgt := 3) hx hb dX9_append_43 (by decide) ?_
  refine lv_iload_n hx hb dX9_append_3 rfl (lv_at hl 0 rfl) ?_
  refine lv_if_lt (tgt := 46) hx hb dX9_append_4 (by decide) (fun c_13 => absurd c_13 (by decide)) (fun c_13 => ?_)
  refine lv_aload_n hx hb dX9_append_7 rfl (lv_at hl 1 rfl) ?_
  refine va_get (D := D) (ci := 9) (v := .int 18) (C := RX9) (T := TX9) (N := 2) hx hb hts inX9 hown hKN.1 hP 0 rfl rfl 1 (by decide) (hts _ tw_137) (fun _ h9 => h9) rfl dX9_append_8 ?_
  refine lv_sipush (v := 800) hx hb dX9_append_11 (by decide) ?_
  refine lv_icmp_ge (tgt := 40) hx hb dX9_append_14 (by decide) (fun c_14 => absurd c_14 (by decide)) (fun c_14 => ?_)
  refine lv_aload_n hx hb dX9_append_17 rfl (lv_at hl 1 rfl) ?_
  refine va_get (D := D) (ci := 9) (v := .ref t_bytes) (C := RX9) (T := TX9) (N := 2) hx hb hts inX9 hown hKN.1 hP 0 rfl rfl 0 (by decide) (hts _ tw_136) (fun _ h9 => h9) rfl dX9_append_18 ?_
  refine lv_aload_n hx hb dX9_append_21 rfl (lv_at hl 1 rfl) ?_
  refine va_get (D := D) (ci := 9) (v := .int 18) (C := RX9) (T := TX9) (N := 2) hx hb hts inX9 hown hKN.1 hP 0 rfl rfl 1 (by decide) (hts _ tw_137) (fun _ h9 => h9) rfl dX9_append_22 ?_
  refine lv_iload_n hx hb dX9_append_25 rfl (lv_at hl 2 rfl) ?_
  refine lv_iload_n hx hb dX9_append_26 rfl (lv_at hl 0 rfl) ?_
  refine lv_ishr hx hb dX9_append_27 ?_
  refine lv_topi (fun x_15 ex_15 => ?_)
  obtain ⟨x_16, ex_16⟩ : ∃ y, x_15.toInt8.toInt32 = y := ⟨_, rfl⟩
  refine lv_i2b (v := x_16) hx hb dX9_append_28 ex_16 ?_
  refine va_bast hx hb hKN.1 hP hD hS 1 0 rfl rfl (by unfold vp_in; decide) dX9_append_29 (fun H locs hP hD hS => ?_)
  have hP : va_P D vwCl [(h0, .inr (9, [.ref t_bytes, .int 18])), (t_bytes, .inl (cA 0, 800, .inl (upd f_11 18 (vp_nar .byte x_16))))] H := hP
  have hD : va_D A [(h0, .inr (9, [.ref t_bytes, .int 18])), (t_bytes, .inl (cA 0, 800, .inl (upd f_11 18 (vp_nar .byte x_16))))] := hD
  generalize ef_17 : (upd f_11 18 (vp_nar .byte x_16)) = f_17 at hP hD
  refine lv_aload_n hx hb dX9_append_30 rfl (lv_at hl 1 rfl) ?_
  refine lv_dup hx hb dX9_append_31 rfl ?_
  refine va_get (D := D) (ci := 9) (v := .int 18) (C := RX9) (T := TX9) (N := 2) hx hb hts inX9 hown hKN.1 hP 0 rfl rfl 1 (by decide) (hts _ tw_137) (fun _ h9 => h9) rfl dX9_append_32 ?_
  refine lv_iconst (v := 1) hx hb dX9_append_35 (by decide) ?_
  refine lv_iadd hx hb dX9_append_36 ?_
  refine lv_topi (fun x_18 ex_18 => ?_)
  obtain rfl : x_18 = 19 := ex_18.trans (by decide)
  refine va_put (D := D) (ci := 9) (v := .int 19) (ty := .int) (C := RX9) (T := TX9) (N := 2) hx hb hts inX9 tyX9 tyX9_ok nmX9 hown hKN.1 hP hD hS 0 rfl rfl 1 (by decide) (hts _ tw_137) (fun _ h9 => h9) rfl (by decide +kernel) rfl rfl (Nat.le_of_ble_eq_true rfl) dX9_append_37 (fun H locs hP hD hS => ?_)
  have hP : va_P D vwCl [(h0, .inr (9, [.ref t_bytes, .int 19])), (t_bytes, .inl (cA 0, 800, .inl f_17))] H := hP
  have hD : va_D A [(h0, .inr (9, [.ref t_bytes, .int 19])), (t_bytes, .inl (cA 0, 800, .inl f_17))] := hD
  refine lv_iinc (v := 0) (lv' := [(2, .int 0), (0, .ref h0), (1, .int four)]) hx hb dX9_append_40 hl (k := 0) rfl (by decide) (by decide) rfl (fun ls hl => ?_)
  refine lv_goto (tgt := 3) hx hb dX9_append_43 (by decide) ?_
  refine lv_iload_n hx hb dX9_append_3 rfl (lv_at hl 0 rfl) ?_
  refine lv_if_lt (tgt := 46) hx hb dX9_append_4 (by decide) (fun c_19 => absurd c_19 (by decide)) (fun c_19 => ?_)
  refine lv_aload_n hx hb dX9_append_7 rfl (lv_at hl 1 rfl) ?_
  refine va_get (D := D) (ci := 9) (v := .int 19) (C := RX9) (T := TX9) (N := 2) hx hb hts inX9 hown hKN.1 hP 0 rfl rfl 1 (by decide) (hts _ tw_137) (fun _ h9 => h9) rfl dX9_append_8 ?_
  refine lv_sipush (v := 800) hx hb dX9_append_11 (by decide) ?_
  refine lv_icmp_ge (tgt := 40) hx hb dX9_append_14 (by decide) (fun c_20 => absurd c_20 (by decide)) (fun c_20 => ?_)
  refine lv_aload_n hx hb dX9_append_17 rfl (lv_at hl 1 rfl) ?_
  refine va_get (D := D) (ci := 9) (v := .ref t_bytes) (C := RX9) (T := TX9) (N := 2) hx hb hts inX9 hown hKN.1 hP 0 rfl rfl 0 (by decide) (hts _ tw_136) (fun _ h9 => h9) rfl dX9_append_18 ?_
  refine lv_aload_n hx hb dX9_append_21 rfl (lv_at hl 1 rfl) ?_
  refine va_get (D := D) (ci := 9) (v := .int 19) (C := RX9) (T := TX9) (N := 2) hx hb hts inX9 hown hKN.1 hP 0 rfl rfl 1 (by decide) (hts _ tw_137) (fun _ h9 => h9) rfl dX9_append_22 ?_
  refine lv_iload_n hx hb dX9_append_25 rfl (lv_at hl 2 rfl) ?_
  refine lv_iload_n hx hb dX9_append_26 rfl (lv_at hl 0 rfl) ?_
  refine lv_ishr hx hb dX9_append_27 ?_
  refine lv_topi (fun x_21 ex_21 => ?_)
  obtain ⟨x_22, ex_22⟩ : ∃ y, x_21.toInt8.toInt32 = y := ⟨_, rfl⟩
  refine lv_i2b (v := x_22) hx hb dX9_append_28 ex_22 ?_
  refine va_bast hx hb hKN.1 hP hD hS 1 0 rfl rfl (by unfold vp_in; decide) dX9_append_29 (fun H locs hP hD hS => ?_)
  have hP : va_P D vwCl [(h0, .inr (9, [.ref t_bytes, .int 19])), (t_bytes, .inl (cA 0, 800, .inl (upd f_17 19 (vp_nar .byte x_22))))] H := hP
  have hD : va_D A [(h0, .inr (9, [.ref t_bytes, .int 19])), (t_bytes, .inl (cA 0, 800, .inl (upd f_17 19 (vp_nar .byte x_22))))] := hD
  generalize ef_23 : (upd f_17 19 (vp_nar .byte x_22)) = f_23 at hP hD
  refine lv_aload_n hx hb dX9_append_30 rfl (lv_at hl 1 rfl) ?_
  refine lv_dup hx hb dX9_append_31 rfl ?_
  refine va_get (D := D) (ci := 9) (v := .int 19) (C := RX9) (T := TX9) (N := 2) hx hb hts inX9 hown hKN.1 hP 0 rfl rfl 1 (by decide) (hts _ tw_137) (fun _ h9 => h9) rfl dX9_append_32 ?_
  refine lv_iconst (v := 1) hx hb dX9_append_35 (by decide) ?_
  refine lv_iadd hx hb dX9_append_36 ?_
  refine lv_topi (fun x_24 ex_24 => ?_)
  obtain rfl : x_24 = 20 := ex_24.trans (by decide)
  refine va_put (D := D) (ci := 9) (v := .int 20) (ty := .int) (C := RX9) (T := TX9) (N := 2) hx hb hts inX9 tyX9 tyX9_ok nmX9 hown hKN.1 hP hD hS 0 rfl rfl 1 (by decide) (hts _ tw_137) (fun _ h9 => h9) rfl (by decide +kernel) rfl rfl (Nat.le_of_ble_eq_true rfl) dX9_append_37 (fun H locs hP hD hS => ?_)
  have hP : va_P D vwCl [(h0, .inr (9, [.ref t_bytes, .int 20])), (t_bytes, .inl (cA 0, 800, .inl f_23))] H := hP
  have hD : va_D A [(h0, .inr (9, [.ref t_bytes, .int 20])), (t_bytes, .inl (cA 0, 800, .inl f_23))] := hD
  refine lv_iinc (v := (-8)) (lv' := [(2, .int (-8)), (0, .ref h0), (1, .int four)]) hx hb dX9_append_40 hl (k := 0) rfl (by decide) (by decide) rfl (fun ls hl => ?_)
  refine lv_goto (tgt := 3) hx hb dX9_append_43 (by decide) ?_
  refine lv_iload_n hx hb dX9_append_3 rfl (lv_at hl 0 rfl) ?_
  refine lv_if_lt (tgt := 46) hx hb dX9_append_4 (by decide) (fun c_25 => ?_) (fun c_25 => absurd (by decide) c_25)
  have hP9 := hP.sub (ws' := [(h0, .inr (9, [.ref t_bytes, .int 20])), (t_bytes, .inl (cA 0, 800, .inl f_23))]) [0, 1] rfl
  have hD9 := hD.sub (ws' := [(h0, .inr (9, [.ref t_bytes, .int 20])), (t_bytes, .inl (cA 0, 800, .inl f_23))]) [0, 1] (by decide) rfl
  exact W.vret hx hb hr (fun t ht hW => ⟨⟨((fun _ => 0), (fun _ => 0), (selF [f_23]), (fun _ _ => 0)), rfl, trivial, by rw [ht]; exact hP9, hD9⟩, hS.F ht⟩) hS.2.2 dX9_append_46
set_option maxHeartbeats 4000000 in
set_option maxRecDepth 100000 in
theorem k_X9_byteAt (l : Launch) (D : va_G) (cA : Nat → ClassId) (h0 : Nat) (t_bytes : Nat) : Met l yX9_byteAt (Cond.code yX9_byteAt cX9_byteAt 2 (some .int) :: TB) (rmd 0 0 0) (PP D cA [(h0, .inr (9, [.ref t_bytes, .int 0]))] [.ref h0, .int 0]) (vp_Si (fun r => r = (-1))) 0 0 (fun _ => False) := by
  refine Met.ofW (cc := cX9_byteAt) (maxL := 2) (ret := (some .int)) (by decide) rfl ?_
  intro p e s m args below meth c s₁ B hml hv
  obtain ⟨rfl, hP, hKN⟩ := hv
  have hx := B.exec
  have hb := B.bytes
  have hr := B.returns
  have hts : ∀ w ∈ TB, w.before _ s = true := fun w h => atoms_spec B.pre w (List.mem_cons_of_mem _ h)
  have hown : s.vm.findClass RX9 = some m.cls := findClass_of_methodNamed B.named
  have hlocks := B.notSynchronized
  have hl := lv_entry ([.ref h0, .int 0]) (n := 2) (Nat.le_of_ble_eq_true rfl)
  rw [lg_entry_eq]
  generalize (lg_sl ([.ref h0, .int 0]) ++ List.replicate (2 - (lg_sl ([.ref h0, .int 0])).length) Slot.unset).toArray = ls at hl ⊢
  have hl : lv_has ls 2 [(0, .ref h0), (1, .int 0)] := hl
  refine lv_iload_n hx hb dX9_byteAt_0 rfl (lv_at hl 1 rfl) ?_
  refine lv_if_lt (tgt := 32) hx hb dX9_byteAt_1 (by decide) (fun c_1 => absurd c_1 (by decide)) (fun c_1 => ?_)
  refine lv_iload_n hx hb dX9_byteAt_4 rfl (lv_at hl 1 rfl) ?_
  refine lv_aload_n hx hb dX9_byteAt_5 rfl (lv_at hl 0 rfl) ?_
  refine va_get (D := D) (ci := 9) (v := .int 0) (C := RX9) (T := TX9) (N := 2) hx hb hts inX9 hown hKN.1 hP 0 rfl rfl 1 (by decide) (hts _ tw_137) (fun _ h9 => h9) rfl dX9_byteAt_6 ?_
  refine lv_icmp_ge (tgt := 32) hx hb dX9_byteAt_9 (by decide) (fun c_2 => ?_) (fun c_2 => absurd (by decide) c_2)
  refine lv_iconst (v := (-1)) hx hb dX9_byteAt_32 (by decide) ?_
  exact W.iret (v := (-1)) hx hb hr (fun t ht hW => ⟨(-1), rfl, rfl, ht⟩) (fun _ h => by cases h) dX9_byteAt_33
end
section
set_option maxHeartbeats 4000000 in
set_option maxRecDepth 100000 in
theorem k_X9_init (l : Launch) (D : va_G) (cA : Nat → ClassId) (sz : Nat) (h0 : Nat) : Met l yX9_init (Cond.code yX9_init cX9_init 1 none :: TB) (rmd 1 1 800) (PM D cA sz [(h0, .inr (9, [.null, .int 0]))] [.ref h0]) (va_Qv (fun _ : SU => True) (fun u t => va_P D vwCl [(h0, .inr (9, [.ref (u.1 0), .int 0])), ((u.1 0), .inl (cA 0, 800, .inl (fun _ => 0)))] t.heap ∧ va_D (va_A [(h0, .inr (9, [.null, .int 0]))] sz) [(h0, .inr (9, [.ref (u.1 0), .int 0])), ((u.1 0), .inl (cA 0, 800, .inl (fun _ => 0)))]) (va_A [(h0, .inr (9, [.null, .int 0]))] sz)) 1 800 (va_A [(h0, .inr (9, [.null, .int 0]))] sz) := by
  refine Met.ofW (cc := cX9_init) (maxL := 1) (ret := none) (by decide) rfl ?_
  intro p e s m args below meth c s₁ B hml hv
  obtain ⟨rfl, hsz, hP, hKN, hD0⟩ := hv
  have hx := B.exec
  have hb := B.bytes
  have hr := B.returns
  have hts : ∀ w ∈ TB, w.before _ s = true := fun w h => atoms_spec B.pre w (List.mem_cons_of_mem _ h)
  have hown : s.vm.findClass RX9 = some m.cls := findClass_of_methodNamed B.named
  have hlocks := B.notSynchronized
  have hin : meth.name = "<init>" := (name_of_methodNamed B.named B.method).1
  subst hsz
  have hD := hD0.self (sz := s.heap.size)
  generalize hAe : va_A [(h0, .inr (9, [.null, .int 0]))] s.heap.size = A at hD ⊢
  have hA : ∀ q : Nat, s.heap.size ≤ q → A q := fun q h => by rw [← hAe]; exact Or.inr h
  have hS : va_S A s.heap s.heap [] := va_S.rf
  have hl := lv_entry ([.ref h0]) (n := 1) (Nat.le_of_ble_eq_true rfl)
  rw [lg_entry_eq]
  generalize (lg_sl ([.ref h0]) ++ List.replicate (1 - (lg_sl ([.ref h0])).length) Slot.unset).toArray = ls at hl ⊢
  have hl : lv_has ls 1 [(0, .ref h0)] := hl
  refine lv_aload_n hx hb dX9_init_0 rfl (lv_at hl 0 rfl) ?_
  refine W.objInit hx hb hown (hts _ tw_135) (hts _ tw_128) (hts _ tw_129) rfl (by rw [hml]; exact hl.1) rfl dX9_init_1 (Nat.le_of_ble_eq_true rfl) (Nat.le_of_ble_eq_true rfl) ?_
  refine W.eq (g2 := F0 m 4 ls []) rfl ?_
  refine lv_aload_n hx hb dX9_init_4 rfl (lv_at hl 0 rfl) ?_
  refine lv_sipush (v := 800) hx hb dX9_init_5 (by decide) ?_
  refine nwA (atype := .byte) (ty := .byte) (a0 := (800, .inl (fun _ => 0))) hx hb (hts _ tw_145) rfl hKN 0 rfl (fun _ h => h) hP hD hS hA (fun _ => rfl) (by decide) (by decide) (by decide) (Nat.le_of_ble_eq_true rfl) (Nat.le_of_ble_eq_true rfl) dX9_init_8 (fun q_1 H hP hD hS => ?_)
  have hP : va_P D vwCl [(h0, .inr (9, [.null, .int 0])), (q_1, .inl (cA 0, 800, .inl (fun _ => 0)))] H := hP
  have hD : va_D A [(h0, .inr (9, [.null, .int 0])), (q_1, .inl (cA 0, 800, .inl (fun _ => 0)))] := hD
  refine W.widen (k := 1) (n := 800) (Nat.le_of_ble_eq_true rfl) (Nat.le_of_ble_eq_true rfl) ?_
  refine va_putF (D := D) (ci := 9) (v := .ref q_1) (ty := (.array .byte)) (C := RX9) (T := TX9) (N := 2) hx hb hts inX9 tyX9 tyX9_ok nmX9 hown hKN.1 hP hD hS 0 rfl rfl 0 (by decide) (hts _ tw_136) (fun _ h9 => h9) rfl hin rfl (by decide +kernel) rfl rfl (Nat.le_of_ble_eq_true rfl) dX9_init_10 (fun H locs hP hD hS => ?_)
  have hP : va_P D vwCl [(h0, .inr (9, [.ref q_1, .int 0])), (q_1, .inl (cA 0, 800, .inl (fun _ => 0)))] H := hP
  have hD : va_D A [(h0, .inr (9, [.ref q_1, .int 0])), (q_1, .inl (cA 0, 800, .inl (fun _ => 0)))] := hD
  have hP9 := hP.sub (ws' := [(h0, .inr (9, [.ref q_1, .int 0])), (q_1, .inl (cA 0, 800, .inl (fun _ => 0)))]) [0, 1] rfl
  have hD9 := hD.sub (ws' := [(h0, .inr (9, [.ref q_1, .int 0])), (q_1, .inl (cA 0, 800, .inl (fun _ => 0)))]) [0, 1] (by decide) rfl
  exact W.vret hx hb hr (fun t ht hW => ⟨⟨((selN [q_1]), (fun _ => 0), (fun _ _ => 0), (fun _ _ => 0)), rfl, trivial, by rw [ht]; exact hP9, hD9⟩, hS.F ht⟩) hS.2.2 dX9_init_13
set_option maxHeartbeats 4000000 in
set_option maxRecDepth 100000 in
theorem k_X3_init (l : Launch) (D : va_G) (cA : Nat → ClassId) (sz : Nat) (h0 : Nat) : Met l yX3_init (Cond.code yX3_init cX3_init 1 none :: TB) (rmd 1 8 53) (PM D cA sz [(h0, .inr (3, [.int 0, .int 0, .int 0, .int 0, .int 0, .int 0, .int 0, .int 0, .null, .null, .null, .null, .null, .null, .null, .null]))] [.ref h0]) (va_Qv (fun _ : SU => True) (fun u t => va_P D vwCl [(h0, .inr (3, [.int 0, .int 0, .int 0, .int 0, .int 0, .int 0, .int 0, .int 0, .ref (u.1 0), .ref (u.1 1), .ref (u.1 2), .ref (u.1 3), .ref (u.1 4), .ref (u.1 5), .ref (u.1 6), .ref (u.1 7)])), ((u.1 0), .inl (cA 1, 8, .inl (fun _ => 0))), ((u.1 1), .inl (cA 1, 8, .inl (fun _ => 0))), ((u.1 2), .inl (cA 1, 8, .inl (fun _ => 0))), ((u.1 3), .inl (cA 1, 7, .inl (fun _ => 0))), ((u.1 4), .inl (cA 1, 7, .inl (fun _ => 0))), ((u.1 5), .inl (cA 1, 7, .inl (fun _ => 0))), ((u.1 6), .inl (cA 1, 4, .inl (fun _ => 0))), ((u.1 7), .inl (cA 1, 4, .inl (fun _ => 0)))] t.heap ∧ va_D (va_A [(h0, .inr (3, [.int 0, .int 0, .int 0, .int 0, .int 0, .int 0, .int 0, .int 0, .null, .null, .null, .null, .null, .null, .null, .null]))] sz) [(h0, .inr (3, [.int 0, .int 0, .int 0, .int 0, .int 0, .int 0, .int 0, .int 0, .ref (u.1 0), .ref (u.1 1), .ref (u.1 2), .ref (u.1 3), .ref (u.1 4), .ref (u.1 5), .ref (u.1 6), .ref (u.1 7)])), ((u.1 0), .inl (cA 1, 8, .inl (fun _ => 0))), ((u.1 1), .inl (cA 1, 8, .inl (fun _ => 0))), ((u.1 2), .inl (cA 1, 8, .inl (fun _ => 0))), ((u.1 3), .inl (cA 1, 7, .inl (fun _ => 0))), ((u.1 4), .inl (cA 1, 7, .inl (fun _ => 0))), ((u.1 5), .inl (cA 1, 7, .inl (fun _ => 0))), ((u.1 6), .inl (cA 1, 4, .inl (fun _ => 0))), ((u.1 7), .inl (cA 1, 4, .inl (fun _ => 0)))]) (va_A [(h0, .inr (3, [.int 0, .int 0, .int 0, .int 0, .int 0, .int 0, .int 0, .int 0, .null, .null, .null, .null, .null, .null, .null, .null]))] sz)) 8 53 (va_A [(h0, .inr (3, [.int 0, .int 0, .int 0, .int 0, .int 0, .int 0, .int 0, .int 0, .null, .null, .null, .null, .null, .null, .null, .null]))] sz) := by
  refine Met.ofW (cc := cX3_init) (maxL := 1) (ret := none) (by decide) rfl ?_
  intro p e s m args below meth c s₁ B hml hv
  obtain ⟨rfl, hsz, hP, hKN, hD0⟩ := hv
  have hx := B.exec
  have hb := B.bytes
  have hr := B.returns
  have hts : ∀ w ∈ TB, w.before _ s = true := fun w h => atoms_spec B.pre w (List.mem_cons_of_mem _ h)
  have hown : s.vm.findClass RX3 = some m.cls := findClass_of_methodNamed B.named
  have hlocks := B.notSynchronized
  have hin : meth.name = "<init>" := (name_of_methodNamed B.named B.method).1
  subst hsz
  have hD := hD0.self (sz := s.heap.size)
  generalize hAe : va_A [(h0, .inr (3, [.int 0, .int 0, .int 0, .int 0, .int 0, .int 0, .int 0, .int 0, .null, .null, .null, .null, .null, .null, .null, .null]))] s.heap.size = A at hD ⊢
  have hA : ∀ q : Nat, s.heap.size ≤ q → A q := fun q h => by rw [← hAe]; exact Or.inr h
  have hS : va_S A s.heap s.heap [] := va_S.rf
  have hl := lv_entry ([.ref h0]) (n := 1) (Nat.le_of_ble_eq_true rfl)
  rw [lg_entry_eq]
  generalize (lg_sl ([.ref h0]) ++ List.replicate (1 - (lg_sl ([.ref h0])).length) Slot.unset).toArray = ls at hl ⊢
  have hl : lv_has ls 1 [(0, .ref h0)] := hl
  refine lv_aload_n hx hb dX3_init_0 rfl (lv_at hl 0 rfl) ?_
  refine W.objInit hx hb hown (hts _ tw_157) (hts _ tw_128) (hts _ tw_129) rfl (by rw [hml]; exact hl.1) rfl dX3_init_1 (Nat.le_of_ble_eq_true rfl) (Nat.le_of_ble_eq_true rfl) ?_
  refine W.eq (g2 := F0 m 4 ls []) rfl ?_
  refine lv_aload_n hx hb dX3_init_4 rfl (lv_at hl 0 rfl) ?_
  refine lv_bipush (v := 8) hx hb dX3_init_5 (by decide) ?_
  refine nwA (atype := .int) (ty := .int) (a0 := (8, .inl (fun _ => 0))) hx hb (hts _ tw_223) rfl hKN 1 rfl (fun _ h => h) hP hD hS hA (fun _ => rfl) (by decide) (by decide) (by decide) (Nat.le_of_ble_eq_true rfl) (Nat.le_of_ble_eq_true rfl) dX3_init_7 (fun q_1 H hP hD hS => ?_)
  have hP : va_P D vwCl [(h0, .inr (3, [.int 0, .int 0, .int 0, .int 0, .int 0, .int 0, .int 0, .int 0, .null, .null, .null, .null, .null, .null, .null, .null])), (q_1, .inl (cA 1, 8, .inl (fun _ => 0)))] H := hP
  have hD : va_D A [(h0, .inr (3, [.int 0, .int 0, .int 0, .int 0, .int 0, .int 0, .int 0, .int 0, .null, .null, .null, .null, .null, .null, .null, .null])), (q_1, .inl (cA 1, 8, .inl (fun _ => 0)))] := hD
  refine W.widen (k := 1) (n := 8) (Nat.le_of_ble_eq_true rfl) (Nat.le_of_ble_eq_true rfl) ?_
  refine va_putF (D := D) (ci := 3) (v := .ref q_1) (ty := (.array .int)) (C := RX3) (T := TX3) (N := 16) hx hb hts inX3 tyX3 tyX3_ok nmX3 hown hKN.1 hP hD hS 0 rfl rfl 8 (by decide) (hts _ tw_182) (fun _ h9 => h9) rfl hin rfl (by decide +kernel) rfl rfl (Nat.le_of_ble_eq_true rfl) dX3_init_9 (fun H locs hP hD hS => ?_)
  have hP : va_P D vwCl [(h0, .inr (3, [.int 0, .int 0, .int 0, .int 0, .int 0, .int 0, .int 0, .int 0, .ref q_1, .null, .null, .null, .null, .null, .null, .null])), (q_1, .inl (cA 1, 8, .inl (fun _ => 0)))] H := hP
  have hD : va_D A [(h0, .inr (3, [.int 0, .int 0, .int 0, .int 0, .int 0, .int 0, .int 0, .int 0, .ref q_1, .null, .null, .null, .null, .null, .null, .null])), (q_1, .inl (cA 1, 8, .inl (fun _ => 0)))] := hD
  refine lv_aload_n hx hb dX3_init_12 rfl (lv_at hl 0 rfl) ?_
  refine lv_bipush (v := 8) hx hb dX3_init_13 (by decide) ?_
  refine nwA (atype := .int) (ty := .int) (a0 := (8, .inl (fun _ => 0))) hx hb (hts _ tw_223) rfl hKN 1 rfl (fun _ h => h) hP hD hS hA (fun _ => rfl) (by decide) (by decide) (by decide) (Nat.le_of_ble_eq_true rfl) (Nat.le_of_ble_eq_true rfl) dX3_init_15 (fun q_2 H hP hD hS => ?_)
  have hP : va_P D vwCl [(h0, .inr (3, [.int 0, .int 0, .int 0, .int 0, .int 0, .int 0, .int 0, .int 0, .ref q_1, .null, .null, .null, .null, .null, .null, .null])), (q_1, .inl (cA 1, 8, .inl (fun _ => 0))), (q_2, .inl (cA 1, 8, .inl (fun _ => 0)))] H := hP
  have hD : va_D A [(h0, .inr (3, [.int 0, .int 0, .int 0, .int 0, .int 0, .int 0, .int 0, .int 0, .ref q_1, .null, .null, .null, .null, .null, .null, .null])), (q_1, .inl (cA 1, 8, .inl (fun _ => 0))), (q_2, .inl (cA 1, 8, .inl (fun _ => 0)))] := hD
  refine W.widen (k := 2) (n := 16) (Nat.le_of_ble_eq_true rfl) (Nat.le_of_ble_eq_true rfl) ?_
  refine va_putF (D := D) (ci := 3) (v := .ref q_2) (ty := (.array .int)) (C := RX3) (T := TX3) (N := 16) hx hb hts inX3 tyX3 tyX3_ok nmX3 hown hKN.1 hP hD hS 0 rfl rfl 9 (by decide) (hts _ tw_183) (fun _ h9 => h9) rfl hin rfl (by decide +kernel) rfl rfl (Nat.le_of_ble_eq_true rfl) dX3_init_17 (fun H locs hP hD hS => ?_)
  have hP : va_P D vwCl [(h0, .inr (3, [.int 0, .int 0, .int 0, .int 0, .int 0, .int 0, .int 0, .int 0, .ref q_1, .ref q_2, .null, .null, .null, .null, .null, .null])), (q_1, .inl (cA 1, 8, .inl (fun _ => 0))), (q_2, .inl (cA 1, 8, .inl (fun _ => 0)))] H := hP
  have hD : va_D A [(h0, .inr (3, [.int 0, .int 0, .int 0, .int 0, .int 0, .int 0, .int 0, .int 0, .ref q_1, .ref q_2, .null, .null, .null, .null, .null, .null])), (q_1, .inl (cA 1, 8, .inl (fun _ => 0))), (q_2, .inl (cA 1, 8, .inl (fun _ => 0)))] := hD
  refine lv_aload_n hx hb dX3_init_20 rfl (lv_at hl 0 rfl) ?_
  refine lv_bipush (v := 8) hx hb dX3_init_21 (by decide) ?_
  refine nwA (atype := .int) (ty := .int) (a0 := (8, .inl (fun _ => 0))) hx hb (hts _ tw_223) rfl hKN 1 rfl (fun _ h => h) hP hD hS hA (fun _ => rfl) (by decide) (by decide) (by decide) (Nat.le_of_ble_eq_true rfl) (Nat.le_of_ble_eq_true rfl) dX3_init_23 (fun q_3 H hP hD hS => ?_)
  have hP : va_P D vwCl [(h0, .inr (3, [.int 0, .int 0, .int 0, .int 0, .int 0, .int 0, .int 0, .int 0, .ref q_1, .ref q_2, .null, .null, .null, .null, .null, .null])), (q_1, .inl (cA 1, 8, .inl (fun _ => 0))), (q_2, .inl (cA 1, 8, .inl (fun _ => 0))), (q_3, .inl (cA 1, 8, .inl (fun _ => 0)))] H := hP
  have hD : va_D A [(h0, .inr (3, [.int 0, .int 0, .int 0, .int 0, .int 0, .int 0, .int 0, .int 0, .ref q_1, .ref q_2, .null, .null, .null, .null, .null, .null])), (q_1, .inl (cA 1, 8, .inl (fun _ => 0))), (q_2, .inl (cA 1, 8, .inl (fun _ => 0))), (q_3, .inl (cA 1, 8, .inl (fun _ => 0)))] := hD
  refine W.widen (k := 3) (n := 24) (Nat.le_of_ble_eq_true rfl) (Nat.le_of_ble_eq_true rfl) ?_
  refine va_putF (D := D) (ci := 3) (v := .ref q_3) (ty := (.array .int)) (C := RX3) (T := TX3) (N := 16) hx hb hts inX3 tyX3 tyX3_ok nmX3 hown hKN.1 hP hD hS 0 rfl rfl 10 (by decide) (hts _ tw_184) (fun _ h9 => h9) rfl hin rfl (by decide +kernel) rfl rfl (Nat.le_of_ble_eq_true rfl) dX3_init_25 (fun H locs hP hD hS => ?_)
  have hP : va_P D vwCl [(h0, .inr (3, [.int 0, .int 0, .int 0, .int 0, .int 0, .int 0, .int 0, .int 0, .ref q_1, .ref q_2, .ref q_3, .null, .null, .null, .null, .null])), (q_1, .inl (cA 1, 8, .inl (fun _ => 0))), (q_2, .inl (cA 1, 8, .inl (fun _ => 0))), (q_3, .inl (cA 1, 8, .inl (fun _ => 0)))] H := hP
  have hD : va_D A [(h0, .inr (3, [.int 0, .int 0, .int 0, .int 0, .int 0, .int 0, .int 0, .int 0, .ref q_1, .ref q_2, .ref q_3, .null, .null, .null, .null, .null])), (q_1, .inl (cA 1, 8, .inl (fun _ => 0))), (q_2, .inl (cA 1, 8, .inl (fun _ => 0))), (q_3, .inl (cA 1, 8, .inl (fun _ => 0)))] := hD
  refine lv_aload_n hx hb dX3_init_28 rfl (lv_at hl 0 rfl) ?_
  refine lv_bipush (v := 7) hx hb dX3_init_29 (by decide) ?_
  refine nwA (atype := .int) (ty := .int) (a0 := (7, .inl (fun _ => 0))) hx hb (hts _ tw_223) rfl hKN 1 rfl (fun _ h => h) hP hD hS hA (fun _ => rfl) (by decide) (by decide) (by decide) (Nat.le_of_ble_eq_true rfl) (Nat.le_of_ble_eq_true rfl) dX3_init_31 (fun q_4 H hP hD hS => ?_)
  have hP : va_P D vwCl [(h0, .inr (3, [.int 0, .int 0, .int 0, .int 0, .int 0, .int 0, .int 0, .int 0, .ref q_1, .ref q_2, .ref q_3, .null, .null, .null, .null, .null])), (q_1, .inl (cA 1, 8, .inl (fun _ => 0))), (q_2, .inl (cA 1, 8, .inl (fun _ => 0))), (q_3, .inl (cA 1, 8, .inl (fun _ => 0))), (q_4, .inl (cA 1, 7, .inl (fun _ => 0)))] H := hP
  have hD : va_D A [(h0, .inr (3, [.int 0, .int 0, .int 0, .int 0, .int 0, .int 0, .int 0, .int 0, .ref q_1, .ref q_2, .ref q_3, .null, .null, .null, .null, .null])), (q_1, .inl (cA 1, 8, .inl (fun _ => 0))), (q_2, .inl (cA 1, 8, .inl (fun _ => 0))), (q_3, .inl (cA 1, 8, .inl (fun _ => 0))), (q_4, .inl (cA 1, 7, .inl (fun _ => 0)))] := hD
  refine W.widen (k := 4) (n := 31) (Nat.le_of_ble_eq_true rfl) (Nat.le_of_ble_eq_true rfl) ?_
  refine va_putF (D := D) (ci := 3) (v := .ref q_4) (ty := (.array .int)) (C := RX3) (T := TX3) (N := 16) hx hb hts inX3 tyX3 tyX3_ok nmX3 hown hKN.1 hP hD hS 0 rfl rfl 11 (by decide) (hts _ tw_185) (fun _ h9 => h9) rfl hin rfl (by decide +kernel) rfl rfl (Nat.le_of_ble_eq_true rfl) dX3_init_33 (fun H locs hP hD hS => ?_)
  have hP : va_P D vwCl [(h0, .inr (3, [.int 0, .int 0, .int 0, .int 0, .int 0, .int 0, .int 0, .int 0, .ref q_1, .ref q_2, .ref q_3, .ref q_4, .null, .null, .null, .null])), (q_1, .inl (cA 1, 8, .inl (fun _ => 0))), (q_2, .inl (cA 1, 8, .inl (fun _ => 0))), (q_3, .inl (cA 1, 8, .inl (fun _ => 0))), (q_4, .inl (cA 1, 7, .inl (fun _ => 0)))] H := hP
  have hD : va_D A [(h0, .inr (3, [.int 0, .int 0, .int 0, .int 0, .int 0, .int 0, .int 0, .int 0, .ref q_1, .ref q_2, .ref q_3, .ref q_4, .null, .null, .null, .null])), (q_1, .inl (cA 1, 8, .inl (fun _ => 0))), (q_2, .inl (cA 1, 8, .inl (fun _ => 0))), (q_3, .inl (cA 1, 8, .inl (fun _ => 0))), (q_4, .inl (cA 1, 7, .inl (fun _ => 0)))] := hD
  refine lv_aload_n hx hb dX3_init_36 rfl (lv_at hl 0 rfl) ?_
  refine lv_bipush (v := 7) hx hb dX3_init_37 (by decide) ?_
  refine nwA (atype := .int) (ty := .int) (a0 := (7, .inl (fun _ => 0))) hx hb (hts _ tw_223) rfl hKN 1 rfl (fun _ h => h) hP hD hS hA (fun _ => rfl) (by decide) (by decide) (by decide) (Nat.le_of_ble_eq_true rfl) (Nat.le_of_ble_eq_true rfl) dX3_init_39 (fun q_5 H hP hD hS => ?_)
  have hP : va_P D vwCl [(h0, .inr (3, [.int 0, .int 0, .int 0, .int 0, .int 0, .int 0, .int 0, .int 0, .ref q_1, .ref q_2, .ref q_3, .ref q_4, .null, .null, .null, .null])), (q_1, .inl (cA 1, 8, .inl (fun _ => 0))), (q_2, .inl (cA 1, 8, .inl (fun _ => 0))), (q_3, .inl (cA 1, 8, .inl (fun _ => 0))), (q_4, .inl (cA 1, 7, .inl (fun _ => 0))), (q_5, .inl (cA 1, 7, .inl (fun _ => 0)))] H := hP
  have hD : va_D A [(h0, .inr (3, [.int 0, .int 0, .int 0, .int 0, .int 0, .int 0, .int 0, .int 0, .ref q_1, .ref q_2, .ref q_3, .ref q_4, .null, .null, .null, .null])), (q_1, .inl (cA 1, 8, .inl (fun _ => 0))), (q_2, .inl (cA 1, 8, .inl (fun _ => 0))), (q_3, .inl (cA 1, 8, .inl (fun _ => 0))), (q_4, .inl (cA 1, 7, .inl (fun _ => 0))), (q_5, .inl (cA 1, 7, .inl (fun _ => 0)))] := hD
  refine W.widen (k := 5) (n := 38) (Nat.le_of_ble_eq_true rfl) (Nat.le_of_ble_eq_true rfl) ?_
  refine va_putF (D := D) (ci := 3) (v := .ref q_5) (ty := (.array .int)) (C := RX3) (T := TX3) (N := 16) hx hb hts inX3 tyX3 tyX3_ok nmX3 hown hKN.1 hP hD hS 0 rfl rfl 12 (by decide) (hts _ tw_186) (fun _ h9 => h9) rfl hin rfl (by decide +kernel) rfl rfl (Nat.le_of_ble_eq_true rfl) dX3_init_41 (fun H locs hP hD hS => ?_)
  have hP : va_P D vwCl [(h0, .inr (3, [.int 0, .int 0, .int 0, .int 0, .int 0, .int 0, .int 0, .int 0, .ref q_1, .ref q_2, .ref q_3, .ref q_4, .ref q_5, .null, .null, .null])), (q_1, .inl (cA 1, 8, .inl (fun _ => 0))), (q_2, .inl (cA 1, 8, .inl (fun _ => 0))), (q_3, .inl (cA 1, 8, .inl (fun _ => 0))), (q_4, .inl (cA 1, 7, .inl (fun _ => 0))), (q_5, .inl (cA 1, 7, .inl (fun _ => 0)))] H := hP
  have hD : va_D A [(h0, .inr (3, [.int 0, .int 0, .int 0, .int 0, .int 0, .int 0, .int 0, .int 0, .ref q_1, .ref q_2, .ref q_3, .ref q_4, .ref q_5, .null, .null, .null])), (q_1, .inl (cA 1, 8, .inl (fun _ => 0))), (q_2, .inl (cA 1, 8, .inl (fun _ => 0))), (q_3, .inl (cA 1, 8, .inl (fun _ => 0))), (q_4, .inl (cA 1, 7, .inl (fun _ => 0))), (q_5, .inl (cA 1, 7, .inl (fun _ => 0)))] := hD
  refine lv_aload_n hx hb dX3_init_44 rfl (lv_at hl 0 rfl) ?_
  refine lv_bipush (v := 7) hx hb dX3_init_45 (by decide) ?_
  refine nwA (atype := .int) (ty := .int) (a0 := (7, .inl (fun _ => 0))) hx hb (hts _ tw_223) rfl hKN 1 rfl (fun _ h => h) hP hD hS hA (fun _ => rfl) (by decide) (by decide) (by decide) (Nat.le_of_ble_eq_true rfl) (Nat.le_of_ble_eq_true rfl) dX3_init_47 (fun q_6 H hP hD hS => ?_)
  have hP : va_P D vwCl [(h0, .inr (3, [.int 0, .int 0, .int 0, .int 0, .int 0, .int 0, .int 0, .int 0, .ref q_1, .ref q_2, .ref q_3, .ref q_4, .ref q_5, .null, .null, .null])), (q_1, .inl (cA 1, 8, .inl (fun _ => 0))), (q_2, .inl (cA 1, 8, .inl (fun _ => 0))), (q_3, .inl (cA 1, 8, .inl (fun _ => 0))), (q_4, .inl (cA 1, 7, .inl (fun _ => 0))), (q_5, .inl (cA 1, 7, .inl (fun _ => 0))), (q_6, .inl (cA 1, 7, .inl (fun _ => 0)))] H := hP
  have hD : va_D A [(h0, .inr (3, [.int 0, .int 0, .int 0, .int 0, .int 0, .int 0, .int 0, .int 0, .ref q_1, .ref q_2, .ref q_3, .ref q_4, .ref q_5, .null, .null, .null])), (q_1, .inl (cA 1, 8, .inl (fun _ => 0))), (q_2, .inl (cA 1, 8, .inl (fun _ => 0))), (q_3, .inl (cA 1, 8, .inl (fun _ => 0))), (q_4, .inl (cA 1, 7, .inl (fun _ => 0))), (q_5, .inl (cA 1, 7, .inl (fun _ => 0))), (q_6, .inl (cA 1, 7, .inl (fun _ => 0)))] := hD
  refine W.widen (k := 6) (n := 45) (Nat.le_of_ble_eq_true rfl) (Nat.le_of_ble_eq_true rfl) ?_
  refine va_putF (D := D) (ci := 3) (v := .ref q_6) (ty := (.array .int)) (C := RX3) (T := TX3) (N := 16) hx hb hts inX3 tyX3 tyX3_ok nmX3 hown hKN.1 hP hD hS 0 rfl rfl 13 (by decide) (hts _ tw_187) (fun _ h9 => h9) rfl hin rfl (by decide +kernel) rfl rfl (Nat.le_of_ble_eq_true rfl) dX3_init_49 (fun H locs hP hD hS => ?_)
  have hP : va_P D vwCl [(h0, .inr (3, [.int 0, .int 0, .int 0, .int 0, .int 0, .int 0, .int 0, .int 0, .ref q_1, .ref q_2, .ref q_3, .ref q_4, .ref q_5, .ref q_6, .null, .null])), (q_1, .inl (cA 1, 8, .inl (fun _ => 0))), (q_2, .inl (cA 1, 8, .inl (fun _ => 0))), (q_3, .inl (cA 1, 8, .inl (fun _ => 0))), (q_4, .inl (cA 1, 7, .inl (fun _ => 0))), (q_5, .inl (cA 1, 7, .inl (fun _ => 0))), (q_6, .inl (cA 1, 7, .inl (fun _ => 0)))] H := hP
  have hD : va_D A [(h0, .inr (3, [.int 0, .int 0, .int 0, .int 0, .int 0, .int 0, .int 0, .int 0, .ref q_1, .ref q_2, .ref q_3, .ref q_4, .ref q_5, .ref q_6, .null, .null])), (q_1, .inl (cA 1, 8, .inl (fun _ => 0))), (q_2, .inl (cA 1, 8, .inl (fun _ => 0))), (q_3, .inl (cA 1, 8, .inl (fun _ => 0))), (q_4, .inl (cA 1, 7, .inl (fun _ => 0))), (q_5, .inl (cA 1, 7, .inl (fun _ => 0))), (q_6, .inl (cA 1, 7, .inl (fun _ => 0)))] := hD
  refine lv_aload_n hx hb dX3_init_52 rfl (lv_at hl 0 rfl) ?_
  refine lv_iconst (v := 4) hx hb dX3_init_53 (by decide) ?_
  refine nwA (atype := .int) (ty := .int) (a0 := (4, .inl (fun _ => 0))) hx hb (hts _ tw_223) rfl hKN 1 rfl (fun _ h => h) hP hD hS hA (fun _ => rfl) (by decide) (by decide) (by decide) (Nat.le_of_ble_eq_true rfl) (Nat.le_of_ble_eq_true rfl) dX3_init_54 (fun q_7 H hP hD hS => ?_)
  have hP : va_P D vwCl [(h0, .inr (3, [.int 0, .int 0, .int 0, .int 0, .int 0, .int 0, .int 0, .int 0, .ref q_1, .ref q_2, .ref q_3, .ref q_4, .ref q_5, .ref q_6, .null, .null])), (q_1, .inl (cA 1, 8, .inl (fun _ => 0))), (q_2, .inl (cA 1, 8, .inl (fun _ => 0))), (q_3, .inl (cA 1, 8, .inl (fun _ => 0))), (q_4, .inl (cA 1, 7, .inl (fun _ => 0))), (q_5, .inl (cA 1, 7, .inl (fun _ => 0))), (q_6, .inl (cA 1, 7, .inl (fun _ => 0))), (q_7, .inl (cA 1, 4, .inl (fun _ => 0)))] H := hP
  have hD : va_D A [(h0, .inr (3, [.int 0, .int 0, .int 0, .int 0, .int 0, .int 0, .int 0, .int 0, .ref q_1, .ref q_2, .ref q_3, .ref q_4, .ref q_5, .ref q_6, .null, .null])), (q_1, .inl (cA 1, 8, .inl (fun _ => 0))), (q_2, .inl (cA 1, 8, .inl (fun _ => 0))), (q_3, .inl (cA 1, 8, .inl (fun _ => 0))), (q_4, .inl (cA 1, 7, .inl (fun _ => 0))), (q_5, .inl (cA 1, 7, .inl (fun _ => 0))), (q_6, .inl (cA 1, 7, .inl (fun _ => 0))), (q_7, .inl (cA 1, 4, .inl (fun _ => 0)))] := hD
  refine W.widen (k := 7) (n := 49) (Nat.le_of_ble_eq_true rfl) (Nat.le_of_ble_eq_true rfl) ?_
  refine va_putF (D := D) (ci := 3) (v := .ref q_7) (ty := (.array .int)) (C := RX3) (T := TX3) (N := 16) hx hb hts inX3 tyX3 tyX3_ok nmX3 hown hKN.1 hP hD hS 0 rfl rfl 14 (by decide) (hts _ tw_188) (fun _ h9 => h9) rfl hin rfl (by decide +kernel) rfl rfl (Nat.le_of_ble_eq_true rfl) dX3_init_56 (fun H locs hP hD hS => ?_)
  have hP : va_P D vwCl [(h0, .inr (3, [.int 0, .int 0, .int 0, .int 0, .int 0, .int 0, .int 0, .int 0, .ref q_1, .ref q_2, .ref q_3, .ref q_4, .ref q_5, .ref q_6, .ref q_7, .null])), (q_1, .inl (cA 1, 8, .inl (fun _ => 0))), (q_2, .inl (cA 1, 8, .inl (fun _ => 0))), (q_3, .inl (cA 1, 8, .inl (fun _ => 0))), (q_4, .inl (cA 1, 7, .inl (fun _ => 0))), (q_5, .inl (cA 1, 7, .inl (fun _ => 0))), (q_6, .inl (cA 1, 7, .inl (fun _ => 0))), (q_7, .inl (cA 1, 4, .inl (fun _ => 0)))] H := hP
  have hD : va_D A [(h0, .inr (3, [.int 0, .int 0, .int 0, .int 0, .int 0, .int 0, .int 0, .int 0, .ref q_1, .ref q_2, .ref q_3, .ref q_4, .ref q_5, .ref q_6, .ref q_7, .null])), (q_1, .inl (cA 1, 8, .inl (fun _ => 0))), (q_2, .inl (cA 1, 8, .inl (fun _ => 0))), (q_3, .inl (cA 1, 8, .inl (fun _ => 0))), (q_4, .inl (cA 1, 7, .inl (fun _ => 0))), (q_5, .inl (cA 1, 7, .inl (fun _ => 0))), (q_6, .inl (cA 1, 7, .inl (fun _ => 0))), (q_7, .inl (cA 1, 4, .inl (fun _ => 0)))] := hD
  refine lv_aload_n hx hb dX3_init_59 rfl (lv_at hl 0 rfl) ?_
  refine lv_iconst (v := 4) hx hb dX3_init_60 (by decide) ?_
  refine nwA (atype := .int) (ty := .int) (a0 := (4, .inl (fun _ => 0))) hx hb (hts _ tw_223) rfl hKN 1 rfl (fun _ h => h) hP hD hS hA (fun _ => rfl) (by decide) (by decide) (by decide) (Nat.le_of_ble_eq_true rfl) (Nat.le_of_ble_eq_true rfl) dX3_init_61 (fun q_8 H hP hD hS => ?_)
  have hP : va_P D vwCl [(h0, .inr (3, [.int 0, .int 0, .int 0, .int 0, .int 0, .int 0, .int 0, .int 0, .ref q_1, .ref q_2, .ref q_3, .ref q_4, .ref q_5, .ref q_6, .ref q_7, .null])), (q_1, .inl (cA 1, 8, .inl (fun _ => 0))), (q_2, .inl (cA 1, 8, .inl (fun _ => 0))), (q_3, .inl (cA 1, 8, .inl (fun _ => 0))), (q_4, .inl (cA 1, 7, .inl (fun _ => 0))), (q_5, .inl (cA 1, 7, .inl (fun _ => 0))), (q_6, .inl (cA 1, 7, .inl (fun _ => 0))), (q_7, .inl (cA 1, 4, .inl (fun _ => 0))), (q_8, .inl (cA 1, 4, .inl (fun _ => 0)))] H := hP
  have hD : va_D A [(h0, .inr (3, [.int 0, .int 0, .int 0, .int 0, .int 0, .int 0, .int 0, .int 0, .ref q_1, .ref q_2, .ref q_3, .ref q_4, .ref q_5, .ref q_6, .ref q_7, .null])), (q_1, .inl (cA 1, 8, .inl (fun _ => 0))), (q_2, .inl (cA 1, 8, .inl (fun _ => 0))), (q_3, .inl (cA 1, 8, .inl (fun _ => 0))), (q_4, .inl (cA 1, 7, .inl (fun _ => 0))), (q_5, .inl (cA 1, 7, .inl (fun _ => 0))), (q_6, .inl (cA 1, 7, .inl (fun _ => 0))), (q_7, .inl (cA 1, 4, .inl (fun _ => 0))), (q_8, .inl (cA 1, 4, .inl (fun _ => 0)))] := hD
  refine W.widen (k := 8) (n := 53) (Nat.le_of_ble_eq_true rfl) (Nat.le_of_ble_eq_true rfl) ?_
  refine va_putF (D := D) (ci := 3) (v := .ref q_8) (ty := (.array .int)) (C := RX3) (T := TX3) (N := 16) hx hb hts inX3 tyX3 tyX3_ok nmX3 hown hKN.1 hP hD hS 0 rfl rfl 15 (by decide) (hts _ tw_189) (fun _ h9 => h9) rfl hin rfl (by decide +kernel) rfl rfl (Nat.le_of_ble_eq_true rfl) dX3_init_63 (fun H locs hP hD hS => ?_)
  have hP : va_P D vwCl [(h0, .inr (3, [.int 0, .int 0, .int 0, .int 0, .int 0, .int 0, .int 0, .int 0, .ref q_1, .ref q_2, .ref q_3, .ref q_4, .ref q_5, .ref q_6, .ref q_7, .ref q_8])), (q_1, .inl (cA 1, 8, .inl (fun _ => 0))), (q_2, .inl (cA 1, 8, .inl (fun _ => 0))), (q_3, .inl (cA 1, 8, .inl (fun _ => 0))), (q_4, .inl (cA 1, 7, .inl (fun _ => 0))), (q_5, .inl (cA 1, 7, .inl (fun _ => 0))), (q_6, .inl (cA 1, 7, .inl (fun _ => 0))), (q_7, .inl (cA 1, 4, .inl (fun _ => 0))), (q_8, .inl (cA 1, 4, .inl (fun _ => 0)))] H := hP
  have hD : va_D A [(h0, .inr (3, [.int 0, .int 0, .int 0, .int 0, .int 0, .int 0, .int 0, .int 0, .ref q_1, .ref q_2, .ref q_3, .ref q_4, .ref q_5, .ref q_6, .ref q_7, .ref q_8])), (q_1, .inl (cA 1, 8, .inl (fun _ => 0))), (q_2, .inl (cA 1, 8, .inl (fun _ => 0))), (q_3, .inl (cA 1, 8, .inl (fun _ => 0))), (q_4, .inl (cA 1, 7, .inl (fun _ => 0))), (q_5, .inl (cA 1, 7, .inl (fun _ => 0))), (q_6, .inl (cA 1, 7, .inl (fun _ => 0))), (q_7, .inl (cA 1, 4, .inl (fun _ => 0))), (q_8, .inl (cA 1, 4, .inl (fun _ => 0)))] := hD
  have hP9 := hP.sub (ws' := [(h0, .inr (3, [.int 0, .int 0, .int 0, .int 0, .int 0, .int 0, .int 0, .int 0, .ref q_1, .ref q_2, .ref q_3, .ref q_4, .ref q_5, .ref q_6, .ref q_7, .ref q_8])), (q_1, .inl (cA 1, 8, .inl (fun _ => 0))), (q_2, .inl (cA 1, 8, .inl (fun _ => 0))), (q_3, .inl (cA 1, 8, .inl (fun _ => 0))), (q_4, .inl (cA 1, 7, .inl (fun _ => 0))), (q_5, .inl (cA 1, 7, .inl (fun _ => 0))), (q_6, .inl (cA 1, 7, .inl (fun _ => 0))), (q_7, .inl (cA 1, 4, .inl (fun _ => 0))), (q_8, .inl (cA 1, 4, .inl (fun _ => 0)))]) [0, 1, 2, 3, 4, 5, 6, 7, 8] rfl
  have hD9 := hD.sub (ws' := [(h0, .inr (3, [.int 0, .int 0, .int 0, .int 0, .int 0, .int 0, .int 0, .int 0, .ref q_1, .ref q_2, .ref q_3, .ref q_4, .ref q_5, .ref q_6, .ref q_7, .ref q_8])), (q_1, .inl (cA 1, 8, .inl (fun _ => 0))), (q_2, .inl (cA 1, 8, .inl (fun _ => 0))), (q_3, .inl (cA 1, 8, .inl (fun _ => 0))), (q_4, .inl (cA 1, 7, .inl (fun _ => 0))), (q_5, .inl (cA 1, 7, .inl (fun _ => 0))), (q_6, .inl (cA 1, 7, .inl (fun _ => 0))), (q_7, .inl (cA 1, 4, .inl (fun _ => 0))), (q_8, .inl (cA 1, 4, .inl (fun _ => 0)))]) [0, 1, 2, 3, 4, 5, 6, 7, 8] (by decide) rfl
  exact W.vret hx hb hr (fun t ht hW => ⟨⟨((selN [q_1, q_2, q_3, q_4, q_5, q_6, q_7, q_8]), (fun _ => 0), (fun _ _ => 0), (fun _ _ => 0)), rfl, trivial, by rw [ht]; exact hP9, hD9⟩, hS.F ht⟩) hS.2.2 dX3_init_66
set_option maxHeartbeats 4000000 in
set_option maxRecDepth 100000 in
theorem k_X2_init (l : Launch) (D : va_G) (cA : Nat → ClassId) (sz : Nat) (h0 : Nat) : Met l yX2_init (Cond.code yX2_init cX2_init 1 none :: TB) (rmd 1 3 180) (PM D cA sz [(h0, .inr (2, [.int 0, .int 0, .int 0, .int 0, .int 0, .int 0, .int 0, .null, .null, .null]))] [.ref h0]) (va_Qv (fun _ : SU => True) (fun u t => va_P D vwCl [(h0, .inr (2, [.int (-1), .int (-1), .int 0, .int 0, .int 0, .int 0, .int 0, .ref (u.1 0), .ref (u.1 1), .ref (u.1 2)])), ((u.1 0), .inl (cA 1, 60, .inl (fun _ => 0))), ((u.1 1), .inl (cA 1, 60, .inl (fun _ => 0))), ((u.1 2), .inl (cA 1, 60, .inl (fun _ => 0)))] t.heap ∧ va_D (va_A [(h0, .inr (2, [.int 0, .int 0, .int 0, .int 0, .int 0, .int 0, .int 0, .null, .null, .null]))] sz) [(h0, .inr (2, [.int (-1), .int (-1), .int 0, .int 0, .int 0, .int 0, .int 0, .ref (u.1 0), .ref (u.1 1), .ref (u.1 2)])), ((u.1 0), .inl (cA 1, 60, .inl (fun _ => 0))), ((u.1 1), .inl (cA 1, 60, .inl (fun _ => 0))), ((u.1 2), .inl (cA 1, 60, .inl (fun _ => 0)))]) (va_A [(h0, .inr (2, [.int 0, .int 0, .int 0, .int 0, .int 0, .int 0, .int 0, .null, .null, .null]))] sz)) 3 180 (va_A [(h0, .inr (2, [.int 0, .int 0, .int 0, .int 0, .int 0, .int 0, .int 0, .null, .null, .null]))] sz) := by
  refine Met.ofW (cc := cX2_init) (maxL := 1) (ret := none) (by decide) rfl ?_
  intro p e s m args below meth c s₁ B hml hv
  obtain ⟨rfl, hsz, hP, hKN, hD0⟩ := hv
  have hx := B.exec
  have hb := B.bytes
  have hr := B.returns
  have hts : ∀ w ∈ TB, w.before _ s = true := fun w h => atoms_spec B.pre w (List.mem_cons_of_mem _ h)
  have hown : s.vm.findClass RX2 = some m.cls := findClass_of_methodNamed B.named
  have hlocks := B.notSynchronized
  have hin : meth.name = "<init>" := (name_of_methodNamed B.named B.method).1
  subst hsz
  have hD := hD0.self (sz := s.heap.size)
  generalize hAe : va_A [(h0, .inr (2, [.int 0, .int 0, .int 0, .int 0, .int 0, .int 0, .int 0, .null, .null, .null]))] s.heap.size = A at hD ⊢
  have hA : ∀ q : Nat, s.heap.size ≤ q → A q := fun q h => by rw [← hAe]; exact Or.inr h
  have hS : va_S A s.heap s.heap [] := va_S.rf
  have hl := lv_entry ([.ref h0]) (n := 1) (Nat.le_of_ble_eq_true rfl)
  rw [lg_entry_eq]
  generalize (lg_sl ([.ref h0]) ++ List.replicate (1 - (lg_sl ([.ref h0])).length) Slot.unset).toArray = ls at hl ⊢
  have hl : lv_has ls 1 [(0, .ref h0)] := hl
  refine lv_aload_n hx hb dX2_init_0 rfl (lv_at hl 0 rfl) ?_
  refine W.objInit hx hb hown (hts _ tw_274) (hts _ tw_128) (hts _ tw_129) rfl (by rw [hml]; exact hl.1) rfl dX2_init_1 (Nat.le_of_ble_eq_true rfl) (Nat.le_of_ble_eq_true rfl) ?_
  refine W.eq (g2 := F0 m 4 ls []) rfl ?_
  refine lv_aload_n hx hb dX2_init_4 rfl (lv_at hl 0 rfl) ?_
  refine lv_iconst (v := (-1)) hx hb dX2_init_5 (by decide) ?_
  refine va_put (D := D) (ci := 2) (v := .int (-1)) (ty := .int) (C := RX2) (T := TX2) (N := 10) hx hb hts inX2 tyX2 tyX2_ok nmX2 hown hKN.1 hP hD hS 0 rfl rfl 0 (by decide) (hts _ tw_275) (fun _ h9 => h9) rfl (by decide +kernel) rfl rfl (Nat.le_of_ble_eq_true rfl) dX2_init_6 (fun H locs hP hD hS => ?_)
  have hP : va_P D vwCl [(h0, .inr (2, [.int (-1), .int 0, .int 0, .int 0, .int 0, .int 0, .int 0, .null, .null, .null]))] H := hP
  have hD : va_D A [(h0, .inr (2, [.int (-1), .int 0, .int 0, .int 0, .int 0, .int 0, .int 0, .null, .null, .null]))] := hD
  refine lv_aload_n hx hb dX2_init_9 rfl (lv_at hl 0 rfl) ?_
  refine lv_iconst (v := (-1)) hx hb dX2_init_10 (by decide) ?_
  refine va_put (D := D) (ci := 2) (v := .int (-1)) (ty := .int) (C := RX2) (T := TX2) (N := 10) hx hb hts inX2 tyX2 tyX2_ok nmX2 hown hKN.1 hP hD hS 0 rfl rfl 1 (by decide) (hts _ tw_277) (fun _ h9 => h9) rfl (by decide +kernel) rfl rfl (Nat.le_of_ble_eq_true rfl) dX2_init_11 (fun H locs hP hD hS => ?_)
  have hP : va_P D vwCl [(h0, .inr (2, [.int (-1), .int (-1), .int 0, .int 0, .int 0, .int 0, .int 0, .null, .null, .null]))] H := hP
  have hD : va_D A [(h0, .inr (2, [.int (-1), .int (-1), .int 0, .int 0, .int 0, .int 0, .int 0, .null, .null, .null]))] := hD
  refine lv_aload_n hx hb dX2_init_14 rfl (lv_at hl 0 rfl) ?_
  refine lv_bipush (v := 60) hx hb dX2_init_15 (by decide) ?_
  refine nwA (atype := .int) (ty := .int) (a0 := (60, .inl (fun _ => 0))) hx hb (hts _ tw_223) rfl hKN 1 rfl (fun _ h => h) hP hD hS hA (fun _ => rfl) (by decide) (by decide) (by decide) (Nat.le_of_ble_eq_true rfl) (Nat.le_of_ble_eq_true rfl) dX2_init_17 (fun q_1 H hP hD hS => ?_)
  have hP : va_P D vwCl [(h0, .inr (2, [.int (-1), .int (-1), .int 0, .int 0, .int 0, .int 0, .int 0, .null, .null, .null])), (q_1, .inl (cA 1, 60, .inl (fun _ => 0)))] H := hP
  have hD : va_D A [(h0, .inr (2, [.int (-1), .int (-1), .int 0, .int 0, .int 0, .int 0, .int 0, .null, .null, .null])), (q_1, .inl (cA 1, 60, .inl (fun _ => 0)))] := hD
  refine W.widen (k := 1) (n := 60) (Nat.le_of_ble_eq_true rfl) (Nat.le_of_ble_eq_true rfl) ?_
  refine va_putF (D := D) (ci := 2) (v := .ref q_1) (ty := (.array .int)) (C := RX2) (T := TX2) (N := 10) hx hb hts inX2 tyX2 tyX2_ok nmX2 hown hKN.1 hP hD hS 0 rfl rfl 7 (by decide) (hts _ tw_287) (fun _ h9 => h9) rfl hin rfl (by decide +kernel) rfl rfl (Nat.le_of_ble_eq_true rfl) dX2_init_19 (fun H locs hP hD hS => ?_)
  have hP : va_P D vwCl [(h0, .inr (2, [.int (-1), .int (-1), .int 0, .int 0, .int 0, .int 0, .int 0, .ref q_1, .null, .null])), (q_1, .inl (cA 1, 60, .inl (fun _ => 0)))] H := hP
  have hD : va_D A [(h0, .inr (2, [.int (-1), .int (-1), .int 0, .int 0, .int 0, .int 0, .int 0, .ref q_1, .null, .null])), (q_1, .inl (cA 1, 60, .inl (fun _ => 0)))] := hD
  refine lv_aload_n hx hb dX2_init_22 rfl (lv_at hl 0 rfl) ?_
  refine lv_bipush (v := 60) hx hb dX2_init_23 (by decide) ?_
  refine nwA (atype := .int) (ty := .int) (a0 := (60, .inl (fun _ => 0))) hx hb (hts _ tw_223) rfl hKN 1 rfl (fun _ h => h) hP hD hS hA (fun _ => rfl) (by decide) (by decide) (by decide) (Nat.le_of_ble_eq_true rfl) (Nat.le_of_ble_eq_true rfl) dX2_init_25 (fun q_2 H hP hD hS => ?_)
  have hP : va_P D vwCl [(h0, .inr (2, [.int (-1), .int (-1), .int 0, .int 0, .int 0, .int 0, .int 0, .ref q_1, .null, .null])), (q_1, .inl (cA 1, 60, .inl (fun _ => 0))), (q_2, .inl (cA 1, 60, .inl (fun _ => 0)))] H := hP
  have hD : va_D A [(h0, .inr (2, [.int (-1), .int (-1), .int 0, .int 0, .int 0, .int 0, .int 0, .ref q_1, .null, .null])), (q_1, .inl (cA 1, 60, .inl (fun _ => 0))), (q_2, .inl (cA 1, 60, .inl (fun _ => 0)))] := hD
  refine W.widen (k := 2) (n := 120) (Nat.le_of_ble_eq_true rfl) (Nat.le_of_ble_eq_true rfl) ?_
  refine va_putF (D := D) (ci := 2) (v := .ref q_2) (ty := (.array .int)) (C := RX2) (T := TX2) (N := 10) hx hb hts inX2 tyX2 tyX2_ok nmX2 hown hKN.1 hP hD hS 0 rfl rfl 8 (by decide) (hts _ tw_288) (fun _ h9 => h9) rfl hin rfl (by decide +kernel) rfl rfl (Nat.le_of_ble_eq_true rfl) dX2_init_27 (fun H locs hP hD hS => ?_)
  have hP : va_P D vwCl [(h0, .inr (2, [.int (-1), .int (-1), .int 0, .int 0, .int 0, .int 0, .int 0, .ref q_1, .ref q_2, .null])), (q_1, .inl (cA 1, 60, .inl (fun _ => 0))), (q_2, .inl (cA 1, 60, .inl (fun _ => 0)))] H := hP
  have hD : va_D A [(h0, .inr (2, [.int (-1), .int (-1), .int 0, .int 0, .int 0, .int 0, .int 0, .ref q_1, .ref q_2, .null])), (q_1, .inl (cA 1, 60, .inl (fun _ => 0))), (q_2, .inl (cA 1, 60, .inl (fun _ => 0)))] := hD
  refine lv_aload_n hx hb dX2_init_30 rfl (lv_at hl 0 rfl) ?_
  refine lv_bipush (v := 60) hx hb dX2_init_31 (by decide) ?_
  refine nwA (atype := .int) (ty := .int) (a0 := (60, .inl (fun _ => 0))) hx hb (hts _ tw_223) rfl hKN 1 rfl (fun _ h => h) hP hD hS hA (fun _ => rfl) (by decide) (by decide) (by decide) (Nat.le_of_ble_eq_true rfl) (Nat.le_of_ble_eq_true rfl) dX2_init_33 (fun q_3 H hP hD hS => ?_)
  have hP : va_P D vwCl [(h0, .inr (2, [.int (-1), .int (-1), .int 0, .int 0, .int 0, .int 0, .int 0, .ref q_1, .ref q_2, .null])), (q_1, .inl (cA 1, 60, .inl (fun _ => 0))), (q_2, .inl (cA 1, 60, .inl (fun _ => 0))), (q_3, .inl (cA 1, 60, .inl (fun _ => 0)))] H := hP
  have hD : va_D A [(h0, .inr (2, [.int (-1), .int (-1), .int 0, .int 0, .int 0, .int 0, .int 0, .ref q_1, .ref q_2, .null])), (q_1, .inl (cA 1, 60, .inl (fun _ => 0))), (q_2, .inl (cA 1, 60, .inl (fun _ => 0))), (q_3, .inl (cA 1, 60, .inl (fun _ => 0)))] := hD
  refine W.widen (k := 3) (n := 180) (Nat.le_of_ble_eq_true rfl) (Nat.le_of_ble_eq_true rfl) ?_
  refine va_putF (D := D) (ci := 2) (v := .ref q_3) (ty := (.array .int)) (C := RX2) (T := TX2) (N := 10) hx hb hts inX2 tyX2 tyX2_ok nmX2 hown hKN.1 hP hD hS 0 rfl rfl 9 (by decide) (hts _ tw_289) (fun _ h9 => h9) rfl hin rfl (by decide +kernel) rfl rfl (Nat.le_of_ble_eq_true rfl) dX2_init_35 (fun H locs hP hD hS => ?_)
  have hP : va_P D vwCl [(h0, .inr (2, [.int (-1), .int (-1), .int 0, .int 0, .int 0, .int 0, .int 0, .ref q_1, .ref q_2, .ref q_3])), (q_1, .inl (cA 1, 60, .inl (fun _ => 0))), (q_2, .inl (cA 1, 60, .inl (fun _ => 0))), (q_3, .inl (cA 1, 60, .inl (fun _ => 0)))] H := hP
  have hD : va_D A [(h0, .inr (2, [.int (-1), .int (-1), .int 0, .int 0, .int 0, .int 0, .int 0, .ref q_1, .ref q_2, .ref q_3])), (q_1, .inl (cA 1, 60, .inl (fun _ => 0))), (q_2, .inl (cA 1, 60, .inl (fun _ => 0))), (q_3, .inl (cA 1, 60, .inl (fun _ => 0)))] := hD
  have hP9 := hP.sub (ws' := [(h0, .inr (2, [.int (-1), .int (-1), .int 0, .int 0, .int 0, .int 0, .int 0, .ref q_1, .ref q_2, .ref q_3])), (q_1, .inl (cA 1, 60, .inl (fun _ => 0))), (q_2, .inl (cA 1, 60, .inl (fun _ => 0))), (q_3, .inl (cA 1, 60, .inl (fun _ => 0)))]) [0, 1, 2, 3] rfl
  have hD9 := hD.sub (ws' := [(h0, .inr (2, [.int (-1), .int (-1), .int 0, .int 0, .int 0, .int 0, .int 0, .ref q_1, .ref q_2, .ref q_3])), (q_1, .inl (cA 1, 60, .inl (fun _ => 0))), (q_2, .inl (cA 1, 60, .inl (fun _ => 0))), (q_3, .inl (cA 1, 60, .inl (fun _ => 0)))]) [0, 1, 2, 3] (by decide) rfl
  exact W.vret hx hb hr (fun t ht hW => ⟨⟨((selN [q_1, q_2, q_3]), (fun _ => 0), (fun _ _ => 0), (fun _ _ => 0)), rfl, trivial, by rw [ht]; exact hP9, hD9⟩, hS.F ht⟩) hS.2.2 dX2_init_38
set_option maxHeartbeats 4000000 in
set_option maxRecDepth 100000 in
theorem k_X6_init (l : Launch) (D : va_G) (cA : Nat → ClassId) (sz : Nat) (h0 : Nat) (tp : Nat) : Met l yX6_init (Cond.code yX6_init cX6_init 2 none :: TB) (rmd 2 10 72) (PM D cA sz [(h0, .inr (6, [.null, .int 0, .int 0, .null, .int 0, .int 0, .int 0, .int 0, .int 0, .int 0, .int 0, .int 0, .null]))] [.ref h0, .ref tp]) (va_Qv (fun _ : SU => True) (fun u t => va_P D vwCl [(h0, .inr (6, [.ref (u.1 0), .int 0, .int (-1), .ref tp, .int 0, .int 0, .int 0, .int 0, .int 0, .int 0, .int 0, .int 0, .ref (u.1 9)])), ((u.1 0), .inr (3, [.int 0, .int 0, .int 0, .int 0, .int 0, .int 0, .int 0, .int 0, .ref (u.1 1), .ref (u.1 2), .ref (u.1 3), .ref (u.1 4), .ref (u.1 5), .ref (u.1 6), .ref (u.1 7), .ref (u.1 8)])), ((u.1 1), .inl (cA 1, 8, .inl (fun _ => 0))), ((u.1 2), .inl (cA 1, 8, .inl (fun _ => 0))), ((u.1 3), .inl (cA 1, 8, .inl (fun _ => 0))), ((u.1 4), .inl (cA 1, 7, .inl (fun _ => 0))), ((u.1 5), .inl (cA 1, 7, .inl (fun _ => 0))), ((u.1 6), .inl (cA 1, 7, .inl (fun _ => 0))), ((u.1 7), .inl (cA 1, 4, .inl (fun _ => 0))), ((u.1 8), .inl (cA 1, 4, .inl (fun _ => 0))), ((u.1 9), .inl (cA 1, 3, .inl (fun _ => 0)))] t.heap ∧ va_D (va_A [(h0, .inr (6, [.null, .int 0, .int 0, .null, .int 0, .int 0, .int 0, .int 0, .int 0, .int 0, .int 0, .int 0, .null]))] sz) [(h0, .inr (6, [.ref (u.1 0), .int 0, .int (-1), .ref tp, .int 0, .int 0, .int 0, .int 0, .int 0, .int 0, .int 0, .int 0, .ref (u.1 9)])), ((u.1 0), .inr (3, [.int 0, .int 0, .int 0, .int 0, .int 0, .int 0, .int 0, .int 0, .ref (u.1 1), .ref (u.1 2), .ref (u.1 3), .ref (u.1 4), .ref (u.1 5), .ref (u.1 6), .ref (u.1 7), .ref (u.1 8)])), ((u.1 1), .inl (cA 1, 8, .inl (fun _ => 0))), ((u.1 2), .inl (cA 1, 8, .inl (fun _ => 0))), ((u.1 3), .inl (cA 1, 8, .inl (fun _ => 0))), ((u.1 4), .inl (cA 1, 7, .inl (fun _ => 0))), ((u.1 5), .inl (cA 1, 7, .inl (fun _ => 0))), ((u.1 6), .inl (cA 1, 7, .inl (fun _ => 0))), ((u.1 7), .inl (cA 1, 4, .inl (fun _ => 0))), ((u.1 8), .inl (cA 1, 4, .inl (fun _ => 0))), ((u.1 9), .inl (cA 1, 3, .inl (fun _ => 0)))]) (va_A [(h0, .inr (6, [.null, .int 0, .int 0, .null, .int 0, .int 0, .int 0, .int 0, .int 0, .int 0, .int 0, .int 0, .null]))] sz)) 10 72 (va_A [(h0, .inr (6, [.null, .int 0, .int 0, .null, .int 0, .int 0, .int 0, .int 0, .int 0, .int 0, .int 0, .int 0, .null]))] sz) := by
  refine Met.ofW (cc := cX6_init) (maxL := 2) (ret := none) (by decide) rfl ?_
  intro p e s m args below meth c s₁ B hml hv
  obtain ⟨rfl, hsz, hP, hKN, hD0⟩ := hv
  have hx := B.exec
  have hb := B.bytes
  have hr := B.returns
  have hts : ∀ w ∈ TB, w.before _ s = true := fun w h => atoms_spec B.pre w (List.mem_cons_of_mem _ h)
  have hown : s.vm.findClass RX6 = some m.cls := findClass_of_methodNamed B.named
  have hlocks := B.notSynchronized
  have hin : meth.name = "<init>" := (name_of_methodNamed B.named B.method).1
  subst hsz
  have hD := hD0.self (sz := s.heap.size)
  generalize hAe : va_A [(h0, .inr (6, [.null, .int 0, .int 0, .null, .int 0, .int 0, .int 0, .int 0, .int 0, .int 0, .int 0, .int 0, .null]))] s.heap.size = A at hD ⊢
  have hA : ∀ q : Nat, s.heap.size ≤ q → A q := fun q h => by rw [← hAe]; exact Or.inr h
  have hS : va_S A s.heap s.heap [] := va_S.rf
  have hl := lv_entry ([.ref h0, .ref tp]) (n := 2) (Nat.le_of_ble_eq_true rfl)
  rw [lg_entry_eq]
  generalize (lg_sl ([.ref h0, .ref tp]) ++ List.replicate (2 - (lg_sl ([.ref h0, .ref tp])).length) Slot.unset).toArray = ls at hl ⊢
  have hl : lv_has ls 2 [(0, .ref h0), (1, .ref tp)] := hl
  refine lv_aload_n hx hb dX6_init_0 rfl (lv_at hl 0 rfl) ?_
  refine W.objInit hx hb hown (hts _ tw_151) (hts _ tw_128) (hts _ tw_129) rfl (by rw [hml]; exact hl.1) rfl dX6_init_1 (Nat.le_of_ble_eq_true rfl) (Nat.le_of_ble_eq_true rfl) ?_
  refine W.eq (g2 := F0 m 4 ls []) rfl ?_
  refine lv_aload_n hx hb dX6_init_4 rfl (lv_at hl 0 rfl) ?_
  refine va_new (ci := 3) (fs := [.int 0, .int 0, .int 0, .int 0, .int 0, .int 0, .int 0, .int 0, .null, .null, .null, .null, .null, .null, .null, .null]) (C := RX3) (T := TX3) (N := 16) hx hb hts inX3 tyX3 tyX3_ok hown (hts _ tw_152) (hts _ tw_153) (hts _ tw_104) hKN.1 hP hD hS hA rfl dfX3 (Nat.le_of_ble_eq_true rfl) (Nat.le_of_ble_eq_true rfl) dX6_init_5 (fun q_1 H hP hD hS => ?_)
  have hP : va_P D vwCl [(h0, .inr (6, [.null, .int 0, .int 0, .null, .int 0, .int 0, .int 0, .int 0, .int 0, .int 0, .int 0, .int 0, .null])), (q_1, .inr (3, [.int 0, .int 0, .int 0, .int 0, .int 0, .int 0, .int 0, .int 0, .null, .null, .null, .null, .null, .null, .null, .null]))] H := hP
  have hD : va_D A [(h0, .inr (6, [.null, .int 0, .int 0, .null, .int 0, .int 0, .int 0, .int 0, .int 0, .int 0, .int 0, .int 0, .null])), (q_1, .inr (3, [.int 0, .int 0, .int 0, .int 0, .int 0, .int 0, .int 0, .int 0, .null, .null, .null, .null, .null, .null, .null, .null]))] := hD
  refine W.widen (k := 1) (n := 16) (Nat.le_of_ble_eq_true rfl) (Nat.le_of_ble_eq_true rfl) ?_
  refine lv_dup hx hb dX6_init_8 rfl ?_
  refine cmINv (rest := [.ref q_1, .ref h0]) (wsC := [(q_1, .inr (3, [.int 0, .int 0, .int 0, .int 0, .int 0, .int 0, .int 0, .int 0, .null, .null, .null, .null, .null, .null, .null, .null]))]) (wr := [(h0, .inr (6, [.null, .int 0, .int 0, .null, .int 0, .int 0, .int 0, .int 0, .int 0, .int 0, .int 0, .int 0, .null]))]) ⟨hx, hb, hml, hown, hts⟩ hKN hP hD hS hA [1] [0] rfl rfl (by decide) (by decide) (by decide) (k_X3_init l D cA _ q_1) ⟨nw_1, tw_155, tw_104, tw_156⟩ hdX3_init ⟨rfl, rfl, Nat.le_of_ble_eq_true rfl, Nat.le_of_ble_eq_true rfl⟩ ⟨Nat.le_of_ble_eq_true rfl, Nat.le_of_ble_eq_true rfl⟩ rfl hl.1 rfl (Nat.le_of_ble_eq_true rfl) dX6_init_9 (fun u_2 H locs hr_2 hP hD hS => ?_)
  have hP : va_P D vwCl [(h0, .inr (6, [.null, .int 0, .int 0, .null, .int 0, .int 0, .int 0, .int 0, .int 0, .int 0, .int 0, .int 0, .null])), (q_1, .inr (3, [.int 0, .int 0, .int 0, .int 0, .int 0, .int 0, .int 0, .int 0, .ref (u_2.1 0), .ref (u_2.1 1), .ref (u_2.1 2), .ref (u_2.1 3), .ref (u_2.1 4), .ref (u_2.1 5), .ref (u_2.1 6), .ref (u_2.1 7)])), ((u_2.1 0), .inl (cA 1, 8, .inl (fun _ => 0))), ((u_2.1 1), .inl (cA 1, 8, .inl (fun _ => 0))), ((u_2.1 2), .inl (cA 1, 8, .inl (fun _ => 0))), ((u_2.1 3), .inl (cA 1, 7, .inl (fun _ => 0))), ((u_2.1 4), .inl (cA 1, 7, .inl (fun _ => 0))), ((u_2.1 5), .inl (cA 1, 7, .inl (fun _ => 0))), ((u_2.1 6), .inl (cA 1, 4, .inl (fun _ => 0))), ((u_2.1 7), .inl (cA 1, 4, .inl (fun _ => 0)))] H := hP
  have hD : va_D A [(h0, .inr (6, [.null, .int 0, .int 0, .null, .int 0, .int 0, .int 0, .int 0, .int 0, .int 0, .int 0, .int 0, .null])), (q_1, .inr (3, [.int 0, .int 0, .int 0, .int 0, .int 0, .int 0, .int 0, .int 0, .ref (u_2.1 0), .ref (u_2.1 1), .ref (u_2.1 2), .ref (u_2.1 3), .ref (u_2.1 4), .ref (u_2.1 5), .ref (u_2.1 6), .ref (u_2.1 7)])), ((u_2.1 0), .inl (cA 1, 8, .inl (fun _ => 0))), ((u_2.1 1), .inl (cA 1, 8, .inl (fun _ => 0))), ((u_2.1 2), .inl (cA 1, 8, .inl (fun _ => 0))), ((u_2.1 3), .inl (cA 1, 7, .inl (fun _ => 0))), ((u_2.1 4), .inl (cA 1, 7, .inl (fun _ => 0))), ((u_2.1 5), .inl (cA 1, 7, .inl (fun _ => 0))), ((u_2.1 6), .inl (cA 1, 4, .inl (fun _ => 0))), ((u_2.1 7), .inl (cA 1, 4, .inl (fun _ => 0)))] := hD
  refine W.widen (k := 9) (n := 69) (Nat.le_of_ble_eq_true rfl) (Nat.le_of_ble_eq_true rfl) ?_
  refine va_putF (D := D) (ci := 6) (v := .ref q_1) (ty := (.object "WristTreaty$Gorge")) (C := RX6) (T := TX6) (N := 13) hx hb hts inX6 tyX6 tyX6_ok nmX6 hown hKN.1 hP hD hS 0 rfl rfl 0 (by decide) (hts _ tw_224) (fun _ h9 => h9) rfl hin rfl (by decide +kernel) rfl rfl (Nat.le_of_ble_eq_true rfl) dX6_init_12 (fun H locs hP hD hS => ?_)
  have hP : va_P D vwCl [(h0, .inr (6, [.ref q_1, .int 0, .int 0, .null, .int 0, .int 0, .int 0, .int 0, .int 0, .int 0, .int 0, .int 0, .null])), (q_1, .inr (3, [.int 0, .int 0, .int 0, .int 0, .int 0, .int 0, .int 0, .int 0, .ref (u_2.1 0), .ref (u_2.1 1), .ref (u_2.1 2), .ref (u_2.1 3), .ref (u_2.1 4), .ref (u_2.1 5), .ref (u_2.1 6), .ref (u_2.1 7)])), ((u_2.1 0), .inl (cA 1, 8, .inl (fun _ => 0))), ((u_2.1 1), .inl (cA 1, 8, .inl (fun _ => 0))), ((u_2.1 2), .inl (cA 1, 8, .inl (fun _ => 0))), ((u_2.1 3), .inl (cA 1, 7, .inl (fun _ => 0))), ((u_2.1 4), .inl (cA 1, 7, .inl (fun _ => 0))), ((u_2.1 5), .inl (cA 1, 7, .inl (fun _ => 0))), ((u_2.1 6), .inl (cA 1, 4, .inl (fun _ => 0))), ((u_2.1 7), .inl (cA 1, 4, .inl (fun _ => 0)))] H := hP
  have hD : va_D A [(h0, .inr (6, [.ref q_1, .int 0, .int 0, .null, .int 0, .int 0, .int 0, .int 0, .int 0, .int 0, .int 0, .int 0, .null])), (q_1, .inr (3, [.int 0, .int 0, .int 0, .int 0, .int 0, .int 0, .int 0, .int 0, .ref (u_2.1 0), .ref (u_2.1 1), .ref (u_2.1 2), .ref (u_2.1 3), .ref (u_2.1 4), .ref (u_2.1 5), .ref (u_2.1 6), .ref (u_2.1 7)])), ((u_2.1 0), .inl (cA 1, 8, .inl (fun _ => 0))), ((u_2.1 1), .inl (cA 1, 8, .inl (fun _ => 0))), ((u_2.1 2), .inl (cA 1, 8, .inl (fun _ => 0))), ((u_2.1 3), .inl (cA 1, 7, .inl (fun _ => 0))), ((u_2.1 4), .inl (cA 1, 7, .inl (fun _ => 0))), ((u_2.1 5), .inl (cA 1, 7, .inl (fun _ => 0))), ((u_2.1 6), .inl (cA 1, 4, .inl (fun _ => 0))), ((u_2.1 7), .inl (cA 1, 4, .inl (fun _ => 0)))] := hD
  refine lv_aload_n hx hb dX6_init_15 rfl (lv_at hl 0 rfl) ?_
  refine lv_iconst (v := (-1)) hx hb dX6_init_16 (by decide) ?_
  refine va_put (D := D) (ci := 6) (v := .int (-1)) (ty := .int) (C := RX6) (T := TX6) (N := 13) hx hb hts inX6 tyX6 tyX6_ok nmX6 hown hKN.1 hP hD hS 0 rfl rfl 2 (by decide) (hts _ tw_228) (fun _ h9 => h9) rfl (by decide +kernel) rfl rfl (Nat.le_of_ble_eq_true rfl) dX6_init_17 (fun H locs hP hD hS => ?_)
  have hP : va_P D vwCl [(h0, .inr (6, [.ref q_1, .int 0, .int (-1), .null, .int 0, .int 0, .int 0, .int 0, .int 0, .int 0, .int 0, .int 0, .null])), (q_1, .inr (3, [.int 0, .int 0, .int 0, .int 0, .int 0, .int 0, .int 0, .int 0, .ref (u_2.1 0), .ref (u_2.1 1), .ref (u_2.1 2), .ref (u_2.1 3), .ref (u_2.1 4), .ref (u_2.1 5), .ref (u_2.1 6), .ref (u_2.1 7)])), ((u_2.1 0), .inl (cA 1, 8, .inl (fun _ => 0))), ((u_2.1 1), .inl (cA 1, 8, .inl (fun _ => 0))), ((u_2.1 2), .inl (cA 1, 8, .inl (fun _ => 0))), ((u_2.1 3), .inl (cA 1, 7, .inl (fun _ => 0))), ((u_2.1 4), .inl (cA 1, 7, .inl (fun _ => 0))), ((u_2.1 5), .inl (cA 1, 7, .inl (fun _ => 0))), ((u_2.1 6), .inl (cA 1, 4, .inl (fun _ => 0))), ((u_2.1 7), .inl (cA 1, 4, .inl (fun _ => 0)))] H := hP
  have hD : va_D A [(h0, .inr (6, [.ref q_1, .int 0, .int (-1), .null, .int 0, .int 0, .int 0, .int 0, .int 0, .int 0, .int 0, .int 0, .null])), (q_1, .inr (3, [.int 0, .int 0, .int 0, .int 0, .int 0, .int 0, .int 0, .int 0, .ref (u_2.1 0), .ref (u_2.1 1), .ref (u_2.1 2), .ref (u_2.1 3), .ref (u_2.1 4), .ref (u_2.1 5), .ref (u_2.1 6), .ref (u_2.1 7)])), ((u_2.1 0), .inl (cA 1, 8, .inl (fun _ => 0))), ((u_2.1 1), .inl (cA 1, 8, .inl (fun _ => 0))), ((u_2.1 2), .inl (cA 1, 8, .inl (fun _ => 0))), ((u_2.1 3), .inl (cA 1, 7, .inl (fun _ => 0))), ((u_2.1 4), .inl (cA 1, 7, .inl (fun _ => 0))), ((u_2.1 5), .inl (cA 1, 7, .inl (fun _ => 0))), ((u_2.1 6), .inl (cA 1, 4, .inl (fun _ => 0))), ((u_2.1 7), .inl (cA 1, 4, .inl (fun _ => 0)))] := hD
  refine lv_aload_n hx hb dX6_init_20 rfl (lv_at hl 0 rfl) ?_
  refine lv_iconst (v := 3) hx hb dX6_init_21 (by decide) ?_
  refine nwA (atype := .int) (ty := .int) (a0 := (3, .inl (fun _ => 0))) hx hb (hts _ tw_223) rfl hKN 1 rfl (fun _ h => h) hP hD hS hA (fun _ => rfl) (by decide) (by decide) (by decide) (Nat.le_of_ble_eq_true rfl) (Nat.le_of_ble_eq_true rfl) dX6_init_22 (fun q_3 H hP hD hS => ?_)
  have hP : va_P D vwCl [(h0, .inr (6, [.ref q_1, .int 0, .int (-1), .null, .int 0, .int 0, .int 0, .int 0, .int 0, .int 0, .int 0, .int 0, .null])), (q_1, .inr (3, [.int 0, .int 0, .int 0, .int 0, .int 0, .int 0, .int 0, .int 0, .ref (u_2.1 0), .ref (u_2.1 1), .ref (u_2.1 2), .ref (u_2.1 3), .ref (u_2.1 4), .ref (u_2.1 5), .ref (u_2.1 6), .ref (u_2.1 7)])), ((u_2.1 0), .inl (cA 1, 8, .inl (fun _ => 0))), ((u_2.1 1), .inl (cA 1, 8, .inl (fun _ => 0))), ((u_2.1 2), .inl (cA 1, 8, .inl (fun _ => 0))), ((u_2.1 3), .inl (cA 1, 7, .inl (fun _ => 0))), ((u_2.1 4), .inl (cA 1, 7, .inl (fun _ => 0))), ((u_2.1 5), .inl (cA 1, 7, .inl (fun _ => 0))), ((u_2.1 6), .inl (cA 1, 4, .inl (fun _ => 0))), ((u_2.1 7), .inl (cA 1, 4, .inl (fun _ => 0))), (q_3, .inl (cA 1, 3, .inl (fun _ => 0)))] H := hP
  have hD : va_D A [(h0, .inr (6, [.ref q_1, .int 0, .int (-1), .null, .int 0, .int 0, .int 0, .int 0, .int 0, .int 0, .int 0, .int 0, .null])), (q_1, .inr (3, [.int 0, .int 0, .int 0, .int 0, .int 0, .int 0, .int 0, .int 0, .ref (u_2.1 0), .ref (u_2.1 1), .ref (u_2.1 2), .ref (u_2.1 3), .ref (u_2.1 4), .ref (u_2.1 5), .ref (u_2.1 6), .ref (u_2.1 7)])), ((u_2.1 0), .inl (cA 1, 8, .inl (fun _ => 0))), ((u_2.1 1), .inl (cA 1, 8, .inl (fun _ => 0))), ((u_2.1 2), .inl (cA 1, 8, .inl (fun _ => 0))), ((u_2.1 3), .inl (cA 1, 7, .inl (fun _ => 0))), ((u_2.1 4), .inl (cA 1, 7, .inl (fun _ => 0))), ((u_2.1 5), .inl (cA 1, 7, .inl (fun _ => 0))), ((u_2.1 6), .inl (cA 1, 4, .inl (fun _ => 0))), ((u_2.1 7), .inl (cA 1, 4, .inl (fun _ => 0))), (q_3, .inl (cA 1, 3, .inl (fun _ => 0)))] := hD
  refine W.widen (k := 10) (n := 72) (Nat.le_of_ble_eq_true rfl) (Nat.le_of_ble_eq_true rfl) ?_
  refine va_putF (D := D) (ci := 6) (v := .ref q_3) (ty := (.array .int)) (C := RX6) (T := TX6) (N := 13) hx hb hts inX6 tyX6 tyX6_ok nmX6 hown hKN.1 hP hD hS 0 rfl rfl 12 (by decide) (hts _ tw_239) (fun _ h9 => h9) rfl hin rfl (by decide +kernel) rfl rfl (Nat.le_of_ble_eq_true rfl) dX6_init_24 (fun H locs hP hD hS => ?_)
  have hP : va_P D vwCl [(h0, .inr (6, [.ref q_1, .int 0, .int (-1), .null, .int 0, .int 0, .int 0, .int 0, .int 0, .int 0, .int 0, .int 0, .ref q_3])), (q_1, .inr (3, [.int 0, .int 0, .int 0, .int 0, .int 0, .int 0, .int 0, .int 0, .ref (u_2.1 0), .ref (u_2.1 1), .ref (u_2.1 2), .ref (u_2.1 3), .ref (u_2.1 4), .ref (u_2.1 5), .ref (u_2.1 6), .ref (u_2.1 7)])), ((u_2.1 0), .inl (cA 1, 8, .inl (fun _ => 0))), ((u_2.1 1), .inl (cA 1, 8, .inl (fun _ => 0))), ((u_2.1 2), .inl (cA 1, 8, .inl (fun _ => 0))), ((u_2.1 3), .inl (cA 1, 7, .inl (fun _ => 0))), ((u_2.1 4), .inl (cA 1, 7, .inl (fun _ => 0))), ((u_2.1 5), .inl (cA 1, 7, .inl (fun _ => 0))), ((u_2.1 6), .inl (cA 1, 4, .inl (fun _ => 0))), ((u_2.1 7), .inl (cA 1, 4, .inl (fun _ => 0))), (q_3, .inl (cA 1, 3, .inl (fun _ => 0)))] H := hP
  have hD : va_D A [(h0, .inr (6, [.ref q_1, .int 0, .int (-1), .null, .int 0, .int 0, .int 0, .int 0, .int 0, .int 0, .int 0, .int 0, .ref q_3])), (q_1, .inr (3, [.int 0, .int 0, .int 0, .int 0, .int 0, .int 0, .int 0, .int 0, .ref (u_2.1 0), .ref (u_2.1 1), .ref (u_2.1 2), .ref (u_2.1 3), .ref (u_2.1 4), .ref (u_2.1 5), .ref (u_2.1 6), .ref (u_2.1 7)])), ((u_2.1 0), .inl (cA 1, 8, .inl (fun _ => 0))), ((u_2.1 1), .inl (cA 1, 8, .inl (fun _ => 0))), ((u_2.1 2), .inl (cA 1, 8, .inl (fun _ => 0))), ((u_2.1 3), .inl (cA 1, 7, .inl (fun _ => 0))), ((u_2.1 4), .inl (cA 1, 7, .inl (fun _ => 0))), ((u_2.1 5), .inl (cA 1, 7, .inl (fun _ => 0))), ((u_2.1 6), .inl (cA 1, 4, .inl (fun _ => 0))), ((u_2.1 7), .inl (cA 1, 4, .inl (fun _ => 0))), (q_3, .inl (cA 1, 3, .inl (fun _ => 0)))] := hD
  refine lv_aload_n hx hb dX6_init_27 rfl (lv_at hl 0 rfl) ?_
  refine lv_aload_n hx hb dX6_init_28 rfl (lv_at hl 1 rfl) ?_
  refine va_putF (D := D) (ci := 6) (v := .ref tp) (ty := (.object "WristTreaty$Tape")) (C := RX6) (T := TX6) (N := 13) hx hb hts inX6 tyX6 tyX6_ok nmX6 hown hKN.1 hP hD hS 0 rfl rfl 3 (by decide) (hts _ tw_230) (fun _ h9 => h9) rfl hin rfl (by decide +kernel) rfl rfl (Nat.le_of_ble_eq_true rfl) dX6_init_29 (fun H locs hP hD hS => ?_)
  have hP : va_P D vwCl [(h0, .inr (6, [.ref q_1, .int 0, .int (-1), .ref tp, .int 0, .int 0, .int 0, .int 0, .int 0, .int 0, .int 0, .int 0, .ref q_3])), (q_1, .inr (3, [.int 0, .int 0, .int 0, .int 0, .int 0, .int 0, .int 0, .int 0, .ref (u_2.1 0), .ref (u_2.1 1), .ref (u_2.1 2), .ref (u_2.1 3), .ref (u_2.1 4), .ref (u_2.1 5), .ref (u_2.1 6), .ref (u_2.1 7)])), ((u_2.1 0), .inl (cA 1, 8, .inl (fun _ => 0))), ((u_2.1 1), .inl (cA 1, 8, .inl (fun _ => 0))), ((u_2.1 2), .inl (cA 1, 8, .inl (fun _ => 0))), ((u_2.1 3), .inl (cA 1, 7, .inl (fun _ => 0))), ((u_2.1 4), .inl (cA 1, 7, .inl (fun _ => 0))), ((u_2.1 5), .inl (cA 1, 7, .inl (fun _ => 0))), ((u_2.1 6), .inl (cA 1, 4, .inl (fun _ => 0))), ((u_2.1 7), .inl (cA 1, 4, .inl (fun _ => 0))), (q_3, .inl (cA 1, 3, .inl (fun _ => 0)))] H := hP
  have hD : va_D A [(h0, .inr (6, [.ref q_1, .int 0, .int (-1), .ref tp, .int 0, .int 0, .int 0, .int 0, .int 0, .int 0, .int 0, .int 0, .ref q_3])), (q_1, .inr (3, [.int 0, .int 0, .int 0, .int 0, .int 0, .int 0, .int 0, .int 0, .ref (u_2.1 0), .ref (u_2.1 1), .ref (u_2.1 2), .ref (u_2.1 3), .ref (u_2.1 4), .ref (u_2.1 5), .ref (u_2.1 6), .ref (u_2.1 7)])), ((u_2.1 0), .inl (cA 1, 8, .inl (fun _ => 0))), ((u_2.1 1), .inl (cA 1, 8, .inl (fun _ => 0))), ((u_2.1 2), .inl (cA 1, 8, .inl (fun _ => 0))), ((u_2.1 3), .inl (cA 1, 7, .inl (fun _ => 0))), ((u_2.1 4), .inl (cA 1, 7, .inl (fun _ => 0))), ((u_2.1 5), .inl (cA 1, 7, .inl (fun _ => 0))), ((u_2.1 6), .inl (cA 1, 4, .inl (fun _ => 0))), ((u_2.1 7), .inl (cA 1, 4, .inl (fun _ => 0))), (q_3, .inl (cA 1, 3, .inl (fun _ => 0)))] := hD
  have hP9 := hP.sub (ws' := [(h0, .inr (6, [.ref q_1, .int 0, .int (-1), .ref tp, .int 0, .int 0, .int 0, .int 0, .int 0, .int 0, .int 0, .int 0, .ref q_3])), (q_1, .inr (3, [.int 0, .int 0, .int 0, .int 0, .int 0, .int 0, .int 0, .int 0, .ref (u_2.1 0), .ref (u_2.1 1), .ref (u_2.1 2), .ref (u_2.1 3), .ref (u_2.1 4), .ref (u_2.1 5), .ref (u_2.1 6), .ref (u_2.1 7)])), ((u_2.1 0), .inl (cA 1, 8, .inl (fun _ => 0))), ((u_2.1 1), .inl (cA 1, 8, .inl (fun _ => 0))), ((u_2.1 2), .inl (cA 1, 8, .inl (fun _ => 0))), ((u_2.1 3), .inl (cA 1, 7, .inl (fun _ => 0))), ((u_2.1 4), .inl (cA 1, 7, .inl (fun _ => 0))), ((u_2.1 5), .inl (cA 1, 7, .inl (fun _ => 0))), ((u_2.1 6), .inl (cA 1, 4, .inl (fun _ => 0))), ((u_2.1 7), .inl (cA 1, 4, .inl (fun _ => 0))), (q_3, .inl (cA 1, 3, .inl (fun _ => 0)))]) [0, 1, 2, 3, 4, 5, 6, 7, 8, 9, 10] rfl
  have hD9 := hD.sub (ws' := [(h0, .inr (6, [.ref q_1, .int 0, .int (-1), .ref tp, .int 0, .int 0, .int 0, .int 0, .int 0, .int 0, .int 0, .int 0, .ref q_3])), (q_1, .inr (3, [.int 0, .int 0, .int 0, .int 0, .int 0, .int 0, .int 0, .int 0, .ref (u_2.1 0), .ref (u_2.1 1), .ref (u_2.1 2), .ref (u_2.1 3), .ref (u_2.1 4), .ref (u_2.1 5), .ref (u_2.1 6), .ref (u_2.1 7)])), ((u_2.1 0), .inl (cA 1, 8, .inl (fun _ => 0))), ((u_2.1 1), .inl (cA 1, 8, .inl (fun _ => 0))), ((u_2.1 2), .inl (cA 1, 8, .inl (fun _ => 0))), ((u_2.1 3), .inl (cA 1, 7, .inl (fun _ => 0))), ((u_2.1 4), .inl (cA 1, 7, .inl (fun _ => 0))), ((u_2.1 5), .inl (cA 1, 7, .inl (fun _ => 0))), ((u_2.1 6), .inl (cA 1, 4, .inl (fun _ => 0))), ((u_2.1 7), .inl (cA 1, 4, .inl (fun _ => 0))), (q_3, .inl (cA 1, 3, .inl (fun _ => 0)))]) [0, 1, 2, 3, 4, 5, 6, 7, 8, 9, 10] (by decide) rfl
  exact W.vret hx hb hr (fun t ht hW => ⟨⟨((selN [q_1, (u_2.1 0), (u_2.1 1), (u_2.1 2), (u_2.1 3), (u_2.1 4), (u_2.1 5), (u_2.1 6), (u_2.1 7), q_3]), (fun _ => 0), (fun _ _ => 0), (fun _ _ => 0)), rfl, trivial, by rw [ht]; exact hP9, hD9⟩, hS.F ht⟩) hS.2.2 dX6_init_32
set_option maxHeartbeats 4000000 in
set_option maxRecDepth 100000 in
theorem k_X4_init (l : Launch) (D : va_G) (cA : Nat → ClassId) (sz : Nat) (h0 : Nat) : Met l yX4_init (Cond.code yX4_init cX4_init 1 none :: TB) (rmd 2 13 259) (PM D cA sz [(h0, .inr (4, [.null, .null, .int 0]))] [.ref h0]) (va_Qv (fun _ : SU => True) (fun u t => va_P D vwCl [(h0, .inr (4, [.ref (u.1 0), .ref (u.1 9), .int 0])), ((u.1 0), .inr (3, [.int 0, .int 0, .int 0, .int 0, .int 0, .int 0, .int 0, .int 0, .ref (u.1 1), .ref (u.1 2), .ref (u.1 3), .ref (u.1 4), .ref (u.1 5), .ref (u.1 6), .ref (u.1 7), .ref (u.1 8)])), ((u.1 1), .inl (cA 1, 8, .inl (fun _ => 0))), ((u.1 2), .inl (cA 1, 8, .inl (fun _ => 0))), ((u.1 3), .inl (cA 1, 8, .inl (fun _ => 0))), ((u.1 4), .inl (cA 1, 7, .inl (fun _ => 0))), ((u.1 5), .inl (cA 1, 7, .inl (fun _ => 0))), ((u.1 6), .inl (cA 1, 7, .inl (fun _ => 0))), ((u.1 7), .inl (cA 1, 4, .inl (fun _ => 0))), ((u.1 8), .inl (cA 1, 4, .inl (fun _ => 0))), ((u.1 9), .inr (2, [.int (-1), .int (-1), .int 0, .int 0, .int 0, .int 0, .int 0, .ref (u.1 10), .ref (u.1 11), .ref (u.1 12)])), ((u.1 10), .inl (cA 1, 60, .inl (fun _ => 0))), ((u.1 11), .inl (cA 1, 60, .inl (fun _ => 0))), ((u.1 12), .inl (cA 1, 60, .inl (fun _ => 0)))] t.heap ∧ va_D (va_A [(h0, .inr (4, [.null, .null, .int 0]))] sz) [(h0, .inr (4, [.ref (u.1 0), .ref (u.1 9), .int 0])), ((u.1 0), .inr (3, [.int 0, .int 0, .int 0, .int 0, .int 0, .int 0, .int 0, .int 0, .ref (u.1 1), .ref (u.1 2), .ref (u.1 3), .ref (u.1 4), .ref (u.1 5), .ref (u.1 6), .ref (u.1 7), .ref (u.1 8)])), ((u.1 1), .inl (cA 1, 8, .inl (fun _ => 0))), ((u.1 2), .inl (cA 1, 8, .inl (fun _ => 0))), ((u.1 3), .inl (cA 1, 8, .inl (fun _ => 0))), ((u.1 4), .inl (cA 1, 7, .inl (fun _ => 0))), ((u.1 5), .inl (cA 1, 7, .inl (fun _ => 0))), ((u.1 6), .inl (cA 1, 7, .inl (fun _ => 0))), ((u.1 7), .inl (cA 1, 4, .inl (fun _ => 0))), ((u.1 8), .inl (cA 1, 4, .inl (fun _ => 0))), ((u.1 9), .inr (2, [.int (-1), .int (-1), .int 0, .int 0, .int 0, .int 0, .int 0, .ref (u.1 10), .ref (u.1 11), .ref (u.1 12)])), ((u.1 10), .inl (cA 1, 60, .inl (fun _ => 0))), ((u.1 11), .inl (cA 1, 60, .inl (fun _ => 0))), ((u.1 12), .inl (cA 1, 60, .inl (fun _ => 0)))]) (va_A [(h0, .inr (4, [.null, .null, .int 0]))] sz)) 13 259 (va_A [(h0, .inr (4, [.null, .null, .int 0]))] sz) := by
  refine Met.ofW (cc := cX4_init) (maxL := 1) (ret := none) (by decide) rfl ?_
  intro p e s m args below meth c s₁ B hml hv
  obtain ⟨rfl, hsz, hP, hKN, hD0⟩ := hv
  have hx := B.exec
  have hb := B.bytes
  have hr := B.returns
  have hts : ∀ w ∈ TB, w.before _ s = true := fun w h => atoms_spec B.pre w (List.mem_cons_of_mem _ h)
  have hown : s.vm.findClass RX4 = some m.cls := findClass_of_methodNamed B.named
  have hlocks := B.notSynchronized
  have hin : meth.name = "<init>" := (name_of_methodNamed B.named B.method).1
  subst hsz
  have hD := hD0.self (sz := s.heap.size)
  generalize hAe : va_A [(h0, .inr (4, [.null, .null, .int 0]))] s.heap.size = A at hD ⊢
  have hA : ∀ q : Nat, s.heap.size ≤ q → A q := fun q h => by rw [← hAe]; exact Or.inr h
  have hS : va_S A s.heap s.heap [] := va_S.rf
  have hl := lv_entry ([.ref h0]) (n := 1) (Nat.le_of_ble_eq_true rfl)
  rw [lg_entry_eq]
  generalize (lg_sl ([.ref h0]) ++ List.replicate (1 - (lg_sl ([.ref h0])).length) Slot.unset).toArray = ls at hl ⊢
  have hl : lv_has ls 1 [(0, .ref h0)] := hl
  refine lv_aload_n hx hb dX4_init_0 rfl (lv_at hl 0 rfl) ?_
  refine W.objInit hx hb hown (hts _ tw_317) (hts _ tw_128) (hts _ tw_129) rfl (by rw [hml]; exact hl.1) rfl dX4_init_1 (Nat.le_of_ble_eq_true rfl) (Nat.le_of_ble_eq_true rfl) ?_
  refine W.eq (g2 := F0 m 4 ls []) rfl ?_
  refine lv_aload_n hx hb dX4_init_4 rfl (lv_at hl 0 rfl) ?_
  refine va_new (ci := 3) (fs := [.int 0, .int 0, .int 0, .int 0, .int 0, .int 0, .int 0, .int 0, .null, .null, .null, .null, .null, .null, .null, .null]) (C := RX3) (T := TX3) (N := 16) hx hb hts inX3 tyX3 tyX3_ok hown (hts _ tw_318) (hts _ tw_153) (hts _ tw_104) hKN.1 hP hD hS hA rfl dfX3 (Nat.le_of_ble_eq_true rfl) (Nat.le_of_ble_eq_true rfl) dX4_init_5 (fun q_1 H hP hD hS => ?_)
  have hP : va_P D vwCl [(h0, .inr (4, [.null, .null, .int 0])), (q_1, .inr (3, [.int 0, .int 0, .int 0, .int 0, .int 0, .int 0, .int 0, .int 0, .null, .null, .null, .null, .null, .null, .null, .null]))] H := hP
  have hD : va_D A [(h0, .inr (4, [.null, .null, .int 0])), (q_1, .inr (3, [.int 0, .int 0, .int 0, .int 0, .int 0, .int 0, .int 0, .int 0, .null, .null, .null, .null, .null, .null, .null, .null]))] := hD
  refine W.widen (k := 1) (n := 16) (Nat.le_of_ble_eq_true rfl) (Nat.le_of_ble_eq_true rfl) ?_
  refine lv_dup hx hb dX4_init_8 rfl ?_
  refine cmINv (rest := [.ref q_1, .ref h0]) (wsC := [(q_1, .inr (3, [.int 0, .int 0, .int 0, .int 0, .int 0, .int 0, .int 0, .int 0, .null, .null, .null, .null, .null, .null, .null, .null]))]) (wr := [(h0, .inr (4, [.null, .null, .int 0]))]) ⟨hx, hb, hml, hown, hts⟩ hKN hP hD hS hA [1] [0] rfl rfl (by decide) (by decide) (by decide) (k_X3_init l D cA _ q_1) ⟨nw_5, tw_155, tw_104, tw_156⟩ hdX3_init ⟨rfl, rfl, Nat.le_of_ble_eq_true rfl, Nat.le_of_ble_eq_true rfl⟩ ⟨Nat.le_of_ble_eq_true rfl, Nat.le_of_ble_eq_true rfl⟩ rfl hl.1 rfl (Nat.le_of_ble_eq_true rfl) dX4_init_9 (fun u_2 H locs hr_2 hP hD hS => ?_)
  have hP : va_P D vwCl [(h0, .inr (4, [.null, .null, .int 0])), (q_1, .inr (3, [.int 0, .int 0, .int 0, .int 0, .int 0, .int 0, .int 0, .int 0, .ref (u_2.1 0), .ref (u_2.1 1), .ref (u_2.1 2), .ref (u_2.1 3), .ref (u_2.1 4), .ref (u_2.1 5), .ref (u_2.1 6), .ref (u_2.1 7)])), ((u_2.1 0), .inl (cA 1, 8, .inl (fun _ => 0))), ((u_2.1 1), .inl (cA 1, 8, .inl (fun _ => 0))), ((u_2.1 2), .inl (cA 1, 8, .inl (fun _ => 0))), ((u_2.1 3), .inl (cA 1, 7, .inl (fun _ => 0))), ((u_2.1 4), .inl (cA 1, 7, .inl (fun _ => 0))), ((u_2.1 5), .inl (cA 1, 7, .inl (fun _ => 0))), ((u_2.1 6), .inl (cA 1, 4, .inl (fun _ => 0))), ((u_2.1 7), .inl (cA 1, 4, .inl (fun _ => 0)))] H := hP
  have hD : va_D A [(h0, .inr (4, [.null, .null, .int 0])), (q_1, .inr (3, [.int 0, .int 0, .int 0, .int 0, .int 0, .int 0, .int 0, .int 0, .ref (u_2.1 0), .ref (u_2.1 1), .ref (u_2.1 2), .ref (u_2.1 3), .ref (u_2.1 4), .ref (u_2.1 5), .ref (u_2.1 6), .ref (u_2.1 7)])), ((u_2.1 0), .inl (cA 1, 8, .inl (fun _ => 0))), ((u_2.1 1), .inl (cA 1, 8, .inl (fun _ => 0))), ((u_2.1 2), .inl (cA 1, 8, .inl (fun _ => 0))), ((u_2.1 3), .inl (cA 1, 7, .inl (fun _ => 0))), ((u_2.1 4), .inl (cA 1, 7, .inl (fun _ => 0))), ((u_2.1 5), .inl (cA 1, 7, .inl (fun _ => 0))), ((u_2.1 6), .inl (cA 1, 4, .inl (fun _ => 0))), ((u_2.1 7), .inl (cA 1, 4, .inl (fun _ => 0)))] := hD
  refine W.widen (k := 9) (n := 69) (Nat.le_of_ble_eq_true rfl) (Nat.le_of_ble_eq_true rfl) ?_
  refine va_putF (D := D) (ci := 4) (v := .ref q_1) (ty := (.object "WristTreaty$Gorge")) (C := RX4) (T := TX4) (N := 3) hx hb hts inX4 tyX4 tyX4_ok nmX4 hown hKN.1 hP hD hS 0 rfl rfl 0 (by decide) (hts _ tw_322) (fun _ h9 => h9) rfl hin rfl (by decide +kernel) rfl rfl (Nat.le_of_ble_eq_true rfl) dX4_init_12 (fun H locs hP hD hS => ?_)
  have hP : va_P D vwCl [(h0, .inr (4, [.ref q_1, .null, .int 0])), (q_1, .inr (3, [.int 0, .int 0, .int 0, .int 0, .int 0, .int 0, .int 0, .int 0, .ref (u_2.1 0), .ref (u_2.1 1), .ref (u_2.1 2), .ref (u_2.1 3), .ref (u_2.1 4), .ref (u_2.1 5), .ref (u_2.1 6), .ref (u_2.1 7)])), ((u_2.1 0), .inl (cA 1, 8, .inl (fun _ => 0))), ((u_2.1 1), .inl (cA 1, 8, .inl (fun _ => 0))), ((u_2.1 2), .inl (cA 1, 8, .inl (fun _ => 0))), ((u_2.1 3), .inl (cA 1, 7, .inl (fun _ => 0))), ((u_2.1 4), .inl (cA 1, 7, .inl (fun _ => 0))), ((u_2.1 5), .inl (cA 1, 7, .inl (fun _ => 0))), ((u_2.1 6), .inl (cA 1, 4, .inl (fun _ => 0))), ((u_2.1 7), .inl (cA 1, 4, .inl (fun _ => 0)))] H := hP
  have hD : va_D A [(h0, .inr (4, [.ref q_1, .null, .int 0])), (q_1, .inr (3, [.int 0, .int 0, .int 0, .int 0, .int 0, .int 0, .int 0, .int 0, .ref (u_2.1 0), .ref (u_2.1 1), .ref (u_2.1 2), .ref (u_2.1 3), .ref (u_2.1 4), .ref (u_2.1 5), .ref (u_2.1 6), .ref (u_2.1 7)])), ((u_2.1 0), .inl (cA 1, 8, .inl (fun _ => 0))), ((u_2.1 1), .inl (cA 1, 8, .inl (fun _ => 0))), ((u_2.1 2), .inl (cA 1, 8, .inl (fun _ => 0))), ((u_2.1 3), .inl (cA 1, 7, .inl (fun _ => 0))), ((u_2.1 4), .inl (cA 1, 7, .inl (fun _ => 0))), ((u_2.1 5), .inl (cA 1, 7, .inl (fun _ => 0))), ((u_2.1 6), .inl (cA 1, 4, .inl (fun _ => 0))), ((u_2.1 7), .inl (cA 1, 4, .inl (fun _ => 0)))] := hD
  refine lv_aload_n hx hb dX4_init_15 rfl (lv_at hl 0 rfl) ?_
  refine va_new (ci := 2) (fs := [.int 0, .int 0, .int 0, .int 0, .int 0, .int 0, .int 0, .null, .null, .null]) (C := RX2) (T := TX2) (N := 10) hx hb hts inX2 tyX2 tyX2_ok hown (hts _ tw_320) (hts _ tw_270) (hts _ tw_105) hKN.1 hP hD hS hA rfl dfX2 (Nat.le_of_ble_eq_true rfl) (Nat.le_of_ble_eq_true rfl) dX4_init_16 (fun q_3 H hP hD hS => ?_)
  have hP : va_P D vwCl [(h0, .inr (4, [.ref q_1, .null, .int 0])), (q_1, .inr (3, [.int 0, .int 0, .int 0, .int 0, .int 0, .int 0, .int 0, .int 0, .ref (u_2.1 0), .ref (u_2.1 1), .ref (u_2.1 2), .ref (u_2.1 3), .ref (u_2.1 4), .ref (u_2.1 5), .ref (u_2.1 6), .ref (u_2.1 7)])), ((u_2.1 0), .inl (cA 1, 8, .inl (fun _ => 0))), ((u_2.1 1), .inl (cA 1, 8, .inl (fun _ => 0))), ((u_2.1 2), .inl (cA 1, 8, .inl (fun _ => 0))), ((u_2.1 3), .inl (cA 1, 7, .inl (fun _ => 0))), ((u_2.1 4), .inl (cA 1, 7, .inl (fun _ => 0))), ((u_2.1 5), .inl (cA 1, 7, .inl (fun _ => 0))), ((u_2.1 6), .inl (cA 1, 4, .inl (fun _ => 0))), ((u_2.1 7), .inl (cA 1, 4, .inl (fun _ => 0))), (q_3, .inr (2, [.int 0, .int 0, .int 0, .int 0, .int 0, .int 0, .int 0, .null, .null, .null]))] H := hP
  have hD : va_D A [(h0, .inr (4, [.ref q_1, .null, .int 0])), (q_1, .inr (3, [.int 0, .int 0, .int 0, .int 0, .int 0, .int 0, .int 0, .int 0, .ref (u_2.1 0), .ref (u_2.1 1), .ref (u_2.1 2), .ref (u_2.1 3), .ref (u_2.1 4), .ref (u_2.1 5), .ref (u_2.1 6), .ref (u_2.1 7)])), ((u_2.1 0), .inl (cA 1, 8, .inl (fun _ => 0))), ((u_2.1 1), .inl (cA 1, 8, .inl (fun _ => 0))), ((u_2.1 2), .inl (cA 1, 8, .inl (fun _ => 0))), ((u_2.1 3), .inl (cA 1, 7, .inl (fun _ => 0))), ((u_2.1 4), .inl (cA 1, 7, .inl (fun _ => 0))), ((u_2.1 5), .inl (cA 1, 7, .inl (fun _ => 0))), ((u_2.1 6), .inl (cA 1, 4, .inl (fun _ => 0))), ((u_2.1 7), .inl (cA 1, 4, .inl (fun _ => 0))), (q_3, .inr (2, [.int 0, .int 0, .int 0, .int 0, .int 0, .int 0, .int 0, .null, .null, .null]))] := hD
  refine W.widen (k := 10) (n := 79) (Nat.le_of_ble_eq_true rfl) (Nat.le_of_ble_eq_true rfl) ?_
  refine lv_dup hx hb dX4_init_19 rfl ?_
  refine cmINv (rest := [.ref q_3, .ref h0]) (wsC := [(q_3, .inr (2, [.int 0, .int 0, .int 0, .int 0, .int 0, .int 0, .int 0, .null, .null, .null]))]) (wr := [(h0, .inr (4, [.ref q_1, .null, .int 0])), (q_1, .inr (3, [.int 0, .int 0, .int 0, .int 0, .int 0, .int 0, .int 0, .int 0, .ref (u_2.1 0), .ref (u_2.1 1), .ref (u_2.1 2), .ref (u_2.1 3), .ref (u_2.1 4), .ref (u_2.1 5), .ref (u_2.1 6), .ref (u_2.1 7)])), ((u_2.1 0), .inl (cA 1, 8, .inl (fun _ => 0))), ((u_2.1 1), .inl (cA 1, 8, .inl (fun _ => 0))), ((u_2.1 2), .inl (cA 1, 8, .inl (fun _ => 0))), ((u_2.1 3), .inl (cA 1, 7, .inl (fun _ => 0))), ((u_2.1 4), .inl (cA 1, 7, .inl (fun _ => 0))), ((u_2.1 5), .inl (cA 1, 7, .inl (fun _ => 0))), ((u_2.1 6), .inl (cA 1, 4, .inl (fun _ => 0))), ((u_2.1 7), .inl (cA 1, 4, .inl (fun _ => 0)))]) ⟨hx, hb, hml, hown, hts⟩ hKN hP hD hS hA [10] [0, 1, 2, 3, 4, 5, 6, 7, 8, 9] rfl rfl (by decide) (by decide) (by decide) (k_X2_init l D cA _ q_3) ⟨nw_6, tw_272, tw_105, tw_273⟩ hdX2_init ⟨rfl, rfl, Nat.le_of_ble_eq_true rfl, Nat.le_of_ble_eq_true rfl⟩ ⟨Nat.le_of_ble_eq_true rfl, Nat.le_of_ble_eq_true rfl⟩ rfl hl.1 rfl (Nat.le_of_ble_eq_true rfl) dX4_init_20 (fun u_4 H locs hr_4 hP hD hS => ?_)
  have hP : va_P D vwCl [(h0, .inr (4, [.ref q_1, .null, .int 0])), (q_1, .inr (3, [.int 0, .int 0, .int 0, .int 0, .int 0, .int 0, .int 0, .int 0, .ref (u_2.1 0), .ref (u_2.1 1), .ref (u_2.1 2), .ref (u_2.1 3), .ref (u_2.1 4), .ref (u_2.1 5), .ref (u_2.1 6), .ref (u_2.1 7)])), ((u_2.1 0), .inl (cA 1, 8, .inl (fun _ => 0))), ((u_2.1 1), .inl (cA 1, 8, .inl (fun _ => 0))), ((u_2.1 2), .inl (cA 1, 8, .inl (fun _ => 0))), ((u_2.1 3), .inl (cA 1, 7, .inl (fun _ => 0))), ((u_2.1 4), .inl (cA 1, 7, .inl (fun _ => 0))), ((u_2.1 5), .inl (cA 1, 7, .inl (fun _ => 0))), ((u_2.1 6), .inl (cA 1, 4, .inl (fun _ => 0))), ((u_2.1 7), .inl (cA 1, 4, .inl (fun _ => 0))), (q_3, .inr (2, [.int (-1), .int (-1), .int 0, .int 0, .int 0, .int 0, .int 0, .ref (u_4.1 0), .ref (u_4.1 1), .ref (u_4.1 2)])), ((u_4.1 0), .inl (cA 1, 60, .inl (fun _ => 0))), ((u_4.1 1), .inl (cA 1, 60, .inl (fun _ => 0))), ((u_4.1 2), .inl (cA 1, 60, .inl (fun _ => 0)))] H := hP
  have hD : va_D A [(h0, .inr (4, [.ref q_1, .null, .int 0])), (q_1, .inr (3, [.int 0, .int 0, .int 0, .int 0, .int 0, .int 0, .int 0, .int 0, .ref (u_2.1 0), .ref (u_2.1 1), .ref (u_2.1 2), .ref (u_2.1 3), .ref (u_2.1 4), .ref (u_2.1 5), .ref (u_2.1 6), .ref (u_2.1 7)])), ((u_2.1 0), .inl (cA 1, 8, .inl (fun _ => 0))), ((u_2.1 1), .inl (cA 1, 8, .inl (fun _ => 0))), ((u_2.1 2), .inl (cA 1, 8, .inl (fun _ => 0))), ((u_2.1 3), .inl (cA 1, 7, .inl (fun _ => 0))), ((u_2.1 4), .inl (cA 1, 7, .inl (fun _ => 0))), ((u_2.1 5), .inl (cA 1, 7, .inl (fun _ => 0))), ((u_2.1 6), .inl (cA 1, 4, .inl (fun _ => 0))), ((u_2.1 7), .inl (cA 1, 4, .inl (fun _ => 0))), (q_3, .inr (2, [.int (-1), .int (-1), .int 0, .int 0, .int 0, .int 0, .int 0, .ref (u_4.1 0), .ref (u_4.1 1), .ref (u_4.1 2)])), ((u_4.1 0), .inl (cA 1, 60, .inl (fun _ => 0))), ((u_4.1 1), .inl (cA 1, 60, .inl (fun _ => 0))), ((u_4.1 2), .inl (cA 1, 60, .inl (fun _ => 0)))] := hD
  refine W.widen (k := 13) (n := 259) (Nat.le_of_ble_eq_true rfl) (Nat.le_of_ble_eq_true rfl) ?_
  refine va_putF (D := D) (ci := 4) (v := .ref q_3) (ty := (.object "WristTreaty$Evening")) (C := RX4) (T := TX4) (N := 3) hx hb hts inX4 tyX4 tyX4_ok nmX4 hown hKN.1 hP hD hS 0 rfl rfl 1 (by decide) (hts _ tw_324) (fun _ h9 => h9) rfl hin rfl (by decide +kernel) rfl rfl (Nat.le_of_ble_eq_true rfl) dX4_init_23 (fun H locs hP hD hS => ?_)
  have hP : va_P D vwCl [(h0, .inr (4, [.ref q_1, .ref q_3, .int 0])), (q_1, .inr (3, [.int 0, .int 0, .int 0, .int 0, .int 0, .int 0, .int 0, .int 0, .ref (u_2.1 0), .ref (u_2.1 1), .ref (u_2.1 2), .ref (u_2.1 3), .ref (u_2.1 4), .ref (u_2.1 5), .ref (u_2.1 6), .ref (u_2.1 7)])), ((u_2.1 0), .inl (cA 1, 8, .inl (fun _ => 0))), ((u_2.1 1), .inl (cA 1, 8, .inl (fun _ => 0))), ((u_2.1 2), .inl (cA 1, 8, .inl (fun _ => 0))), ((u_2.1 3), .inl (cA 1, 7, .inl (fun _ => 0))), ((u_2.1 4), .inl (cA 1, 7, .inl (fun _ => 0))), ((u_2.1 5), .inl (cA 1, 7, .inl (fun _ => 0))), ((u_2.1 6), .inl (cA 1, 4, .inl (fun _ => 0))), ((u_2.1 7), .inl (cA 1, 4, .inl (fun _ => 0))), (q_3, .inr (2, [.int (-1), .int (-1), .int 0, .int 0, .int 0, .int 0, .int 0, .ref (u_4.1 0), .ref (u_4.1 1), .ref (u_4.1 2)])), ((u_4.1 0), .inl (cA 1, 60, .inl (fun _ => 0))), ((u_4.1 1), .inl (cA 1, 60, .inl (fun _ => 0))), ((u_4.1 2), .inl (cA 1, 60, .inl (fun _ => 0)))] H := hP
  have hD : va_D A [(h0, .inr (4, [.ref q_1, .ref q_3, .int 0])), (q_1, .inr (3, [.int 0, .int 0, .int 0, .int 0, .int 0, .int 0, .int 0, .int 0, .ref (u_2.1 0), .ref (u_2.1 1), .ref (u_2.1 2), .ref (u_2.1 3), .ref (u_2.1 4), .ref (u_2.1 5), .ref (u_2.1 6), .ref (u_2.1 7)])), ((u_2.1 0), .inl (cA 1, 8, .inl (fun _ => 0))), ((u_2.1 1), .inl (cA 1, 8, .inl (fun _ => 0))), ((u_2.1 2), .inl (cA 1, 8, .inl (fun _ => 0))), ((u_2.1 3), .inl (cA 1, 7, .inl (fun _ => 0))), ((u_2.1 4), .inl (cA 1, 7, .inl (fun _ => 0))), ((u_2.1 5), .inl (cA 1, 7, .inl (fun _ => 0))), ((u_2.1 6), .inl (cA 1, 4, .inl (fun _ => 0))), ((u_2.1 7), .inl (cA 1, 4, .inl (fun _ => 0))), (q_3, .inr (2, [.int (-1), .int (-1), .int 0, .int 0, .int 0, .int 0, .int 0, .ref (u_4.1 0), .ref (u_4.1 1), .ref (u_4.1 2)])), ((u_4.1 0), .inl (cA 1, 60, .inl (fun _ => 0))), ((u_4.1 1), .inl (cA 1, 60, .inl (fun _ => 0))), ((u_4.1 2), .inl (cA 1, 60, .inl (fun _ => 0)))] := hD
  have hP9 := hP.sub (ws' := [(h0, .inr (4, [.ref q_1, .ref q_3, .int 0])), (q_1, .inr (3, [.int 0, .int 0, .int 0, .int 0, .int 0, .int 0, .int 0, .int 0, .ref (u_2.1 0), .ref (u_2.1 1), .ref (u_2.1 2), .ref (u_2.1 3), .ref (u_2.1 4), .ref (u_2.1 5), .ref (u_2.1 6), .ref (u_2.1 7)])), ((u_2.1 0), .inl (cA 1, 8, .inl (fun _ => 0))), ((u_2.1 1), .inl (cA 1, 8, .inl (fun _ => 0))), ((u_2.1 2), .inl (cA 1, 8, .inl (fun _ => 0))), ((u_2.1 3), .inl (cA 1, 7, .inl (fun _ => 0))), ((u_2.1 4), .inl (cA 1, 7, .inl (fun _ => 0))), ((u_2.1 5), .inl (cA 1, 7, .inl (fun _ => 0))), ((u_2.1 6), .inl (cA 1, 4, .inl (fun _ => 0))), ((u_2.1 7), .inl (cA 1, 4, .inl (fun _ => 0))), (q_3, .inr (2, [.int (-1), .int (-1), .int 0, .int 0, .int 0, .int 0, .int 0, .ref (u_4.1 0), .ref (u_4.1 1), .ref (u_4.1 2)])), ((u_4.1 0), .inl (cA 1, 60, .inl (fun _ => 0))), ((u_4.1 1), .inl (cA 1, 60, .inl (fun _ => 0))), ((u_4.1 2), .inl (cA 1, 60, .inl (fun _ => 0)))]) [0, 1, 2, 3, 4, 5, 6, 7, 8, 9, 10, 11, 12, 13] rfl
  have hD9 := hD.sub (ws' := [(h0, .inr (4, [.ref q_1, .ref q_3, .int 0])), (q_1, .inr (3, [.int 0, .int 0, .int 0, .int 0, .int 0, .int 0, .int 0, .int 0, .ref (u_2.1 0), .ref (u_2.1 1), .ref (u_2.1 2), .ref (u_2.1 3), .ref (u_2.1 4), .ref (u_2.1 5), .ref (u_2.1 6), .ref (u_2.1 7)])), ((u_2.1 0), .inl (cA 1, 8, .inl (fun _ => 0))), ((u_2.1 1), .inl (cA 1, 8, .inl (fun _ => 0))), ((u_2.1 2), .inl (cA 1, 8, .inl (fun _ => 0))), ((u_2.1 3), .inl (cA 1, 7, .inl (fun _ => 0))), ((u_2.1 4), .inl (cA 1, 7, .inl (fun _ => 0))), ((u_2.1 5), .inl (cA 1, 7, .inl (fun _ => 0))), ((u_2.1 6), .inl (cA 1, 4, .inl (fun _ => 0))), ((u_2.1 7), .inl (cA 1, 4, .inl (fun _ => 0))), (q_3, .inr (2, [.int (-1), .int (-1), .int 0, .int 0, .int 0, .int 0, .int 0, .ref (u_4.1 0), .ref (u_4.1 1), .ref (u_4.1 2)])), ((u_4.1 0), .inl (cA 1, 60, .inl (fun _ => 0))), ((u_4.1 1), .inl (cA 1, 60, .inl (fun _ => 0))), ((u_4.1 2), .inl (cA 1, 60, .inl (fun _ => 0)))]) [0, 1, 2, 3, 4, 5, 6, 7, 8, 9, 10, 11, 12, 13] (by decide) rfl
  exact W.vret hx hb hr (fun t ht hW => ⟨⟨((selN [q_1, (u_2.1 0), (u_2.1 1), (u_2.1 2), (u_2.1 3), (u_2.1 4), (u_2.1 5), (u_2.1 6), (u_2.1 7), q_3, (u_4.1 0), (u_4.1 1), (u_4.1 2)]), (fun _ => 0), (fun _ _ => 0), (fun _ _ => 0)), rfl, trivial, by rw [ht]; exact hP9, hD9⟩, hS.F ht⟩) hS.2.2 dX4_init_26
set_option maxHeartbeats 4000000 in
set_option maxRecDepth 100000 in
theorem k_J7_fill_53178 (l : Launch) (D : va_G) (cA : Nat → ClassId) (sz : Nat) (a : Nat) (f : Nat → Int32) : Met l yJ7_fill_53178 (Cond.code yJ7_fill_53178 cJ7_fill_53178 4 none :: TB) (rmd 0 0 0) (PM D cA sz [(a, .inl (cA 1, 4, .inl f))] [.ref a, .int (-1)]) (va_Qv (fun _ : SU => True) (fun u t => va_P D vwCl [(a, .inl (cA 1, 4, .inl (u.2.2.1 0)))] t.heap ∧ va_D (va_A [(a, .inl (cA 1, 4, .inl f))] sz) [(a, .inl (cA 1, 4, .inl (u.2.2.1 0)))]) (va_A [(a, .inl (cA 1, 4, .inl f))] sz)) 0 0 (va_A [(a, .inl (cA 1, 4, .inl f))] sz) := by
  refine Met.ofW (cc := cJ7_fill_53178) (maxL := 4) (ret := none) (by decide) rfl ?_
  intro p e s m args below meth c s₁ B hml hv
  obtain ⟨rfl, hsz, hP, hKN, hD0⟩ := hv
  have hx := B.exec
  have hb := B.bytes
  have hr := B.returns
  have hts : ∀ w ∈ TB, w.before _ s = true := fun w h => atoms_spec B.pre w (List.mem_cons_of_mem _ h)
  have hown : s.vm.findClass "java/util/Arrays" = some m.cls := findClass_of_methodNamed B.named
  have hlocks := B.notSynchronized
  subst hsz
  have hD := hD0.self (sz := s.heap.size)
  generalize hAe : va_A [(a, .inl (cA 1, 4, .inl f))] s.heap.size = A at hD ⊢
  have hA : ∀ q : Nat, s.heap.size ≤ q → A q := fun q h => by rw [← hAe]; exact Or.inr h
  have hS : va_S A s.heap s.heap [] := va_S.rf
  have hl := lv_entry ([.ref a, .int (-1)]) (n := 4) (Nat.le_of_ble_eq_true rfl)
  rw [lg_entry_eq]
  generalize (lg_sl ([.ref a, .int (-1)]) ++ List.replicate (4 - (lg_sl ([.ref a, .int (-1)])).length) Slot.unset).toArray = ls at hl ⊢
  have hl : lv_has ls 4 [(0, .ref a), (1, .int (-1))] := hl
  refine lv_iconst (v := 0) hx hb dJ7_fill_53178_0 (by decide) ?_
  refine lv_istore_n (lv' := [(2, .int 0), (0, .ref a), (1, .int (-1))]) hx hb dJ7_fill_53178_1 rfl hl (by decide) rfl (fun ls hl => ?_)
  refine lv_aload_n hx hb dJ7_fill_53178_2 rfl (lv_at hl 1 rfl) ?_
  refine va_alen (v := 4) hx hb hKN.1 hP 0 1 rfl rfl (by decide) dJ7_fill_53178_3 ?_
  refine lv_istore_n (lv' := [(3, .int 4), (2, .int 0), (0, .ref a), (1, .int (-1))]) hx hb dJ7_fill_53178_4 rfl hl (by decide) rfl (fun ls hl => ?_)
  refine lv_iload_n hx hb dJ7_fill_53178_5 rfl (lv_at hl 1 rfl) ?_
  refine lv_iload_n hx hb dJ7_fill_53178_6 rfl (lv_at hl 0 rfl) ?_
  refine lv_icmp_ge (tgt := 20) hx hb dJ7_fill_53178_7 (by decide) (fun c_1 => absurd c_1 (by decide)) (fun c_1 => ?_)
  refine lv_aload_n hx hb dJ7_fill_53178_10 rfl (lv_at hl 2 rfl) ?_
  refine lv_iload_n hx hb dJ7_fill_53178_11 rfl (lv_at hl 1 rfl) ?_
  refine lv_iload_n hx hb dJ7_fill_53178_12 rfl (lv_at hl 3 rfl) ?_
  refine va_iast hx hb hKN.1 hP hD hS 0 1 rfl rfl (by unfold vp_in; decide) dJ7_fill_53178_13 (fun H locs hP hD hS => ?_)
  have hP : va_P D vwCl [(a, .inl (cA 1, 4, .inl (upd f 0 (-1))))] H := hP
  have hD : va_D A [(a, .inl (cA 1, 4, .inl (upd f 0 (-1))))] := hD
  refine lv_iinc (v := 1) (lv' := [(2, .int 1), (3, .int 4), (0, .ref a), (1, .int (-1))]) hx hb dJ7_fill_53178_14 hl (k := 1) rfl (by decide) (by decide) rfl (fun ls hl => ?_)
  refine lv_goto (tgt := 5) hx hb dJ7_fill_53178_17 (by decide) ?_
  refine lv_iload_n hx hb dJ7_fill_53178_5 rfl (lv_at hl 0 rfl) ?_
  refine lv_iload_n hx hb dJ7_fill_53178_6 rfl (lv_at hl 1 rfl) ?_
  refine lv_icmp_ge (tgt := 20) hx hb dJ7_fill_53178_7 (by decide) (fun c_2 => absurd c_2 (by decide)) (fun c_2 => ?_)
  refine lv_aload_n hx hb dJ7_fill_53178_10 rfl (lv_at hl 2 rfl) ?_
  refine lv_iload_n hx hb dJ7_fill_53178_11 rfl (lv_at hl 0 rfl) ?_
  refine lv_iload_n hx hb dJ7_fill_53178_12 rfl (lv_at hl 3 rfl) ?_
  refine va_iast hx hb hKN.1 hP hD hS 0 1 rfl rfl (by unfold vp_in; decide) dJ7_fill_53178_13 (fun H locs hP hD hS => ?_)
  have hP : va_P D vwCl [(a, .inl (cA 1, 4, .inl (upd (upd f 0 (-1)) 1 (-1))))] H := hP
  have hD : va_D A [(a, .inl (cA 1, 4, .inl (upd (upd f 0 (-1)) 1 (-1))))] := hD
  refine lv_iinc (v := 2) (lv' := [(2, .int 2), (3, .int 4), (0, .ref a), (1, .int (-1))]) hx hb dJ7_fill_53178_14 hl (k := 0) rfl (by decide) (by decide) rfl (fun ls hl => ?_)
  refine lv_goto (tgt := 5) hx hb dJ7_fill_53178_17 (by decide) ?_
  refine lv_iload_n hx hb dJ7_fill_53178_5 rfl (lv_at hl 0 rfl) ?_
  refine lv_iload_n hx hb dJ7_fill_53178_6 rfl (lv_at hl 1 rfl) ?_
  refine lv_icmp_ge (tgt := 20) hx hb dJ7_fill_53178_7 (by decide) (fun c_3 => absurd c_3 (by decide)) (fun c_3 => ?_)
  refine lv_aload_n hx hb dJ7_fill_53178_10 rfl (lv_at hl 2 rfl) ?_
  refine lv_iload_n hx hb dJ7_fill_53178_11 rfl (lv_at hl 0 rfl) ?_
  refine lv_iload_n hx hb dJ7_fill_53178_12 rfl (lv_at hl 3 rfl) ?_
  refine va_iast hx hb hKN.1 hP hD hS 0 1 rfl rfl (by unfold vp_in; decide) dJ7_fill_53178_13 (fun H locs hP hD hS => ?_)
  have hP : va_P D vwCl [(a, .inl (cA 1, 4, .inl (upd (upd (upd f 0 (-1)) 1 (-1)) 2 (-1))))] H := hP
  have hD : va_D A [(a, .inl (cA 1, 4, .inl (upd (upd (upd f 0 (-1)) 1 (-1)) 2 (-1))))] := hD
  refine lv_iinc (v := 3) (lv' := [(2, .int 3), (3, .int 4), (0, .ref a), (1, .int (-1))]) hx hb dJ7_fill_53178_14 hl (k := 0) rfl (by decide) (by decide) rfl (fun ls hl => ?_)
  refine lv_goto (tgt := 5) hx hb dJ7_fill_53178_17 (by decide) ?_
  refine lv_iload_n hx hb dJ7_fill_53178_5 rfl (lv_at hl 0 rfl) ?_
  refine lv_iload_n hx hb dJ7_fill_53178_6 rfl (lv_at hl 1 rfl) ?_
  refine lv_icmp_ge (tgt := 20) hx hb dJ7_fill_53178_7 (by decide) (fun c_4 => absurd c_4 (by decide)) (fun c_4 => ?_)
  refine lv_aload_n hx hb dJ7_fill_53178_10 rfl (lv_at hl 2 rfl) ?_
  refine lv_iload_n hx hb dJ7_fill_53178_11 rfl (lv_at hl 0 rfl) ?_
  refine lv_iload_n hx hb dJ7_fill_53178_12 rfl (lv_at hl 3 rfl) ?_
  refine va_iast hx hb hKN.1 hP hD hS 0 1 rfl rfl (by unfold vp_in; decide) dJ7_fill_53178_13 (fun H locs hP hD hS => ?_)
  have hP : va_P D vwCl [(a, .inl (cA 1, 4, .inl (upd (upd (upd (upd f 0 (-1)) 1 (-1)) 2 (-1)) 3 (-1))))] H := hP
  have hD : va_D A [(a, .inl (cA 1, 4, .inl (upd (upd (upd (upd f 0 (-1)) 1 (-1)) 2 (-1)) 3 (-1))))] := hD
  refine lv_iinc (v := 4) (lv' := [(2, .int 4), (3, .int 4), (0, .ref a), (1, .int (-1))]) hx hb dJ7_fill_53178_14 hl (k := 0) rfl (by decide) (by decide) rfl (fun ls hl => ?_)
  refine lv_goto (tgt := 5) hx hb dJ7_fill_53178_17 (by decide) ?_
  refine lv_iload_n hx hb dJ7_fill_53178_5 rfl (lv_at hl 0 rfl) ?_
  refine lv_iload_n hx hb dJ7_fill_53178_6 rfl (lv_at hl 1 rfl) ?_
  refine lv_icmp_ge (tgt := 20) hx hb dJ7_fill_53178_7 (by decide) (fun c_5 => ?_) (fun c_5 => absurd (by decide) c_5)
  have hP := recellI (i := 0) (g := (fun _ => (-1))) hP rfl (fun j hj => by rcases (by omega : j = 0 ∨ j = 1 ∨ j = 2 ∨ j = 3) with rfl | rfl | rfl | rfl <;> rfl)
  have hD := hD.set (p := 0) (e := .inl (cA 1, 4, .inl (fun _ => (-1)))) rfl
  have hP : va_P D vwCl [(a, .inl (cA 1, 4, .inl (fun _ => (-1))))] H := hP
  have hD : va_D A [(a, .inl (cA 1, 4, .inl (fun _ => (-1))))] := hD
  have hP9 := hP.sub (ws' := [(a, .inl (cA 1, 4, .inl (fun _ => (-1))))]) [0] rfl
  have hD9 := hD.sub (ws' := [(a, .inl (cA 1, 4, .inl (fun _ => (-1))))]) [0] (by decide) rfl
  exact W.vret hx hb hr (fun t ht hW => ⟨⟨((fun _ => 0), (fun _ => 0), (selF [(fun _ => (-1))]), (fun _ _ => 0)), rfl, trivial, by rw [ht]; exact hP9, hD9⟩, hS.F ht⟩) hS.2.2 dJ7_fill_53178_20
set_option maxHeartbeats 4000000 in
set_option maxRecDepth 100000 in
theorem k_X7_init (l : Launch) (D : va_G) (cA : Nat → ClassId) (sz : Nat) (h0 : Nat) : Met l yX7_init (Cond.code yX7_init cX7_init 1 none :: TB) (rmd 1 3 248) (PM D cA sz [(h0, .inr (7, [.null, .null, .null]))] [.ref h0]) (va_Qv (fun _ : SU => True) (fun u t => va_P D vwCl [(h0, .inr (7, [.ref (u.1 2), .ref (u.1 0), .ref (u.1 1)])), ((u.1 0), .inl (cA 1, 4, .inl (fun _ => 0))), ((u.1 1), .inl (cA 2, 240, .inr (.inl (fun _ => 0)))), ((u.1 2), .inl (cA 1, 4, .inl (u.2.2.1 0)))] t.heap ∧ va_D (va_A [(h0, .inr (7, [.null, .null, .null]))] sz) [(h0, .inr (7, [.ref (u.1 2), .ref (u.1 0), .ref (u.1 1)])), ((u.1 0), .inl (cA 1, 4, .inl (fun _ => 0))), ((u.1 1), .inl (cA 2, 240, .inr (.inl (fun _ => 0)))), ((u.1 2), .inl (cA 1, 4, .inl (u.2.2.1 0)))]) (va_A [(h0, .inr (7, [.null, .null, .null]))] sz)) 3 248 (va_A [(h0, .inr (7, [.null, .null, .null]))] sz) := by
  refine Met.ofW (cc := cX7_init) (maxL := 1) (ret := none) (by decide) rfl ?_
  intro p e s m args below meth c s₁ B hml hv
  obtain ⟨rfl, hsz, hP, hKN, hD0⟩ := hv
  have hx := B.exec
  have hb := B.bytes
  have hr := B.returns
  have hts : ∀ w ∈ TB, w.before _ s = true := fun w h => atoms_spec B.pre w (List.mem_cons_of_mem _ h)
  have hown : s.vm.findClass RX7 = some m.cls := findClass_of_methodNamed B.named
  have hlocks := B.notSynchronized
  have hin : meth.name = "<init>" := (name_of_methodNamed B.named B.method).1
  subst hsz
  have hD := hD0.self (sz := s.heap.size)
  generalize hAe : va_A [(h0, .inr (7, [.null, .null, .null]))] s.heap.size = A at hD ⊢
  have hA : ∀ q : Nat, s.heap.size ≤ q → A q := fun q h => by rw [← hAe]; exact Or.inr h
  have hS : va_S A s.heap s.heap [] := va_S.rf
  have hl := lv_entry ([.ref h0]) (n := 1) (Nat.le_of_ble_eq_true rfl)
  rw [lg_entry_eq]
  generalize (lg_sl ([.ref h0]) ++ List.replicate (1 - (lg_sl ([.ref h0])).length) Slot.unset).toArray = ls at hl ⊢
  have hl : lv_has ls 1 [(0, .ref h0)] := hl
  refine lv_aload_n hx hb dX7_init_0 rfl (lv_at hl 0 rfl) ?_
  refine W.objInit hx hb hown (hts _ tw_339) (hts _ tw_128) (hts _ tw_129) rfl (by rw [hml]; exact hl.1) rfl dX7_init_1 (Nat.le_of_ble_eq_true rfl) (Nat.le_of_ble_eq_true rfl) ?_
  refine W.eq (g2 := F0 m 4 ls []) rfl ?_
  refine lv_aload_n hx hb dX7_init_4 rfl (lv_at hl 0 rfl) ?_
  refine lv_iconst (v := 4) hx hb dX7_init_5 (by decide) ?_
  refine nwA (atype := .int) (ty := .int) (a0 := (4, .inl (fun _ => 0))) hx hb (hts _ tw_223) rfl hKN 1 rfl (fun _ h => h) hP hD hS hA (fun _ => rfl) (by decide) (by decide) (by decide) (Nat.le_of_ble_eq_true rfl) (Nat.le_of_ble_eq_true rfl) dX7_init_6 (fun q_1 H hP hD hS => ?_)
  have hP : va_P D vwCl [(h0, .inr (7, [.null, .null, .null])), (q_1, .inl (cA 1, 4, .inl (fun _ => 0)))] H := hP
  have hD : va_D A [(h0, .inr (7, [.null, .null, .null])), (q_1, .inl (cA 1, 4, .inl (fun _ => 0)))] := hD
  refine W.widen (k := 1) (n := 4) (Nat.le_of_ble_eq_true rfl) (Nat.le_of_ble_eq_true rfl) ?_
  refine va_putF (D := D) (ci := 7) (v := .ref q_1) (ty := (.array .int)) (C := RX7) (T := TX7) (N := 3) hx hb hts inX7 tyX7 tyX7_ok nmX7 hown hKN.1 hP hD hS 0 rfl rfl 0 (by decide) (hts _ tw_343) (fun _ h9 => h9) rfl hin rfl (by decide +kernel) rfl rfl (Nat.le_of_ble_eq_true rfl) dX7_init_8 (fun H locs hP hD hS => ?_)
  have hP : va_P D vwCl [(h0, .inr (7, [.ref q_1, .null, .null])), (q_1, .inl (cA 1, 4, .inl (fun _ => 0)))] H := hP
  have hD : va_D A [(h0, .inr (7, [.ref q_1, .null, .null])), (q_1, .inl (cA 1, 4, .inl (fun _ => 0)))] := hD
  refine lv_aload_n hx hb dX7_init_11 rfl (lv_at hl 0 rfl) ?_
  refine lv_iconst (v := 4) hx hb dX7_init_12 (by decide) ?_
  refine nwA (atype := .int) (ty := .int) (a0 := (4, .inl (fun _ => 0))) hx hb (hts _ tw_223) rfl hKN 1 rfl (fun _ h => h) hP hD hS hA (fun _ => rfl) (by decide) (by decide) (by decide) (Nat.le_of_ble_eq_true rfl) (Nat.le_of_ble_eq_true rfl) dX7_init_13 (fun q_2 H hP hD hS => ?_)
  have hP : va_P D vwCl [(h0, .inr (7, [.ref q_1, .null, .null])), (q_1, .inl (cA 1, 4, .inl (fun _ => 0))), (q_2, .inl (cA 1, 4, .inl (fun _ => 0)))] H := hP
  have hD : va_D A [(h0, .inr (7, [.ref q_1, .null, .null])), (q_1, .inl (cA 1, 4, .inl (fun _ => 0))), (q_2, .inl (cA 1, 4, .inl (fun _ => 0)))] := hD
  refine W.widen (k := 2) (n := 8) (Nat.le_of_ble_eq_true rfl) (Nat.le_of_ble_eq_true rfl) ?_
  refine va_putF (D := D) (ci := 7) (v := .ref q_2) (ty := (.array .int)) (C := RX7) (T := TX7) (N := 3) hx hb hts inX7 tyX7 tyX7_ok nmX7 hown hKN.1 hP hD hS 0 rfl rfl 1 (by decide) (hts _ tw_344) (fun _ h9 => h9) rfl hin rfl (by decide +kernel) rfl rfl (Nat.le_of_ble_eq_true rfl) dX7_init_15 (fun H locs hP hD hS => ?_)
  have hP : va_P D vwCl [(h0, .inr (7, [.ref q_1, .ref q_2, .null])), (q_1, .inl (cA 1, 4, .inl (fun _ => 0))), (q_2, .inl (cA 1, 4, .inl (fun _ => 0)))] H := hP
  have hD : va_D A [(h0, .inr (7, [.ref q_1, .ref q_2, .null])), (q_1, .inl (cA 1, 4, .inl (fun _ => 0))), (q_2, .inl (cA 1, 4, .inl (fun _ => 0)))] := hD
  refine lv_aload_n hx hb dX7_init_18 rfl (lv_at hl 0 rfl) ?_
  refine lv_sipush (v := 240) hx hb dX7_init_19 (by decide) ?_
  refine nwA (atype := .long) (ty := .long) (a0 := (240, .inr (.inl (fun _ => 0)))) hx hb (hts _ tw_353) rfl hKN 2 rfl (fun _ h => h) hP hD hS hA (fun _ => rfl) (by decide) (by decide) (by decide) (Nat.le_of_ble_eq_true rfl) (Nat.le_of_ble_eq_true rfl) dX7_init_22 (fun q_3 H hP hD hS => ?_)
  have hP : va_P D vwCl [(h0, .inr (7, [.ref q_1, .ref q_2, .null])), (q_1, .inl (cA 1, 4, .inl (fun _ => 0))), (q_2, .inl (cA 1, 4, .inl (fun _ => 0))), (q_3, .inl (cA 2, 240, .inr (.inl (fun _ => 0))))] H := hP
  have hD : va_D A [(h0, .inr (7, [.ref q_1, .ref q_2, .null])), (q_1, .inl (cA 1, 4, .inl (fun _ => 0))), (q_2, .inl (cA 1, 4, .inl (fun _ => 0))), (q_3, .inl (cA 2, 240, .inr (.inl (fun _ => 0))))] := hD
  refine W.widen (k := 3) (n := 248) (Nat.le_of_ble_eq_true rfl) (Nat.le_of_ble_eq_true rfl) ?_
  refine va_putF (D := D) (ci := 7) (v := .ref q_3) (ty := (.array .long)) (C := RX7) (T := TX7) (N := 3) hx hb hts inX7 tyX7 tyX7_ok nmX7 hown hKN.1 hP hD hS 0 rfl rfl 2 (by decide) (hts _ tw_345) (fun _ h9 => h9) rfl hin rfl (by decide +kernel) rfl rfl (Nat.le_of_ble_eq_true rfl) dX7_init_24 (fun H locs hP hD hS => ?_)
  have hP : va_P D vwCl [(h0, .inr (7, [.ref q_1, .ref q_2, .ref q_3])), (q_1, .inl (cA 1, 4, .inl (fun _ => 0))), (q_2, .inl (cA 1, 4, .inl (fun _ => 0))), (q_3, .inl (cA 2, 240, .inr (.inl (fun _ => 0))))] H := hP
  have hD : va_D A [(h0, .inr (7, [.ref q_1, .ref q_2, .ref q_3])), (q_1, .inl (cA 1, 4, .inl (fun _ => 0))), (q_2, .inl (cA 1, 4, .inl (fun _ => 0))), (q_3, .inl (cA 2, 240, .inr (.inl (fun _ => 0))))] := hD
  refine lv_aload_n hx hb dX7_init_27 rfl (lv_at hl 0 rfl) ?_
  refine va_get (D := D) (ci := 7) (v := .ref q_1) (C := RX7) (T := TX7) (N := 3) hx hb hts inX7 hown hKN.1 hP 0 rfl rfl 0 (by decide) (hts _ tw_343) (fun _ h9 => h9) rfl dX7_init_28 ?_
  refine lv_iconst (v := (-1)) hx hb dX7_init_31 (by decide) ?_
  refine cmSv (rest := []) (wsC := [(q_1, .inl (cA 1, 4, .inl (fun _ => 0)))]) (wr := [(h0, .inr (7, [.ref q_1, .ref q_2, .ref q_3])), (q_2, .inl (cA 1, 4, .inl (fun _ => 0))), (q_3, .inl (cA 2, 240, .inr (.inl (fun _ => 0))))]) ⟨hx, hb, hml, hown, hts⟩ hKN hP hD hS hA [1] [0, 2, 3] rfl rfl (by decide) (by decide) (by decide) (k_J7_fill_53178 l D cA _ q_1 (fun _ => 0)) (tb_S tw_340 tw_341 tw_108 tw_342) hdJ7_fill_53178 ⟨rfl, rfl, Nat.le_of_ble_eq_true rfl, Nat.le_of_ble_eq_true rfl⟩ ⟨Nat.le_of_ble_eq_true rfl, Nat.le_of_ble_eq_true rfl⟩ rfl hl.1 rfl (Nat.le_of_ble_eq_true rfl) dX7_init_32 (fun u_4 H locs hr_4 hP hD hS => ?_)
  have hP : va_P D vwCl [(h0, .inr (7, [.ref q_1, .ref q_2, .ref q_3])), (q_2, .inl (cA 1, 4, .inl (fun _ => 0))), (q_3, .inl (cA 2, 240, .inr (.inl (fun _ => 0)))), (q_1, .inl (cA 1, 4, .inl (u_4.2.2.1 0)))] H := hP
  have hD : va_D A [(h0, .inr (7, [.ref q_1, .ref q_2, .ref q_3])), (q_2, .inl (cA 1, 4, .inl (fun _ => 0))), (q_3, .inl (cA 2, 240, .inr (.inl (fun _ => 0)))), (q_1, .inl (cA 1, 4, .inl (u_4.2.2.1 0)))] := hD
  have hP9 := hP.sub (ws' := [(h0, .inr (7, [.ref q_1, .ref q_2, .ref q_3])), (q_2, .inl (cA 1, 4, .inl (fun _ => 0))), (q_3, .inl (cA 2, 240, .inr (.inl (fun _ => 0)))), (q_1, .inl (cA 1, 4, .inl (u_4.2.2.1 0)))]) [0, 1, 2, 3] rfl
  have hD9 := hD.sub (ws' := [(h0, .inr (7, [.ref q_1, .ref q_2, .ref q_3])), (q_2, .inl (cA 1, 4, .inl (fun _ => 0))), (q_3, .inl (cA 2, 240, .inr (.inl (fun _ => 0)))), (q_1, .inl (cA 1, 4, .inl (u_4.2.2.1 0)))]) [0, 1, 2, 3] (by decide) rfl
  exact W.vret hx hb hr (fun t ht hW => ⟨⟨((selN [q_2, q_3, q_1]), (fun _ => 0), (selF [(u_4.2.2.1 0)]), (fun _ _ => 0)), rfl, trivial, by rw [ht]; exact hP9, hD9⟩, hS.F ht⟩) hS.2.2 dX7_init_35
set_option maxHeartbeats 4000000 in
set_option maxRecDepth 100000 in
theorem k_X1_init (l : Launch) (D : va_G) (cA : Nat → ClassId) (sz : Nat) (h0 : Nat) (g : Nat) : Met l yX1_init (Cond.code yX1_init cX1_init 2 none :: TB) (rmd 1 0 0) (PM D cA sz [(h0, .inr (1, [.int 0, .int 0, .null]))] [.ref h0, .ref g]) (va_Qv (fun _ : SU => True) (fun u t => va_P D vwCl [(h0, .inr (1, [.int (-1), .int 1, .ref g]))] t.heap ∧ va_D (va_A [(h0, .inr (1, [.int 0, .int 0, .null]))] sz) [(h0, .inr (1, [.int (-1), .int 1, .ref g]))]) (va_A [(h0, .inr (1, [.int 0, .int 0, .null]))] sz)) 0 0 (va_A [(h0, .inr (1, [.int 0, .int 0, .null]))] sz) := by
  refine Met.ofW (cc := cX1_init) (maxL := 2) (ret := none) (by decide) rfl ?_
  intro p e s m args below meth c s₁ B hml hv
  obtain ⟨rfl, hsz, hP, hKN, hD0⟩ := hv
  have hx := B.exec
  have hb := B.bytes
  have hr := B.returns
  have hts : ∀ w ∈ TB, w.before _ s = true := fun w h => atoms_spec B.pre w (List.mem_cons_of_mem _ h)
  have hown : s.vm.findClass RX1 = some m.cls := findClass_of_methodNamed B.named
  have hlocks := B.notSynchronized
  have hin : meth.name = "<init>" := (name_of_methodNamed B.named B.method).1
  subst hsz
  have hD := hD0.self (sz := s.heap.size)
  generalize hAe : va_A [(h0, .inr (1, [.int 0, .int 0, .null]))] s.heap.size = A at hD ⊢
  have hA : ∀ q : Nat, s.heap.size ≤ q → A q := fun q h => by rw [← hAe]; exact Or.inr h
  have hS : va_S A s.heap s.heap [] := va_S.rf
  have hl := lv_entry ([.ref h0, .ref g]) (n := 2) (Nat.le_of_ble_eq_true rfl)
  rw [lg_entry_eq]
  generalize (lg_sl ([.ref h0, .ref g]) ++ List.replicate (2 - (lg_sl ([.ref h0, .ref g])).length) Slot.unset).toArray = ls at hl ⊢
  have hl : lv_has ls 2 [(0, .ref h0), (1, .ref g)] := hl
  refine lv_aload_n hx hb dX1_init_0 rfl (lv_at hl 0 rfl) ?_
  refine W.objInit hx hb hown (hts _ tw_359) (hts _ tw_128) (hts _ tw_129) rfl (by rw [hml]; exact hl.1) rfl dX1_init_1 (Nat.le_of_ble_eq_true rfl) (Nat.le_of_ble_eq_true rfl) ?_
  refine W.eq (g2 := F0 m 4 ls []) rfl ?_
  refine lv_aload_n hx hb dX1_init_4 rfl (lv_at hl 0 rfl) ?_
  refine lv_iconst (v := (-1)) hx hb dX1_init_5 (by decide) ?_
  refine va_put (D := D) (ci := 1) (v := .int (-1)) (ty := .int) (C := RX1) (T := TX1) (N := 3) hx hb hts inX1 tyX1 tyX1_ok nmX1 hown hKN.1 hP hD hS 0 rfl rfl 0 (by decide) (hts _ tw_360) (fun _ h9 => h9) rfl (by decide +kernel) rfl rfl (Nat.le_of_ble_eq_true rfl) dX1_init_6 (fun H locs hP hD hS => ?_)
  have hP : va_P D vwCl [(h0, .inr (1, [.int (-1), .int 0, .null]))] H := hP
  have hD : va_D A [(h0, .inr (1, [.int (-1), .int 0, .null]))] := hD
  refine lv_aload_n hx hb dX1_init_9 rfl (lv_at hl 0 rfl) ?_
  refine lv_iconst (v := 1) hx hb dX1_init_10 (by decide) ?_
  refine va_put (D := D) (ci := 1) (v := .int 1) (ty := .int) (C := RX1) (T := TX1) (N := 3) hx hb hts inX1 tyX1 tyX1_ok nmX1 hown hKN.1 hP hD hS 0 rfl rfl 1 (by decide) (hts _ tw_362) (fun _ h9 => h9) rfl (by decide +kernel) rfl rfl (Nat.le_of_ble_eq_true rfl) dX1_init_11 (fun H locs hP hD hS => ?_)
  have hP : va_P D vwCl [(h0, .inr (1, [.int (-1), .int 1, .null]))] H := hP
  have hD : va_D A [(h0, .inr (1, [.int (-1), .int 1, .null]))] := hD
  refine lv_aload_n hx hb dX1_init_14 rfl (lv_at hl 0 rfl) ?_
  refine lv_aload_n hx hb dX1_init_15 rfl (lv_at hl 1 rfl) ?_
  refine va_putF (D := D) (ci := 1) (v := .ref g) (ty := (.object "WristTreaty$Gorge")) (C := RX1) (T := TX1) (N := 3) hx hb hts inX1 tyX1 tyX1_ok nmX1 hown hKN.1 hP hD hS 0 rfl rfl 2 (by decide) (hts _ tw_363) (fun _ h9 => h9) rfl hin rfl (by decide +kernel) rfl rfl (Nat.le_of_ble_eq_true rfl) dX1_init_16 (fun H locs hP hD hS => ?_)
  have hP : va_P D vwCl [(h0, .inr (1, [.int (-1), .int 1, .ref g]))] H := hP
  have hD : va_D A [(h0, .inr (1, [.int (-1), .int 1, .ref g]))] := hD
  have hP9 := hP.sub (ws' := [(h0, .inr (1, [.int (-1), .int 1, .ref g]))]) [0] rfl
  have hD9 := hD.sub (ws' := [(h0, .inr (1, [.int (-1), .int 1, .ref g]))]) [0] (by decide) rfl
  exact W.vret hx hb hr (fun t ht hW => ⟨⟨((fun _ => 0), (fun _ => 0), (fun _ _ => 0), (fun _ _ => 0)), rfl, trivial, by rw [ht]; exact hP9, hD9⟩, hS.F ht⟩) hS.2.2 dX1_init_19
set_option maxHeartbeats 4000000 in
set_option maxRecDepth 100000 in
theorem k_X5_init (l : Launch) (D : va_G) (cA : Nat → ClassId) (sz : Nat) (h0 : Nat) (g : Nat) : Met l yX5_init (Cond.code yX5_init cX5_init 2 none :: TB) (rmd 1 2 16) (PM D cA sz [(h0, .inr (5, [.null, .int 0, .int 0, .null, .int 0, .null]))] [.ref h0, .ref g]) (va_Qv (fun _ : SU => True) (fun u t => va_P D vwCl [(h0, .inr (5, [.ref (u.1 0), .int 0, .int 0, .ref (u.1 1), .int 0, .ref g])), ((u.1 0), .inl (cA 1, 8, .inl (fun _ => 0))), ((u.1 1), .inl (cA 1, 8, .inl (fun _ => 0)))] t.heap ∧ va_D (va_A [(h0, .inr (5, [.null, .int 0, .int 0, .null, .int 0, .null]))] sz) [(h0, .inr (5, [.ref (u.1 0), .int 0, .int 0, .ref (u.1 1), .int 0, .ref g])), ((u.1 0), .inl (cA 1, 8, .inl (fun _ => 0))), ((u.1 1), .inl (cA 1, 8, .inl (fun _ => 0)))]) (va_A [(h0, .inr (5, [.null, .int 0, .int 0, .null, .int 0, .null]))] sz)) 2 16 (va_A [(h0, .inr (5, [.null, .int 0, .int 0, .null, .int 0, .null]))] sz) := by
  refine Met.ofW (cc := cX5_init) (maxL := 2) (ret := none) (by decide) rfl ?_
  intro p e s m args below meth c s₁ B hml hv
  obtain ⟨rfl, hsz, hP, hKN, hD0⟩ := hv
  have hx := B.exec
  have hb := B.bytes
  have hr := B.returns
  have hts : ∀ w ∈ TB, w.before _ s = true := fun w h => atoms_spec B.pre w (List.mem_cons_of_mem _ h)
  have hown : s.vm.findClass RX5 = some m.cls := findClass_of_methodNamed B.named
  have hlocks := B.notSynchronized
  have hin : meth.name = "<init>" := (name_of_methodNamed B.named B.method).1
  subst hsz
  have hD := hD0.self (sz := s.heap.size)
  generalize hAe : va_A [(h0, .inr (5, [.null, .int 0, .int 0, .null, .int 0, .null]))] s.heap.size = A at hD ⊢
  have hA : ∀ q : Nat, s.heap.size ≤ q → A q := fun q h => by rw [← hAe]; exact Or.inr h
  have hS : va_S A s.heap s.heap [] := va_S.rf
  have hl := lv_entry ([.ref h0, .ref g]) (n := 2) (Nat.le_of_ble_eq_true rfl)
  rw [lg_entry_eq]
  generalize (lg_sl ([.ref h0, .ref g]) ++ List.replicate (2 - (lg_sl ([.ref h0, .ref g])).length) Slot.unset).toArray = ls at hl ⊢
  have hl : lv_has ls 2 [(0, .ref h0), (1, .ref g)] := hl
  refine lv_aload_n hx hb dX5_init_0 rfl (lv_at hl 0 rfl) ?_
  refine W.objInit hx hb hown (hts _ tw_376) (hts _ tw_128) (hts _ tw_129) rfl (by rw [hml]; exact hl.1) rfl dX5_init_1 (Nat.le_of_ble_eq_true rfl) (Nat.le_of_ble_eq_true rfl) ?_
  refine W.eq (g2 := F0 m 4 ls []) rfl ?_
  refine lv_aload_n hx hb dX5_init_4 rfl (lv_at hl 0 rfl) ?_
  refine lv_bipush (v := 8) hx hb dX5_init_5 (by decide) ?_
  refine nwA (atype := .int) (ty := .int) (a0 := (8, .inl (fun _ => 0))) hx hb (hts _ tw_223) rfl hKN 1 rfl (fun _ h => h) hP hD hS hA (fun _ => rfl) (by decide) (by decide) (by decide) (Nat.le_of_ble_eq_true rfl) (Nat.le_of_ble_eq_true rfl) dX5_init_7 (fun q_1 H hP hD hS => ?_)
  have hP : va_P D vwCl [(h0, .inr (5, [.null, .int 0, .int 0, .null, .int 0, .null])), (q_1, .inl (cA 1, 8, .inl (fun _ => 0)))] H := hP
  have hD : va_D A [(h0, .inr (5, [.null, .int 0, .int 0, .null, .int 0, .null])), (q_1, .inl (cA 1, 8, .inl (fun _ => 0)))] := hD
  refine W.widen (k := 1) (n := 8) (Nat.le_of_ble_eq_true rfl) (Nat.le_of_ble_eq_true rfl) ?_
  refine va_putF (D := D) (ci := 5) (v := .ref q_1) (ty := (.array .int)) (C := RX5) (T := TX5) (N := 6) hx hb hts inX5 tyX5 tyX5_ok nmX5 hown hKN.1 hP hD hS 0 rfl rfl 0 (by decide) (hts _ tw_377) (fun _ h9 => h9) rfl hin rfl (by decide +kernel) rfl rfl (Nat.le_of_ble_eq_true rfl) dX5_init_9 (fun H locs hP hD hS => ?_)
  have hP : va_P D vwCl [(h0, .inr (5, [.ref q_1, .int 0, .int 0, .null, .int 0, .null])), (q_1, .inl (cA 1, 8, .inl (fun _ => 0)))] H := hP
  have hD : va_D A [(h0, .inr (5, [.ref q_1, .int 0, .int 0, .null, .int 0, .null])), (q_1, .inl (cA 1, 8, .inl (fun _ => 0)))] := hD
  refine lv_aload_n hx hb dX5_init_12 rfl (lv_at hl 0 rfl) ?_
  refine lv_bipush (v := 8) hx hb dX5_init_13 (by decide) ?_
  refine nwA (atype := .int) (ty := .int) (a0 := (8, .inl (fun _ => 0))) hx hb (hts _ tw_223) rfl hKN 1 rfl (fun _ h => h) hP hD hS hA (fun _ => rfl) (by decide) (by decide) (by decide) (Nat.le_of_ble_eq_true rfl) (Nat.le_of_ble_eq_true rfl) dX5_init_15 (fun q_2 H hP hD hS => ?_)
  have hP : va_P D vwCl [(h0, .inr (5, [.ref q_1, .int 0, .int 0, .null, .int 0, .null])), (q_1, .inl (cA 1, 8, .inl (fun _ => 0))), (q_2, .inl (cA 1, 8, .inl (fun _ => 0)))] H := hP
  have hD : va_D A [(h0, .inr (5, [.ref q_1, .int 0, .int 0, .null, .int 0, .null])), (q_1, .inl (cA 1, 8, .inl (fun _ => 0))), (q_2, .inl (cA 1, 8, .inl (fun _ => 0)))] := hD
  refine W.widen (k := 2) (n := 16) (Nat.le_of_ble_eq_true rfl) (Nat.le_of_ble_eq_true rfl) ?_
  refine va_putF (D := D) (ci := 5) (v := .ref q_2) (ty := (.array .int)) (C := RX5) (T := TX5) (N := 6) hx hb hts inX5 tyX5 tyX5_ok nmX5 hown hKN.1 hP hD hS 0 rfl rfl 3 (by decide) (hts _ tw_382) (fun _ h9 => h9) rfl hin rfl (by decide +kernel) rfl rfl (Nat.le_of_ble_eq_true rfl) dX5_init_17 (fun H locs hP hD hS => ?_)
  have hP : va_P D vwCl [(h0, .inr (5, [.ref q_1, .int 0, .int 0, .ref q_2, .int 0, .null])), (q_1, .inl (cA 1, 8, .inl (fun _ => 0))), (q_2, .inl (cA 1, 8, .inl (fun _ => 0)))] H := hP
  have hD : va_D A [(h0, .inr (5, [.ref q_1, .int 0, .int 0, .ref q_2, .int 0, .null])), (q_1, .inl (cA 1, 8, .inl (fun _ => 0))), (q_2, .inl (cA 1, 8, .inl (fun _ => 0)))] := hD
  refine lv_aload_n hx hb dX5_init_20 rfl (lv_at hl 0 rfl) ?_
  refine lv_aload_n hx hb dX5_init_21 rfl (lv_at hl 1 rfl) ?_
  refine va_putF (D := D) (ci := 5) (v := .ref g) (ty := (.object "WristTreaty$Gorge")) (C := RX5) (T := TX5) (N := 6) hx hb hts inX5 tyX5 tyX5_ok nmX5 hown hKN.1 hP hD hS 0 rfl rfl 5 (by decide) (hts _ tw_384) (fun _ h9 => h9) rfl hin rfl (by decide +kernel) rfl rfl (Nat.le_of_ble_eq_true rfl) dX5_init_22 (fun H locs hP hD hS => ?_)
  have hP : va_P D vwCl [(h0, .inr (5, [.ref q_1, .int 0, .int 0, .ref q_2, .int 0, .ref g])), (q_1, .inl (cA 1, 8, .inl (fun _ => 0))), (q_2, .inl (cA 1, 8, .inl (fun _ => 0)))] H := hP
  have hD : va_D A [(h0, .inr (5, [.ref q_1, .int 0, .int 0, .ref q_2, .int 0, .ref g])), (q_1, .inl (cA 1, 8, .inl (fun _ => 0))), (q_2, .inl (cA 1, 8, .inl (fun _ => 0)))] := hD
  have hP9 := hP.sub (ws' := [(h0, .inr (5, [.ref q_1, .int 0, .int 0, .ref q_2, .int 0, .ref g])), (q_1, .inl (cA 1, 8, .inl (fun _ => 0))), (q_2, .inl (cA 1, 8, .inl (fun _ => 0)))]) [0, 1, 2] rfl
  have hD9 := hD.sub (ws' := [(h0, .inr (5, [.ref q_1, .int 0, .int 0, .ref q_2, .int 0, .ref g])), (q_1, .inl (cA 1, 8, .inl (fun _ => 0))), (q_2, .inl (cA 1, 8, .inl (fun _ => 0)))]) [0, 1, 2] (by decide) rfl
  exact W.vret hx hb hr (fun t ht hW => ⟨⟨((selN [q_1, q_2]), (fun _ => 0), (fun _ _ => 0), (fun _ _ => 0)), rfl, trivial, by rw [ht]; exact hP9, hD9⟩, hS.F ht⟩) hS.2.2 dX5_init_25
set_option maxHeartbeats 4000000 in
set_option maxRecDepth 100000 in
theorem k_X8_init (l : Launch) (D : va_G) (cA : Nat → ClassId) (sz : Nat) (h0 : Nat) (g : Nat) : Met l yX8_init (Cond.code yX8_init cX8_init 2 none :: TB) (rmd 1 1 128) (PM D cA sz [(h0, .inr (8, [.null, .null]))] [.ref h0, .ref g]) (va_Qv (fun _ : SU => True) (fun u t => va_P D vwCl [(h0, .inr (8, [.ref (u.1 0), .ref g])), ((u.1 0), .inl (cA 1, 128, .inl (fun _ => 0)))] t.heap ∧ va_D (va_A [(h0, .inr (8, [.null, .null]))] sz) [(h0, .inr (8, [.ref (u.1 0), .ref g])), ((u.1 0), .inl (cA 1, 128, .inl (fun _ => 0)))]) (va_A [(h0, .inr (8, [.null, .null]))] sz)) 1 128 (va_A [(h0, .inr (8, [.null, .null]))] sz) := by
  refine Met.ofW (cc := cX8_init) (maxL := 2) (ret := none) (by decide) rfl ?_
  intro p e s m args below meth c s₁ B hml hv
  obtain ⟨rfl, hsz, hP, hKN, hD0⟩ := hv
  have hx := B.exec
  have hb := B.bytes
  have hr := B.returns
  have hts : ∀ w ∈ TB, w.before _ s = true := fun w h => atoms_spec B.pre w (List.mem_cons_of_mem _ h)
  have hown : s.vm.findClass RX8 = some m.cls := findClass_of_methodNamed B.named
  have hlocks := B.notSynchronized
  have hin : meth.name = "<init>" := (name_of_methodNamed B.named B.method).1
  subst hsz
  have hD := hD0.self (sz := s.heap.size)
  generalize hAe : va_A [(h0, .inr (8, [.null, .null]))] s.heap.size = A at hD ⊢
  have hA : ∀ q : Nat, s.heap.size ≤ q → A q := fun q h => by rw [← hAe]; exact Or.inr h
  have hS : va_S A s.heap s.heap [] := va_S.rf
  have hl := lv_entry ([.ref h0, .ref g]) (n := 2) (Nat.le_of_ble_eq_true rfl)
  rw [lg_entry_eq]
  generalize (lg_sl ([.ref h0, .ref g]) ++ List.replicate (2 - (lg_sl ([.ref h0, .ref g])).length) Slot.unset).toArray = ls at hl ⊢
  have hl : lv_has ls 2 [(0, .ref h0), (1, .ref g)] := hl
  refine lv_aload_n hx hb dX8_init_0 rfl (lv_at hl 0 rfl) ?_
  refine W.objInit hx hb hown (hts _ tw_403) (hts _ tw_128) (hts _ tw_129) rfl (by rw [hml]; exact hl.1) rfl dX8_init_1 (Nat.le_of_ble_eq_true rfl) (Nat.le_of_ble_eq_true rfl) ?_
  refine W.eq (g2 := F0 m 4 ls []) rfl ?_
  refine lv_aload_n hx hb dX8_init_4 rfl (lv_at hl 0 rfl) ?_
  refine lv_sipush (v := 128) hx hb dX8_init_5 (by decide) ?_
  refine nwA (atype := .int) (ty := .int) (a0 := (128, .inl (fun _ => 0))) hx hb (hts _ tw_223) rfl hKN 1 rfl (fun _ h => h) hP hD hS hA (fun _ => rfl) (by decide) (by decide) (by decide) (Nat.le_of_ble_eq_true rfl) (Nat.le_of_ble_eq_true rfl) dX8_init_8 (fun q_1 H hP hD hS => ?_)
  have hP : va_P D vwCl [(h0, .inr (8, [.null, .null])), (q_1, .inl (cA 1, 128, .inl (fun _ => 0)))] H := hP
  have hD : va_D A [(h0, .inr (8, [.null, .null])), (q_1, .inl (cA 1, 128, .inl (fun _ => 0)))] := hD
  refine W.widen (k := 1) (n := 128) (Nat.le_of_ble_eq_true rfl) (Nat.le_of_ble_eq_true rfl) ?_
  refine va_putF (D := D) (ci := 8) (v := .ref q_1) (ty := (.array .int)) (C := RX8) (T := TX8) (N := 2) hx hb hts inX8 tyX8 tyX8_ok nmX8 hown hKN.1 hP hD hS 0 rfl rfl 0 (by decide) (hts _ tw_404) (fun _ h9 => h9) rfl hin rfl (by decide +kernel) rfl rfl (Nat.le_of_ble_eq_true rfl) dX8_init_10 (fun H locs hP hD hS => ?_)
  have hP : va_P D vwCl [(h0, .inr (8, [.ref q_1, .null])), (q_1, .inl (cA 1, 128, .inl (fun _ => 0)))] H := hP
  have hD : va_D A [(h0, .inr (8, [.ref q_1, .null])), (q_1, .inl (cA 1, 128, .inl (fun _ => 0)))] := hD
  refine lv_aload_n hx hb dX8_init_13 rfl (lv_at hl 0 rfl) ?_
  refine lv_aload_n hx hb dX8_init_14 rfl (lv_at hl 1 rfl) ?_
  refine va_putF (D := D) (ci := 8) (v := .ref g) (ty := (.object "WristTreaty$Gorge")) (C := RX8) (T := TX8) (N := 2) hx hb hts inX8 tyX8 tyX8_ok nmX8 hown hKN.1 hP hD hS 0 rfl rfl 1 (by decide) (hts _ tw_405) (fun _ h9 => h9) rfl hin rfl (by decide +kernel) rfl rfl (Nat.le_of_ble_eq_true rfl) dX8_init_15 (fun H locs hP hD hS => ?_)
  have hP : va_P D vwCl [(h0, .inr (8, [.ref q_1, .ref g])), (q_1, .inl (cA 1, 128, .inl (fun _ => 0)))] H := hP
  have hD : va_D A [(h0, .inr (8, [.ref q_1, .ref g])), (q_1, .inl (cA 1, 128, .inl (fun _ => 0)))] := hD
  have hP9 := hP.sub (ws' := [(h0, .inr (8, [.ref q_1, .ref g])), (q_1, .inl (cA 1, 128, .inl (fun _ => 0)))]) [0, 1] rfl
  have hD9 := hD.sub (ws' := [(h0, .inr (8, [.ref q_1, .ref g])), (q_1, .inl (cA 1, 128, .inl (fun _ => 0)))]) [0, 1] (by decide) rfl
  exact W.vret hx hb hr (fun t ht hW => ⟨⟨((selN [q_1]), (fun _ => 0), (fun _ _ => 0), (fun _ _ => 0)), rfl, trivial, by rw [ht]; exact hP9, hD9⟩, hS.F ht⟩) hS.2.2 dX8_init_18
set_option maxHeartbeats 4000000 in
set_option maxRecDepth 100000 in
theorem k_X0_init (l : Launch) (D : va_G) (cA : Nat → ClassId) (sz : Nat) (h0 : Nat) (g : Nat) : Met l yX0_init (Cond.code yX0_init cX0_init 2 none :: TB) (rmd 1 3 384) (PM D cA sz [(h0, .inr (0, [.int 0, .int 0, .int 0, .null, .null, .null, .null]))] [.ref h0, .ref g]) (va_Qv (fun _ : SU => True) (fun u t => va_P D vwCl [(h0, .inr (0, [.int 0, .int (-1), .int 0, .ref (u.1 0), .ref (u.1 1), .ref (u.1 2), .ref g])), ((u.1 0), .inl (cA 1, 128, .inl (fun _ => 0))), ((u.1 1), .inl (cA 1, 128, .inl (fun _ => 0))), ((u.1 2), .inl (cA 1, 128, .inl (fun _ => 0)))] t.heap ∧ va_D (va_A [(h0, .inr (0, [.int 0, .int 0, .int 0, .null, .null, .null, .null]))] sz) [(h0, .inr (0, [.int 0, .int (-1), .int 0, .ref (u.1 0), .ref (u.1 1), .ref (u.1 2), .ref g])), ((u.1 0), .inl (cA 1, 128, .inl (fun _ => 0))), ((u.1 1), .inl (cA 1, 128, .inl (fun _ => 0))), ((u.1 2), .inl (cA 1, 128, .inl (fun _ => 0)))]) (va_A [(h0, .inr (0, [.int 0, .int 0, .int 0, .null, .null, .null, .null]))] sz)) 3 384 (va_A [(h0, .inr (0, [.int 0, .int 0, .int 0, .null, .null, .null, .null]))] sz) := by
  refine Met.ofW (cc := cX0_init) (maxL := 2) (ret := none) (by decide) rfl ?_
  intro p e s m args below meth c s₁ B hml hv
  obtain ⟨rfl, hsz, hP, hKN, hD0⟩ := hv
  have hx := B.exec
  have hb := B.bytes
  have hr := B.returns
  have hts : ∀ w ∈ TB, w.before _ s = true := fun w h => atoms_spec B.pre w (List.mem_cons_of_mem _ h)
  have hown : s.vm.findClass RX0 = some m.cls := findClass_of_methodNamed B.named
  have hlocks := B.notSynchronized
  have hin : meth.name = "<init>" := (name_of_methodNamed B.named B.method).1
  subst hsz
  have hD := hD0.self (sz := s.heap.size)
  generalize hAe : va_A [(h0, .inr (0, [.int 0, .int 0, .int 0, .null, .null, .null, .null]))] s.heap.size = A at hD ⊢
  have hA : ∀ q : Nat, s.heap.size ≤ q → A q := fun q h => by rw [← hAe]; exact Or.inr h
  have hS : va_S A s.heap s.heap [] := va_S.rf
  have hl := lv_entry ([.ref h0, .ref g]) (n := 2) (Nat.le_of_ble_eq_true rfl)
  rw [lg_entry_eq]
  generalize (lg_sl ([.ref h0, .ref g]) ++ List.replicate (2 - (lg_sl ([.ref h0, .ref g])).length) Slot.unset).toArray = ls at hl ⊢
  have hl : lv_has ls 2 [(0, .ref h0), (1, .ref g)] := hl
  refine lv_aload_n hx hb dX0_init_0 rfl (lv_at hl 0 rfl) ?_
  refine W.objInit hx hb hown (hts _ tw_416) (hts _ tw_128) (hts _ tw_129) rfl (by rw [hml]; exact hl.1) rfl dX0_init_1 (Nat.le_of_ble_eq_true rfl) (Nat.le_of_ble_eq_true rfl) ?_
  refine W.eq (g2 := F0 m 4 ls []) rfl ?_
  refine lv_aload_n hx hb dX0_init_4 rfl (lv_at hl 0 rfl) ?_
  refine lv_iconst (v := (-1)) hx hb dX0_init_5 (by decide) ?_
  refine va_put (D := D) (ci := 0) (v := .int (-1)) (ty := .int) (C := RX0) (T := TX0) (N := 7) hx hb hts inX0 tyX0 tyX0_ok nmX0 hown hKN.1 hP hD hS 0 rfl rfl 1 (by decide) (hts _ tw_419) (fun _ h9 => h9) rfl (by decide +kernel) rfl rfl (Nat.le_of_ble_eq_true rfl) dX0_init_6 (fun H locs hP hD hS => ?_)
  have hP : va_P D vwCl [(h0, .inr (0, [.int 0, .int (-1), .int 0, .null, .null, .null, .null]))] H := hP
  have hD : va_D A [(h0, .inr (0, [.int 0, .int (-1), .int 0, .null, .null, .null, .null]))] := hD
  refine lv_aload_n hx hb dX0_init_9 rfl (lv_at hl 0 rfl) ?_
  refine lv_sipush (v := 128) hx hb dX0_init_10 (by decide) ?_
  refine nwA (atype := .int) (ty := .int) (a0 := (128, .inl (fun _ => 0))) hx hb (hts _ tw_223) rfl hKN 1 rfl (fun _ h => h) hP hD hS hA (fun _ => rfl) (by decide) (by decide) (by decide) (Nat.le_of_ble_eq_true rfl) (Nat.le_of_ble_eq_true rfl) dX0_init_13 (fun q_1 H hP hD hS => ?_)
  have hP : va_P D vwCl [(h0, .inr (0, [.int 0, .int (-1), .int 0, .null, .null, .null, .null])), (q_1, .inl (cA 1, 128, .inl (fun _ => 0)))] H := hP
  have hD : va_D A [(h0, .inr (0, [.int 0, .int (-1), .int 0, .null, .null, .null, .null])), (q_1, .inl (cA 1, 128, .inl (fun _ => 0)))] := hD
  refine W.widen (k := 1) (n := 128) (Nat.le_of_ble_eq_true rfl) (Nat.le_of_ble_eq_true rfl) ?_
  refine va_putF (D := D) (ci := 0) (v := .ref q_1) (ty := (.array .int)) (C := RX0) (T := TX0) (N := 7) hx hb hts inX0 tyX0 tyX0_ok nmX0 hown hKN.1 hP hD hS 0 rfl rfl 3 (by decide) (hts _ tw_422) (fun _ h9 => h9) rfl hin rfl (by decide +kernel) rfl rfl (Nat.le_of_ble_eq_true rfl) dX0_init_15 (fun H locs hP hD hS => ?_)
  have hP : va_P D vwCl [(h0, .inr (0, [.int 0, .int (-1), .int 0, .ref q_1, .null, .null, .null])), (q_1, .inl (cA 1, 128, .inl (fun _ => 0)))] H := hP
  have hD : va_D A [(h0, .inr (0, [.int 0, .int (-1), .int 0, .ref q_1, .null, .null, .null])), (q_1, .inl (cA 1, 128, .inl (fun _ => 0)))] := hD
  refine lv_aload_n hx hb dX0_init_18 rfl (lv_at hl 0 rfl) ?_
  refine lv_sipush (v := 128) hx hb dX0_init_19 (by decide) ?_
  refine nwA (atype := .int) (ty := .int) (a0 := (128, .inl (fun _ => 0))) hx hb (hts _ tw_223) rfl hKN 1 rfl (fun _ h => h) hP hD hS hA (fun _ => rfl) (by decide) (by decide) (by decide) (Nat.le_of_ble_eq_true rfl) (Nat.le_of_ble_eq_true rfl) dX0_init_22 (fun q_2 H hP hD hS => ?_)
  have hP : va_P D vwCl [(h0, .inr (0, [.int 0, .int (-1), .int 0, .ref q_1, .null, .null, .null])), (q_1, .inl (cA 1, 128, .inl (fun _ => 0))), (q_2, .inl (cA 1, 128, .inl (fun _ => 0)))] H := hP
  have hD : va_D A [(h0, .inr (0, [.int 0, .int (-1), .int 0, .ref q_1, .null, .null, .null])), (q_1, .inl (cA 1, 128, .inl (fun _ => 0))), (q_2, .inl (cA 1, 128, .inl (fun _ => 0)))] := hD
  refine W.widen (k := 2) (n := 256) (Nat.le_of_ble_eq_true rfl) (Nat.le_of_ble_eq_true rfl) ?_
  refine va_putF (D := D) (ci := 0) (v := .ref q_2) (ty := (.array .int)) (C := RX0) (T := TX0) (N := 7) hx hb hts inX0 tyX0 tyX0_ok nmX0 hown hKN.1 hP hD hS 0 rfl rfl 4 (by decide) (hts _ tw_423) (fun _ h9 => h9) rfl hin rfl (by decide +kernel) rfl rfl (Nat.le_of_ble_eq_true rfl) dX0_init_24 (fun H locs hP hD hS => ?_)
  have hP : va_P D vwCl [(h0, .inr (0, [.int 0, .int (-1), .int 0, .ref q_1, .ref q_2, .null, .null])), (q_1, .inl (cA 1, 128, .inl (fun _ => 0))), (q_2, .inl (cA 1, 128, .inl (fun _ => 0)))] H := hP
  have hD : va_D A [(h0, .inr (0, [.int 0, .int (-1), .int 0, .ref q_1, .ref q_2, .null, .null])), (q_1, .inl (cA 1, 128, .inl (fun _ => 0))), (q_2, .inl (cA 1, 128, .inl (fun _ => 0)))] := hD
  refine lv_aload_n hx hb dX0_init_27 rfl (lv_at hl 0 rfl) ?_
  refine lv_sipush (v := 128) hx hb dX0_init_28 (by decide) ?_
  refine nwA (atype := .int) (ty := .int) (a0 := (128, .inl (fun _ => 0))) hx hb (hts _ tw_223) rfl hKN 1 rfl (fun _ h => h) hP hD hS hA (fun _ => rfl) (by decide) (by decide) (by decide) (Nat.le_of_ble_eq_true rfl) (Nat.le_of_ble_eq_true rfl) dX0_init_31 (fun q_3 H hP hD hS => ?_)
  have hP : va_P D vwCl [(h0, .inr (0, [.int 0, .int (-1), .int 0, .ref q_1, .ref q_2, .null, .null])), (q_1, .inl (cA 1, 128, .inl (fun _ => 0))), (q_2, .inl (cA 1, 128, .inl (fun _ => 0))), (q_3, .inl (cA 1, 128, .inl (fun _ => 0)))] H := hP
  have hD : va_D A [(h0, .inr (0, [.int 0, .int (-1), .int 0, .ref q_1, .ref q_2, .null, .null])), (q_1, .inl (cA 1, 128, .inl (fun _ => 0))), (q_2, .inl (cA 1, 128, .inl (fun _ => 0))), (q_3, .inl (cA 1, 128, .inl (fun _ => 0)))] := hD
  refine W.widen (k := 3) (n := 384) (Nat.le_of_ble_eq_true rfl) (Nat.le_of_ble_eq_true rfl) ?_
  refine va_putF (D := D) (ci := 0) (v := .ref q_3) (ty := (.array .int)) (C := RX0) (T := TX0) (N := 7) hx hb hts inX0 tyX0 tyX0_ok nmX0 hown hKN.1 hP hD hS 0 rfl rfl 5 (by decide) (hts _ tw_424) (fun _ h9 => h9) rfl hin rfl (by decide +kernel) rfl rfl (Nat.le_of_ble_eq_true rfl) dX0_init_33 (fun H locs hP hD hS => ?_)
  have hP : va_P D vwCl [(h0, .inr (0, [.int 0, .int (-1), .int 0, .ref q_1, .ref q_2, .ref q_3, .null])), (q_1, .inl (cA 1, 128, .inl (fun _ => 0))), (q_2, .inl (cA 1, 128, .inl (fun _ => 0))), (q_3, .inl (cA 1, 128, .inl (fun _ => 0)))] H := hP
  have hD : va_D A [(h0, .inr (0, [.int 0, .int (-1), .int 0, .ref q_1, .ref q_2, .ref q_3, .null])), (q_1, .inl (cA 1, 128, .inl (fun _ => 0))), (q_2, .inl (cA 1, 128, .inl (fun _ => 0))), (q_3, .inl (cA 1, 128, .inl (fun _ => 0)))] := hD
  refine lv_aload_n hx hb dX0_init_36 rfl (lv_at hl 0 rfl) ?_
  refine lv_aload_n hx hb dX0_init_37 rfl (lv_at hl 1 rfl) ?_
  refine va_putF (D := D) (ci := 0) (v := .ref g) (ty := (.object "WristTreaty$Gorge")) (C := RX0) (T := TX0) (N := 7) hx hb hts inX0 tyX0 tyX0_ok nmX0 hown hKN.1 hP hD hS 0 rfl rfl 6 (by decide) (hts _ tw_425) (fun _ h9 => h9) rfl hin rfl (by decide +kernel) rfl rfl (Nat.le_of_ble_eq_true rfl) dX0_init_38 (fun H locs hP hD hS => ?_)
  have hP : va_P D vwCl [(h0, .inr (0, [.int 0, .int (-1), .int 0, .ref q_1, .ref q_2, .ref q_3, .ref g])), (q_1, .inl (cA 1, 128, .inl (fun _ => 0))), (q_2, .inl (cA 1, 128, .inl (fun _ => 0))), (q_3, .inl (cA 1, 128, .inl (fun _ => 0)))] H := hP
  have hD : va_D A [(h0, .inr (0, [.int 0, .int (-1), .int 0, .ref q_1, .ref q_2, .ref q_3, .ref g])), (q_1, .inl (cA 1, 128, .inl (fun _ => 0))), (q_2, .inl (cA 1, 128, .inl (fun _ => 0))), (q_3, .inl (cA 1, 128, .inl (fun _ => 0)))] := hD
  have hP9 := hP.sub (ws' := [(h0, .inr (0, [.int 0, .int (-1), .int 0, .ref q_1, .ref q_2, .ref q_3, .ref g])), (q_1, .inl (cA 1, 128, .inl (fun _ => 0))), (q_2, .inl (cA 1, 128, .inl (fun _ => 0))), (q_3, .inl (cA 1, 128, .inl (fun _ => 0)))]) [0, 1, 2, 3] rfl
  have hD9 := hD.sub (ws' := [(h0, .inr (0, [.int 0, .int (-1), .int 0, .ref q_1, .ref q_2, .ref q_3, .ref g])), (q_1, .inl (cA 1, 128, .inl (fun _ => 0))), (q_2, .inl (cA 1, 128, .inl (fun _ => 0))), (q_3, .inl (cA 1, 128, .inl (fun _ => 0)))]) [0, 1, 2, 3] (by decide) rfl
  exact W.vret hx hb hr (fun t ht hW => ⟨⟨((selN [q_1, q_2, q_3]), (fun _ => 0), (fun _ _ => 0), (fun _ _ => 0)), rfl, trivial, by rw [ht]; exact hP9, hD9⟩, hS.F ht⟩) hS.2.2 dX0_init_41
set_option maxHeartbeats 4000000 in
set_option maxRecDepth 100000 in
theorem k_X10_init (l : Launch) (D : va_G) (cA : Nat → ClassId) (sz : Nat) (h0 : Nat) (g : Nat) (sl : Nat) : Met l yX10_init (Cond.code yX10_init cX10_init 3 none :: TB) (rmd 1 2 280) (PM D cA sz [(h0, .inr (10, [.int 0, .null, .null, .null, .null]))] [.ref h0, .ref g, .ref sl]) (va_Qv (fun _ : SU => True) (fun u t => va_P D vwCl [(h0, .inr (10, [.int 0, .ref (u.1 0), .ref (u.1 1), .ref g, .ref sl])), ((u.1 0), .inl (cA 3, 240, .inl (fun _ => 0))), ((u.1 1), .inl (cA 1, 40, .inl (fun _ => 0)))] t.heap ∧ va_D (va_A [(h0, .inr (10, [.int 0, .null, .null, .null, .null]))] sz) [(h0, .inr (10, [.int 0, .ref (u.1 0), .ref (u.1 1), .ref g, .ref sl])), ((u.1 0), .inl (cA 3, 240, .inl (fun _ => 0))), ((u.1 1), .inl (cA 1, 40, .inl (fun _ => 0)))]) (va_A [(h0, .inr (10, [.int 0, .null, .null, .null, .null]))] sz)) 2 280 (va_A [(h0, .inr (10, [.int 0, .null, .null, .null, .null]))] sz) := by
  refine Met.ofW (cc := cX10_init) (maxL := 3) (ret := none) (by decide) rfl ?_
  intro p e s m args below meth c s₁ B hml hv
  obtain ⟨rfl, hsz, hP, hKN, hD0⟩ := hv
  have hx := B.exec
  have hb := B.bytes
  have hr := B.returns
  have hts : ∀ w ∈ TB, w.before _ s = true := fun w h => atoms_spec B.pre w (List.mem_cons_of_mem _ h)
  have hown : s.vm.findClass RX10 = some m.cls := findClass_of_methodNamed B.named
  have hlocks := B.notSynchronized
  have hin : meth.name = "<init>" := (name_of_methodNamed B.named B.method).1
  subst hsz
  have hD := hD0.self (sz := s.heap.size)
  generalize hAe : va_A [(h0, .inr (10, [.int 0, .null, .null, .null, .null]))] s.heap.size = A at hD ⊢
  have hA : ∀ q : Nat, s.heap.size ≤ q → A q := fun q h => by rw [← hAe]; exact Or.inr h
  have hS : va_S A s.heap s.heap [] := va_S.rf
  have hl := lv_entry ([.ref h0, .ref g, .ref sl]) (n := 3) (Nat.le_of_ble_eq_true rfl)
  rw [lg_entry_eq]
  generalize (lg_sl ([.ref h0, .ref g, .ref sl]) ++ List.replicate (3 - (lg_sl ([.ref h0, .ref g, .ref sl])).length) Slot.unset).toArray = ls at hl ⊢
  have hl : lv_has ls 3 [(0, .ref h0), (1, .ref g), (2, .ref sl)] := hl
  refine lv_aload_n hx hb dX10_init_0 rfl (lv_at hl 0 rfl) ?_
  refine W.objInit hx hb hown (hts _ tw_446) (hts _ tw_128) (hts _ tw_129) rfl (by rw [hml]; exact hl.1) rfl dX10_init_1 (Nat.le_of_ble_eq_true rfl) (Nat.le_of_ble_eq_true rfl) ?_
  refine W.eq (g2 := F0 m 4 ls []) rfl ?_
  refine lv_aload_n hx hb dX10_init_4 rfl (lv_at hl 0 rfl) ?_
  refine lv_sipush (v := 240) hx hb dX10_init_5 (by decide) ?_
  refine nwA (atype := .boolean) (ty := .boolean) (a0 := (240, .inl (fun _ => 0))) hx hb (hts _ tw_464) rfl hKN 3 rfl (fun _ h => h) hP hD hS hA (fun _ => rfl) (by decide) (by decide) (by decide) (Nat.le_of_ble_eq_true rfl) (Nat.le_of_ble_eq_true rfl) dX10_init_8 (fun q_1 H hP hD hS => ?_)
  have hP : va_P D vwCl [(h0, .inr (10, [.int 0, .null, .null, .null, .null])), (q_1, .inl (cA 3, 240, .inl (fun _ => 0)))] H := hP
  have hD : va_D A [(h0, .inr (10, [.int 0, .null, .null, .null, .null])), (q_1, .inl (cA 3, 240, .inl (fun _ => 0)))] := hD
  refine W.widen (k := 1) (n := 240) (Nat.le_of_ble_eq_true rfl) (Nat.le_of_ble_eq_true rfl) ?_
  refine va_putF (D := D) (ci := 10) (v := .ref q_1) (ty := (.array .boolean)) (C := RX10) (T := TX10) (N := 5) hx hb hts inX10 tyX10 tyX10_ok nmX10 hown hKN.1 hP hD hS 0 rfl rfl 1 (by decide) (hts _ tw_449) (fun _ h9 => h9) rfl hin rfl (by decide +kernel) rfl rfl (Nat.le_of_ble_eq_true rfl) dX10_init_10 (fun H locs hP hD hS => ?_)
  have hP : va_P D vwCl [(h0, .inr (10, [.int 0, .ref q_1, .null, .null, .null])), (q_1, .inl (cA 3, 240, .inl (fun _ => 0)))] H := hP
  have hD : va_D A [(h0, .inr (10, [.int 0, .ref q_1, .null, .null, .null])), (q_1, .inl (cA 3, 240, .inl (fun _ => 0)))] := hD
  refine lv_aload_n hx hb dX10_init_13 rfl (lv_at hl 0 rfl) ?_
  refine lv_bipush (v := 40) hx hb dX10_init_14 (by decide) ?_
  refine nwA (atype := .int) (ty := .int) (a0 := (40, .inl (fun _ => 0))) hx hb (hts _ tw_223) rfl hKN 1 rfl (fun _ h => h) hP hD hS hA (fun _ => rfl) (by decide) (by decide) (by decide) (Nat.le_of_ble_eq_true rfl) (Nat.le_of_ble_eq_true rfl) dX10_init_16 (fun q_2 H hP hD hS => ?_)
  have hP : va_P D vwCl [(h0, .inr (10, [.int 0, .ref q_1, .null, .null, .null])), (q_1, .inl (cA 3, 240, .inl (fun _ => 0))), (q_2, .inl (cA 1, 40, .inl (fun _ => 0)))] H := hP
  have hD : va_D A [(h0, .inr (10, [.int 0, .ref q_1, .null, .null, .null])), (q_1, .inl (cA 3, 240, .inl (fun _ => 0))), (q_2, .inl (cA 1, 40, .inl (fun _ => 0)))] := hD
  refine W.widen (k := 2) (n := 280) (Nat.le_of_ble_eq_true rfl) (Nat.le_of_ble_eq_true rfl) ?_
  refine va_putF (D := D) (ci := 10) (v := .ref q_2) (ty := (.array .int)) (C := RX10) (T := TX10) (N := 5) hx hb hts inX10 tyX10 tyX10_ok nmX10 hown hKN.1 hP hD hS 0 rfl rfl 2 (by decide) (hts _ tw_450) (fun _ h9 => h9) rfl hin rfl (by decide +kernel) rfl rfl (Nat.le_of_ble_eq_true rfl) dX10_init_18 (fun H locs hP hD hS => ?_)
  have hP : va_P D vwCl [(h0, .inr (10, [.int 0, .ref q_1, .ref q_2, .null, .null])), (q_1, .inl (cA 3, 240, .inl (fun _ => 0))), (q_2, .inl (cA 1, 40, .inl (fun _ => 0)))] H := hP
  have hD : va_D A [(h0, .inr (10, [.int 0, .ref q_1, .ref q_2, .null, .null])), (q_1, .inl (cA 3, 240, .inl (fun _ => 0))), (q_2, .inl (cA 1, 40, .inl (fun _ => 0)))] := hD
  refine lv_aload_n hx hb dX10_init_21 rfl (lv_at hl 0 rfl) ?_
  refine lv_aload_n hx hb dX10_init_22 rfl (lv_at hl 1 rfl) ?_
  refine va_putF (D := D) (ci := 10) (v := .ref g) (ty := (.object "WristTreaty$Gorge")) (C := RX10) (T := TX10) (N := 5) hx hb hts inX10 tyX10 tyX10_ok nmX10 hown hKN.1 hP hD hS 0 rfl rfl 3 (by decide) (hts _ tw_451) (fun _ h9 => h9) rfl hin rfl (by decide +kernel) rfl rfl (Nat.le_of_ble_eq_true rfl) dX10_init_23 (fun H locs hP hD hS => ?_)
  have hP : va_P D vwCl [(h0, .inr (10, [.int 0, .ref q_1, .ref q_2, .ref g, .null])), (q_1, .inl (cA 3, 240, .inl (fun _ => 0))), (q_2, .inl (cA 1, 40, .inl (fun _ => 0)))] H := hP
  have hD : va_D A [(h0, .inr (10, [.int 0, .ref q_1, .ref q_2, .ref g, .null])), (q_1, .inl (cA 3, 240, .inl (fun _ => 0))), (q_2, .inl (cA 1, 40, .inl (fun _ => 0)))] := hD
  refine lv_aload_n hx hb dX10_init_26 rfl (lv_at hl 0 rfl) ?_
  refine lv_aload_n hx hb dX10_init_27 rfl (lv_at hl 2 rfl) ?_
  refine va_putF (D := D) (ci := 10) (v := .ref sl) (ty := (.object "WristTreaty$Slots")) (C := RX10) (T := TX10) (N := 5) hx hb hts inX10 tyX10 tyX10_ok nmX10 hown hKN.1 hP hD hS 0 rfl rfl 4 (by decide) (hts _ tw_452) (fun _ h9 => h9) rfl hin rfl (by decide +kernel) rfl rfl (Nat.le_of_ble_eq_true rfl) dX10_init_28 (fun H locs hP hD hS => ?_)
  have hP : va_P D vwCl [(h0, .inr (10, [.int 0, .ref q_1, .ref q_2, .ref g, .ref sl])), (q_1, .inl (cA 3, 240, .inl (fun _ => 0))), (q_2, .inl (cA 1, 40, .inl (fun _ => 0)))] H := hP
  have hD : va_D A [(h0, .inr (10, [.int 0, .ref q_1, .ref q_2, .ref g, .ref sl])), (q_1, .inl (cA 3, 240, .inl (fun _ => 0))), (q_2, .inl (cA 1, 40, .inl (fun _ => 0)))] := hD
  have hP9 := hP.sub (ws' := [(h0, .inr (10, [.int 0, .ref q_1, .ref q_2, .ref g, .ref sl])), (q_1, .inl (cA 3, 240, .inl (fun _ => 0))), (q_2, .inl (cA 1, 40, .inl (fun _ => 0)))]) [0, 1, 2] rfl
  have hD9 := hD.sub (ws' := [(h0, .inr (10, [.int 0, .ref q_1, .ref q_2, .ref g, .ref sl])), (q_1, .inl (cA 3, 240, .inl (fun _ => 0))), (q_2, .inl (cA 1, 40, .inl (fun _ => 0)))]) [0, 1, 2] (by decide) rfl
  exact W.vret hx hb hr (fun t ht hW => ⟨⟨((selN [q_1, q_2]), (fun _ => 0), (fun _ _ => 0), (fun _ _ => 0)), rfl, trivial, by rw [ht]; exact hP9, hD9⟩, hS.F ht⟩) hS.2.2 dX10_init_31
set_option maxHeartbeats 4000000 in
set_option maxRecDepth 100000 in
theorem k_X11_init (l : Launch) (D : va_G) (cA : Nat → ClassId) (sz : Nat) (h0 : Nat) : Met l yX11_init (Cond.code yX11_init cX11_init 2 none :: TB) (rmd 3 86 3017) (PM D cA sz [(h0, .inr (11, [.null, .null, .null, .null, .null, .null, .null, .null, .null, .null, .null]))] [.ref h0]) (va_Qv (fun _ : SU => True) (fun u t => va_P D vwCl [(h0, .inr (11, [.ref (u.1 0), .ref (u.1 2), .ref (u.1 13), .ref (u.1 22), .ref (u.1 26), .ref (u.1 69), .ref (u.1 73), .ref (u.1 74), .ref (u.1 77), .ref (u.1 79), .ref (u.1 83)])), ((u.1 0), .inr (9, [.ref (u.1 1), .int 0])), ((u.1 1), .inl (cA 0, 800, .inl (fun _ => 0))), ((u.1 2), .inr (6, [.ref (u.1 3), .int 0, .int (-1), .ref (u.1 0), .int 0, .int 0, .int 0, .int 0, .int 0, .int 0, .int 0, .int 0, .ref (u.1 12)])), ((u.1 3), .inr (3, [.int 0, .int 0, .int 0, .int 0, .int 0, .int 0, .int 0, .int 0, .ref (u.1 4), .ref (u.1 5), .ref (u.1 6), .ref (u.1 7), .ref (u.1 8), .ref (u.1 9), .ref (u.1 10), .ref (u.1 11)])), ((u.1 4), .inl (cA 1, 8, .inl (fun _ => 0))), ((u.1 5), .inl (cA 1, 8, .inl (fun _ => 0))), ((u.1 6), .inl (cA 1, 8, .inl (fun _ => 0))), ((u.1 7), .inl (cA 1, 7, .inl (fun _ => 0))), ((u.1 8), .inl (cA 1, 7, .inl (fun _ => 0))), ((u.1 9), .inl (cA 1, 7, .inl (fun _ => 0))), ((u.1 10), .inl (cA 1, 4, .inl (fun _ => 0))), ((u.1 11), .inl (cA 1, 4, .inl (fun _ => 0))), ((u.1 12), .inl (cA 1, 3, .inl (fun _ => 0))), ((u.1 13), .inr (3, [.int 0, .int 0, .int 0, .int 0, .int 0, .int 0, .int 0, .int 0, .ref (u.1 14), .ref (u.1 15), .ref (u.1 16), .ref (u.1 17), .ref (u.1 18), .ref (u.1 19), .ref (u.1 20), .ref (u.1 21)])), ((u.1 14), .inl (cA 1, 8, .inl (fun _ => 0))), ((u.1 15), .inl (cA 1, 8, .inl (fun _ => 0))), ((u.1 16), .inl (cA 1, 8, .inl (fun _ => 0))), ((u.1 17), .inl (cA 1, 7, .inl (fun _ => 0))), ((u.1 18), .inl (cA 1, 7, .inl (fun _ => 0))), ((u.1 19), .inl (cA 1, 7, .inl (fun _ => 0))), ((u.1 20), .inl (cA 1, 4, .inl (fun _ => 0))), ((u.1 21), .inl (cA 1, 4, .inl (fun _ => 0))), ((u.1 22), .inr (2, [.int (-1), .int (-1), .int 0, .int 0, .int 0, .int 0, .int 0, .ref (u.1 23), .ref (u.1 24), .ref (u.1 25)])), ((u.1 23), .inl (cA 1, 60, .inl (fun _ => 0))), ((u.1 24), .inl (cA 1, 60, .inl (fun _ => 0))), ((u.1 25), .inl (cA 1, 60, .inl (fun _ => 0))), ((u.1 26), .inl (cA 4, 3, .inr (.inr (.inr (.inr (selO [(u.1 27), (u.1 41), (u.1 55)])))))), ((u.1 27), .inr (4, [.ref (u.1 28), .ref (u.1 37), .int 0])), ((u.1 28), .inr (3, [.int 0, .int 0, .int 0, .int 0, .int 0, .int 0, .int 0, .int 0, .ref (u.1 29), .ref (u.1 30), .ref (u.1 31), .ref (u.1 32), .ref (u.1 33), .ref (u.1 34), .ref (u.1 35), .ref (u.1 36)])), ((u.1 29), .inl (cA 1, 8, .inl (fun _ => 0))), ((u.1 30), .inl (cA 1, 8, .inl (fun _ => 0))), ((u.1 31), .inl (cA 1, 8, .inl (fun _ => 0))), ((u.1 32), .inl (cA 1, 7, .inl (fun _ => 0))), ((u.1 33), .inl (cA 1, 7, .inl (fun _ => 0))), ((u.1 34), .inl (cA 1, 7, .inl (fun _ => 0))), ((u.1 35), .inl (cA 1, 4, .inl (fun _ => 0))), ((u.1 36), .inl (cA 1, 4, .inl (fun _ => 0))), ((u.1 37), .inr (2, [.int (-1), .int (-1), .int 0, .int 0, .int 0, .int 0, .int 0, .ref (u.1 38), .ref (u.1 39), .ref (u.1 40)])), ((u.1 38), .inl (cA 1, 60, .inl (fun _ => 0))), ((u.1 39), .inl (cA 1, 60, .inl (fun _ => 0))), ((u.1 40), .inl (cA 1, 60, .inl (fun _ => 0))), ((u.1 41), .inr (4, [.ref (u.1 42), .ref (u.1 51), .int 0])), ((u.1 42), .inr (3, [.int 0, .int 0, .int 0, .int 0, .int 0, .int 0, .int 0, .int 0, .ref (u.1 43), .ref (u.1 44), .ref (u.1 45), .ref (u.1 46), .ref (u.1 47), .ref (u.1 48), .ref (u.1 49), .ref (u.1 50)])), ((u.1 43), .inl (cA 1, 8, .inl (fun _ => 0))), ((u.1 44), .inl (cA 1, 8, .inl (fun _ => 0))), ((u.1 45), .inl (cA 1, 8, .inl (fun _ => 0))), ((u.1 46), .inl (cA 1, 7, .inl (fun _ => 0))), ((u.1 47), .inl (cA 1, 7, .inl (fun _ => 0))), ((u.1 48), .inl (cA 1, 7, .inl (fun _ => 0))), ((u.1 49), .inl (cA 1, 4, .inl (fun _ => 0))), ((u.1 50), .inl (cA 1, 4, .inl (fun _ => 0))), ((u.1 51), .inr (2, [.int (-1), .int (-1), .int 0, .int 0, .int 0, .int 0, .int 0, .ref (u.1 52), .ref (u.1 53), .ref (u.1 54)])), ((u.1 52), .inl (cA 1, 60, .inl (fun _ => 0))), ((u.1 53), .inl (cA 1, 60, .inl (fun _ => 0))), ((u.1 54), .inl (cA 1, 60, .inl (fun _ => 0))), ((u.1 55), .inr (4, [.ref (u.1 56), .ref (u.1 65), .int 0])), ((u.1 56), .inr (3, [.int 0, .int 0, .int 0, .int 0, .int 0, .int 0, .int 0, .int 0, .ref (u.1 57), .ref (u.1 58), .ref (u.1 59), .ref (u.1 60), .ref (u.1 61), .ref (u.1 62), .ref (u.1 63), .ref (u.1 64)])), ((u.1 57), .inl (cA 1, 8, .inl (fun _ => 0))), ((u.1 58), .inl (cA 1, 8, .inl (fun _ => 0))), ((u.1 59), .inl (cA 1, 8, .inl (fun _ => 0))), ((u.1 60), .inl (cA 1, 7, .inl (fun _ => 0))), ((u.1 61), .inl (cA 1, 7, .inl (fun _ => 0))), ((u.1 62), .inl (cA 1, 7, .inl (fun _ => 0))), ((u.1 63), .inl (cA 1, 4, .inl (fun _ => 0))), ((u.1 64), .inl (cA 1, 4, .inl (fun _ => 0))), ((u.1 65), .inr (2, [.int (-1), .int (-1), .int 0, .int 0, .int 0, .int 0, .int 0, .ref (u.1 66), .ref (u.1 67), .ref (u.1 68)])), ((u.1 66), .inl (cA 1, 60, .inl (fun _ => 0))), ((u.1 67), .inl (cA 1, 60, .inl (fun _ => 0))), ((u.1 68), .inl (cA 1, 60, .inl (fun _ => 0))), ((u.1 69), .inr (7, [.ref (u.1 72), .ref (u.1 70), .ref (u.1 71)])), ((u.1 70), .inl (cA 1, 4, .inl (fun _ => 0))), ((u.1 71), .inl (cA 2, 240, .inr (.inl (fun _ => 0)))), ((u.1 72), .inl (cA 1, 4, .inl (u.2.2.1 0))), ((u.1 73), .inr (1, [.int (-1), .int 1, .ref (u.1 13)])), ((u.1 74), .inr (5, [.ref (u.1 75), .int 0, .int 0, .ref (u.1 76), .int 0, .ref (u.1 13)])), ((u.1 75), .inl (cA 1, 8, .inl (fun _ => 0))), ((u.1 76), .inl (cA 1, 8, .inl (fun _ => 0))), ((u.1 77), .inr (8, [.ref (u.1 78), .ref (u.1 13)])), ((u.1 78), .inl (cA 1, 128, .inl (fun _ => 0))), ((u.1 79), .inr (0, [.int 0, .int (-1), .int 0, .ref (u.1 80), .ref (u.1 81), .ref (u.1 82), .ref (u.1 13)])), ((u.1 80), .inl (cA 1, 128, .inl (fun _ => 0))), ((u.1 81), .inl (cA 1, 128, .inl (fun _ => 0))), ((u.1 82), .inl (cA 1, 128, .inl (fun _ => 0))), ((u.1 83), .inr (10, [.int 0, .ref (u.1 84), .ref (u.1 85), .ref (u.1 13), .ref (u.1 69)])), ((u.1 84), .inl (cA 3, 240, .inl (fun _ => 0))), ((u.1 85), .inl (cA 1, 40, .inl (fun _ => 0)))] t.heap ∧ va_D (va_A [(h0, .inr (11, [.null, .null, .null, .null, .null, .null, .null, .null, .null, .null, .null]))] sz) [(h0, .inr (11, [.ref (u.1 0), .ref (u.1 2), .ref (u.1 13), .ref (u.1 22), .ref (u.1 26), .ref (u.1 69), .ref (u.1 73), .ref (u.1 74), .ref (u.1 77), .ref (u.1 79), .ref (u.1 83)])), ((u.1 0), .inr (9, [.ref (u.1 1), .int 0])), ((u.1 1), .inl (cA 0, 800, .inl (fun _ => 0))), ((u.1 2), .inr (6, [.ref (u.1 3), .int 0, .int (-1), .ref (u.1 0), .int 0, .int 0, .int 0, .int 0, .int 0, .int 0, .int 0, .int 0, .ref (u.1 12)])), ((u.1 3), .inr (3, [.int 0, .int 0, .int 0, .int 0, .int 0, .int 0, .int 0, .int 0, .ref (u.1 4), .ref (u.1 5), .ref (u.1 6), .ref (u.1 7), .ref (u.1 8), .ref (u.1 9), .ref (u.1 10), .ref (u.1 11)])), ((u.1 4), .inl (cA 1, 8, .inl (fun _ => 0))), ((u.1 5), .inl (cA 1, 8, .inl (fun _ => 0))), ((u.1 6), .inl (cA 1, 8, .inl (fun _ => 0))), ((u.1 7), .inl (cA 1, 7, .inl (fun _ => 0))), ((u.1 8), .inl (cA 1, 7, .inl (fun _ => 0))), ((u.1 9), .inl (cA 1, 7, .inl (fun _ => 0))), ((u.1 10), .inl (cA 1, 4, .inl (fun _ => 0))), ((u.1 11), .inl (cA 1, 4, .inl (fun _ => 0))), ((u.1 12), .inl (cA 1, 3, .inl (fun _ => 0))), ((u.1 13), .inr (3, [.int 0, .int 0, .int 0, .int 0, .int 0, .int 0, .int 0, .int 0, .ref (u.1 14), .ref (u.1 15), .ref (u.1 16), .ref (u.1 17), .ref (u.1 18), .ref (u.1 19), .ref (u.1 20), .ref (u.1 21)])), ((u.1 14), .inl (cA 1, 8, .inl (fun _ => 0))), ((u.1 15), .inl (cA 1, 8, .inl (fun _ => 0))), ((u.1 16), .inl (cA 1, 8, .inl (fun _ => 0))), ((u.1 17), .inl (cA 1, 7, .inl (fun _ => 0))), ((u.1 18), .inl (cA 1, 7, .inl (fun _ => 0))), ((u.1 19), .inl (cA 1, 7, .inl (fun _ => 0))), ((u.1 20), .inl (cA 1, 4, .inl (fun _ => 0))), ((u.1 21), .inl (cA 1, 4, .inl (fun _ => 0))), ((u.1 22), .inr (2, [.int (-1), .int (-1), .int 0, .int 0, .int 0, .int 0, .int 0, .ref (u.1 23), .ref (u.1 24), .ref (u.1 25)])), ((u.1 23), .inl (cA 1, 60, .inl (fun _ => 0))), ((u.1 24), .inl (cA 1, 60, .inl (fun _ => 0))), ((u.1 25), .inl (cA 1, 60, .inl (fun _ => 0))), ((u.1 26), .inl (cA 4, 3, .inr (.inr (.inr (.inr (selO [(u.1 27), (u.1 41), (u.1 55)])))))), ((u.1 27), .inr (4, [.ref (u.1 28), .ref (u.1 37), .int 0])), ((u.1 28), .inr (3, [.int 0, .int 0, .int 0, .int 0, .int 0, .int 0, .int 0, .int 0, .ref (u.1 29), .ref (u.1 30), .ref (u.1 31), .ref (u.1 32), .ref (u.1 33), .ref (u.1 34), .ref (u.1 35), .ref (u.1 36)])), ((u.1 29), .inl (cA 1, 8, .inl (fun _ => 0))), ((u.1 30), .inl (cA 1, 8, .inl (fun _ => 0))), ((u.1 31), .inl (cA 1, 8, .inl (fun _ => 0))), ((u.1 32), .inl (cA 1, 7, .inl (fun _ => 0))), ((u.1 33), .inl (cA 1, 7, .inl (fun _ => 0))), ((u.1 34), .inl (cA 1, 7, .inl (fun _ => 0))), ((u.1 35), .inl (cA 1, 4, .inl (fun _ => 0))), ((u.1 36), .inl (cA 1, 4, .inl (fun _ => 0))), ((u.1 37), .inr (2, [.int (-1), .int (-1), .int 0, .int 0, .int 0, .int 0, .int 0, .ref (u.1 38), .ref (u.1 39), .ref (u.1 40)])), ((u.1 38), .inl (cA 1, 60, .inl (fun _ => 0))), ((u.1 39), .inl (cA 1, 60, .inl (fun _ => 0))), ((u.1 40), .inl (cA 1, 60, .inl (fun _ => 0))), ((u.1 41), .inr (4, [.ref (u.1 42), .ref (u.1 51), .int 0])), ((u.1 42), .inr (3, [.int 0, .int 0, .int 0, .int 0, .int 0, .int 0, .int 0, .int 0, .ref (u.1 43), .ref (u.1 44), .ref (u.1 45), .ref (u.1 46), .ref (u.1 47), .ref (u.1 48), .ref (u.1 49), .ref (u.1 50)])), ((u.1 43), .inl (cA 1, 8, .inl (fun _ => 0))), ((u.1 44), .inl (cA 1, 8, .inl (fun _ => 0))), ((u.1 45), .inl (cA 1, 8, .inl (fun _ => 0))), ((u.1 46), .inl (cA 1, 7, .inl (fun _ => 0))), ((u.1 47), .inl (cA 1, 7, .inl (fun _ => 0))), ((u.1 48), .inl (cA 1, 7, .inl (fun _ => 0))), ((u.1 49), .inl (cA 1, 4, .inl (fun _ => 0))), ((u.1 50), .inl (cA 1, 4, .inl (fun _ => 0))), ((u.1 51), .inr (2, [.int (-1), .int (-1), .int 0, .int 0, .int 0, .int 0, .int 0, .ref (u.1 52), .ref (u.1 53), .ref (u.1 54)])), ((u.1 52), .inl (cA 1, 60, .inl (fun _ => 0))), ((u.1 53), .inl (cA 1, 60, .inl (fun _ => 0))), ((u.1 54), .inl (cA 1, 60, .inl (fun _ => 0))), ((u.1 55), .inr (4, [.ref (u.1 56), .ref (u.1 65), .int 0])), ((u.1 56), .inr (3, [.int 0, .int 0, .int 0, .int 0, .int 0, .int 0, .int 0, .int 0, .ref (u.1 57), .ref (u.1 58), .ref (u.1 59), .ref (u.1 60), .ref (u.1 61), .ref (u.1 62), .ref (u.1 63), .ref (u.1 64)])), ((u.1 57), .inl (cA 1, 8, .inl (fun _ => 0))), ((u.1 58), .inl (cA 1, 8, .inl (fun _ => 0))), ((u.1 59), .inl (cA 1, 8, .inl (fun _ => 0))), ((u.1 60), .inl (cA 1, 7, .inl (fun _ => 0))), ((u.1 61), .inl (cA 1, 7, .inl (fun _ => 0))), ((u.1 62), .inl (cA 1, 7, .inl (fun _ => 0))), ((u.1 63), .inl (cA 1, 4, .inl (fun _ => 0))), ((u.1 64), .inl (cA 1, 4, .inl (fun _ => 0))), ((u.1 65), .inr (2, [.int (-1), .int (-1), .int 0, .int 0, .int 0, .int 0, .int 0, .ref (u.1 66), .ref (u.1 67), .ref (u.1 68)])), ((u.1 66), .inl (cA 1, 60, .inl (fun _ => 0))), ((u.1 67), .inl (cA 1, 60, .inl (fun _ => 0))), ((u.1 68), .inl (cA 1, 60, .inl (fun _ => 0))), ((u.1 69), .inr (7, [.ref (u.1 72), .ref (u.1 70), .ref (u.1 71)])), ((u.1 70), .inl (cA 1, 4, .inl (fun _ => 0))), ((u.1 71), .inl (cA 2, 240, .inr (.inl (fun _ => 0)))), ((u.1 72), .inl (cA 1, 4, .inl (u.2.2.1 0))), ((u.1 73), .inr (1, [.int (-1), .int 1, .ref (u.1 13)])), ((u.1 74), .inr (5, [.ref (u.1 75), .int 0, .int 0, .ref (u.1 76), .int 0, .ref (u.1 13)])), ((u.1 75), .inl (cA 1, 8, .inl (fun _ => 0))), ((u.1 76), .inl (cA 1, 8, .inl (fun _ => 0))), ((u.1 77), .inr (8, [.ref (u.1 78), .ref (u.1 13)])), ((u.1 78), .inl (cA 1, 128, .inl (fun _ => 0))), ((u.1 79), .inr (0, [.int 0, .int (-1), .int 0, .ref (u.1 80), .ref (u.1 81), .ref (u.1 82), .ref (u.1 13)])), ((u.1 80), .inl (cA 1, 128, .inl (fun _ => 0))), ((u.1 81), .inl (cA 1, 128, .inl (fun _ => 0))), ((u.1 82), .inl (cA 1, 128, .inl (fun _ => 0))), ((u.1 83), .inr (10, [.int 0, .ref (u.1 84), .ref (u.1 85), .ref (u.1 13), .ref (u.1 69)])), ((u.1 84), .inl (cA 3, 240, .inl (fun _ => 0))), ((u.1 85), .inl (cA 1, 40, .inl (fun _ => 0)))]) (va_A [(h0, .inr (11, [.null, .null, .null, .null, .null, .null, .null, .null, .null, .null, .null]))] sz)) 86 3017 (va_A [(h0, .inr (11, [.null, .null, .null, .null, .null, .null, .null, .null, .null, .null, .null]))] sz) := by
  refine Met.ofW (cc := cX11_init) (maxL := 2) (ret := none) (by decide) rfl ?_
  intro p e s m args below meth c s₁ B hml hv
  obtain ⟨rfl, hsz, hP, hKN, hD0⟩ := hv
  have hx := B.exec
  have hb := B.bytes
  have hr := B.returns
  have hts : ∀ w ∈ TB, w.before _ s = true := fun w h => atoms_spec B.pre w (List.mem_cons_of_mem _ h)
  have hown : s.vm.findClass RX11 = some m.cls := findClass_of_methodNamed B.named
  have hlocks := B.notSynchronized
  have hin : meth.name = "<init>" := (name_of_methodNamed B.named B.method).1
  subst hsz
  have hD := hD0.self (sz := s.heap.size)
  generalize hAe : va_A [(h0, .inr (11, [.null, .null, .null, .null, .null, .null, .null, .null, .null, .null, .null]))] s.heap.size = A at hD ⊢
  have hA : ∀ q : Nat, s.heap.size ≤ q → A q := fun q h => by rw [← hAe]; exact Or.inr h
  have hS : va_S A s.heap s.heap [] := va_S.rf
  have hl := lv_entry ([.ref h0]) (n := 2) (Nat.le_of_ble_eq_true rfl)
  rw [lg_entry_eq]
  generalize (lg_sl ([.ref h0]) ++ List.replicate (2 - (lg_sl ([.ref h0])).length) Slot.unset).toArray = ls at hl ⊢
  have hl : lv_has ls 2 [(0, .ref h0)] := hl
  refine lv_aload_n hx hb dX11_init_0 rfl (lv_at hl 0 rfl) ?_
  refine W.objInit hx hb hown (hts _ tw_127) (hts _ tw_128) (hts _ tw_129) rfl (by rw [hml]; exact hl.1) rfl dX11_init_1 (Nat.le_of_ble_eq_true rfl) (Nat.le_of_ble_eq_true rfl) ?_
  refine W.eq (g2 := F0 m 4 ls []) rfl ?_
  refine lv_aload_n hx hb dX11_init_4 rfl (lv_at hl 0 rfl) ?_
  refine va_new (ci := 9) (fs := [.null, .int 0]) (C := RX9) (T := TX9) (N := 2) hx hb hts inX9 tyX9 tyX9_ok hown (hts _ tw_130) (hts _ tw_131) (hts _ tw_102) hKN.1 hP hD hS hA rfl dfX9 (Nat.le_of_ble_eq_true rfl) (Nat.le_of_ble_eq_true rfl) dX11_init_5 (fun q_1 H hP hD hS => ?_)
  have hP : va_P D vwCl [(h0, .inr (11, [.null, .null, .null, .null, .null, .null, .null, .null, .null, .null, .null])), (q_1, .inr (9, [.null, .int 0]))] H := hP
  have hD : va_D A [(h0, .inr (11, [.null, .null, .null, .null, .null, .null, .null, .null, .null, .null, .null])), (q_1, .inr (9, [.null, .int 0]))] := hD
  refine W.widen (k := 1) (n := 2) (Nat.le_of_ble_eq_true rfl) (Nat.le_of_ble_eq_true rfl) ?_
  refine lv_dup hx hb dX11_init_8 rfl ?_
  refine cmINv (rest := [.ref q_1, .ref h0]) (wsC := [(q_1, .inr (9, [.null, .int 0]))]) (wr := [(h0, .inr (11, [.null, .null, .null, .null, .null, .null, .null, .null, .null, .null, .null]))]) ⟨hx, hb, hml, hown, hts⟩ hKN hP hD hS hA [1] [0] rfl rfl (by decide) (by decide) (by decide) (k_X9_init l D cA _ q_1) ⟨nw_0, tw_133, tw_102, tw_134⟩ hdX9_init ⟨rfl, rfl, Nat.le_of_ble_eq_true rfl, Nat.le_of_ble_eq_true rfl⟩ ⟨Nat.le_of_ble_eq_true rfl, Nat.le_of_ble_eq_true rfl⟩ rfl hl.1 rfl (Nat.le_of_ble_eq_true rfl) dX11_init_9 (fun u_2 H locs hr_2 hP hD hS => ?_)
  have hP : va_P D vwCl [(h0, .inr (11, [.null, .null, .null, .null, .null, .null, .null, .null, .null, .null, .null])), (q_1, .inr (9, [.ref (u_2.1 0), .int 0])), ((u_2.1 0), .inl (cA 0, 800, .inl (fun _ => 0)))] H := hP
  have hD : va_D A [(h0, .inr (11, [.null, .null, .null, .null, .null, .null, .null, .null, .null, .null, .null])), (q_1, .inr (9, [.ref (u_2.1 0), .int 0])), ((u_2.1 0), .inl (cA 0, 800, .inl (fun _ => 0)))] := hD
  refine W.widen (k := 2) (n := 802) (Nat.le_of_ble_eq_true rfl) (Nat.le_of_ble_eq_true rfl) ?_
  refine va_putF (D := D) (ci := 11) (v := .ref q_1) (ty := (.object "WristTreaty$Tape")) (C := RX11) (T := TX11) (N := 11) hx hb hts inX11 tyX11 tyX11_ok nmX11 hown hKN.1 hP hD hS 0 rfl rfl 0 (by decide) (hts _ tw_465) (fun _ h9 => h9) rfl hin rfl (by decide +kernel) rfl rfl (Nat.le_of_ble_eq_true rfl) dX11_init_12 (fun H locs hP hD hS => ?_)
  have hP : va_P D vwCl [(h0, .inr (11, [.ref q_1, .null, .null, .null, .null, .null, .null, .null, .null, .null, .null])), (q_1, .inr (9, [.ref (u_2.1 0), .int 0])), ((u_2.1 0), .inl (cA 0, 800, .inl (fun _ => 0)))] H := hP
  have hD : va_D A [(h0, .inr (11, [.ref q_1, .null, .null, .null, .null, .null, .null, .null, .null, .null, .null])), (q_1, .inr (9, [.ref (u_2.1 0), .int 0])), ((u_2.1 0), .inl (cA 0, 800, .inl (fun _ => 0)))] := hD
  refine lv_aload_n hx hb dX11_init_15 rfl (lv_at hl 0 rfl) ?_
  refine va_new (ci := 6) (fs := [.null, .int 0, .int 0, .null, .int 0, .int 0, .int 0, .int 0, .int 0, .int 0, .int 0, .int 0, .null]) (C := RX6) (T := TX6) (N := 13) hx hb hts inX6 tyX6 tyX6_ok hown (hts _ tw_146) (hts _ tw_147) (hts _ tw_103) hKN.1 hP hD hS hA rfl dfX6 (Nat.le_of_ble_eq_true rfl) (Nat.le_of_ble_eq_true rfl) dX11_init_16 (fun q_3 H hP hD hS => ?_)
  have hP : va_P D vwCl [(h0, .inr (11, [.ref q_1, .null, .null, .null, .null, .null, .null, .null, .null, .null, .null])), (q_1, .inr (9, [.ref (u_2.1 0), .int 0])), ((u_2.1 0), .inl (cA 0, 800, .inl (fun _ => 0))), (q_3, .inr (6, [.null, .int 0, .int 0, .null, .int 0, .int 0, .int 0, .int 0, .int 0, .int 0, .int 0, .int 0, .null]))] H := hP
  have hD : va_D A [(h0, .inr (11, [.ref q_1, .null, .null, .null, .null, .null, .null, .null, .null, .null, .null])), (q_1, .inr (9, [.ref (u_2.1 0), .int 0])), ((u_2.1 0), .inl (cA 0, 800, .inl (fun _ => 0))), (q_3, .inr (6, [.null, .int 0, .int 0, .null, .int 0, .int 0, .int 0, .int 0, .int 0, .int 0, .int 0, .int 0, .null]))] := hD
  refine W.widen (k := 3) (n := 815) (Nat.le_of_ble_eq_true rfl) (Nat.le_of_ble_eq_true rfl) ?_
  refine lv_dup hx hb dX11_init_19 rfl ?_
  refine lv_aload_n hx hb dX11_init_20 rfl (lv_at hl 0 rfl) ?_
  refine va_get (D := D) (ci := 11) (v := .ref q_1) (C := RX11) (T := TX11) (N := 11) hx hb hts inX11 hown hKN.1 hP 0 rfl rfl 0 (by decide) (hts _ tw_465) (fun _ h9 => h9) rfl dX11_init_21 ?_
  refine cmIv (rest := [.ref q_3, .ref h0]) (wsC := [(q_3, .inr (6, [.null, .int 0, .int 0, .null, .int 0, .int 0, .int 0, .int 0, .int 0, .int 0, .int 0, .int 0, .null]))]) (wr := [(h0, .inr (11, [.ref q_1, .null, .null, .null, .null, .null, .null, .null, .null, .null, .null])), (q_1, .inr (9, [.ref (u_2.1 0), .int 0])), ((u_2.1 0), .inl (cA 0, 800, .inl (fun _ => 0)))]) ⟨hx, hb, hml, hown, hts⟩ hKN hP hD hS hA [3] [0, 1, 2] rfl rfl (by decide) (by decide) (by decide) (k_X6_init l D cA _ q_3 q_1) ⟨tw_148, tw_149, tw_103, tw_150⟩ hdX6_init ⟨rfl, rfl, Nat.le_of_ble_eq_true rfl, Nat.le_of_ble_eq_true rfl⟩ ⟨Nat.le_of_ble_eq_true rfl, Nat.le_of_ble_eq_true rfl⟩ rfl hl.1 rfl (Nat.le_of_ble_eq_true rfl) dX11_init_24 (fun u_4 H locs hr_4 hP hD hS => ?_)
  have hP : va_P D vwCl [(h0, .inr (11, [.ref q_1, .null, .null, .null, .null, .null, .null, .null, .null, .null, .null])), (q_1, .inr (9, [.ref (u_2.1 0), .int 0])), ((u_2.1 0), .inl (cA 0, 800, .inl (fun _ => 0))), (q_3, .inr (6, [.ref (u_4.1 0), .int 0, .int (-1), .ref q_1, .int 0, .int 0, .int 0, .int 0, .int 0, .int 0, .int 0, .int 0, .ref (u_4.1 9)])), ((u_4.1 0), .inr (3, [.int 0, .int 0, .int 0, .int 0, .int 0, .int 0, .int 0, .int 0, .ref (u_4.1 1), .ref (u_4.1 2), .ref (u_4.1 3), .ref (u_4.1 4), .ref (u_4.1 5), .ref (u_4.1 6), .ref (u_4.1 7), .ref (u_4.1 8)])), ((u_4.1 1), .inl (cA 1, 8, .inl (fun _ => 0))), ((u_4.1 2), .inl (cA 1, 8, .inl (fun _ => 0))), ((u_4.1 3), .inl (cA 1, 8, .inl (fun _ => 0))), ((u_4.1 4), .inl (cA 1, 7, .inl (fun _ => 0))), ((u_4.1 5), .inl (cA 1, 7, .inl (fun _ => 0))), ((u_4.1 6), .inl (cA 1, 7, .inl (fun _ => 0))), ((u_4.1 7), .inl (cA 1, 4, .inl (fun _ => 0))), ((u_4.1 8), .inl (cA 1, 4, .inl (fun _ => 0))), ((u_4.1 9), .inl (cA 1, 3, .inl (fun _ => 0)))] H := hP
  have hD : va_D A [(h0, .inr (11, [.ref q_1, .null, .null, .null, .null, .null, .null, .null, .null, .null, .null])), (q_1, .inr (9, [.ref (u_2.1 0), .int 0])), ((u_2.1 0), .inl (cA 0, 800, .inl (fun _ => 0))), (q_3, .inr (6, [.ref (u_4.1 0), .int 0, .int (-1), .ref q_1, .int 0, .int 0, .int 0, .int 0, .int 0, .int 0, .int 0, .int 0, .ref (u_4.1 9)])), ((u_4.1 0), .inr (3, [.int 0, .int 0, .int 0, .int 0, .int 0, .int 0, .int 0, .int 0, .ref (u_4.1 1), .ref (u_4.1 2), .ref (u_4.1 3), .ref (u_4.1 4), .ref (u_4.1 5), .ref (u_4.1 6), .ref (u_4.1 7), .ref (u_4.1 8)])), ((u_4.1 1), .inl (cA 1, 8, .inl (fun _ => 0))), ((u_4.1 2), .inl (cA 1, 8, .inl (fun _ => 0))), ((u_4.1 3), .inl (cA 1, 8, .inl (fun _ => 0))), ((u_4.1 4), .inl (cA 1, 7, .inl (fun _ => 0))), ((u_4.1 5), .inl (cA 1, 7, .inl (fun _ => 0))), ((u_4.1 6), .inl (cA 1, 7, .inl (fun _ => 0))), ((u_4.1 7), .inl (cA 1, 4, .inl (fun _ => 0))), ((u_4.1 8), .inl (cA 1, 4, .inl (fun _ => 0))), ((u_4.1 9), .inl (cA 1, 3, .inl (fun _ => 0)))] := hD
  refine W.widen (k := 13) (n := 887) (Nat.le_of_ble_eq_true rfl) (Nat.le_of_ble_eq_true rfl) ?_
  refine va_putF (D := D) (ci := 11) (v := .ref q_3) (ty := (.object "WristTreaty$Reader")) (C := RX11) (T := TX11) (N := 11) hx hb hts inX11 tyX11 tyX11_ok nmX11 hown hKN.1 hP hD hS 0 rfl rfl 1 (by decide) (hts _ tw_466) (fun _ h9 => h9) rfl hin rfl (by decide +kernel) rfl rfl (Nat.le_of_ble_eq_true rfl) dX11_init_27 (fun H locs hP hD hS => ?_)
  have hP : va_P D vwCl [(h0, .inr (11, [.ref q_1, .ref q_3, .null, .null, .null, .null, .null, .null, .null, .null, .null])), (q_1, .inr (9, [.ref (u_2.1 0), .int 0])), ((u_2.1 0), .inl (cA 0, 800, .inl (fun _ => 0))), (q_3, .inr (6, [.ref (u_4.1 0), .int 0, .int (-1), .ref q_1, .int 0, .int 0, .int 0, .int 0, .int 0, .int 0, .int 0, .int 0, .ref (u_4.1 9)])), ((u_4.1 0), .inr (3, [.int 0, .int 0, .int 0, .int 0, .int 0, .int 0, .int 0, .int 0, .ref (u_4.1 1), .ref (u_4.1 2), .ref (u_4.1 3), .ref (u_4.1 4), .ref (u_4.1 5), .ref (u_4.1 6), .ref (u_4.1 7), .ref (u_4.1 8)])), ((u_4.1 1), .inl (cA 1, 8, .inl (fun _ => 0))), ((u_4.1 2), .inl (cA 1, 8, .inl (fun _ => 0))), ((u_4.1 3), .inl (cA 1, 8, .inl (fun _ => 0))), ((u_4.1 4), .inl (cA 1, 7, .inl (fun _ => 0))), ((u_4.1 5), .inl (cA 1, 7, .inl (fun _ => 0))), ((u_4.1 6), .inl (cA 1, 7, .inl (fun _ => 0))), ((u_4.1 7), .inl (cA 1, 4, .inl (fun _ => 0))), ((u_4.1 8), .inl (cA 1, 4, .inl (fun _ => 0))), ((u_4.1 9), .inl (cA 1, 3, .inl (fun _ => 0)))] H := hP
  have hD : va_D A [(h0, .inr (11, [.ref q_1, .ref q_3, .null, .null, .null, .null, .null, .null, .null, .null, .null])), (q_1, .inr (9, [.ref (u_2.1 0), .int 0])), ((u_2.1 0), .inl (cA 0, 800, .inl (fun _ => 0))), (q_3, .inr (6, [.ref (u_4.1 0), .int 0, .int (-1), .ref q_1, .int 0, .int 0, .int 0, .int 0, .int 0, .int 0, .int 0, .int 0, .ref (u_4.1 9)])), ((u_4.1 0), .inr (3, [.int 0, .int 0, .int 0, .int 0, .int 0, .int 0, .int 0, .int 0, .ref (u_4.1 1), .ref (u_4.1 2), .ref (u_4.1 3), .ref (u_4.1 4), .ref (u_4.1 5), .ref (u_4.1 6), .ref (u_4.1 7), .ref (u_4.1 8)])), ((u_4.1 1), .inl (cA 1, 8, .inl (fun _ => 0))), ((u_4.1 2), .inl (cA 1, 8, .inl (fun _ => 0))), ((u_4.1 3), .inl (cA 1, 8, .inl (fun _ => 0))), ((u_4.1 4), .inl (cA 1, 7, .inl (fun _ => 0))), ((u_4.1 5), .inl (cA 1, 7, .inl (fun _ => 0))), ((u_4.1 6), .inl (cA 1, 7, .inl (fun _ => 0))), ((u_4.1 7), .inl (cA 1, 4, .inl (fun _ => 0))), ((u_4.1 8), .inl (cA 1, 4, .inl (fun _ => 0))), ((u_4.1 9), .inl (cA 1, 3, .inl (fun _ => 0)))] := hD
  refine lv_aload_n hx hb dX11_init_30 rfl (lv_at hl 0 rfl) ?_
  refine va_new (ci := 3) (fs := [.int 0, .int 0, .int 0, .int 0, .int 0, .int 0, .int 0, .int 0, .null, .null, .null, .null, .null, .null, .null, .null]) (C := RX3) (T := TX3) (N := 16) hx hb hts inX3 tyX3 tyX3_ok hown (hts _ tw_267) (hts _ tw_153) (hts _ tw_104) hKN.1 hP hD hS hA rfl dfX3 (Nat.le_of_ble_eq_true rfl) (Nat.le_of_ble_eq_true rfl) dX11_init_31 (fun q_5 H hP hD hS => ?_)
  have hP : va_P D vwCl [(h0, .inr (11, [.ref q_1, .ref q_3, .null, .null, .null, .null, .null, .null, .null, .null, .null])), (q_1, .inr (9, [.ref (u_2.1 0), .int 0])), ((u_2.1 0), .inl (cA 0, 800, .inl (fun _ => 0))), (q_3, .inr (6, [.ref (u_4.1 0), .int 0, .int (-1), .ref q_1, .int 0, .int 0, .int 0, .int 0, .int 0, .int 0, .int 0, .int 0, .ref (u_4.1 9)])), ((u_4.1 0), .inr (3, [.int 0, .int 0, .int 0, .int 0, .int 0, .int 0, .int 0, .int 0, .ref (u_4.1 1), .ref (u_4.1 2), .ref (u_4.1 3), .ref (u_4.1 4), .ref (u_4.1 5), .ref (u_4.1 6), .ref (u_4.1 7), .ref (u_4.1 8)])), ((u_4.1 1), .inl (cA 1, 8, .inl (fun _ => 0))), ((u_4.1 2), .inl (cA 1, 8, .inl (fun _ => 0))), ((u_4.1 3), .inl (cA 1, 8, .inl (fun _ => 0))), ((u_4.1 4), .inl (cA 1, 7, .inl (fun _ => 0))), ((u_4.1 5), .inl (cA 1, 7, .inl (fun _ => 0))), ((u_4.1 6), .inl (cA 1, 7, .inl (fun _ => 0))), ((u_4.1 7), .inl (cA 1, 4, .inl (fun _ => 0))), ((u_4.1 8), .inl (cA 1, 4, .inl (fun _ => 0))), ((u_4.1 9), .inl (cA 1, 3, .inl (fun _ => 0))), (q_5, .inr (3, [.int 0, .int 0, .int 0, .int 0, .int 0, .int 0, .int 0, .int 0, .null, .null, .null, .null, .null, .null, .null, .null]))] H := hP
  have hD : va_D A [(h0, .inr (11, [.ref q_1, .ref q_3, .null, .null, .null, .null, .null, .null, .null, .null, .null])), (q_1, .inr (9, [.ref (u_2.1 0), .int 0])), ((u_2.1 0), .inl (cA 0, 800, .inl (fun _ => 0))), (q_3, .inr (6, [.ref (u_4.1 0), .int 0, .int (-1), .ref q_1, .int 0, .int 0, .int 0, .int 0, .int 0, .int 0, .int 0, .int 0, .ref (u_4.1 9)])), ((u_4.1 0), .inr (3, [.int 0, .int 0, .int 0, .int 0, .int 0, .int 0, .int 0, .int 0, .ref (u_4.1 1), .ref (u_4.1 2), .ref (u_4.1 3), .ref (u_4.1 4), .ref (u_4.1 5), .ref (u_4.1 6), .ref (u_4.1 7), .ref (u_4.1 8)])), ((u_4.1 1), .inl (cA 1, 8, .inl (fun _ => 0))), ((u_4.1 2), .inl (cA 1, 8, .inl (fun _ => 0))), ((u_4.1 3), .inl (cA 1, 8, .inl (fun _ => 0))), ((u_4.1 4), .inl (cA 1, 7, .inl (fun _ => 0))), ((u_4.1 5), .inl (cA 1, 7, .inl (fun _ => 0))), ((u_4.1 6), .inl (cA 1, 7, .inl (fun _ => 0))), ((u_4.1 7), .inl (cA 1, 4, .inl (fun _ => 0))), ((u_4.1 8), .inl (cA 1, 4, .inl (fun _ => 0))), ((u_4.1 9), .inl (cA 1, 3, .inl (fun _ => 0))), (q_5, .inr (3, [.int 0, .int 0, .int 0, .int 0, .int 0, .int 0, .int 0, .int 0, .null, .null, .null, .null, .null, .null, .null, .null]))] := hD
  refine W.widen (k := 14) (n := 903) (Nat.le_of_ble_eq_true rfl) (Nat.le_of_ble_eq_true rfl) ?_
  refine lv_dup hx hb dX11_init_34 rfl ?_
  refine cmINv (rest := [.ref q_5, .ref h0]) (wsC := [(q_5, .inr (3, [.int 0, .int 0, .int 0, .int 0, .int 0, .int 0, .int 0, .int 0, .null, .null, .null, .null, .null, .null, .null, .null]))]) (wr := [(h0, .inr (11, [.ref q_1, .ref q_3, .null, .null, .null, .null, .null, .null, .null, .null, .null])), (q_1, .inr (9, [.ref (u_2.1 0), .int 0])), ((u_2.1 0), .inl (cA 0, 800, .inl (fun _ => 0))), (q_3, .inr (6, [.ref (u_4.1 0), .int 0, .int (-1), .ref q_1, .int 0, .int 0, .int 0, .int 0, .int 0, .int 0, .int 0, .int 0, .ref (u_4.1 9)])), ((u_4.1 0), .inr (3, [.int 0, .int 0, .int 0, .int 0, .int 0, .int 0, .int 0, .int 0, .ref (u_4.1 1), .ref (u_4.1 2), .ref (u_4.1 3), .ref (u_4.1 4), .ref (u_4.1 5), .ref (u_4.1 6), .ref (u_4.1 7), .ref (u_4.1 8)])), ((u_4.1 1), .inl (cA 1, 8, .inl (fun _ => 0))), ((u_4.1 2), .inl (cA 1, 8, .inl (fun _ => 0))), ((u_4.1 3), .inl (cA 1, 8, .inl (fun _ => 0))), ((u_4.1 4), .inl (cA 1, 7, .inl (fun _ => 0))), ((u_4.1 5), .inl (cA 1, 7, .inl (fun _ => 0))), ((u_4.1 6), .inl (cA 1, 7, .inl (fun _ => 0))), ((u_4.1 7), .inl (cA 1, 4, .inl (fun _ => 0))), ((u_4.1 8), .inl (cA 1, 4, .inl (fun _ => 0))), ((u_4.1 9), .inl (cA 1, 3, .inl (fun _ => 0)))]) ⟨hx, hb, hml, hown, hts⟩ hKN hP hD hS hA [14] [0, 1, 2, 3, 4, 5, 6, 7, 8, 9, 10, 11, 12, 13] rfl rfl (by decide) (by decide) (by decide) (k_X3_init l D cA _ q_5) ⟨nw_2, tw_155, tw_104, tw_156⟩ hdX3_init ⟨rfl, rfl, Nat.le_of_ble_eq_true rfl, Nat.le_of_ble_eq_true rfl⟩ ⟨Nat.le_of_ble_eq_true rfl, Nat.le_of_ble_eq_true rfl⟩ rfl hl.1 rfl (Nat.le_of_ble_eq_true rfl) dX11_init_35 (fun u_6 H locs hr_6 hP hD hS => ?_)
  have hP : va_P D vwCl [(h0, .inr (11, [.ref q_1, .ref q_3, .null, .null, .null, .null, .null, .null, .null, .null, .null])), (q_1, .inr (9, [.ref (u_2.1 0), .int 0])), ((u_2.1 0), .inl (cA 0, 800, .inl (fun _ => 0))), (q_3, .inr (6, [.ref (u_4.1 0), .int 0, .int (-1), .ref q_1, .int 0, .int 0, .int 0, .int 0, .int 0, .int 0, .int 0, .int 0, .ref (u_4.1 9)])), ((u_4.1 0), .inr (3, [.int 0, .int 0, .int 0, .int 0, .int 0, .int 0, .int 0, .int 0, .ref (u_4.1 1), .ref (u_4.1 2), .ref (u_4.1 3), .ref (u_4.1 4), .ref (u_4.1 5), .ref (u_4.1 6), .ref (u_4.1 7), .ref (u_4.1 8)])), ((u_4.1 1), .inl (cA 1, 8, .inl (fun _ => 0))), ((u_4.1 2), .inl (cA 1, 8, .inl (fun _ => 0))), ((u_4.1 3), .inl (cA 1, 8, .inl (fun _ => 0))), ((u_4.1 4), .inl (cA 1, 7, .inl (fun _ => 0))), ((u_4.1 5), .inl (cA 1, 7, .inl (fun _ => 0))), ((u_4.1 6), .inl (cA 1, 7, .inl (fun _ => 0))), ((u_4.1 7), .inl (cA 1, 4, .inl (fun _ => 0))), ((u_4.1 8), .inl (cA 1, 4, .inl (fun _ => 0))), ((u_4.1 9), .inl (cA 1, 3, .inl (fun _ => 0))), (q_5, .inr (3, [.int 0, .int 0, .int 0, .int 0, .int 0, .int 0, .int 0, .int 0, .ref (u_6.1 0), .ref (u_6.1 1), .ref (u_6.1 2), .ref (u_6.1 3), .ref (u_6.1 4), .ref (u_6.1 5), .ref (u_6.1 6), .ref (u_6.1 7)])), ((u_6.1 0), .inl (cA 1, 8, .inl (fun _ => 0))), ((u_6.1 1), .inl (cA 1, 8, .inl (fun _ => 0))), ((u_6.1 2), .inl (cA 1, 8, .inl (fun _ => 0))), ((u_6.1 3), .inl (cA 1, 7, .inl (fun _ => 0))), ((u_6.1 4), .inl (cA 1, 7, .inl (fun _ => 0))), ((u_6.1 5), .inl (cA 1, 7, .inl (fun _ => 0))), ((u_6.1 6), .inl (cA 1, 4, .inl (fun _ => 0))), ((u_6.1 7), .inl (cA 1, 4, .inl (fun _ => 0)))] H := hP
  have hD : va_D A [(h0, .inr (11, [.ref q_1, .ref q_3, .null, .null, .null, .null, .null, .null, .null, .null, .null])), (q_1, .inr (9, [.ref (u_2.1 0), .int 0])), ((u_2.1 0), .inl (cA 0, 800, .inl (fun _ => 0))), (q_3, .inr (6, [.ref (u_4.1 0), .int 0, .int (-1), .ref q_1, .int 0, .int 0, .int 0, .int 0, .int 0, .int 0, .int 0, .int 0, .ref (u_4.1 9)])), ((u_4.1 0), .inr (3, [.int 0, .int 0, .int 0, .int 0, .int 0, .int 0, .int 0, .int 0, .ref (u_4.1 1), .ref (u_4.1 2), .ref (u_4.1 3), .ref (u_4.1 4), .ref (u_4.1 5), .ref (u_4.1 6), .ref (u_4.1 7), .ref (u_4.1 8)])), ((u_4.1 1), .inl (cA 1, 8, .inl (fun _ => 0))), ((u_4.1 2), .inl (cA 1, 8, .inl (fun _ => 0))), ((u_4.1 3), .inl (cA 1, 8, .inl (fun _ => 0))), ((u_4.1 4), .inl (cA 1, 7, .inl (fun _ => 0))), ((u_4.1 5), .inl (cA 1, 7, .inl (fun _ => 0))), ((u_4.1 6), .inl (cA 1, 7, .inl (fun _ => 0))), ((u_4.1 7), .inl (cA 1, 4, .inl (fun _ => 0))), ((u_4.1 8), .inl (cA 1, 4, .inl (fun _ => 0))), ((u_4.1 9), .inl (cA 1, 3, .inl (fun _ => 0))), (q_5, .inr (3, [.int 0, .int 0, .int 0, .int 0, .int 0, .int 0, .int 0, .int 0, .ref (u_6.1 0), .ref (u_6.1 1), .ref (u_6.1 2), .ref (u_6.1 3), .ref (u_6.1 4), .ref (u_6.1 5), .ref (u_6.1 6), .ref (u_6.1 7)])), ((u_6.1 0), .inl (cA 1, 8, .inl (fun _ => 0))), ((u_6.1 1), .inl (cA 1, 8, .inl (fun _ => 0))), ((u_6.1 2), .inl (cA 1, 8, .inl (fun _ => 0))), ((u_6.1 3), .inl (cA 1, 7, .inl (fun _ => 0))), ((u_6.1 4), .inl (cA 1, 7, .inl (fun _ => 0))), ((u_6.1 5), .inl (cA 1, 7, .inl (fun _ => 0))), ((u_6.1 6), .inl (cA 1, 4, .inl (fun _ => 0))), ((u_6.1 7), .inl (cA 1, 4, .inl (fun _ => 0)))] := hD
  refine W.widen (k := 22) (n := 956) (Nat.le_of_ble_eq_true rfl) (Nat.le_of_ble_eq_true rfl) ?_
  refine va_putF (D := D) (ci := 11) (v := .ref q_5) (ty := (.object "WristTreaty$Gorge")) (C := RX11) (T := TX11) (N := 11) hx hb hts inX11 tyX11 tyX11_ok nmX11 hown hKN.1 hP hD hS 0 rfl rfl 2 (by decide) (hts _ tw_467) (fun _ h9 => h9) rfl hin rfl (by decide +kernel) rfl rfl (Nat.le_of_ble_eq_true rfl) dX11_init_38 (fun H locs hP hD hS => ?_)
  have hP : va_P D vwCl [(h0, .inr (11, [.ref q_1, .ref q_3, .ref q_5, .null, .null, .null, .null, .null, .null, .null, .null])), (q_1, .inr (9, [.ref (u_2.1 0), .int 0])), ((u_2.1 0), .inl (cA 0, 800, .inl (fun _ => 0))), (q_3, .inr (6, [.ref (u_4.1 0), .int 0, .int (-1), .ref q_1, .int 0, .int 0, .int 0, .int 0, .int 0, .int 0, .int 0, .int 0, .ref (u_4.1 9)])), ((u_4.1 0), .inr (3, [.int 0, .int 0, .int 0, .int 0, .int 0, .int 0, .int 0, .int 0, .ref (u_4.1 1), .ref (u_4.1 2), .ref (u_4.1 3), .ref (u_4.1 4), .ref (u_4.1 5), .ref (u_4.1 6), .ref (u_4.1 7), .ref (u_4.1 8)])), ((u_4.1 1), .inl (cA 1, 8, .inl (fun _ => 0))), ((u_4.1 2), .inl (cA 1, 8, .inl (fun _ => 0))), ((u_4.1 3), .inl (cA 1, 8, .inl (fun _ => 0))), ((u_4.1 4), .inl (cA 1, 7, .inl (fun _ => 0))), ((u_4.1 5), .inl (cA 1, 7, .inl (fun _ => 0))), ((u_4.1 6), .inl (cA 1, 7, .inl (fun _ => 0))), ((u_4.1 7), .inl (cA 1, 4, .inl (fun _ => 0))), ((u_4.1 8), .inl (cA 1, 4, .inl (fun _ => 0))), ((u_4.1 9), .inl (cA 1, 3, .inl (fun _ => 0))), (q_5, .inr (3, [.int 0, .int 0, .int 0, .int 0, .int 0, .int 0, .int 0, .int 0, .ref (u_6.1 0), .ref (u_6.1 1), .ref (u_6.1 2), .ref (u_6.1 3), .ref (u_6.1 4), .ref (u_6.1 5), .ref (u_6.1 6), .ref (u_6.1 7)])), ((u_6.1 0), .inl (cA 1, 8, .inl (fun _ => 0))), ((u_6.1 1), .inl (cA 1, 8, .inl (fun _ => 0))), ((u_6.1 2), .inl (cA 1, 8, .inl (fun _ => 0))), ((u_6.1 3), .inl (cA 1, 7, .inl (fun _ => 0))), ((u_6.1 4), .inl (cA 1, 7, .inl (fun _ => 0))), ((u_6.1 5), .inl (cA 1, 7, .inl (fun _ => 0))), ((u_6.1 6), .inl (cA 1, 4, .inl (fun _ => 0))), ((u_6.1 7), .inl (cA 1, 4, .inl (fun _ => 0)))] H := hP
  have hD : va_D A [(h0, .inr (11, [.ref q_1, .ref q_3, .ref q_5, .null, .null, .null, .null, .null, .null, .null, .null])), (q_1, .inr (9, [.ref (u_2.1 0), .int 0])), ((u_2.1 0), .inl (cA 0, 800, .inl (fun _ => 0))), (q_3, .inr (6, [.ref (u_4.1 0), .int 0, .int (-1), .ref q_1, .int 0, .int 0, .int 0, .int 0, .int 0, .int 0, .int 0, .int 0, .ref (u_4.1 9)])), ((u_4.1 0), .inr (3, [.int 0, .int 0, .int 0, .int 0, .int 0, .int 0, .int 0, .int 0, .ref (u_4.1 1), .ref (u_4.1 2), .ref (u_4.1 3), .ref (u_4.1 4), .ref (u_4.1 5), .ref (u_4.1 6), .ref (u_4.1 7), .ref (u_4.1 8)])), ((u_4.1 1), .inl (cA 1, 8, .inl (fun _ => 0))), ((u_4.1 2), .inl (cA 1, 8, .inl (fun _ => 0))), ((u_4.1 3), .inl (cA 1, 8, .inl (fun _ => 0))), ((u_4.1 4), .inl (cA 1, 7, .inl (fun _ => 0))), ((u_4.1 5), .inl (cA 1, 7, .inl (fun _ => 0))), ((u_4.1 6), .inl (cA 1, 7, .inl (fun _ => 0))), ((u_4.1 7), .inl (cA 1, 4, .inl (fun _ => 0))), ((u_4.1 8), .inl (cA 1, 4, .inl (fun _ => 0))), ((u_4.1 9), .inl (cA 1, 3, .inl (fun _ => 0))), (q_5, .inr (3, [.int 0, .int 0, .int 0, .int 0, .int 0, .int 0, .int 0, .int 0, .ref (u_6.1 0), .ref (u_6.1 1), .ref (u_6.1 2), .ref (u_6.1 3), .ref (u_6.1 4), .ref (u_6.1 5), .ref (u_6.1 6), .ref (u_6.1 7)])), ((u_6.1 0), .inl (cA 1, 8, .inl (fun _ => 0))), ((u_6.1 1), .inl (cA 1, 8, .inl (fun _ => 0))), ((u_6.1 2), .inl (cA 1, 8, .inl (fun _ => 0))), ((u_6.1 3), .inl (cA 1, 7, .inl (fun _ => 0))), ((u_6.1 4), .inl (cA 1, 7, .inl (fun _ => 0))), ((u_6.1 5), .inl (cA 1, 7, .inl (fun _ => 0))), ((u_6.1 6), .inl (cA 1, 4, .inl (fun _ => 0))), ((u_6.1 7), .inl (cA 1, 4, .inl (fun _ => 0)))] := hD
  refine lv_aload_n hx hb dX11_init_41 rfl (lv_at hl 0 rfl) ?_
  refine va_new (ci := 2) (fs := [.int 0, .int 0, .int 0, .int 0, .int 0, .int 0, .int 0, .null, .null, .null]) (C := RX2) (T := TX2) (N := 10) hx hb hts inX2 tyX2 tyX2_ok hown (hts _ tw_269) (hts _ tw_270) (hts _ tw_105) hKN.1 hP hD hS hA rfl dfX2 (Nat.le_of_ble_eq_true rfl) (Nat.le_of_ble_eq_true rfl) dX11_init_42 (fun q_7 H hP hD hS => ?_)
  have hP : va_P D vwCl [(h0, .inr (11, [.ref q_1, .ref q_3, .ref q_5, .null, .null, .null, .null, .null, .null, .null, .null])), (q_1, .inr (9, [.ref (u_2.1 0), .int 0])), ((u_2.1 0), .inl (cA 0, 800, .inl (fun _ => 0))), (q_3, .inr (6, [.ref (u_4.1 0), .int 0, .int (-1), .ref q_1, .int 0, .int 0, .int 0, .int 0, .int 0, .int 0, .int 0, .int 0, .ref (u_4.1 9)])), ((u_4.1 0), .inr (3, [.int 0, .int 0, .int 0, .int 0, .int 0, .int 0, .int 0, .int 0, .ref (u_4.1 1), .ref (u_4.1 2), .ref (u_4.1 3), .ref (u_4.1 4), .ref (u_4.1 5), .ref (u_4.1 6), .ref (u_4.1 7), .ref (u_4.1 8)])), ((u_4.1 1), .inl (cA 1, 8, .inl (fun _ => 0))), ((u_4.1 2), .inl (cA 1, 8, .inl (fun _ => 0))), ((u_4.1 3), .inl (cA 1, 8, .inl (fun _ => 0))), ((u_4.1 4), .inl (cA 1, 7, .inl (fun _ => 0))), ((u_4.1 5), .inl (cA 1, 7, .inl (fun _ => 0))), ((u_4.1 6), .inl (cA 1, 7, .inl (fun _ => 0))), ((u_4.1 7), .inl (cA 1, 4, .inl (fun _ => 0))), ((u_4.1 8), .inl (cA 1, 4, .inl (fun _ => 0))), ((u_4.1 9), .inl (cA 1, 3, .inl (fun _ => 0))), (q_5, .inr (3, [.int 0, .int 0, .int 0, .int 0, .int 0, .int 0, .int 0, .int 0, .ref (u_6.1 0), .ref (u_6.1 1), .ref (u_6.1 2), .ref (u_6.1 3), .ref (u_6.1 4), .ref (u_6.1 5), .ref (u_6.1 6), .ref (u_6.1 7)])), ((u_6.1 0), .inl (cA 1, 8, .inl (fun _ => 0))), ((u_6.1 1), .inl (cA 1, 8, .inl (fun _ => 0))), ((u_6.1 2), .inl (cA 1, 8, .inl (fun _ => 0))), ((u_6.1 3), .inl (cA 1, 7, .inl (fun _ => 0))), ((u_6.1 4), .inl (cA 1, 7, .inl (fun _ => 0))), ((u_6.1 5), .inl (cA 1, 7, .inl (fun _ => 0))), ((u_6.1 6), .inl (cA 1, 4, .inl (fun _ => 0))), ((u_6.1 7), .inl (cA 1, 4, .inl (fun _ => 0))), (q_7, .inr (2, [.int 0, .int 0, .int 0, .int 0, .int 0, .int 0, .int 0, .null, .null, .null]))] H := hP
  have hD : va_D A [(h0, .inr (11, [.ref q_1, .ref q_3, .ref q_5, .null, .null, .null, .null, .null, .null, .null, .null])), (q_1, .inr (9, [.ref (u_2.1 0), .int 0])), ((u_2.1 0), .inl (cA 0, 800, .inl (fun _ => 0))), (q_3, .inr (6, [.ref (u_4.1 0), .int 0, .int (-1), .ref q_1, .int 0, .int 0, .int 0, .int 0, .int 0, .int 0, .int 0, .int 0, .ref (u_4.1 9)])), ((u_4.1 0), .inr (3, [.int 0, .int 0, .int 0, .int 0, .int 0, .int 0, .int 0, .int 0, .ref (u_4.1 1), .ref (u_4.1 2), .ref (u_4.1 3), .ref (u_4.1 4), .ref (u_4.1 5), .ref (u_4.1 6), .ref (u_4.1 7), .ref (u_4.1 8)])), ((u_4.1 1), .inl (cA 1, 8, .inl (fun _ => 0))), ((u_4.1 2), .inl (cA 1, 8, .inl (fun _ => 0))), ((u_4.1 3), .inl (cA 1, 8, .inl (fun _ => 0))), ((u_4.1 4), .inl (cA 1, 7, .inl (fun _ => 0))), ((u_4.1 5), .inl (cA 1, 7, .inl (fun _ => 0))), ((u_4.1 6), .inl (cA 1, 7, .inl (fun _ => 0))), ((u_4.1 7), .inl (cA 1, 4, .inl (fun _ => 0))), ((u_4.1 8), .inl (cA 1, 4, .inl (fun _ => 0))), ((u_4.1 9), .inl (cA 1, 3, .inl (fun _ => 0))), (q_5, .inr (3, [.int 0, .int 0, .int 0, .int 0, .int 0, .int 0, .int 0, .int 0, .ref (u_6.1 0), .ref (u_6.1 1), .ref (u_6.1 2), .ref (u_6.1 3), .ref (u_6.1 4), .ref (u_6.1 5), .ref (u_6.1 6), .ref (u_6.1 7)])), ((u_6.1 0), .inl (cA 1, 8, .inl (fun _ => 0))), ((u_6.1 1), .inl (cA 1, 8, .inl (fun _ => 0))), ((u_6.1 2), .inl (cA 1, 8, .inl (fun _ => 0))), ((u_6.1 3), .inl (cA 1, 7, .inl (fun _ => 0))), ((u_6.1 4), .inl (cA 1, 7, .inl (fun _ => 0))), ((u_6.1 5), .inl (cA 1, 7, .inl (fun _ => 0))), ((u_6.1 6), .inl (cA 1, 4, .inl (fun _ => 0))), ((u_6.1 7), .inl (cA 1, 4, .inl (fun _ => 0))), (q_7, .inr (2, [.int 0, .int 0, .int 0, .int 0, .int 0, .int 0, .int 0, .null, .null, .null]))] := hD
  refine W.widen (k := 23) (n := 966) (Nat.le_of_ble_eq_true rfl) (Nat.le_of_ble_eq_true rfl) ?_
  refine lv_dup hx hb dX11_init_45 rfl ?_
  refine cmINv (rest := [.ref q_7, .ref h0]) (wsC := [(q_7, .inr (2, [.int 0, .int 0, .int 0, .int 0, .int 0, .int 0, .int 0, .null, .null, .null]))]) (wr := [(h0, .inr (11, [.ref q_1, .ref q_3, .ref q_5, .null, .null, .null, .null, .null, .null, .null, .null])), (q_1, .inr (9, [.ref (u_2.1 0), .int 0])), ((u_2.1 0), .inl (cA 0, 800, .inl (fun _ => 0))), (q_3, .inr (6, [.ref (u_4.1 0), .int 0, .int (-1), .ref q_1, .int 0, .int 0, .int 0, .int 0, .int 0, .int 0, .int 0, .int 0, .ref (u_4.1 9)])), ((u_4.1 0), .inr (3, [.int 0, .int 0, .int 0, .int 0, .int 0, .int 0, .int 0, .int 0, .ref (u_4.1 1), .ref (u_4.1 2), .ref (u_4.1 3), .ref (u_4.1 4), .ref (u_4.1 5), .ref (u_4.1 6), .ref (u_4.1 7), .ref (u_4.1 8)])), ((u_4.1 1), .inl (cA 1, 8, .inl (fun _ => 0))), ((u_4.1 2), .inl (cA 1, 8, .inl (fun _ => 0))), ((u_4.1 3), .inl (cA 1, 8, .inl (fun _ => 0))), ((u_4.1 4), .inl (cA 1, 7, .inl (fun _ => 0))), ((u_4.1 5), .inl (cA 1, 7, .inl (fun _ => 0))), ((u_4.1 6), .inl (cA 1, 7, .inl (fun _ => 0))), ((u_4.1 7), .inl (cA 1, 4, .inl (fun _ => 0))), ((u_4.1 8), .inl (cA 1, 4, .inl (fun _ => 0))), ((u_4.1 9), .inl (cA 1, 3, .inl (fun _ => 0))), (q_5, .inr (3, [.int 0, .int 0, .int 0, .int 0, .int 0, .int 0, .int 0, .int 0, .ref (u_6.1 0), .ref (u_6.1 1), .ref (u_6.1 2), .ref (u_6.1 3), .ref (u_6.1 4), .ref (u_6.1 5), .ref (u_6.1 6), .ref (u_6.1 7)])), ((u_6.1 0), .inl (cA 1, 8, .inl (fun _ => 0))), ((u_6.1 1), .inl (cA 1, 8, .inl (fun _ => 0))), ((u_6.1 2), .inl (cA 1, 8, .inl (fun _ => 0))), ((u_6.1 3), .inl (cA 1, 7, .inl (fun _ => 0))), ((u_6.1 4), .inl (cA 1, 7, .inl (fun _ => 0))), ((u_6.1 5), .inl (cA 1, 7, .inl (fun _ => 0))), ((u_6.1 6), .inl (cA 1, 4, .inl (fun _ => 0))), ((u_6.1 7), .inl (cA 1, 4, .inl (fun _ => 0)))]) ⟨hx, hb, hml, hown, hts⟩ hKN hP hD hS hA [23] [0, 1, 2, 3, 4, 5, 6, 7, 8, 9, 10, 11, 12, 13, 14, 15, 16, 17, 18, 19, 20, 21, 22] rfl rfl (by decide) (by decide) (by decide) (k_X2_init l D cA _ q_7) ⟨nw_3, tw_272, tw_105, tw_273⟩ hdX2_init ⟨rfl, rfl, Nat.le_of_ble_eq_true rfl, Nat.le_of_ble_eq_true rfl⟩ ⟨Nat.le_of_ble_eq_true rfl, Nat.le_of_ble_eq_true rfl⟩ rfl hl.1 rfl (Nat.le_of_ble_eq_true rfl) dX11_init_46 (fun u_8 H locs hr_8 hP hD hS => ?_)
  have hP : va_P D vwCl [(h0, .inr (11, [.ref q_1, .ref q_3, .ref q_5, .null, .null, .null, .null, .null, .null, .null, .null])), (q_1, .inr (9, [.ref (u_2.1 0), .int 0])), ((u_2.1 0), .inl (cA 0, 800, .inl (fun _ => 0))), (q_3, .inr (6, [.ref (u_4.1 0), .int 0, .int (-1), .ref q_1, .int 0, .int 0, .int 0, .int 0, .int 0, .int 0, .int 0, .int 0, .ref (u_4.1 9)])), ((u_4.1 0), .inr (3, [.int 0, .int 0, .int 0, .int 0, .int 0, .int 0, .int 0, .int 0, .ref (u_4.1 1), .ref (u_4.1 2), .ref (u_4.1 3), .ref (u_4.1 4), .ref (u_4.1 5), .ref (u_4.1 6), .ref (u_4.1 7), .ref (u_4.1 8)])), ((u_4.1 1), .inl (cA 1, 8, .inl (fun _ => 0))), ((u_4.1 2), .inl (cA 1, 8, .inl (fun _ => 0))), ((u_4.1 3), .inl (cA 1, 8, .inl (fun _ => 0))), ((u_4.1 4), .inl (cA 1, 7, .inl (fun _ => 0))), ((u_4.1 5), .inl (cA 1, 7, .inl (fun _ => 0))), ((u_4.1 6), .inl (cA 1, 7, .inl (fun _ => 0))), ((u_4.1 7), .inl (cA 1, 4, .inl (fun _ => 0))), ((u_4.1 8), .inl (cA 1, 4, .inl (fun _ => 0))), ((u_4.1 9), .inl (cA 1, 3, .inl (fun _ => 0))), (q_5, .inr (3, [.int 0, .int 0, .int 0, .int 0, .int 0, .int 0, .int 0, .int 0, .ref (u_6.1 0), .ref (u_6.1 1), .ref (u_6.1 2), .ref (u_6.1 3), .ref (u_6.1 4), .ref (u_6.1 5), .ref (u_6.1 6), .ref (u_6.1 7)])), ((u_6.1 0), .inl (cA 1, 8, .inl (fun _ => 0))), ((u_6.1 1), .inl (cA 1, 8, .inl (fun _ => 0))), ((u_6.1 2), .inl (cA 1, 8, .inl (fun _ => 0))), ((u_6.1 3), .inl (cA 1, 7, .inl (fun _ => 0))), ((u_6.1 4), .inl (cA 1, 7, .inl (fun _ => 0))), ((u_6.1 5), .inl (cA 1, 7, .inl (fun _ => 0))), ((u_6.1 6), .inl (cA 1, 4, .inl (fun _ => 0))), ((u_6.1 7), .inl (cA 1, 4, .inl (fun _ => 0))), (q_7, .inr (2, [.int (-1), .int (-1), .int 0, .int 0, .int 0, .int 0, .int 0, .ref (u_8.1 0), .ref (u_8.1 1), .ref (u_8.1 2)])), ((u_8.1 0), .inl (cA 1, 60, .inl (fun _ => 0))), ((u_8.1 1), .inl (cA 1, 60, .inl (fun _ => 0))), ((u_8.1 2), .inl (cA 1, 60, .inl (fun _ => 0)))] H := hP
  have hD : va_D A [(h0, .inr (11, [.ref q_1, .ref q_3, .ref q_5, .null, .null, .null, .null, .null, .null, .null, .null])), (q_1, .inr (9, [.ref (u_2.1 0), .int 0])), ((u_2.1 0), .inl (cA 0, 800, .inl (fun _ => 0))), (q_3, .inr (6, [.ref (u_4.1 0), .int 0, .int (-1), .ref q_1, .int 0, .int 0, .int 0, .int 0, .int 0, .int 0, .int 0, .int 0, .ref (u_4.1 9)])), ((u_4.1 0), .inr (3, [.int 0, .int 0, .int 0, .int 0, .int 0, .int 0, .int 0, .int 0, .ref (u_4.1 1), .ref (u_4.1 2), .ref (u_4.1 3), .ref (u_4.1 4), .ref (u_4.1 5), .ref (u_4.1 6), .ref (u_4.1 7), .ref (u_4.1 8)])), ((u_4.1 1), .inl (cA 1, 8, .inl (fun _ => 0))), ((u_4.1 2), .inl (cA 1, 8, .inl (fun _ => 0))), ((u_4.1 3), .inl (cA 1, 8, .inl (fun _ => 0))), ((u_4.1 4), .inl (cA 1, 7, .inl (fun _ => 0))), ((u_4.1 5), .inl (cA 1, 7, .inl (fun _ => 0))), ((u_4.1 6), .inl (cA 1, 7, .inl (fun _ => 0))), ((u_4.1 7), .inl (cA 1, 4, .inl (fun _ => 0))), ((u_4.1 8), .inl (cA 1, 4, .inl (fun _ => 0))), ((u_4.1 9), .inl (cA 1, 3, .inl (fun _ => 0))), (q_5, .inr (3, [.int 0, .int 0, .int 0, .int 0, .int 0, .int 0, .int 0, .int 0, .ref (u_6.1 0), .ref (u_6.1 1), .ref (u_6.1 2), .ref (u_6.1 3), .ref (u_6.1 4), .ref (u_6.1 5), .ref (u_6.1 6), .ref (u_6.1 7)])), ((u_6.1 0), .inl (cA 1, 8, .inl (fun _ => 0))), ((u_6.1 1), .inl (cA 1, 8, .inl (fun _ => 0))), ((u_6.1 2), .inl (cA 1, 8, .inl (fun _ => 0))), ((u_6.1 3), .inl (cA 1, 7, .inl (fun _ => 0))), ((u_6.1 4), .inl (cA 1, 7, .inl (fun _ => 0))), ((u_6.1 5), .inl (cA 1, 7, .inl (fun _ => 0))), ((u_6.1 6), .inl (cA 1, 4, .inl (fun _ => 0))), ((u_6.1 7), .inl (cA 1, 4, .inl (fun _ => 0))), (q_7, .inr (2, [.int (-1), .int (-1), .int 0, .int 0, .int 0, .int 0, .int 0, .ref (u_8.1 0), .ref (u_8.1 1), .ref (u_8.1 2)])), ((u_8.1 0), .inl (cA 1, 60, .inl (fun _ => 0))), ((u_8.1 1), .inl (cA 1, 60, .inl (fun _ => 0))), ((u_8.1 2), .inl (cA 1, 60, .inl (fun _ => 0)))] := hD
  refine W.widen (k := 26) (n := 1146) (Nat.le_of_ble_eq_true rfl) (Nat.le_of_ble_eq_true rfl) ?_
  refine va_putF (D := D) (ci := 11) (v := .ref q_7) (ty := (.object "WristTreaty$Evening")) (C := RX11) (T := TX11) (N := 11) hx hb hts inX11 tyX11 tyX11_ok nmX11 hown hKN.1 hP hD hS 0 rfl rfl 3 (by decide) (hts _ tw_468) (fun _ h9 => h9) rfl hin rfl (by decide +kernel) rfl rfl (Nat.le_of_ble_eq_true rfl) dX11_init_49 (fun H locs hP hD hS => ?_)
  have hP : va_P D vwCl [(h0, .inr (11, [.ref q_1, .ref q_3, .ref q_5, .ref q_7, .null, .null, .null, .null, .null, .null, .null])), (q_1, .inr (9, [.ref (u_2.1 0), .int 0])), ((u_2.1 0), .inl (cA 0, 800, .inl (fun _ => 0))), (q_3, .inr (6, [.ref (u_4.1 0), .int 0, .int (-1), .ref q_1, .int 0, .int 0, .int 0, .int 0, .int 0, .int 0, .int 0, .int 0, .ref (u_4.1 9)])), ((u_4.1 0), .inr (3, [.int 0, .int 0, .int 0, .int 0, .int 0, .int 0, .int 0, .int 0, .ref (u_4.1 1), .ref (u_4.1 2), .ref (u_4.1 3), .ref (u_4.1 4), .ref (u_4.1 5), .ref (u_4.1 6), .ref (u_4.1 7), .ref (u_4.1 8)])), ((u_4.1 1), .inl (cA 1, 8, .inl (fun _ => 0))), ((u_4.1 2), .inl (cA 1, 8, .inl (fun _ => 0))), ((u_4.1 3), .inl (cA 1, 8, .inl (fun _ => 0))), ((u_4.1 4), .inl (cA 1, 7, .inl (fun _ => 0))), ((u_4.1 5), .inl (cA 1, 7, .inl (fun _ => 0))), ((u_4.1 6), .inl (cA 1, 7, .inl (fun _ => 0))), ((u_4.1 7), .inl (cA 1, 4, .inl (fun _ => 0))), ((u_4.1 8), .inl (cA 1, 4, .inl (fun _ => 0))), ((u_4.1 9), .inl (cA 1, 3, .inl (fun _ => 0))), (q_5, .inr (3, [.int 0, .int 0, .int 0, .int 0, .int 0, .int 0, .int 0, .int 0, .ref (u_6.1 0), .ref (u_6.1 1), .ref (u_6.1 2), .ref (u_6.1 3), .ref (u_6.1 4), .ref (u_6.1 5), .ref (u_6.1 6), .ref (u_6.1 7)])), ((u_6.1 0), .inl (cA 1, 8, .inl (fun _ => 0))), ((u_6.1 1), .inl (cA 1, 8, .inl (fun _ => 0))), ((u_6.1 2), .inl (cA 1, 8, .inl (fun _ => 0))), ((u_6.1 3), .inl (cA 1, 7, .inl (fun _ => 0))), ((u_6.1 4), .inl (cA 1, 7, .inl (fun _ => 0))), ((u_6.1 5), .inl (cA 1, 7, .inl (fun _ => 0))), ((u_6.1 6), .inl (cA 1, 4, .inl (fun _ => 0))), ((u_6.1 7), .inl (cA 1, 4, .inl (fun _ => 0))), (q_7, .inr (2, [.int (-1), .int (-1), .int 0, .int 0, .int 0, .int 0, .int 0, .ref (u_8.1 0), .ref (u_8.1 1), .ref (u_8.1 2)])), ((u_8.1 0), .inl (cA 1, 60, .inl (fun _ => 0))), ((u_8.1 1), .inl (cA 1, 60, .inl (fun _ => 0))), ((u_8.1 2), .inl (cA 1, 60, .inl (fun _ => 0)))] H := hP
  have hD : va_D A [(h0, .inr (11, [.ref q_1, .ref q_3, .ref q_5, .ref q_7, .null, .null, .null, .null, .null, .null, .null])), (q_1, .inr (9, [.ref (u_2.1 0), .int 0])), ((u_2.1 0), .inl (cA 0, 800, .inl (fun _ => 0))), (q_3, .inr (6, [.ref (u_4.1 0), .int 0, .int (-1), .ref q_1, .int 0, .int 0, .int 0, .int 0, .int 0, .int 0, .int 0, .int 0, .ref (u_4.1 9)])), ((u_4.1 0), .inr (3, [.int 0, .int 0, .int 0, .int 0, .int 0, .int 0, .int 0, .int 0, .ref (u_4.1 1), .ref (u_4.1 2), .ref (u_4.1 3), .ref (u_4.1 4), .ref (u_4.1 5), .ref (u_4.1 6), .ref (u_4.1 7), .ref (u_4.1 8)])), ((u_4.1 1), .inl (cA 1, 8, .inl (fun _ => 0))), ((u_4.1 2), .inl (cA 1, 8, .inl (fun _ => 0))), ((u_4.1 3), .inl (cA 1, 8, .inl (fun _ => 0))), ((u_4.1 4), .inl (cA 1, 7, .inl (fun _ => 0))), ((u_4.1 5), .inl (cA 1, 7, .inl (fun _ => 0))), ((u_4.1 6), .inl (cA 1, 7, .inl (fun _ => 0))), ((u_4.1 7), .inl (cA 1, 4, .inl (fun _ => 0))), ((u_4.1 8), .inl (cA 1, 4, .inl (fun _ => 0))), ((u_4.1 9), .inl (cA 1, 3, .inl (fun _ => 0))), (q_5, .inr (3, [.int 0, .int 0, .int 0, .int 0, .int 0, .int 0, .int 0, .int 0, .ref (u_6.1 0), .ref (u_6.1 1), .ref (u_6.1 2), .ref (u_6.1 3), .ref (u_6.1 4), .ref (u_6.1 5), .ref (u_6.1 6), .ref (u_6.1 7)])), ((u_6.1 0), .inl (cA 1, 8, .inl (fun _ => 0))), ((u_6.1 1), .inl (cA 1, 8, .inl (fun _ => 0))), ((u_6.1 2), .inl (cA 1, 8, .inl (fun _ => 0))), ((u_6.1 3), .inl (cA 1, 7, .inl (fun _ => 0))), ((u_6.1 4), .inl (cA 1, 7, .inl (fun _ => 0))), ((u_6.1 5), .inl (cA 1, 7, .inl (fun _ => 0))), ((u_6.1 6), .inl (cA 1, 4, .inl (fun _ => 0))), ((u_6.1 7), .inl (cA 1, 4, .inl (fun _ => 0))), (q_7, .inr (2, [.int (-1), .int (-1), .int 0, .int 0, .int 0, .int 0, .int 0, .ref (u_8.1 0), .ref (u_8.1 1), .ref (u_8.1 2)])), ((u_8.1 0), .inl (cA 1, 60, .inl (fun _ => 0))), ((u_8.1 1), .inl (cA 1, 60, .inl (fun _ => 0))), ((u_8.1 2), .inl (cA 1, 60, .inl (fun _ => 0)))] := hD
  refine lv_aload_n hx hb dX11_init_52 rfl (lv_at hl 0 rfl) ?_
  refine lv_iconst (v := 3) hx hb dX11_init_53 (by decide) ?_
  refine nwQ hx hb hown (hts _ tw_311) hKN 4 rfl hAO hP hD hS hA (n := 3) (N' := 3) (by decide) (by decide) (by decide) (Nat.le_of_ble_eq_true rfl) (Nat.le_of_ble_eq_true rfl) dX11_init_54 (fun q_9 H hP hD hS => ?_)
  have hP : va_P D vwCl [(h0, .inr (11, [.ref q_1, .ref q_3, .ref q_5, .ref q_7, .null, .null, .null, .null, .null, .null, .null])), (q_1, .inr (9, [.ref (u_2.1 0), .int 0])), ((u_2.1 0), .inl (cA 0, 800, .inl (fun _ => 0))), (q_3, .inr (6, [.ref (u_4.1 0), .int 0, .int (-1), .ref q_1, .int 0, .int 0, .int 0, .int 0, .int 0, .int 0, .int 0, .int 0, .ref (u_4.1 9)])), ((u_4.1 0), .inr (3, [.int 0, .int 0, .int 0, .int 0, .int 0, .int 0, .int 0, .int 0, .ref (u_4.1 1), .ref (u_4.1 2), .ref (u_4.1 3), .ref (u_4.1 4), .ref (u_4.1 5), .ref (u_4.1 6), .ref (u_4.1 7), .ref (u_4.1 8)])), ((u_4.1 1), .inl (cA 1, 8, .inl (fun _ => 0))), ((u_4.1 2), .inl (cA 1, 8, .inl (fun _ => 0))), ((u_4.1 3), .inl (cA 1, 8, .inl (fun _ => 0))), ((u_4.1 4), .inl (cA 1, 7, .inl (fun _ => 0))), ((u_4.1 5), .inl (cA 1, 7, .inl (fun _ => 0))), ((u_4.1 6), .inl (cA 1, 7, .inl (fun _ => 0))), ((u_4.1 7), .inl (cA 1, 4, .inl (fun _ => 0))), ((u_4.1 8), .inl (cA 1, 4, .inl (fun _ => 0))), ((u_4.1 9), .inl (cA 1, 3, .inl (fun _ => 0))), (q_5, .inr (3, [.int 0, .int 0, .int 0, .int 0, .int 0, .int 0, .int 0, .int 0, .ref (u_6.1 0), .ref (u_6.1 1), .ref (u_6.1 2), .ref (u_6.1 3), .ref (u_6.1 4), .ref (u_6.1 5), .ref (u_6.1 6), .ref (u_6.1 7)])), ((u_6.1 0), .inl (cA 1, 8, .inl (fun _ => 0))), ((u_6.1 1), .inl (cA 1, 8, .inl (fun _ => 0))), ((u_6.1 2), .inl (cA 1, 8, .inl (fun _ => 0))), ((u_6.1 3), .inl (cA 1, 7, .inl (fun _ => 0))), ((u_6.1 4), .inl (cA 1, 7, .inl (fun _ => 0))), ((u_6.1 5), .inl (cA 1, 7, .inl (fun _ => 0))), ((u_6.1 6), .inl (cA 1, 4, .inl (fun _ => 0))), ((u_6.1 7), .inl (cA 1, 4, .inl (fun _ => 0))), (q_7, .inr (2, [.int (-1), .int (-1), .int 0, .int 0, .int 0, .int 0, .int 0, .ref (u_8.1 0), .ref (u_8.1 1), .ref (u_8.1 2)])), ((u_8.1 0), .inl (cA 1, 60, .inl (fun _ => 0))), ((u_8.1 1), .inl (cA 1, 60, .inl (fun _ => 0))), ((u_8.1 2), .inl (cA 1, 60, .inl (fun _ => 0))), (q_9, .inl (cA 4, 3, .inr (.inr (.inr (.inr (fun _ => none))))))] H := hP
  have hD : va_D A [(h0, .inr (11, [.ref q_1, .ref q_3, .ref q_5, .ref q_7, .null, .null, .null, .null, .null, .null, .null])), (q_1, .inr (9, [.ref (u_2.1 0), .int 0])), ((u_2.1 0), .inl (cA 0, 800, .inl (fun _ => 0))), (q_3, .inr (6, [.ref (u_4.1 0), .int 0, .int (-1), .ref q_1, .int 0, .int 0, .int 0, .int 0, .int 0, .int 0, .int 0, .int 0, .ref (u_4.1 9)])), ((u_4.1 0), .inr (3, [.int 0, .int 0, .int 0, .int 0, .int 0, .int 0, .int 0, .int 0, .ref (u_4.1 1), .ref (u_4.1 2), .ref (u_4.1 3), .ref (u_4.1 4), .ref (u_4.1 5), .ref (u_4.1 6), .ref (u_4.1 7), .ref (u_4.1 8)])), ((u_4.1 1), .inl (cA 1, 8, .inl (fun _ => 0))), ((u_4.1 2), .inl (cA 1, 8, .inl (fun _ => 0))), ((u_4.1 3), .inl (cA 1, 8, .inl (fun _ => 0))), ((u_4.1 4), .inl (cA 1, 7, .inl (fun _ => 0))), ((u_4.1 5), .inl (cA 1, 7, .inl (fun _ => 0))), ((u_4.1 6), .inl (cA 1, 7, .inl (fun _ => 0))), ((u_4.1 7), .inl (cA 1, 4, .inl (fun _ => 0))), ((u_4.1 8), .inl (cA 1, 4, .inl (fun _ => 0))), ((u_4.1 9), .inl (cA 1, 3, .inl (fun _ => 0))), (q_5, .inr (3, [.int 0, .int 0, .int 0, .int 0, .int 0, .int 0, .int 0, .int 0, .ref (u_6.1 0), .ref (u_6.1 1), .ref (u_6.1 2), .ref (u_6.1 3), .ref (u_6.1 4), .ref (u_6.1 5), .ref (u_6.1 6), .ref (u_6.1 7)])), ((u_6.1 0), .inl (cA 1, 8, .inl (fun _ => 0))), ((u_6.1 1), .inl (cA 1, 8, .inl (fun _ => 0))), ((u_6.1 2), .inl (cA 1, 8, .inl (fun _ => 0))), ((u_6.1 3), .inl (cA 1, 7, .inl (fun _ => 0))), ((u_6.1 4), .inl (cA 1, 7, .inl (fun _ => 0))), ((u_6.1 5), .inl (cA 1, 7, .inl (fun _ => 0))), ((u_6.1 6), .inl (cA 1, 4, .inl (fun _ => 0))), ((u_6.1 7), .inl (cA 1, 4, .inl (fun _ => 0))), (q_7, .inr (2, [.int (-1), .int (-1), .int 0, .int 0, .int 0, .int 0, .int 0, .ref (u_8.1 0), .ref (u_8.1 1), .ref (u_8.1 2)])), ((u_8.1 0), .inl (cA 1, 60, .inl (fun _ => 0))), ((u_8.1 1), .inl (cA 1, 60, .inl (fun _ => 0))), ((u_8.1 2), .inl (cA 1, 60, .inl (fun _ => 0))), (q_9, .inl (cA 4, 3, .inr (.inr (.inr (.inr (fun _ => none))))))] := hD
  refine W.widen (k := 27) (n := 1149) (Nat.le_of_ble_eq_true rfl) (Nat.le_of_ble_eq_true rfl) ?_
  refine va_putF (D := D) (ci := 11) (v := .ref q_9) (ty := (.array (.object "WristTreaty$Image"))) (C := RX11) (T := TX11) (N := 11) hx hb hts inX11 tyX11 tyX11_ok nmX11 hown hKN.1 hP hD hS 0 rfl rfl 4 (by decide) (hts _ tw_469) (fun _ h9 => h9) rfl hin rfl (by decide +kernel) rfl rfl (Nat.le_of_ble_eq_true rfl) dX11_init_57 (fun H locs hP hD hS => ?_)
  have hP : va_P D vwCl [(h0, .inr (11, [.ref q_1, .ref q_3, .ref q_5, .ref q_7, .ref q_9, .null, .null, .null, .null, .null, .null])), (q_1, .inr (9, [.ref (u_2.1 0), .int 0])), ((u_2.1 0), .inl (cA 0, 800, .inl (fun _ => 0))), (q_3, .inr (6, [.ref (u_4.1 0), .int 0, .int (-1), .ref q_1, .int 0, .int 0, .int 0, .int 0, .int 0, .int 0, .int 0, .int 0, .ref (u_4.1 9)])), ((u_4.1 0), .inr (3, [.int 0, .int 0, .int 0, .int 0, .int 0, .int 0, .int 0, .int 0, .ref (u_4.1 1), .ref (u_4.1 2), .ref (u_4.1 3), .ref (u_4.1 4), .ref (u_4.1 5), .ref (u_4.1 6), .ref (u_4.1 7), .ref (u_4.1 8)])), ((u_4.1 1), .inl (cA 1, 8, .inl (fun _ => 0))), ((u_4.1 2), .inl (cA 1, 8, .inl (fun _ => 0))), ((u_4.1 3), .inl (cA 1, 8, .inl (fun _ => 0))), ((u_4.1 4), .inl (cA 1, 7, .inl (fun _ => 0))), ((u_4.1 5), .inl (cA 1, 7, .inl (fun _ => 0))), ((u_4.1 6), .inl (cA 1, 7, .inl (fun _ => 0))), ((u_4.1 7), .inl (cA 1, 4, .inl (fun _ => 0))), ((u_4.1 8), .inl (cA 1, 4, .inl (fun _ => 0))), ((u_4.1 9), .inl (cA 1, 3, .inl (fun _ => 0))), (q_5, .inr (3, [.int 0, .int 0, .int 0, .int 0, .int 0, .int 0, .int 0, .int 0, .ref (u_6.1 0), .ref (u_6.1 1), .ref (u_6.1 2), .ref (u_6.1 3), .ref (u_6.1 4), .ref (u_6.1 5), .ref (u_6.1 6), .ref (u_6.1 7)])), ((u_6.1 0), .inl (cA 1, 8, .inl (fun _ => 0))), ((u_6.1 1), .inl (cA 1, 8, .inl (fun _ => 0))), ((u_6.1 2), .inl (cA 1, 8, .inl (fun _ => 0))), ((u_6.1 3), .inl (cA 1, 7, .inl (fun _ => 0))), ((u_6.1 4), .inl (cA 1, 7, .inl (fun _ => 0))), ((u_6.1 5), .inl (cA 1, 7, .inl (fun _ => 0))), ((u_6.1 6), .inl (cA 1, 4, .inl (fun _ => 0))), ((u_6.1 7), .inl (cA 1, 4, .inl (fun _ => 0))), (q_7, .inr (2, [.int (-1), .int (-1), .int 0, .int 0, .int 0, .int 0, .int 0, .ref (u_8.1 0), .ref (u_8.1 1), .ref (u_8.1 2)])), ((u_8.1 0), .inl (cA 1, 60, .inl (fun _ => 0))), ((u_8.1 1), .inl (cA 1, 60, .inl (fun _ => 0))), ((u_8.1 2), .inl (cA 1, 60, .inl (fun _ => 0))), (q_9, .inl (cA 4, 3, .inr (.inr (.inr (.inr (fun _ => none))))))] H := hP
  have hD : va_D A [(h0, .inr (11, [.ref q_1, .ref q_3, .ref q_5, .ref q_7, .ref q_9, .null, .null, .null, .null, .null, .null])), (q_1, .inr (9, [.ref (u_2.1 0), .int 0])), ((u_2.1 0), .inl (cA 0, 800, .inl (fun _ => 0))), (q_3, .inr (6, [.ref (u_4.1 0), .int 0, .int (-1), .ref q_1, .int 0, .int 0, .int 0, .int 0, .int 0, .int 0, .int 0, .int 0, .ref (u_4.1 9)])), ((u_4.1 0), .inr (3, [.int 0, .int 0, .int 0, .int 0, .int 0, .int 0, .int 0, .int 0, .ref (u_4.1 1), .ref (u_4.1 2), .ref (u_4.1 3), .ref (u_4.1 4), .ref (u_4.1 5), .ref (u_4.1 6), .ref (u_4.1 7), .ref (u_4.1 8)])), ((u_4.1 1), .inl (cA 1, 8, .inl (fun _ => 0))), ((u_4.1 2), .inl (cA 1, 8, .inl (fun _ => 0))), ((u_4.1 3), .inl (cA 1, 8, .inl (fun _ => 0))), ((u_4.1 4), .inl (cA 1, 7, .inl (fun _ => 0))), ((u_4.1 5), .inl (cA 1, 7, .inl (fun _ => 0))), ((u_4.1 6), .inl (cA 1, 7, .inl (fun _ => 0))), ((u_4.1 7), .inl (cA 1, 4, .inl (fun _ => 0))), ((u_4.1 8), .inl (cA 1, 4, .inl (fun _ => 0))), ((u_4.1 9), .inl (cA 1, 3, .inl (fun _ => 0))), (q_5, .inr (3, [.int 0, .int 0, .int 0, .int 0, .int 0, .int 0, .int 0, .int 0, .ref (u_6.1 0), .ref (u_6.1 1), .ref (u_6.1 2), .ref (u_6.1 3), .ref (u_6.1 4), .ref (u_6.1 5), .ref (u_6.1 6), .ref (u_6.1 7)])), ((u_6.1 0), .inl (cA 1, 8, .inl (fun _ => 0))), ((u_6.1 1), .inl (cA 1, 8, .inl (fun _ => 0))), ((u_6.1 2), .inl (cA 1, 8, .inl (fun _ => 0))), ((u_6.1 3), .inl (cA 1, 7, .inl (fun _ => 0))), ((u_6.1 4), .inl (cA 1, 7, .inl (fun _ => 0))), ((u_6.1 5), .inl (cA 1, 7, .inl (fun _ => 0))), ((u_6.1 6), .inl (cA 1, 4, .inl (fun _ => 0))), ((u_6.1 7), .inl (cA 1, 4, .inl (fun _ => 0))), (q_7, .inr (2, [.int (-1), .int (-1), .int 0, .int 0, .int 0, .int 0, .int 0, .ref (u_8.1 0), .ref (u_8.1 1), .ref (u_8.1 2)])), ((u_8.1 0), .inl (cA 1, 60, .inl (fun _ => 0))), ((u_8.1 1), .inl (cA 1, 60, .inl (fun _ => 0))), ((u_8.1 2), .inl (cA 1, 60, .inl (fun _ => 0))), (q_9, .inl (cA 4, 3, .inr (.inr (.inr (.inr (fun _ => none))))))] := hD
  refine lv_iconst (v := 0) hx hb dX11_init_60 (by decide) ?_
  refine lv_istore_n (lv' := [(1, .int 0), (0, .ref h0)]) hx hb dX11_init_61 rfl hl (by decide) rfl (fun ls hl => ?_)
  refine lv_iload_n hx hb dX11_init_62 rfl (lv_at hl 0 rfl) ?_
  refine lv_iconst (v := 3) hx hb dX11_init_63 (by decide) ?_
  refine lv_icmp_ge (tgt := 86) hx hb dX11_init_64 (by decide) (fun c_10 => absurd c_10 (by decide)) (fun c_10 => ?_)
  refine lv_aload_n hx hb dX11_init_67 rfl (lv_at hl 1 rfl) ?_
  refine va_get (D := D) (ci := 11) (v := .ref q_9) (C := RX11) (T := TX11) (N := 11) hx hb hts inX11 hown hKN.1 hP 0 rfl rfl 4 (by decide) (hts _ tw_469) (fun _ h9 => h9) rfl dX11_init_68 ?_
  refine lv_iload_n hx hb dX11_init_71 rfl (lv_at hl 0 rfl) ?_
  refine va_new (ci := 4) (fs := [.null, .null, .int 0]) (C := RX4) (T := TX4) (N := 3) hx hb hts inX4 tyX4 tyX4_ok hown (hts _ tw_311) (hts _ tw_313) (hts _ tw_106) hKN.1 hP hD hS hA rfl dfX4 (Nat.le_of_ble_eq_true rfl) (Nat.le_of_ble_eq_true rfl) dX11_init_72 (fun q_11 H hP hD hS => ?_)
  have hP : va_P D vwCl [(h0, .inr (11, [.ref q_1, .ref q_3, .ref q_5, .ref q_7, .ref q_9, .null, .null, .null, .null, .null, .null])), (q_1, .inr (9, [.ref (u_2.1 0), .int 0])), ((u_2.1 0), .inl (cA 0, 800, .inl (fun _ => 0))), (q_3, .inr (6, [.ref (u_4.1 0), .int 0, .int (-1), .ref q_1, .int 0, .int 0, .int 0, .int 0, .int 0, .int 0, .int 0, .int 0, .ref (u_4.1 9)])), ((u_4.1 0), .inr (3, [.int 0, .int 0, .int 0, .int 0, .int 0, .int 0, .int 0, .int 0, .ref (u_4.1 1), .ref (u_4.1 2), .ref (u_4.1 3), .ref (u_4.1 4), .ref (u_4.1 5), .ref (u_4.1 6), .ref (u_4.1 7), .ref (u_4.1 8)])), ((u_4.1 1), .inl (cA 1, 8, .inl (fun _ => 0))), ((u_4.1 2), .inl (cA 1, 8, .inl (fun _ => 0))), ((u_4.1 3), .inl (cA 1, 8, .inl (fun _ => 0))), ((u_4.1 4), .inl (cA 1, 7, .inl (fun _ => 0))), ((u_4.1 5), .inl (cA 1, 7, .inl (fun _ => 0))), ((u_4.1 6), .inl (cA 1, 7, .inl (fun _ => 0))), ((u_4.1 7), .inl (cA 1, 4, .inl (fun _ => 0))), ((u_4.1 8), .inl (cA 1, 4, .inl (fun _ => 0))), ((u_4.1 9), .inl (cA 1, 3, .inl (fun _ => 0))), (q_5, .inr (3, [.int 0, .int 0, .int 0, .int 0, .int 0, .int 0, .int 0, .int 0, .ref (u_6.1 0), .ref (u_6.1 1), .ref (u_6.1 2), .ref (u_6.1 3), .ref (u_6.1 4), .ref (u_6.1 5), .ref (u_6.1 6), .ref (u_6.1 7)])), ((u_6.1 0), .inl (cA 1, 8, .inl (fun _ => 0))), ((u_6.1 1), .inl (cA 1, 8, .inl (fun _ => 0))), ((u_6.1 2), .inl (cA 1, 8, .inl (fun _ => 0))), ((u_6.1 3), .inl (cA 1, 7, .inl (fun _ => 0))), ((u_6.1 4), .inl (cA 1, 7, .inl (fun _ => 0))), ((u_6.1 5), .inl (cA 1, 7, .inl (fun _ => 0))), ((u_6.1 6), .inl (cA 1, 4, .inl (fun _ => 0))), ((u_6.1 7), .inl (cA 1, 4, .inl (fun _ => 0))), (q_7, .inr (2, [.int (-1), .int (-1), .int 0, .int 0, .int 0, .int 0, .int 0, .ref (u_8.1 0), .ref (u_8.1 1), .ref (u_8.1 2)])), ((u_8.1 0), .inl (cA 1, 60, .inl (fun _ => 0))), ((u_8.1 1), .inl (cA 1, 60, .inl (fun _ => 0))), ((u_8.1 2), .inl (cA 1, 60, .inl (fun _ => 0))), (q_9, .inl (cA 4, 3, .inr (.inr (.inr (.inr (fun _ => none)))))), (q_11, .inr (4, [.null, .null, .int 0]))] H := hP
  have hD : va_D A [(h0, .inr (11, [.ref q_1, .ref q_3, .ref q_5, .ref q_7, .ref q_9, .null, .null, .null, .null, .null, .null])), (q_1, .inr (9, [.ref (u_2.1 0), .int 0])), ((u_2.1 0), .inl (cA 0, 800, .inl (fun _ => 0))), (q_3, .inr (6, [.ref (u_4.1 0), .int 0, .int (-1), .ref q_1, .int 0, .int 0, .int 0, .int 0, .int 0, .int 0, .int 0, .int 0, .ref (u_4.1 9)])), ((u_4.1 0), .inr (3, [.int 0, .int 0, .int 0, .int 0, .int 0, .int 0, .int 0, .int 0, .ref (u_4.1 1), .ref (u_4.1 2), .ref (u_4.1 3), .ref (u_4.1 4), .ref (u_4.1 5), .ref (u_4.1 6), .ref (u_4.1 7), .ref (u_4.1 8)])), ((u_4.1 1), .inl (cA 1, 8, .inl (fun _ => 0))), ((u_4.1 2), .inl (cA 1, 8, .inl (fun _ => 0))), ((u_4.1 3), .inl (cA 1, 8, .inl (fun _ => 0))), ((u_4.1 4), .inl (cA 1, 7, .inl (fun _ => 0))), ((u_4.1 5), .inl (cA 1, 7, .inl (fun _ => 0))), ((u_4.1 6), .inl (cA 1, 7, .inl (fun _ => 0))), ((u_4.1 7), .inl (cA 1, 4, .inl (fun _ => 0))), ((u_4.1 8), .inl (cA 1, 4, .inl (fun _ => 0))), ((u_4.1 9), .inl (cA 1, 3, .inl (fun _ => 0))), (q_5, .inr (3, [.int 0, .int 0, .int 0, .int 0, .int 0, .int 0, .int 0, .int 0, .ref (u_6.1 0), .ref (u_6.1 1), .ref (u_6.1 2), .ref (u_6.1 3), .ref (u_6.1 4), .ref (u_6.1 5), .ref (u_6.1 6), .ref (u_6.1 7)])), ((u_6.1 0), .inl (cA 1, 8, .inl (fun _ => 0))), ((u_6.1 1), .inl (cA 1, 8, .inl (fun _ => 0))), ((u_6.1 2), .inl (cA 1, 8, .inl (fun _ => 0))), ((u_6.1 3), .inl (cA 1, 7, .inl (fun _ => 0))), ((u_6.1 4), .inl (cA 1, 7, .inl (fun _ => 0))), ((u_6.1 5), .inl (cA 1, 7, .inl (fun _ => 0))), ((u_6.1 6), .inl (cA 1, 4, .inl (fun _ => 0))), ((u_6.1 7), .inl (cA 1, 4, .inl (fun _ => 0))), (q_7, .inr (2, [.int (-1), .int (-1), .int 0, .int 0, .int 0, .int 0, .int 0, .ref (u_8.1 0), .ref (u_8.1 1), .ref (u_8.1 2)])), ((u_8.1 0), .inl (cA 1, 60, .inl (fun _ => 0))), ((u_8.1 1), .inl (cA 1, 60, .inl (fun _ => 0))), ((u_8.1 2), .inl (cA 1, 60, .inl (fun _ => 0))), (q_9, .inl (cA 4, 3, .inr (.inr (.inr (.inr (fun _ => none)))))), (q_11, .inr (4, [.null, .null, .int 0]))] := hD
  refine W.widen (k := 28) (n := 1152) (Nat.le_of_ble_eq_true rfl) (Nat.le_of_ble_eq_true rfl) ?_
  refine lv_dup hx hb dX11_init_75 rfl ?_
  refine cmINv (rest := [.ref q_11, .int 0, .ref q_9]) (wsC := [(q_11, .inr (4, [.null, .null, .int 0]))]) (wr := [(h0, .inr (11, [.ref q_1, .ref q_3, .ref q_5, .ref q_7, .ref q_9, .null, .null, .null, .null, .null, .null])), (q_1, .inr (9, [.ref (u_2.1 0), .int 0])), ((u_2.1 0), .inl (cA 0, 800, .inl (fun _ => 0))), (q_3, .inr (6, [.ref (u_4.1 0), .int 0, .int (-1), .ref q_1, .int 0, .int 0, .int 0, .int 0, .int 0, .int 0, .int 0, .int 0, .ref (u_4.1 9)])), ((u_4.1 0), .inr (3, [.int 0, .int 0, .int 0, .int 0, .int 0, .int 0, .int 0, .int 0, .ref (u_4.1 1), .ref (u_4.1 2), .ref (u_4.1 3), .ref (u_4.1 4), .ref (u_4.1 5), .ref (u_4.1 6), .ref (u_4.1 7), .ref (u_4.1 8)])), ((u_4.1 1), .inl (cA 1, 8, .inl (fun _ => 0))), ((u_4.1 2), .inl (cA 1, 8, .inl (fun _ => 0))), ((u_4.1 3), .inl (cA 1, 8, .inl (fun _ => 0))), ((u_4.1 4), .inl (cA 1, 7, .inl (fun _ => 0))), ((u_4.1 5), .inl (cA 1, 7, .inl (fun _ => 0))), ((u_4.1 6), .inl (cA 1, 7, .inl (fun _ => 0))), ((u_4.1 7), .inl (cA 1, 4, .inl (fun _ => 0))), ((u_4.1 8), .inl (cA 1, 4, .inl (fun _ => 0))), ((u_4.1 9), .inl (cA 1, 3, .inl (fun _ => 0))), (q_5, .inr (3, [.int 0, .int 0, .int 0, .int 0, .int 0, .int 0, .int 0, .int 0, .ref (u_6.1 0), .ref (u_6.1 1), .ref (u_6.1 2), .ref (u_6.1 3), .ref (u_6.1 4), .ref (u_6.1 5), .ref (u_6.1 6), .ref (u_6.1 7)])), ((u_6.1 0), .inl (cA 1, 8, .inl (fun _ => 0))), ((u_6.1 1), .inl (cA 1, 8, .inl (fun _ => 0))), ((u_6.1 2), .inl (cA 1, 8, .inl (fun _ => 0))), ((u_6.1 3), .inl (cA 1, 7, .inl (fun _ => 0))), ((u_6.1 4), .inl (cA 1, 7, .inl (fun _ => 0))), ((u_6.1 5), .inl (cA 1, 7, .inl (fun _ => 0))), ((u_6.1 6), .inl (cA 1, 4, .inl (fun _ => 0))), ((u_6.1 7), .inl (cA 1, 4, .inl (fun _ => 0))), (q_7, .inr (2, [.int (-1), .int (-1), .int 0, .int 0, .int 0, .int 0, .int 0, .ref (u_8.1 0), .ref (u_8.1 1), .ref (u_8.1 2)])), ((u_8.1 0), .inl (cA 1, 60, .inl (fun _ => 0))), ((u_8.1 1), .inl (cA 1, 60, .inl (fun _ => 0))), ((u_8.1 2), .inl (cA 1, 60, .inl (fun _ => 0))), (q_9, .inl (cA 4, 3, .inr (.inr (.inr (.inr (fun _ => none))))))]) ⟨hx, hb, hml, hown, hts⟩ hKN hP hD hS hA [28] [0, 1, 2, 3, 4, 5, 6, 7, 8, 9, 10, 11, 12, 13, 14, 15, 16, 17, 18, 19, 20, 21, 22, 23, 24, 25, 26, 27] rfl rfl (by decide) (by decide) (by decide) (k_X4_init l D cA _ q_11) ⟨nw_4, tw_315, tw_106, tw_316⟩ hdX4_init ⟨rfl, rfl, Nat.le_of_ble_eq_true rfl, Nat.le_of_ble_eq_true rfl⟩ ⟨Nat.le_of_ble_eq_true rfl, Nat.le_of_ble_eq_true rfl⟩ rfl hl.1 rfl (Nat.le_of_ble_eq_true rfl) dX11_init_76 (fun u_12 H locs hr_12 hP hD hS => ?_)
  have hP : va_P D vwCl [(h0, .inr (11, [.ref q_1, .ref q_3, .ref q_5, .ref q_7, .ref q_9, .null, .null, .null, .null, .null, .null])), (q_1, .inr (9, [.ref (u_2.1 0), .int 0])), ((u_2.1 0), .inl (cA 0, 800, .inl (fun _ => 0))), (q_3, .inr (6, [.ref (u_4.1 0), .int 0, .int (-1), .ref q_1, .int 0, .int 0, .int 0, .int 0, .int 0, .int 0, .int 0, .int 0, .ref (u_4.1 9)])), ((u_4.1 0), .inr (3, [.int 0, .int 0, .int 0, .int 0, .int 0, .int 0, .int 0, .int 0, .ref (u_4.1 1), .ref (u_4.1 2), .ref (u_4.1 3), .ref (u_4.1 4), .ref (u_4.1 5), .ref (u_4.1 6), .ref (u_4.1 7), .ref (u_4.1 8)])), ((u_4.1 1), .inl (cA 1, 8, .inl (fun _ => 0))), ((u_4.1 2), .inl (cA 1, 8, .inl (fun _ => 0))), ((u_4.1 3), .inl (cA 1, 8, .inl (fun _ => 0))), ((u_4.1 4), .inl (cA 1, 7, .inl (fun _ => 0))), ((u_4.1 5), .inl (cA 1, 7, .inl (fun _ => 0))), ((u_4.1 6), .inl (cA 1, 7, .inl (fun _ => 0))), ((u_4.1 7), .inl (cA 1, 4, .inl (fun _ => 0))), ((u_4.1 8), .inl (cA 1, 4, .inl (fun _ => 0))), ((u_4.1 9), .inl (cA 1, 3, .inl (fun _ => 0))), (q_5, .inr (3, [.int 0, .int 0, .int 0, .int 0, .int 0, .int 0, .int 0, .int 0, .ref (u_6.1 0), .ref (u_6.1 1), .ref (u_6.1 2), .ref (u_6.1 3), .ref (u_6.1 4), .ref (u_6.1 5), .ref (u_6.1 6), .ref (u_6.1 7)])), ((u_6.1 0), .inl (cA 1, 8, .inl (fun _ => 0))), ((u_6.1 1), .inl (cA 1, 8, .inl (fun _ => 0))), ((u_6.1 2), .inl (cA 1, 8, .inl (fun _ => 0))), ((u_6.1 3), .inl (cA 1, 7, .inl (fun _ => 0))), ((u_6.1 4), .inl (cA 1, 7, .inl (fun _ => 0))), ((u_6.1 5), .inl (cA 1, 7, .inl (fun _ => 0))), ((u_6.1 6), .inl (cA 1, 4, .inl (fun _ => 0))), ((u_6.1 7), .inl (cA 1, 4, .inl (fun _ => 0))), (q_7, .inr (2, [.int (-1), .int (-1), .int 0, .int 0, .int 0, .int 0, .int 0, .ref (u_8.1 0), .ref (u_8.1 1), .ref (u_8.1 2)])), ((u_8.1 0), .inl (cA 1, 60, .inl (fun _ => 0))), ((u_8.1 1), .inl (cA 1, 60, .inl (fun _ => 0))), ((u_8.1 2), .inl (cA 1, 60, .inl (fun _ => 0))), (q_9, .inl (cA 4, 3, .inr (.inr (.inr (.inr (fun _ => none)))))), (q_11, .inr (4, [.ref (u_12.1 0), .ref (u_12.1 9), .int 0])), ((u_12.1 0), .inr (3, [.int 0, .int 0, .int 0, .int 0, .int 0, .int 0, .int 0, .int 0, .ref (u_12.1 1), .ref (u_12.1 2), .ref (u_12.1 3), .ref (u_12.1 4), .ref (u_12.1 5), .ref (u_12.1 6), .ref (u_12.1 7), .ref (u_12.1 8)])), ((u_12.1 1), .inl (cA 1, 8, .inl (fun _ => 0))), ((u_12.1 2), .inl (cA 1, 8, .inl (fun _ => 0))), ((u_12.1 3), .inl (cA 1, 8, .inl (fun _ => 0))), ((u_12.1 4), .inl (cA 1, 7, .inl (fun _ => 0))), ((u_12.1 5), .inl (cA 1, 7, .inl (fun _ => 0))), ((u_12.1 6), .inl (cA 1, 7, .inl (fun _ => 0))), ((u_12.1 7), .inl (cA 1, 4, .inl (fun _ => 0))), ((u_12.1 8), .inl (cA 1, 4, .inl (fun _ => 0))), ((u_12.1 9), .inr (2, [.int (-1), .int (-1), .int 0, .int 0, .int 0, .int 0, .int 0, .ref (u_12.1 10), .ref (u_12.1 11), .ref (u_12.1 12)])), ((u_12.1 10), .inl (cA 1, 60, .inl (fun _ => 0))), ((u_12.1 11), .inl (cA 1, 60, .inl (fun _ => 0))), ((u_12.1 12), .inl (cA 1, 60, .inl (fun _ => 0)))] H := hP
  have hD : va_D A [(h0, .inr (11, [.ref q_1, .ref q_3, .ref q_5, .ref q_7, .ref q_9, .null, .null, .null, .null, .null, .null])), (q_1, .inr (9, [.ref (u_2.1 0), .int 0])), ((u_2.1 0), .inl (cA 0, 800, .inl (fun _ => 0))), (q_3, .inr (6, [.ref (u_4.1 0), .int 0, .int (-1), .ref q_1, .int 0, .int 0, .int 0, .int 0, .int 0, .int 0, .int 0, .int 0, .ref (u_4.1 9)])), ((u_4.1 0), .inr (3, [.int 0, .int 0, .int 0, .int 0, .int 0, .int 0, .int 0, .int 0, .ref (u_4.1 1), .ref (u_4.1 2), .ref (u_4.1 3), .ref (u_4.1 4), .ref (u_4.1 5), .ref (u_4.1 6), .ref (u_4.1 7), .ref (u_4.1 8)])), ((u_4.1 1), .inl (cA 1, 8, .inl (fun _ => 0))), ((u_4.1 2), .inl (cA 1, 8, .inl (fun _ => 0))), ((u_4.1 3), .inl (cA 1, 8, .inl (fun _ => 0))), ((u_4.1 4), .inl (cA 1, 7, .inl (fun _ => 0))), ((u_4.1 5), .inl (cA 1, 7, .inl (fun _ => 0))), ((u_4.1 6), .inl (cA 1, 7, .inl (fun _ => 0))), ((u_4.1 7), .inl (cA 1, 4, .inl (fun _ => 0))), ((u_4.1 8), .inl (cA 1, 4, .inl (fun _ => 0))), ((u_4.1 9), .inl (cA 1, 3, .inl (fun _ => 0))), (q_5, .inr (3, [.int 0, .int 0, .int 0, .int 0, .int 0, .int 0, .int 0, .int 0, .ref (u_6.1 0), .ref (u_6.1 1), .ref (u_6.1 2), .ref (u_6.1 3), .ref (u_6.1 4), .ref (u_6.1 5), .ref (u_6.1 6), .ref (u_6.1 7)])), ((u_6.1 0), .inl (cA 1, 8, .inl (fun _ => 0))), ((u_6.1 1), .inl (cA 1, 8, .inl (fun _ => 0))), ((u_6.1 2), .inl (cA 1, 8, .inl (fun _ => 0))), ((u_6.1 3), .inl (cA 1, 7, .inl (fun _ => 0))), ((u_6.1 4), .inl (cA 1, 7, .inl (fun _ => 0))), ((u_6.1 5), .inl (cA 1, 7, .inl (fun _ => 0))), ((u_6.1 6), .inl (cA 1, 4, .inl (fun _ => 0))), ((u_6.1 7), .inl (cA 1, 4, .inl (fun _ => 0))), (q_7, .inr (2, [.int (-1), .int (-1), .int 0, .int 0, .int 0, .int 0, .int 0, .ref (u_8.1 0), .ref (u_8.1 1), .ref (u_8.1 2)])), ((u_8.1 0), .inl (cA 1, 60, .inl (fun _ => 0))), ((u_8.1 1), .inl (cA 1, 60, .inl (fun _ => 0))), ((u_8.1 2), .inl (cA 1, 60, .inl (fun _ => 0))), (q_9, .inl (cA 4, 3, .inr (.inr (.inr (.inr (fun _ => none)))))), (q_11, .inr (4, [.ref (u_12.1 0), .ref (u_12.1 9), .int 0])), ((u_12.1 0), .inr (3, [.int 0, .int 0, .int 0, .int 0, .int 0, .int 0, .int 0, .int 0, .ref (u_12.1 1), .ref (u_12.1 2), .ref (u_12.1 3), .ref (u_12.1 4), .ref (u_12.1 5), .ref (u_12.1 6), .ref (u_12.1 7), .ref (u_12.1 8)])), ((u_12.1 1), .inl (cA 1, 8, .inl (fun _ => 0))), ((u_12.1 2), .inl (cA 1, 8, .inl (fun _ => 0))), ((u_12.1 3), .inl (cA 1, 8, .inl (fun _ => 0))), ((u_12.1 4), .inl (cA 1, 7, .inl (fun _ => 0))), ((u_12.1 5), .inl (cA 1, 7, .inl (fun _ => 0))), ((u_12.1 6), .inl (cA 1, 7, .inl (fun _ => 0))), ((u_12.1 7), .inl (cA 1, 4, .inl (fun _ => 0))), ((u_12.1 8), .inl (cA 1, 4, .inl (fun _ => 0))), ((u_12.1 9), .inr (2, [.int (-1), .int (-1), .int 0, .int 0, .int 0, .int 0, .int 0, .ref (u_12.1 10), .ref (u_12.1 11), .ref (u_12.1 12)])), ((u_12.1 10), .inl (cA 1, 60, .inl (fun _ => 0))), ((u_12.1 11), .inl (cA 1, 60, .inl (fun _ => 0))), ((u_12.1 12), .inl (cA 1, 60, .inl (fun _ => 0)))] := hD
  refine W.widen (k := 41) (n := 1411) (Nat.le_of_ble_eq_true rfl) (Nat.le_of_ble_eq_true rfl) ?_
  refine va_astq hx hb hKN.1 hP hD hS 27 4 28 4 rfl rfl rfl rfl (by unfold vp_in; decide) dX11_init_79 (fun H locs hP hD hS => ?_)
  have hP : va_P D vwCl [(h0, .inr (11, [.ref q_1, .ref q_3, .ref q_5, .ref q_7, .ref q_9, .null, .null, .null, .null, .null, .null])), (q_1, .inr (9, [.ref (u_2.1 0), .int 0])), ((u_2.1 0), .inl (cA 0, 800, .inl (fun _ => 0))), (q_3, .inr (6, [.ref (u_4.1 0), .int 0, .int (-1), .ref q_1, .int 0, .int 0, .int 0, .int 0, .int 0, .int 0, .int 0, .int 0, .ref (u_4.1 9)])), ((u_4.1 0), .inr (3, [.int 0, .int 0, .int 0, .int 0, .int 0, .int 0, .int 0, .int 0, .ref (u_4.1 1), .ref (u_4.1 2), .ref (u_4.1 3), .ref (u_4.1 4), .ref (u_4.1 5), .ref (u_4.1 6), .ref (u_4.1 7), .ref (u_4.1 8)])), ((u_4.1 1), .inl (cA 1, 8, .inl (fun _ => 0))), ((u_4.1 2), .inl (cA 1, 8, .inl (fun _ => 0))), ((u_4.1 3), .inl (cA 1, 8, .inl (fun _ => 0))), ((u_4.1 4), .inl (cA 1, 7, .inl (fun _ => 0))), ((u_4.1 5), .inl (cA 1, 7, .inl (fun _ => 0))), ((u_4.1 6), .inl (cA 1, 7, .inl (fun _ => 0))), ((u_4.1 7), .inl (cA 1, 4, .inl (fun _ => 0))), ((u_4.1 8), .inl (cA 1, 4, .inl (fun _ => 0))), ((u_4.1 9), .inl (cA 1, 3, .inl (fun _ => 0))), (q_5, .inr (3, [.int 0, .int 0, .int 0, .int 0, .int 0, .int 0, .int 0, .int 0, .ref (u_6.1 0), .ref (u_6.1 1), .ref (u_6.1 2), .ref (u_6.1 3), .ref (u_6.1 4), .ref (u_6.1 5), .ref (u_6.1 6), .ref (u_6.1 7)])), ((u_6.1 0), .inl (cA 1, 8, .inl (fun _ => 0))), ((u_6.1 1), .inl (cA 1, 8, .inl (fun _ => 0))), ((u_6.1 2), .inl (cA 1, 8, .inl (fun _ => 0))), ((u_6.1 3), .inl (cA 1, 7, .inl (fun _ => 0))), ((u_6.1 4), .inl (cA 1, 7, .inl (fun _ => 0))), ((u_6.1 5), .inl (cA 1, 7, .inl (fun _ => 0))), ((u_6.1 6), .inl (cA 1, 4, .inl (fun _ => 0))), ((u_6.1 7), .inl (cA 1, 4, .inl (fun _ => 0))), (q_7, .inr (2, [.int (-1), .int (-1), .int 0, .int 0, .int 0, .int 0, .int 0, .ref (u_8.1 0), .ref (u_8.1 1), .ref (u_8.1 2)])), ((u_8.1 0), .inl (cA 1, 60, .inl (fun _ => 0))), ((u_8.1 1), .inl (cA 1, 60, .inl (fun _ => 0))), ((u_8.1 2), .inl (cA 1, 60, .inl (fun _ => 0))), (q_9, .inl (cA 4, 3, .inr (.inr (.inr (.inr (va_up (fun _ => none) 0 (some q_11))))))), (q_11, .inr (4, [.ref (u_12.1 0), .ref (u_12.1 9), .int 0])), ((u_12.1 0), .inr (3, [.int 0, .int 0, .int 0, .int 0, .int 0, .int 0, .int 0, .int 0, .ref (u_12.1 1), .ref (u_12.1 2), .ref (u_12.1 3), .ref (u_12.1 4), .ref (u_12.1 5), .ref (u_12.1 6), .ref (u_12.1 7), .ref (u_12.1 8)])), ((u_12.1 1), .inl (cA 1, 8, .inl (fun _ => 0))), ((u_12.1 2), .inl (cA 1, 8, .inl (fun _ => 0))), ((u_12.1 3), .inl (cA 1, 8, .inl (fun _ => 0))), ((u_12.1 4), .inl (cA 1, 7, .inl (fun _ => 0))), ((u_12.1 5), .inl (cA 1, 7, .inl (fun _ => 0))), ((u_12.1 6), .inl (cA 1, 7, .inl (fun _ => 0))), ((u_12.1 7), .inl (cA 1, 4, .inl (fun _ => 0))), ((u_12.1 8), .inl (cA 1, 4, .inl (fun _ => 0))), ((u_12.1 9), .inr (2, [.int (-1), .int (-1), .int 0, .int 0, .int 0, .int 0, .int 0, .ref (u_12.1 10), .ref (u_12.1 11), .ref (u_12.1 12)])), ((u_12.1 10), .inl (cA 1, 60, .inl (fun _ => 0))), ((u_12.1 11), .inl (cA 1, 60, .inl (fun _ => 0))), ((u_12.1 12), .inl (cA 1, 60, .inl (fun _ => 0)))] H := hP
  have hD : va_D A [(h0, .inr (11, [.ref q_1, .ref q_3, .ref q_5, .ref q_7, .ref q_9, .null, .null, .null, .null, .null, .null])), (q_1, .inr (9, [.ref (u_2.1 0), .int 0])), ((u_2.1 0), .inl (cA 0, 800, .inl (fun _ => 0))), (q_3, .inr (6, [.ref (u_4.1 0), .int 0, .int (-1), .ref q_1, .int 0, .int 0, .int 0, .int 0, .int 0, .int 0, .int 0, .int 0, .ref (u_4.1 9)])), ((u_4.1 0), .inr (3, [.int 0, .int 0, .int 0, .int 0, .int 0, .int 0, .int 0, .int 0, .ref (u_4.1 1), .ref (u_4.1 2), .ref (u_4.1 3), .ref (u_4.1 4), .ref (u_4.1 5), .ref (u_4.1 6), .ref (u_4.1 7), .ref (u_4.1 8)])), ((u_4.1 1), .inl (cA 1, 8, .inl (fun _ => 0))), ((u_4.1 2), .inl (cA 1, 8, .inl (fun _ => 0))), ((u_4.1 3), .inl (cA 1, 8, .inl (fun _ => 0))), ((u_4.1 4), .inl (cA 1, 7, .inl (fun _ => 0))), ((u_4.1 5), .inl (cA 1, 7, .inl (fun _ => 0))), ((u_4.1 6), .inl (cA 1, 7, .inl (fun _ => 0))), ((u_4.1 7), .inl (cA 1, 4, .inl (fun _ => 0))), ((u_4.1 8), .inl (cA 1, 4, .inl (fun _ => 0))), ((u_4.1 9), .inl (cA 1, 3, .inl (fun _ => 0))), (q_5, .inr (3, [.int 0, .int 0, .int 0, .int 0, .int 0, .int 0, .int 0, .int 0, .ref (u_6.1 0), .ref (u_6.1 1), .ref (u_6.1 2), .ref (u_6.1 3), .ref (u_6.1 4), .ref (u_6.1 5), .ref (u_6.1 6), .ref (u_6.1 7)])), ((u_6.1 0), .inl (cA 1, 8, .inl (fun _ => 0))), ((u_6.1 1), .inl (cA 1, 8, .inl (fun _ => 0))), ((u_6.1 2), .inl (cA 1, 8, .inl (fun _ => 0))), ((u_6.1 3), .inl (cA 1, 7, .inl (fun _ => 0))), ((u_6.1 4), .inl (cA 1, 7, .inl (fun _ => 0))), ((u_6.1 5), .inl (cA 1, 7, .inl (fun _ => 0))), ((u_6.1 6), .inl (cA 1, 4, .inl (fun _ => 0))), ((u_6.1 7), .inl (cA 1, 4, .inl (fun _ => 0))), (q_7, .inr (2, [.int (-1), .int (-1), .int 0, .int 0, .int 0, .int 0, .int 0, .ref (u_8.1 0), .ref (u_8.1 1), .ref (u_8.1 2)])), ((u_8.1 0), .inl (cA 1, 60, .inl (fun _ => 0))), ((u_8.1 1), .inl (cA 1, 60, .inl (fun _ => 0))), ((u_8.1 2), .inl (cA 1, 60, .inl (fun _ => 0))), (q_9, .inl (cA 4, 3, .inr (.inr (.inr (.inr (va_up (fun _ => none) 0 (some q_11))))))), (q_11, .inr (4, [.ref (u_12.1 0), .ref (u_12.1 9), .int 0])), ((u_12.1 0), .inr (3, [.int 0, .int 0, .int 0, .int 0, .int 0, .int 0, .int 0, .int 0, .ref (u_12.1 1), .ref (u_12.1 2), .ref (u_12.1 3), .ref (u_12.1 4), .ref (u_12.1 5), .ref (u_12.1 6), .ref (u_12.1 7), .ref (u_12.1 8)])), ((u_12.1 1), .inl (cA 1, 8, .inl (fun _ => 0))), ((u_12.1 2), .inl (cA 1, 8, .inl (fun _ => 0))), ((u_12.1 3), .inl (cA 1, 8, .inl (fun _ => 0))), ((u_12.1 4), .inl (cA 1, 7, .inl (fun _ => 0))), ((u_12.1 5), .inl (cA 1, 7, .inl (fun _ => 0))), ((u_12.1 6), .inl (cA 1, 7, .inl (fun _ => 0))), ((u_12.1 7), .inl (cA 1, 4, .inl (fun _ => 0))), ((u_12.1 8), .inl (cA 1, 4, .inl (fun _ => 0))), ((u_12.1 9), .inr (2, [.int (-1), .int (-1), .int 0, .int 0, .int 0, .int 0, .int 0, .ref (u_12.1 10), .ref (u_12.1 11), .ref (u_12.1 12)])), ((u_12.1 10), .inl (cA 1, 60, .inl (fun _ => 0))), ((u_12.1 11), .inl (cA 1, 60, .inl (fun _ => 0))), ((u_12.1 12), .inl (cA 1, 60, .inl (fun _ => 0)))] := hD
  refine lv_iinc (v := 1) (lv' := [(1, .int 1), (0, .ref h0)]) hx hb dX11_init_80 hl (k := 0) rfl (by decide) (by decide) rfl (fun ls hl => ?_)
  refine lv_goto (tgt := 62) hx hb dX11_init_83 (by decide) ?_
  refine lv_iload_n hx hb dX11_init_62 rfl (lv_at hl 0 rfl) ?_
  refine lv_iconst (v := 3) hx hb dX11_init_63 (by decide) ?_
  refine lv_icmp_ge (tgt := 86) hx hb dX11_init_64 (by decide) (fun c_13 => absurd c_13 (by decide)) (fun c_13 => ?_)
  refine lv_aload_n hx hb dX11_init_67 rfl (lv_at hl 1 rfl) ?_
  refine va_get (D := D) (ci := 11) (v := .ref q_9) (C := RX11) (T := TX11) (N := 11) hx hb hts inX11 hown hKN.1 hP 0 rfl rfl 4 (by decide) (hts _ tw_469) (fun _ h9 => h9) rfl dX11_init_68 ?_
  refine lv_iload_n hx hb dX11_init_71 rfl (lv_at hl 0 rfl) ?_
  refine va_new (ci := 4) (fs := [.null, .null, .int 0]) (C := RX4) (T := TX4) (N := 3) hx hb hts inX4 tyX4 tyX4_ok hown (hts _ tw_311) (hts _ tw_313) (hts _ tw_106) hKN.1 hP hD hS hA rfl dfX4 (Nat.le_of_ble_eq_true rfl) (Nat.le_of_ble_eq_true rfl) dX11_init_72 (fun q_14 H hP hD hS => ?_)
  have hP : va_P D vwCl [(h0, .inr (11, [.ref q_1, .ref q_3, .ref q_5, .ref q_7, .ref q_9, .null, .null, .null, .null, .null, .null])), (q_1, .inr (9, [.ref (u_2.1 0), .int 0])), ((u_2.1 0), .inl (cA 0, 800, .inl (fun _ => 0))), (q_3, .inr (6, [.ref (u_4.1 0), .int 0, .int (-1), .ref q_1, .int 0, .int 0, .int 0, .int 0, .int 0, .int 0, .int 0, .int 0, .ref (u_4.1 9)])), ((u_4.1 0), .inr (3, [.int 0, .int 0, .int 0, .int 0, .int 0, .int 0, .int 0, .int 0, .ref (u_4.1 1), .ref (u_4.1 2), .ref (u_4.1 3), .ref (u_4.1 4), .ref (u_4.1 5), .ref (u_4.1 6), .ref (u_4.1 7), .ref (u_4.1 8)])), ((u_4.1 1), .inl (cA 1, 8, .inl (fun _ => 0))), ((u_4.1 2), .inl (cA 1, 8, .inl (fun _ => 0))), ((u_4.1 3), .inl (cA 1, 8, .inl (fun _ => 0))), ((u_4.1 4), .inl (cA 1, 7, .inl (fun _ => 0))), ((u_4.1 5), .inl (cA 1, 7, .inl (fun _ => 0))), ((u_4.1 6), .inl (cA 1, 7, .inl (fun _ => 0))), ((u_4.1 7), .inl (cA 1, 4, .inl (fun _ => 0))), ((u_4.1 8), .inl (cA 1, 4, .inl (fun _ => 0))), ((u_4.1 9), .inl (cA 1, 3, .inl (fun _ => 0))), (q_5, .inr (3, [.int 0, .int 0, .int 0, .int 0, .int 0, .int 0, .int 0, .int 0, .ref (u_6.1 0), .ref (u_6.1 1), .ref (u_6.1 2), .ref (u_6.1 3), .ref (u_6.1 4), .ref (u_6.1 5), .ref (u_6.1 6), .ref (u_6.1 7)])), ((u_6.1 0), .inl (cA 1, 8, .inl (fun _ => 0))), ((u_6.1 1), .inl (cA 1, 8, .inl (fun _ => 0))), ((u_6.1 2), .inl (cA 1, 8, .inl (fun _ => 0))), ((u_6.1 3), .inl (cA 1, 7, .inl (fun _ => 0))), ((u_6.1 4), .inl (cA 1, 7, .inl (fun _ => 0))), ((u_6.1 5), .inl (cA 1, 7, .inl (fun _ => 0))), ((u_6.1 6), .inl (cA 1, 4, .inl (fun _ => 0))), ((u_6.1 7), .inl (cA 1, 4, .inl (fun _ => 0))), (q_7, .inr (2, [.int (-1), .int (-1), .int 0, .int 0, .int 0, .int 0, .int 0, .ref (u_8.1 0), .ref (u_8.1 1), .ref (u_8.1 2)])), ((u_8.1 0), .inl (cA 1, 60, .inl (fun _ => 0))), ((u_8.1 1), .inl (cA 1, 60, .inl (fun _ => 0))), ((u_8.1 2), .inl (cA 1, 60, .inl (fun _ => 0))), (q_9, .inl (cA 4, 3, .inr (.inr (.inr (.inr (va_up (fun _ => none) 0 (some q_11))))))), (q_11, .inr (4, [.ref (u_12.1 0), .ref (u_12.1 9), .int 0])), ((u_12.1 0), .inr (3, [.int 0, .int 0, .int 0, .int 0, .int 0, .int 0, .int 0, .int 0, .ref (u_12.1 1), .ref (u_12.1 2), .ref (u_12.1 3), .ref (u_12.1 4), .ref (u_12.1 5), .ref (u_12.1 6), .ref (u_12.1 7), .ref (u_12.1 8)])), ((u_12.1 1), .inl (cA 1, 8, .inl (fun _ => 0))), ((u_12.1 2), .inl (cA 1, 8, .inl (fun _ => 0))), ((u_12.1 3), .inl (cA 1, 8, .inl (fun _ => 0))), ((u_12.1 4), .inl (cA 1, 7, .inl (fun _ => 0))), ((u_12.1 5), .inl (cA 1, 7, .inl (fun _ => 0))), ((u_12.1 6), .inl (cA 1, 7, .inl (fun _ => 0))), ((u_12.1 7), .inl (cA 1, 4, .inl (fun _ => 0))), ((u_12.1 8), .inl (cA 1, 4, .inl (fun _ => 0))), ((u_12.1 9), .inr (2, [.int (-1), .int (-1), .int 0, .int 0, .int 0, .int 0, .int 0, .ref (u_12.1 10), .ref (u_12.1 11), .ref (u_12.1 12)])), ((u_12.1 10), .inl (cA 1, 60, .inl (fun _ => 0))), ((u_12.1 11), .inl (cA 1, 60, .inl (fun _ => 0))), ((u_12.1 12), .inl (cA 1, 60, .inl (fun _ => 0))), (q_14, .inr (4, [.null, .null, .int 0]))] H := hP
  have hD : va_D A [(h0, .inr (11, [.ref q_1, .ref q_3, .ref q_5, .ref q_7, .ref q_9, .null, .null, .null, .null, .null, .null])), (q_1, .inr (9, [.ref (u_2.1 0), .int 0])), ((u_2.1 0), .inl (cA 0, 800, .inl (fun _ => 0))), (q_3, .inr (6, [.ref (u_4.1 0), .int 0, .int (-1), .ref q_1, .int 0, .int 0, .int 0, .int 0, .int 0, .int 0, .int 0, .int 0, .ref (u_4.1 9)])), ((u_4.1 0), .inr (3, [.int 0, .int 0, .int 0, .int 0, .int 0, .int 0, .int 0, .int 0, .ref (u_4.1 1), .ref (u_4.1 2), .ref (u_4.1 3), .ref (u_4.1 4), .ref (u_4.1 5), .ref (u_4.1 6), .ref (u_4.1 7), .ref (u_4.1 8)])), ((u_4.1 1), .inl (cA 1, 8, .inl (fun _ => 0))), ((u_4.1 2), .inl (cA 1, 8, .inl (fun _ => 0))), ((u_4.1 3), .inl (cA 1, 8, .inl (fun _ => 0))), ((u_4.1 4), .inl (cA 1, 7, .inl (fun _ => 0))), ((u_4.1 5), .inl (cA 1, 7, .inl (fun _ => 0))), ((u_4.1 6), .inl (cA 1, 7, .inl (fun _ => 0))), ((u_4.1 7), .inl (cA 1, 4, .inl (fun _ => 0))), ((u_4.1 8), .inl (cA 1, 4, .inl (fun _ => 0))), ((u_4.1 9), .inl (cA 1, 3, .inl (fun _ => 0))), (q_5, .inr (3, [.int 0, .int 0, .int 0, .int 0, .int 0, .int 0, .int 0, .int 0, .ref (u_6.1 0), .ref (u_6.1 1), .ref (u_6.1 2), .ref (u_6.1 3), .ref (u_6.1 4), .ref (u_6.1 5), .ref (u_6.1 6), .ref (u_6.1 7)])), ((u_6.1 0), .inl (cA 1, 8, .inl (fun _ => 0))), ((u_6.1 1), .inl (cA 1, 8, .inl (fun _ => 0))), ((u_6.1 2), .inl (cA 1, 8, .inl (fun _ => 0))), ((u_6.1 3), .inl (cA 1, 7, .inl (fun _ => 0))), ((u_6.1 4), .inl (cA 1, 7, .inl (fun _ => 0))), ((u_6.1 5), .inl (cA 1, 7, .inl (fun _ => 0))), ((u_6.1 6), .inl (cA 1, 4, .inl (fun _ => 0))), ((u_6.1 7), .inl (cA 1, 4, .inl (fun _ => 0))), (q_7, .inr (2, [.int (-1), .int (-1), .int 0, .int 0, .int 0, .int 0, .int 0, .ref (u_8.1 0), .ref (u_8.1 1), .ref (u_8.1 2)])), ((u_8.1 0), .inl (cA 1, 60, .inl (fun _ => 0))), ((u_8.1 1), .inl (cA 1, 60, .inl (fun _ => 0))), ((u_8.1 2), .inl (cA 1, 60, .inl (fun _ => 0))), (q_9, .inl (cA 4, 3, .inr (.inr (.inr (.inr (va_up (fun _ => none) 0 (some q_11))))))), (q_11, .inr (4, [.ref (u_12.1 0), .ref (u_12.1 9), .int 0])), ((u_12.1 0), .inr (3, [.int 0, .int 0, .int 0, .int 0, .int 0, .int 0, .int 0, .int 0, .ref (u_12.1 1), .ref (u_12.1 2), .ref (u_12.1 3), .ref (u_12.1 4), .ref (u_12.1 5), .ref (u_12.1 6), .ref (u_12.1 7), .ref (u_12.1 8)])), ((u_12.1 1), .inl (cA 1, 8, .inl (fun _ => 0))), ((u_12.1 2), .inl (cA 1, 8, .inl (fun _ => 0))), ((u_12.1 3), .inl (cA 1, 8, .inl (fun _ => 0))), ((u_12.1 4), .inl (cA 1, 7, .inl (fun _ => 0))), ((u_12.1 5), .inl (cA 1, 7, .inl (fun _ => 0))), ((u_12.1 6), .inl (cA 1, 7, .inl (fun _ => 0))), ((u_12.1 7), .inl (cA 1, 4, .inl (fun _ => 0))), ((u_12.1 8), .inl (cA 1, 4, .inl (fun _ => 0))), ((u_12.1 9), .inr (2, [.int (-1), .int (-1), .int 0, .int 0, .int 0, .int 0, .int 0, .ref (u_12.1 10), .ref (u_12.1 11), .ref (u_12.1 12)])), ((u_12.1 10), .inl (cA 1, 60, .inl (fun _ => 0))), ((u_12.1 11), .inl (cA 1, 60, .inl (fun _ => 0))), ((u_12.1 12), .inl (cA 1, 60, .inl (fun _ => 0))), (q_14, .inr (4, [.null, .null, .int 0]))] := hD
  refine W.widen (k := 42) (n := 1414) (Nat.le_of_ble_eq_true rfl) (Nat.le_of_ble_eq_true rfl) ?_
  refine lv_dup hx hb dX11_init_75 rfl ?_
  refine cmINv (rest := [.ref q_14, .int 1, .ref q_9]) (wsC := [(q_14, .inr (4, [.null, .null, .int 0]))]) (wr := [(h0, .inr (11, [.ref q_1, .ref q_3, .ref q_5, .ref q_7, .ref q_9, .null, .null, .null, .null, .null, .null])), (q_1, .inr (9, [.ref (u_2.1 0), .int 0])), ((u_2.1 0), .inl (cA 0, 800, .inl (fun _ => 0))), (q_3, .inr (6, [.ref (u_4.1 0), .int 0, .int (-1), .ref q_1, .int 0, .int 0, .int 0, .int 0, .int 0, .int 0, .int 0, .int 0, .ref (u_4.1 9)])), ((u_4.1 0), .inr (3, [.int 0, .int 0, .int 0, .int 0, .int 0, .int 0, .int 0, .int 0, .ref (u_4.1 1), .ref (u_4.1 2), .ref (u_4.1 3), .ref (u_4.1 4), .ref (u_4.1 5), .ref (u_4.1 6), .ref (u_4.1 7), .ref (u_4.1 8)])), ((u_4.1 1), .inl (cA 1, 8, .inl (fun _ => 0))), ((u_4.1 2), .inl (cA 1, 8, .inl (fun _ => 0))), ((u_4.1 3), .inl (cA 1, 8, .inl (fun _ => 0))), ((u_4.1 4), .inl (cA 1, 7, .inl (fun _ => 0))), ((u_4.1 5), .inl (cA 1, 7, .inl (fun _ => 0))), ((u_4.1 6), .inl (cA 1, 7, .inl (fun _ => 0))), ((u_4.1 7), .inl (cA 1, 4, .inl (fun _ => 0))), ((u_4.1 8), .inl (cA 1, 4, .inl (fun _ => 0))), ((u_4.1 9), .inl (cA 1, 3, .inl (fun _ => 0))), (q_5, .inr (3, [.int 0, .int 0, .int 0, .int 0, .int 0, .int 0, .int 0, .int 0, .ref (u_6.1 0), .ref (u_6.1 1), .ref (u_6.1 2), .ref (u_6.1 3), .ref (u_6.1 4), .ref (u_6.1 5), .ref (u_6.1 6), .ref (u_6.1 7)])), ((u_6.1 0), .inl (cA 1, 8, .inl (fun _ => 0))), ((u_6.1 1), .inl (cA 1, 8, .inl (fun _ => 0))), ((u_6.1 2), .inl (cA 1, 8, .inl (fun _ => 0))), ((u_6.1 3), .inl (cA 1, 7, .inl (fun _ => 0))), ((u_6.1 4), .inl (cA 1, 7, .inl (fun _ => 0))), ((u_6.1 5), .inl (cA 1, 7, .inl (fun _ => 0))), ((u_6.1 6), .inl (cA 1, 4, .inl (fun _ => 0))), ((u_6.1 7), .inl (cA 1, 4, .inl (fun _ => 0))), (q_7, .inr (2, [.int (-1), .int (-1), .int 0, .int 0, .int 0, .int 0, .int 0, .ref (u_8.1 0), .ref (u_8.1 1), .ref (u_8.1 2)])), ((u_8.1 0), .inl (cA 1, 60, .inl (fun _ => 0))), ((u_8.1 1), .inl (cA 1, 60, .inl (fun _ => 0))), ((u_8.1 2), .inl (cA 1, 60, .inl (fun _ => 0))), (q_9, .inl (cA 4, 3, .inr (.inr (.inr (.inr (va_up (fun _ => none) 0 (some q_11))))))), (q_11, .inr (4, [.ref (u_12.1 0), .ref (u_12.1 9), .int 0])), ((u_12.1 0), .inr (3, [.int 0, .int 0, .int 0, .int 0, .int 0, .int 0, .int 0, .int 0, .ref (u_12.1 1), .ref (u_12.1 2), .ref (u_12.1 3), .ref (u_12.1 4), .ref (u_12.1 5), .ref (u_12.1 6), .ref (u_12.1 7), .ref (u_12.1 8)])), ((u_12.1 1), .inl (cA 1, 8, .inl (fun _ => 0))), ((u_12.1 2), .inl (cA 1, 8, .inl (fun _ => 0))), ((u_12.1 3), .inl (cA 1, 8, .inl (fun _ => 0))), ((u_12.1 4), .inl (cA 1, 7, .inl (fun _ => 0))), ((u_12.1 5), .inl (cA 1, 7, .inl (fun _ => 0))), ((u_12.1 6), .inl (cA 1, 7, .inl (fun _ => 0))), ((u_12.1 7), .inl (cA 1, 4, .inl (fun _ => 0))), ((u_12.1 8), .inl (cA 1, 4, .inl (fun _ => 0))), ((u_12.1 9), .inr (2, [.int (-1), .int (-1), .int 0, .int 0, .int 0, .int 0, .int 0, .ref (u_12.1 10), .ref (u_12.1 11), .ref (u_12.1 12)])), ((u_12.1 10), .inl (cA 1, 60, .inl (fun _ => 0))), ((u_12.1 11), .inl (cA 1, 60, .inl (fun _ => 0))), ((u_12.1 12), .inl (cA 1, 60, .inl (fun _ => 0)))]) ⟨hx, hb, hml, hown, hts⟩ hKN hP hD hS hA [42] [0, 1, 2, 3, 4, 5, 6, 7, 8, 9, 10, 11, 12, 13, 14, 15, 16, 17, 18, 19, 20, 21, 22, 23, 24, 25, 26, 27, 28, 29, 30, 31, 32, 33, 34, 35, 36, 37, 38, 39, 40, 41] rfl rfl (by decide) (by decide) (by decide) (k_X4_init l D cA _ q_14) ⟨nw_4, tw_315, tw_106, tw_316⟩ hdX4_init ⟨rfl, rfl, Nat.le_of_ble_eq_true rfl, Nat.le_of_ble_eq_true rfl⟩ ⟨Nat.le_of_ble_eq_true rfl, Nat.le_of_ble_eq_true rfl⟩ rfl hl.1 rfl (Nat.le_of_ble_eq_true rfl) dX11_init_76 (fun u_15 H locs hr_15 hP hD hS => ?_)
  have hP : va_P D vwCl [(h0, .inr (11, [.ref q_1, .ref q_3, .ref q_5, .ref q_7, .ref q_9, .null, .null, .null, .null, .null, .null])), (q_1, .inr (9, [.ref (u_2.1 0), .int 0])), ((u_2.1 0), .inl (cA 0, 800, .inl (fun _ => 0))), (q_3, .inr (6, [.ref (u_4.1 0), .int 0, .int (-1), .ref q_1, .int 0, .int 0, .int 0, .int 0, .int 0, .int 0, .int 0, .int 0, .ref (u_4.1 9)])), ((u_4.1 0), .inr (3, [.int 0, .int 0, .int 0, .int 0, .int 0, .int 0, .int 0, .int 0, .ref (u_4.1 1), .ref (u_4.1 2), .ref (u_4.1 3), .ref (u_4.1 4), .ref (u_4.1 5), .ref (u_4.1 6), .ref (u_4.1 7), .ref (u_4.1 8)])), ((u_4.1 1), .inl (cA 1, 8, .inl (fun _ => 0))), ((u_4.1 2), .inl (cA 1, 8, .inl (fun _ => 0))), ((u_4.1 3), .inl (cA 1, 8, .inl (fun _ => 0))), ((u_4.1 4), .inl (cA 1, 7, .inl (fun _ => 0))), ((u_4.1 5), .inl (cA 1, 7, .inl (fun _ => 0))), ((u_4.1 6), .inl (cA 1, 7, .inl (fun _ => 0))), ((u_4.1 7), .inl (cA 1, 4, .inl (fun _ => 0))), ((u_4.1 8), .inl (cA 1, 4, .inl (fun _ => 0))), ((u_4.1 9), .inl (cA 1, 3, .inl (fun _ => 0))), (q_5, .inr (3, [.int 0, .int 0, .int 0, .int 0, .int 0, .int 0, .int 0, .int 0, .ref (u_6.1 0), .ref (u_6.1 1), .ref (u_6.1 2), .ref (u_6.1 3), .ref (u_6.1 4), .ref (u_6.1 5), .ref (u_6.1 6), .ref (u_6.1 7)])), ((u_6.1 0), .inl (cA 1, 8, .inl (fun _ => 0))), ((u_6.1 1), .inl (cA 1, 8, .inl (fun _ => 0))), ((u_6.1 2), .inl (cA 1, 8, .inl (fun _ => 0))), ((u_6.1 3), .inl (cA 1, 7, .inl (fun _ => 0))), ((u_6.1 4), .inl (cA 1, 7, .inl (fun _ => 0))), ((u_6.1 5), .inl (cA 1, 7, .inl (fun _ => 0))), ((u_6.1 6), .inl (cA 1, 4, .inl (fun _ => 0))), ((u_6.1 7), .inl (cA 1, 4, .inl (fun _ => 0))), (q_7, .inr (2, [.int (-1), .int (-1), .int 0, .int 0, .int 0, .int 0, .int 0, .ref (u_8.1 0), .ref (u_8.1 1), .ref (u_8.1 2)])), ((u_8.1 0), .inl (cA 1, 60, .inl (fun _ => 0))), ((u_8.1 1), .inl (cA 1, 60, .inl (fun _ => 0))), ((u_8.1 2), .inl (cA 1, 60, .inl (fun _ => 0))), (q_9, .inl (cA 4, 3, .inr (.inr (.inr (.inr (va_up (fun _ => none) 0 (some q_11))))))), (q_11, .inr (4, [.ref (u_12.1 0), .ref (u_12.1 9), .int 0])), ((u_12.1 0), .inr (3, [.int 0, .int 0, .int 0, .int 0, .int 0, .int 0, .int 0, .int 0, .ref (u_12.1 1), .ref (u_12.1 2), .ref (u_12.1 3), .ref (u_12.1 4), .ref (u_12.1 5), .ref (u_12.1 6), .ref (u_12.1 7), .ref (u_12.1 8)])), ((u_12.1 1), .inl (cA 1, 8, .inl (fun _ => 0))), ((u_12.1 2), .inl (cA 1, 8, .inl (fun _ => 0))), ((u_12.1 3), .inl (cA 1, 8, .inl (fun _ => 0))), ((u_12.1 4), .inl (cA 1, 7, .inl (fun _ => 0))), ((u_12.1 5), .inl (cA 1, 7, .inl (fun _ => 0))), ((u_12.1 6), .inl (cA 1, 7, .inl (fun _ => 0))), ((u_12.1 7), .inl (cA 1, 4, .inl (fun _ => 0))), ((u_12.1 8), .inl (cA 1, 4, .inl (fun _ => 0))), ((u_12.1 9), .inr (2, [.int (-1), .int (-1), .int 0, .int 0, .int 0, .int 0, .int 0, .ref (u_12.1 10), .ref (u_12.1 11), .ref (u_12.1 12)])), ((u_12.1 10), .inl (cA 1, 60, .inl (fun _ => 0))), ((u_12.1 11), .inl (cA 1, 60, .inl (fun _ => 0))), ((u_12.1 12), .inl (cA 1, 60, .inl (fun _ => 0))), (q_14, .inr (4, [.ref (u_15.1 0), .ref (u_15.1 9), .int 0])), ((u_15.1 0), .inr (3, [.int 0, .int 0, .int 0, .int 0, .int 0, .int 0, .int 0, .int 0, .ref (u_15.1 1), .ref (u_15.1 2), .ref (u_15.1 3), .ref (u_15.1 4), .ref (u_15.1 5), .ref (u_15.1 6), .ref (u_15.1 7), .ref (u_15.1 8)])), ((u_15.1 1), .inl (cA 1, 8, .inl (fun _ => 0))), ((u_15.1 2), .inl (cA 1, 8, .inl (fun _ => 0))), ((u_15.1 3), .inl (cA 1, 8, .inl (fun _ => 0))), ((u_15.1 4), .inl (cA 1, 7, .inl (fun _ => 0))), ((u_15.1 5), .inl (cA 1, 7, .inl (fun _ => 0))), ((u_15.1 6), .inl (cA 1, 7, .inl (fun _ => 0))), ((u_15.1 7), .inl (cA 1, 4, .inl (fun _ => 0))), ((u_15.1 8), .inl (cA 1, 4, .inl (fun _ => 0))), ((u_15.1 9), .inr (2, [.int (-1), .int (-1), .int 0, .int 0, .int 0, .int 0, .int 0, .ref (u_15.1 10), .ref (u_15.1 11), .ref (u_15.1 12)])), ((u_15.1 10), .inl (cA 1, 60, .inl (fun _ => 0))), ((u_15.1 11), .inl (cA 1, 60, .inl (fun _ => 0))), ((u_15.1 12), .inl (cA 1, 60, .inl (fun _ => 0)))] H := hP
  have hD : va_D A [(h0, .inr (11, [.ref q_1, .ref q_3, .ref q_5, .ref q_7, .ref q_9, .null, .null, .null, .null, .null, .null])), (q_1, .inr (9, [.ref (u_2.1 0), .int 0])), ((u_2.1 0), .inl (cA 0, 800, .inl (fun _ => 0))), (q_3, .inr (6, [.ref (u_4.1 0), .int 0, .int (-1), .ref q_1, .int 0, .int 0, .int 0, .int 0, .int 0, .int 0, .int 0, .int 0, .ref (u_4.1 9)])), ((u_4.1 0), .inr (3, [.int 0, .int 0, .int 0, .int 0, .int 0, .int 0, .int 0, .int 0, .ref (u_4.1 1), .ref (u_4.1 2), .ref (u_4.1 3), .ref (u_4.1 4), .ref (u_4.1 5), .ref (u_4.1 6), .ref (u_4.1 7), .ref (u_4.1 8)])), ((u_4.1 1), .inl (cA 1, 8, .inl (fun _ => 0))), ((u_4.1 2), .inl (cA 1, 8, .inl (fun _ => 0))), ((u_4.1 3), .inl (cA 1, 8, .inl (fun _ => 0))), ((u_4.1 4), .inl (cA 1, 7, .inl (fun _ => 0))), ((u_4.1 5), .inl (cA 1, 7, .inl (fun _ => 0))), ((u_4.1 6), .inl (cA 1, 7, .inl (fun _ => 0))), ((u_4.1 7), .inl (cA 1, 4, .inl (fun _ => 0))), ((u_4.1 8), .inl (cA 1, 4, .inl (fun _ => 0))), ((u_4.1 9), .inl (cA 1, 3, .inl (fun _ => 0))), (q_5, .inr (3, [.int 0, .int 0, .int 0, .int 0, .int 0, .int 0, .int 0, .int 0, .ref (u_6.1 0), .ref (u_6.1 1), .ref (u_6.1 2), .ref (u_6.1 3), .ref (u_6.1 4), .ref (u_6.1 5), .ref (u_6.1 6), .ref (u_6.1 7)])), ((u_6.1 0), .inl (cA 1, 8, .inl (fun _ => 0))), ((u_6.1 1), .inl (cA 1, 8, .inl (fun _ => 0))), ((u_6.1 2), .inl (cA 1, 8, .inl (fun _ => 0))), ((u_6.1 3), .inl (cA 1, 7, .inl (fun _ => 0))), ((u_6.1 4), .inl (cA 1, 7, .inl (fun _ => 0))), ((u_6.1 5), .inl (cA 1, 7, .inl (fun _ => 0))), ((u_6.1 6), .inl (cA 1, 4, .inl (fun _ => 0))), ((u_6.1 7), .inl (cA 1, 4, .inl (fun _ => 0))), (q_7, .inr (2, [.int (-1), .int (-1), .int 0, .int 0, .int 0, .int 0, .int 0, .ref (u_8.1 0), .ref (u_8.1 1), .ref (u_8.1 2)])), ((u_8.1 0), .inl (cA 1, 60, .inl (fun _ => 0))), ((u_8.1 1), .inl (cA 1, 60, .inl (fun _ => 0))), ((u_8.1 2), .inl (cA 1, 60, .inl (fun _ => 0))), (q_9, .inl (cA 4, 3, .inr (.inr (.inr (.inr (va_up (fun _ => none) 0 (some q_11))))))), (q_11, .inr (4, [.ref (u_12.1 0), .ref (u_12.1 9), .int 0])), ((u_12.1 0), .inr (3, [.int 0, .int 0, .int 0, .int 0, .int 0, .int 0, .int 0, .int 0, .ref (u_12.1 1), .ref (u_12.1 2), .ref (u_12.1 3), .ref (u_12.1 4), .ref (u_12.1 5), .ref (u_12.1 6), .ref (u_12.1 7), .ref (u_12.1 8)])), ((u_12.1 1), .inl (cA 1, 8, .inl (fun _ => 0))), ((u_12.1 2), .inl (cA 1, 8, .inl (fun _ => 0))), ((u_12.1 3), .inl (cA 1, 8, .inl (fun _ => 0))), ((u_12.1 4), .inl (cA 1, 7, .inl (fun _ => 0))), ((u_12.1 5), .inl (cA 1, 7, .inl (fun _ => 0))), ((u_12.1 6), .inl (cA 1, 7, .inl (fun _ => 0))), ((u_12.1 7), .inl (cA 1, 4, .inl (fun _ => 0))), ((u_12.1 8), .inl (cA 1, 4, .inl (fun _ => 0))), ((u_12.1 9), .inr (2, [.int (-1), .int (-1), .int 0, .int 0, .int 0, .int 0, .int 0, .ref (u_12.1 10), .ref (u_12.1 11), .ref (u_12.1 12)])), ((u_12.1 10), .inl (cA 1, 60, .inl (fun _ => 0))), ((u_12.1 11), .inl (cA 1, 60, .inl (fun _ => 0))), ((u_12.1 12), .inl (cA 1, 60, .inl (fun _ => 0))), (q_14, .inr (4, [.ref (u_15.1 0), .ref (u_15.1 9), .int 0])), ((u_15.1 0), .inr (3, [.int 0, .int 0, .int 0, .int 0, .int 0, .int 0, .int 0, .int 0, .ref (u_15.1 1), .ref (u_15.1 2), .ref (u_15.1 3), .ref (u_15.1 4), .ref (u_15.1 5), .ref (u_15.1 6), .ref (u_15.1 7), .ref (u_15.1 8)])), ((u_15.1 1), .inl (cA 1, 8, .inl (fun _ => 0))), ((u_15.1 2), .inl (cA 1, 8, .inl (fun _ => 0))), ((u_15.1 3), .inl (cA 1, 8, .inl (fun _ => 0))), ((u_15.1 4), .inl (cA 1, 7, .inl (fun _ => 0))), ((u_15.1 5), .inl (cA 1, 7, .inl (fun _ => 0))), ((u_15.1 6), .inl (cA 1, 7, .inl (fun _ => 0))), ((u_15.1 7), .inl (cA 1, 4, .inl (fun _ => 0))), ((u_15.1 8), .inl (cA 1, 4, .inl (fun _ => 0))), ((u_15.1 9), .inr (2, [.int (-1), .int (-1), .int 0, .int 0, .int 0, .int 0, .int 0, .ref (u_15.1 10), .ref (u_15.1 11), .ref (u_15.1 12)])), ((u_15.1 10), .inl (cA 1, 60, .inl (fun _ => 0))), ((u_15.1 11), .inl (cA 1, 60, .inl (fun _ => 0))), ((u_15.1 12), .inl (cA 1, 60, .inl (fun _ => 0)))] := hD
  refine W.widen (k := 55) (n := 1673) (Nat.le_of_ble_eq_true rfl) (Nat.le_of_ble_eq_true rfl) ?_
  refine va_astq hx hb hKN.1 hP hD hS 27 4 42 4 rfl rfl rfl rfl (by unfold vp_in; decide) dX11_init_79 (fun H locs hP hD hS => ?_)
  have hP : va_P D vwCl [(h0, .inr (11, [.ref q_1, .ref q_3, .ref q_5, .ref q_7, .ref q_9, .null, .null, .null, .null, .null, .null])), (q_1, .inr (9, [.ref (u_2.1 0), .int 0])), ((u_2.1 0), .inl (cA 0, 800, .inl (fun _ => 0))), (q_3, .inr (6, [.ref (u_4.1 0), .int 0, .int (-1), .ref q_1, .int 0, .int 0, .int 0, .int 0, .int 0, .int 0, .int 0, .int 0, .ref (u_4.1 9)])), ((u_4.1 0), .inr (3, [.int 0, .int 0, .int 0, .int 0, .int 0, .int 0, .int 0, .int 0, .ref (u_4.1 1), .ref (u_4.1 2), .ref (u_4.1 3), .ref (u_4.1 4), .ref (u_4.1 5), .ref (u_4.1 6), .ref (u_4.1 7), .ref (u_4.1 8)])), ((u_4.1 1), .inl (cA 1, 8, .inl (fun _ => 0))), ((u_4.1 2), .inl (cA 1, 8, .inl (fun _ => 0))), ((u_4.1 3), .inl (cA 1, 8, .inl (fun _ => 0))), ((u_4.1 4), .inl (cA 1, 7, .inl (fun _ => 0))), ((u_4.1 5), .inl (cA 1, 7, .inl (fun _ => 0))), ((u_4.1 6), .inl (cA 1, 7, .inl (fun _ => 0))), ((u_4.1 7), .inl (cA 1, 4, .inl (fun _ => 0))), ((u_4.1 8), .inl (cA 1, 4, .inl (fun _ => 0))), ((u_4.1 9), .inl (cA 1, 3, .inl (fun _ => 0))), (q_5, .inr (3, [.int 0, .int 0, .int 0, .int 0, .int 0, .int 0, .int 0, .int 0, .ref (u_6.1 0), .ref (u_6.1 1), .ref (u_6.1 2), .ref (u_6.1 3), .ref (u_6.1 4), .ref (u_6.1 5), .ref (u_6.1 6), .ref (u_6.1 7)])), ((u_6.1 0), .inl (cA 1, 8, .inl (fun _ => 0))), ((u_6.1 1), .inl (cA 1, 8, .inl (fun _ => 0))), ((u_6.1 2), .inl (cA 1, 8, .inl (fun _ => 0))), ((u_6.1 3), .inl (cA 1, 7, .inl (fun _ => 0))), ((u_6.1 4), .inl (cA 1, 7, .inl (fun _ => 0))), ((u_6.1 5), .inl (cA 1, 7, .inl (fun _ => 0))), ((u_6.1 6), .inl (cA 1, 4, .inl (fun _ => 0))), ((u_6.1 7), .inl (cA 1, 4, .inl (fun _ => 0))), (q_7, .inr (2, [.int (-1), .int (-1), .int 0, .int 0, .int 0, .int 0, .int 0, .ref (u_8.1 0), .ref (u_8.1 1), .ref (u_8.1 2)])), ((u_8.1 0), .inl (cA 1, 60, .inl (fun _ => 0))), ((u_8.1 1), .inl (cA 1, 60, .inl (fun _ => 0))), ((u_8.1 2), .inl (cA 1, 60, .inl (fun _ => 0))), (q_9, .inl (cA 4, 3, .inr (.inr (.inr (.inr (va_up (va_up (fun _ => none) 0 (some q_11)) 1 (some q_14))))))), (q_11, .inr (4, [.ref (u_12.1 0), .ref (u_12.1 9), .int 0])), ((u_12.1 0), .inr (3, [.int 0, .int 0, .int 0, .int 0, .int 0, .int 0, .int 0, .int 0, .ref (u_12.1 1), .ref (u_12.1 2), .ref (u_12.1 3), .ref (u_12.1 4), .ref (u_12.1 5), .ref (u_12.1 6), .ref (u_12.1 7), .ref (u_12.1 8)])), ((u_12.1 1), .inl (cA 1, 8, .inl (fun _ => 0))), ((u_12.1 2), .inl (cA 1, 8, .inl (fun _ => 0))), ((u_12.1 3), .inl (cA 1, 8, .inl (fun _ => 0))), ((u_12.1 4), .inl (cA 1, 7, .inl (fun _ => 0))), ((u_12.1 5), .inl (cA 1, 7, .inl (fun _ => 0))), ((u_12.1 6), .inl (cA 1, 7, .inl (fun _ => 0))), ((u_12.1 7), .inl (cA 1, 4, .inl (fun _ => 0))), ((u_12.1 8), .inl (cA 1, 4, .inl (fun _ => 0))), ((u_12.1 9), .inr (2, [.int (-1), .int (-1), .int 0, .int 0, .int 0, .int 0, .int 0, .ref (u_12.1 10), .ref (u_12.1 11), .ref (u_12.1 12)])), ((u_12.1 10), .inl (cA 1, 60, .inl (fun _ => 0))), ((u_12.1 11), .inl (cA 1, 60, .inl (fun _ => 0))), ((u_12.1 12), .inl (cA 1, 60, .inl (fun _ => 0))), (q_14, .inr (4, [.ref (u_15.1 0), .ref (u_15.1 9), .int 0])), ((u_15.1 0), .inr (3, [.int 0, .int 0, .int 0, .int 0, .int 0, .int 0, .int 0, .int 0, .ref (u_15.1 1), .ref (u_15.1 2), .ref (u_15.1 3), .ref (u_15.1 4), .ref (u_15.1 5), .ref (u_15.1 6), .ref (u_15.1 7), .ref (u_15.1 8)])), ((u_15.1 1), .inl (cA 1, 8, .inl (fun _ => 0))), ((u_15.1 2), .inl (cA 1, 8, .inl (fun _ => 0))), ((u_15.1 3), .inl (cA 1, 8, .inl (fun _ => 0))), ((u_15.1 4), .inl (cA 1, 7, .inl (fun _ => 0))), ((u_15.1 5), .inl (cA 1, 7, .inl (fun _ => 0))), ((u_15.1 6), .inl (cA 1, 7, .inl (fun _ => 0))), ((u_15.1 7), .inl (cA 1, 4, .inl (fun _ => 0))), ((u_15.1 8), .inl (cA 1, 4, .inl (fun _ => 0))), ((u_15.1 9), .inr (2, [.int (-1), .int (-1), .int 0, .int 0, .int 0, .int 0, .int 0, .ref (u_15.1 10), .ref (u_15.1 11), .ref (u_15.1 12)])), ((u_15.1 10), .inl (cA 1, 60, .inl (fun _ => 0))), ((u_15.1 11), .inl (cA 1, 60, .inl (fun _ => 0))), ((u_15.1 12), .inl (cA 1, 60, .inl (fun _ => 0)))] H := hP
  have hD : va_D A [(h0, .inr (11, [.ref q_1, .ref q_3, .ref q_5, .ref q_7, .ref q_9, .null, .null, .null, .null, .null, .null])), (q_1, .inr (9, [.ref (u_2.1 0), .int 0])), ((u_2.1 0), .inl (cA 0, 800, .inl (fun _ => 0))), (q_3, .inr (6, [.ref (u_4.1 0), .int 0, .int (-1), .ref q_1, .int 0, .int 0, .int 0, .int 0, .int 0, .int 0, .int 0, .int 0, .ref (u_4.1 9)])), ((u_4.1 0), .inr (3, [.int 0, .int 0, .int 0, .int 0, .int 0, .int 0, .int 0, .int 0, .ref (u_4.1 1), .ref (u_4.1 2), .ref (u_4.1 3), .ref (u_4.1 4), .ref (u_4.1 5), .ref (u_4.1 6), .ref (u_4.1 7), .ref (u_4.1 8)])), ((u_4.1 1), .inl (cA 1, 8, .inl (fun _ => 0))), ((u_4.1 2), .inl (cA 1, 8, .inl (fun _ => 0))), ((u_4.1 3), .inl (cA 1, 8, .inl (fun _ => 0))), ((u_4.1 4), .inl (cA 1, 7, .inl (fun _ => 0))), ((u_4.1 5), .inl (cA 1, 7, .inl (fun _ => 0))), ((u_4.1 6), .inl (cA 1, 7, .inl (fun _ => 0))), ((u_4.1 7), .inl (cA 1, 4, .inl (fun _ => 0))), ((u_4.1 8), .inl (cA 1, 4, .inl (fun _ => 0))), ((u_4.1 9), .inl (cA 1, 3, .inl (fun _ => 0))), (q_5, .inr (3, [.int 0, .int 0, .int 0, .int 0, .int 0, .int 0, .int 0, .int 0, .ref (u_6.1 0), .ref (u_6.1 1), .ref (u_6.1 2), .ref (u_6.1 3), .ref (u_6.1 4), .ref (u_6.1 5), .ref (u_6.1 6), .ref (u_6.1 7)])), ((u_6.1 0), .inl (cA 1, 8, .inl (fun _ => 0))), ((u_6.1 1), .inl (cA 1, 8, .inl (fun _ => 0))), ((u_6.1 2), .inl (cA 1, 8, .inl (fun _ => 0))), ((u_6.1 3), .inl (cA 1, 7, .inl (fun _ => 0))), ((u_6.1 4), .inl (cA 1, 7, .inl (fun _ => 0))), ((u_6.1 5), .inl (cA 1, 7, .inl (fun _ => 0))), ((u_6.1 6), .inl (cA 1, 4, .inl (fun _ => 0))), ((u_6.1 7), .inl (cA 1, 4, .inl (fun _ => 0))), (q_7, .inr (2, [.int (-1), .int (-1), .int 0, .int 0, .int 0, .int 0, .int 0, .ref (u_8.1 0), .ref (u_8.1 1), .ref (u_8.1 2)])), ((u_8.1 0), .inl (cA 1, 60, .inl (fun _ => 0))), ((u_8.1 1), .inl (cA 1, 60, .inl (fun _ => 0))), ((u_8.1 2), .inl (cA 1, 60, .inl (fun _ => 0))), (q_9, .inl (cA 4, 3, .inr (.inr (.inr (.inr (va_up (va_up (fun _ => none) 0 (some q_11)) 1 (some q_14))))))), (q_11, .inr (4, [.ref (u_12.1 0), .ref (u_12.1 9), .int 0])), ((u_12.1 0), .inr (3, [.int 0, .int 0, .int 0, .int 0, .int 0, .int 0, .int 0, .int 0, .ref (u_12.1 1), .ref (u_12.1 2), .ref (u_12.1 3), .ref (u_12.1 4), .ref (u_12.1 5), .ref (u_12.1 6), .ref (u_12.1 7), .ref (u_12.1 8)])), ((u_12.1 1), .inl (cA 1, 8, .inl (fun _ => 0))), ((u_12.1 2), .inl (cA 1, 8, .inl (fun _ => 0))), ((u_12.1 3), .inl (cA 1, 8, .inl (fun _ => 0))), ((u_12.1 4), .inl (cA 1, 7, .inl (fun _ => 0))), ((u_12.1 5), .inl (cA 1, 7, .inl (fun _ => 0))), ((u_12.1 6), .inl (cA 1, 7, .inl (fun _ => 0))), ((u_12.1 7), .inl (cA 1, 4, .inl (fun _ => 0))), ((u_12.1 8), .inl (cA 1, 4, .inl (fun _ => 0))), ((u_12.1 9), .inr (2, [.int (-1), .int (-1), .int 0, .int 0, .int 0, .int 0, .int 0, .ref (u_12.1 10), .ref (u_12.1 11), .ref (u_12.1 12)])), ((u_12.1 10), .inl (cA 1, 60, .inl (fun _ => 0))), ((u_12.1 11), .inl (cA 1, 60, .inl (fun _ => 0))), ((u_12.1 12), .inl (cA 1, 60, .inl (fun _ => 0))), (q_14, .inr (4, [.ref (u_15.1 0), .ref (u_15.1 9), .int 0])), ((u_15.1 0), .inr (3, [.int 0, .int 0, .int 0, .int 0, .int 0, .int 0, .int 0, .int 0, .ref (u_15.1 1), .ref (u_15.1 2), .ref (u_15.1 3), .ref (u_15.1 4), .ref (u_15.1 5), .ref (u_15.1 6), .ref (u_15.1 7), .ref (u_15.1 8)])), ((u_15.1 1), .inl (cA 1, 8, .inl (fun _ => 0))), ((u_15.1 2), .inl (cA 1, 8, .inl (fun _ => 0))), ((u_15.1 3), .inl (cA 1, 8, .inl (fun _ => 0))), ((u_15.1 4), .inl (cA 1, 7, .inl (fun _ => 0))), ((u_15.1 5), .inl (cA 1, 7, .inl (fun _ => 0))), ((u_15.1 6), .inl (cA 1, 7, .inl (fun _ => 0))), ((u_15.1 7), .inl (cA 1, 4, .inl (fun _ => 0))), ((u_15.1 8), .inl (cA 1, 4, .inl (fun _ => 0))), ((u_15.1 9), .inr (2, [.int (-1), .int (-1), .int 0, .int 0, .int 0, .int 0, .int 0, .ref (u_15.1 10), .ref (u_15.1 11), .ref (u_15.1 12)])), ((u_15.1 10), .inl (cA 1, 60, .inl (fun _ => 0))), ((u_15.1 11), .inl (cA 1, 60, .inl (fun _ => 0))), ((u_15.1 12), .inl (cA 1, 60, .inl (fun _ => 0)))] := hD
  refine lv_iinc (v := 2) (lv' := [(1, .int 2), (0, .ref h0)]) hx hb dX11_init_80 hl (k := 0) rfl (by decide) (by decide) rfl (fun ls hl => ?_)
  refine lv_goto (tgt := 62) hx hb dX11_init_83 (by decide) ?_
  refine lv_iload_n hx hb dX11_init_62 rfl (lv_at hl 0 rfl) ?_
  refine lv_iconst (v := 3) hx hb dX11_init_63 (by decide) ?_
  refine lv_icmp_ge (tgt := 86) hx hb dX11_init_64 (by decide) (fun c_16 => absurd c_16 (by decide)) (fun c_16 => ?_)
  refine lv_aload_n hx hb dX11_init_67 rfl (lv_at hl 1 rfl) ?_
  refine va_get (D := D) (ci := 11) (v := .ref q_9) (C := RX11) (T := TX11) (N := 11) hx hb hts inX11 hown hKN.1 hP 0 rfl rfl 4 (by decide) (hts _ tw_469) (fun _ h9 => h9) rfl dX11_init_68 ?_
  refine lv_iload_n hx hb dX11_init_71 rfl (lv_at hl 0 rfl) ?_
  refine va_new (ci := 4) (fs := [.null, .null, .int 0]) (C := RX4) (T := TX4) (N := 3) hx hb hts inX4 tyX4 tyX4_ok hown (hts _ tw_311) (hts _ tw_313) (hts _ tw_106) hKN.1 hP hD hS hA rfl dfX4 (Nat.le_of_ble_eq_true rfl) (Nat.le_of_ble_eq_true rfl) dX11_init_72 (fun q_17 H hP hD hS => ?_)
  have hP : va_P D vwCl [(h0, .inr (11, [.ref q_1, .ref q_3, .ref q_5, .ref q_7, .ref q_9, .null, .null, .null, .null, .null, .null])), (q_1, .inr (9, [.ref (u_2.1 0), .int 0])), ((u_2.1 0), .inl (cA 0, 800, .inl (fun _ => 0))), (q_3, .inr (6, [.ref (u_4.1 0), .int 0, .int (-1), .ref q_1, .int 0, .int 0, .int 0, .int 0, .int 0, .int 0, .int 0, .int 0, .ref (u_4.1 9)])), ((u_4.1 0), .inr (3, [.int 0, .int 0, .int 0, .int 0, .int 0, .int 0, .int 0, .int 0, .ref (u_4.1 1), .ref (u_4.1 2), .ref (u_4.1 3), .ref (u_4.1 4), .ref (u_4.1 5), .ref (u_4.1 6), .ref (u_4.1 7), .ref (u_4.1 8)])), ((u_4.1 1), .inl (cA 1, 8, .inl (fun _ => 0))), ((u_4.1 2), .inl (cA 1, 8, .inl (fun _ => 0))), ((u_4.1 3), .inl (cA 1, 8, .inl (fun _ => 0))), ((u_4.1 4), .inl (cA 1, 7, .inl (fun _ => 0))), ((u_4.1 5), .inl (cA 1, 7, .inl (fun _ => 0))), ((u_4.1 6), .inl (cA 1, 7, .inl (fun _ => 0))), ((u_4.1 7), .inl (cA 1, 4, .inl (fun _ => 0))), ((u_4.1 8), .inl (cA 1, 4, .inl (fun _ => 0))), ((u_4.1 9), .inl (cA 1, 3, .inl (fun _ => 0))), (q_5, .inr (3, [.int 0, .int 0, .int 0, .int 0, .int 0, .int 0, .int 0, .int 0, .ref (u_6.1 0), .ref (u_6.1 1), .ref (u_6.1 2), .ref (u_6.1 3), .ref (u_6.1 4), .ref (u_6.1 5), .ref (u_6.1 6), .ref (u_6.1 7)])), ((u_6.1 0), .inl (cA 1, 8, .inl (fun _ => 0))), ((u_6.1 1), .inl (cA 1, 8, .inl (fun _ => 0))), ((u_6.1 2), .inl (cA 1, 8, .inl (fun _ => 0))), ((u_6.1 3), .inl (cA 1, 7, .inl (fun _ => 0))), ((u_6.1 4), .inl (cA 1, 7, .inl (fun _ => 0))), ((u_6.1 5), .inl (cA 1, 7, .inl (fun _ => 0))), ((u_6.1 6), .inl (cA 1, 4, .inl (fun _ => 0))), ((u_6.1 7), .inl (cA 1, 4, .inl (fun _ => 0))), (q_7, .inr (2, [.int (-1), .int (-1), .int 0, .int 0, .int 0, .int 0, .int 0, .ref (u_8.1 0), .ref (u_8.1 1), .ref (u_8.1 2)])), ((u_8.1 0), .inl (cA 1, 60, .inl (fun _ => 0))), ((u_8.1 1), .inl (cA 1, 60, .inl (fun _ => 0))), ((u_8.1 2), .inl (cA 1, 60, .inl (fun _ => 0))), (q_9, .inl (cA 4, 3, .inr (.inr (.inr (.inr (va_up (va_up (fun _ => none) 0 (some q_11)) 1 (some q_14))))))), (q_11, .inr (4, [.ref (u_12.1 0), .ref (u_12.1 9), .int 0])), ((u_12.1 0), .inr (3, [.int 0, .int 0, .int 0, .int 0, .int 0, .int 0, .int 0, .int 0, .ref (u_12.1 1), .ref (u_12.1 2), .ref (u_12.1 3), .ref (u_12.1 4), .ref (u_12.1 5), .ref (u_12.1 6), .ref (u_12.1 7), .ref (u_12.1 8)])), ((u_12.1 1), .inl (cA 1, 8, .inl (fun _ => 0))), ((u_12.1 2), .inl (cA 1, 8, .inl (fun _ => 0))), ((u_12.1 3), .inl (cA 1, 8, .inl (fun _ => 0))), ((u_12.1 4), .inl (cA 1, 7, .inl (fun _ => 0))), ((u_12.1 5), .inl (cA 1, 7, .inl (fun _ => 0))), ((u_12.1 6), .inl (cA 1, 7, .inl (fun _ => 0))), ((u_12.1 7), .inl (cA 1, 4, .inl (fun _ => 0))), ((u_12.1 8), .inl (cA 1, 4, .inl (fun _ => 0))), ((u_12.1 9), .inr (2, [.int (-1), .int (-1), .int 0, .int 0, .int 0, .int 0, .int 0, .ref (u_12.1 10), .ref (u_12.1 11), .ref (u_12.1 12)])), ((u_12.1 10), .inl (cA 1, 60, .inl (fun _ => 0))), ((u_12.1 11), .inl (cA 1, 60, .inl (fun _ => 0))), ((u_12.1 12), .inl (cA 1, 60, .inl (fun _ => 0))), (q_14, .inr (4, [.ref (u_15.1 0), .ref (u_15.1 9), .int 0])), ((u_15.1 0), .inr (3, [.int 0, .int 0, .int 0, .int 0, .int 0, .int 0, .int 0, .int 0, .ref (u_15.1 1), .ref (u_15.1 2), .ref (u_15.1 3), .ref (u_15.1 4), .ref (u_15.1 5), .ref (u_15.1 6), .ref (u_15.1 7), .ref (u_15.1 8)])), ((u_15.1 1), .inl (cA 1, 8, .inl (fun _ => 0))), ((u_15.1 2), .inl (cA 1, 8, .inl (fun _ => 0))), ((u_15.1 3), .inl (cA 1, 8, .inl (fun _ => 0))), ((u_15.1 4), .inl (cA 1, 7, .inl (fun _ => 0))), ((u_15.1 5), .inl (cA 1, 7, .inl (fun _ => 0))), ((u_15.1 6), .inl (cA 1, 7, .inl (fun _ => 0))), ((u_15.1 7), .inl (cA 1, 4, .inl (fun _ => 0))), ((u_15.1 8), .inl (cA 1, 4, .inl (fun _ => 0))), ((u_15.1 9), .inr (2, [.int (-1), .int (-1), .int 0, .int 0, .int 0, .int 0, .int 0, .ref (u_15.1 10), .ref (u_15.1 11), .ref (u_15.1 12)])), ((u_15.1 10), .inl (cA 1, 60, .inl (fun _ => 0))), ((u_15.1 11), .inl (cA 1, 60, .inl (fun _ => 0))), ((u_15.1 12), .inl (cA 1, 60, .inl (fun _ => 0))), (q_17, .inr (4, [.null, .null, .int 0]))] H := hP
  have hD : va_D A [(h0, .inr (11, [.ref q_1, .ref q_3, .ref q_5, .ref q_7, .ref q_9, .null, .null, .null, .null, .null, .null])), (q_1, .inr (9, [.ref (u_2.1 0), .int 0])), ((u_2.1 0), .inl (cA 0, 800, .inl (fun _ => 0))), (q_3, .inr (6, [.ref (u_4.1 0), .int 0, .int (-1), .ref q_1, .int 0, .int 0, .int 0, .int 0, .int 0, .int 0, .int 0, .int 0, .ref (u_4.1 9)])), ((u_4.1 0), .inr (3, [.int 0, .int 0, .int 0, .int 0, .int 0, .int 0, .int 0, .int 0, .ref (u_4.1 1), .ref (u_4.1 2), .ref (u_4.1 3), .ref (u_4.1 4), .ref (u_4.1 5), .ref (u_4.1 6), .ref (u_4.1 7), .ref (u_4.1 8)])), ((u_4.1 1), .inl (cA 1, 8, .inl (fun _ => 0))), ((u_4.1 2), .inl (cA 1, 8, .inl (fun _ => 0))), ((u_4.1 3), .inl (cA 1, 8, .inl (fun _ => 0))), ((u_4.1 4), .inl (cA 1, 7, .inl (fun _ => 0))), ((u_4.1 5), .inl (cA 1, 7, .inl (fun _ => 0))), ((u_4.1 6), .inl (cA 1, 7, .inl (fun _ => 0))), ((u_4.1 7), .inl (cA 1, 4, .inl (fun _ => 0))), ((u_4.1 8), .inl (cA 1, 4, .inl (fun _ => 0))), ((u_4.1 9), .inl (cA 1, 3, .inl (fun _ => 0))), (q_5, .inr (3, [.int 0, .int 0, .int 0, .int 0, .int 0, .int 0, .int 0, .int 0, .ref (u_6.1 0), .ref (u_6.1 1), .ref (u_6.1 2), .ref (u_6.1 3), .ref (u_6.1 4), .ref (u_6.1 5), .ref (u_6.1 6), .ref (u_6.1 7)])), ((u_6.1 0), .inl (cA 1, 8, .inl (fun _ => 0))), ((u_6.1 1), .inl (cA 1, 8, .inl (fun _ => 0))), ((u_6.1 2), .inl (cA 1, 8, .inl (fun _ => 0))), ((u_6.1 3), .inl (cA 1, 7, .inl (fun _ => 0))), ((u_6.1 4), .inl (cA 1, 7, .inl (fun _ => 0))), ((u_6.1 5), .inl (cA 1, 7, .inl (fun _ => 0))), ((u_6.1 6), .inl (cA 1, 4, .inl (fun _ => 0))), ((u_6.1 7), .inl (cA 1, 4, .inl (fun _ => 0))), (q_7, .inr (2, [.int (-1), .int (-1), .int 0, .int 0, .int 0, .int 0, .int 0, .ref (u_8.1 0), .ref (u_8.1 1), .ref (u_8.1 2)])), ((u_8.1 0), .inl (cA 1, 60, .inl (fun _ => 0))), ((u_8.1 1), .inl (cA 1, 60, .inl (fun _ => 0))), ((u_8.1 2), .inl (cA 1, 60, .inl (fun _ => 0))), (q_9, .inl (cA 4, 3, .inr (.inr (.inr (.inr (va_up (va_up (fun _ => none) 0 (some q_11)) 1 (some q_14))))))), (q_11, .inr (4, [.ref (u_12.1 0), .ref (u_12.1 9), .int 0])), ((u_12.1 0), .inr (3, [.int 0, .int 0, .int 0, .int 0, .int 0, .int 0, .int 0, .int 0, .ref (u_12.1 1), .ref (u_12.1 2), .ref (u_12.1 3), .ref (u_12.1 4), .ref (u_12.1 5), .ref (u_12.1 6), .ref (u_12.1 7), .ref (u_12.1 8)])), ((u_12.1 1), .inl (cA 1, 8, .inl (fun _ => 0))), ((u_12.1 2), .inl (cA 1, 8, .inl (fun _ => 0))), ((u_12.1 3), .inl (cA 1, 8, .inl (fun _ => 0))), ((u_12.1 4), .inl (cA 1, 7, .inl (fun _ => 0))), ((u_12.1 5), .inl (cA 1, 7, .inl (fun _ => 0))), ((u_12.1 6), .inl (cA 1, 7, .inl (fun _ => 0))), ((u_12.1 7), .inl (cA 1, 4, .inl (fun _ => 0))), ((u_12.1 8), .inl (cA 1, 4, .inl (fun _ => 0))), ((u_12.1 9), .inr (2, [.int (-1), .int (-1), .int 0, .int 0, .int 0, .int 0, .int 0, .ref (u_12.1 10), .ref (u_12.1 11), .ref (u_12.1 12)])), ((u_12.1 10), .inl (cA 1, 60, .inl (fun _ => 0))), ((u_12.1 11), .inl (cA 1, 60, .inl (fun _ => 0))), ((u_12.1 12), .inl (cA 1, 60, .inl (fun _ => 0))), (q_14, .inr (4, [.ref (u_15.1 0), .ref (u_15.1 9), .int 0])), ((u_15.1 0), .inr (3, [.int 0, .int 0, .int 0, .int 0, .int 0, .int 0, .int 0, .int 0, .ref (u_15.1 1), .ref (u_15.1 2), .ref (u_15.1 3), .ref (u_15.1 4), .ref (u_15.1 5), .ref (u_15.1 6), .ref (u_15.1 7), .ref (u_15.1 8)])), ((u_15.1 1), .inl (cA 1, 8, .inl (fun _ => 0))), ((u_15.1 2), .inl (cA 1, 8, .inl (fun _ => 0))), ((u_15.1 3), .inl (cA 1, 8, .inl (fun _ => 0))), ((u_15.1 4), .inl (cA 1, 7, .inl (fun _ => 0))), ((u_15.1 5), .inl (cA 1, 7, .inl (fun _ => 0))), ((u_15.1 6), .inl (cA 1, 7, .inl (fun _ => 0))), ((u_15.1 7), .inl (cA 1, 4, .inl (fun _ => 0))), ((u_15.1 8), .inl (cA 1, 4, .inl (fun _ => 0))), ((u_15.1 9), .inr (2, [.int (-1), .int (-1), .int 0, .int 0, .int 0, .int 0, .int 0, .ref (u_15.1 10), .ref (u_15.1 11), .ref (u_15.1 12)])), ((u_15.1 10), .inl (cA 1, 60, .inl (fun _ => 0))), ((u_15.1 11), .inl (cA 1, 60, .inl (fun _ => 0))), ((u_15.1 12), .inl (cA 1, 60, .inl (fun _ => 0))), (q_17, .inr (4, [.null, .null, .int 0]))] := hD
  refine W.widen (k := 56) (n := 1676) (Nat.le_of_ble_eq_true rfl) (Nat.le_of_ble_eq_true rfl) ?_
  refine lv_dup hx hb dX11_init_75 rfl ?_
  refine cmINv (rest := [.ref q_17, .int 2, .ref q_9]) (wsC := [(q_17, .inr (4, [.null, .null, .int 0]))]) (wr := [(h0, .inr (11, [.ref q_1, .ref q_3, .ref q_5, .ref q_7, .ref q_9, .null, .null, .null, .null, .null, .null])), (q_1, .inr (9, [.ref (u_2.1 0), .int 0])), ((u_2.1 0), .inl (cA 0, 800, .inl (fun _ => 0))), (q_3, .inr (6, [.ref (u_4.1 0), .int 0, .int (-1), .ref q_1, .int 0, .int 0, .int 0, .int 0, .int 0, .int 0, .int 0, .int 0, .ref (u_4.1 9)])), ((u_4.1 0), .inr (3, [.int 0, .int 0, .int 0, .int 0, .int 0, .int 0, .int 0, .int 0, .ref (u_4.1 1), .ref (u_4.1 2), .ref (u_4.1 3), .ref (u_4.1 4), .ref (u_4.1 5), .ref (u_4.1 6), .ref (u_4.1 7), .ref (u_4.1 8)])), ((u_4.1 1), .inl (cA 1, 8, .inl (fun _ => 0))), ((u_4.1 2), .inl (cA 1, 8, .inl (fun _ => 0))), ((u_4.1 3), .inl (cA 1, 8, .inl (fun _ => 0))), ((u_4.1 4), .inl (cA 1, 7, .inl (fun _ => 0))), ((u_4.1 5), .inl (cA 1, 7, .inl (fun _ => 0))), ((u_4.1 6), .inl (cA 1, 7, .inl (fun _ => 0))), ((u_4.1 7), .inl (cA 1, 4, .inl (fun _ => 0))), ((u_4.1 8), .inl (cA 1, 4, .inl (fun _ => 0))), ((u_4.1 9), .inl (cA 1, 3, .inl (fun _ => 0))), (q_5, .inr (3, [.int 0, .int 0, .int 0, .int 0, .int 0, .int 0, .int 0, .int 0, .ref (u_6.1 0), .ref (u_6.1 1), .ref (u_6.1 2), .ref (u_6.1 3), .ref (u_6.1 4), .ref (u_6.1 5), .ref (u_6.1 6), .ref (u_6.1 7)])), ((u_6.1 0), .inl (cA 1, 8, .inl (fun _ => 0))), ((u_6.1 1), .inl (cA 1, 8, .inl (fun _ => 0))), ((u_6.1 2), .inl (cA 1, 8, .inl (fun _ => 0))), ((u_6.1 3), .inl (cA 1, 7, .inl (fun _ => 0))), ((u_6.1 4), .inl (cA 1, 7, .inl (fun _ => 0))), ((u_6.1 5), .inl (cA 1, 7, .inl (fun _ => 0))), ((u_6.1 6), .inl (cA 1, 4, .inl (fun _ => 0))), ((u_6.1 7), .inl (cA 1, 4, .inl (fun _ => 0))), (q_7, .inr (2, [.int (-1), .int (-1), .int 0, .int 0, .int 0, .int 0, .int 0, .ref (u_8.1 0), .ref (u_8.1 1), .ref (u_8.1 2)])), ((u_8.1 0), .inl (cA 1, 60, .inl (fun _ => 0))), ((u_8.1 1), .inl (cA 1, 60, .inl (fun _ => 0))), ((u_8.1 2), .inl (cA 1, 60, .inl (fun _ => 0))), (q_9, .inl (cA 4, 3, .inr (.inr (.inr (.inr (va_up (va_up (fun _ => none) 0 (some q_11)) 1 (some q_14))))))), (q_11, .inr (4, [.ref (u_12.1 0), .ref (u_12.1 9), .int 0])), ((u_12.1 0), .inr (3, [.int 0, .int 0, .int 0, .int 0, .int 0, .int 0, .int 0, .int 0, .ref (u_12.1 1), .ref (u_12.1 2), .ref (u_12.1 3), .ref (u_12.1 4), .ref (u_12.1 5), .ref (u_12.1 6), .ref (u_12.1 7), .ref (u_12.1 8)])), ((u_12.1 1), .inl (cA 1, 8, .inl (fun _ => 0))), ((u_12.1 2), .inl (cA 1, 8, .inl (fun _ => 0))), ((u_12.1 3), .inl (cA 1, 8, .inl (fun _ => 0))), ((u_12.1 4), .inl (cA 1, 7, .inl (fun _ => 0))), ((u_12.1 5), .inl (cA 1, 7, .inl (fun _ => 0))), ((u_12.1 6), .inl (cA 1, 7, .inl (fun _ => 0))), ((u_12.1 7), .inl (cA 1, 4, .inl (fun _ => 0))), ((u_12.1 8), .inl (cA 1, 4, .inl (fun _ => 0))), ((u_12.1 9), .inr (2, [.int (-1), .int (-1), .int 0, .int 0, .int 0, .int 0, .int 0, .ref (u_12.1 10), .ref (u_12.1 11), .ref (u_12.1 12)])), ((u_12.1 10), .inl (cA 1, 60, .inl (fun _ => 0))), ((u_12.1 11), .inl (cA 1, 60, .inl (fun _ => 0))), ((u_12.1 12), .inl (cA 1, 60, .inl (fun _ => 0))), (q_14, .inr (4, [.ref (u_15.1 0), .ref (u_15.1 9), .int 0])), ((u_15.1 0), .inr (3, [.int 0, .int 0, .int 0, .int 0, .int 0, .int 0, .int 0, .int 0, .ref (u_15.1 1), .ref (u_15.1 2), .ref (u_15.1 3), .ref (u_15.1 4), .ref (u_15.1 5), .ref (u_15.1 6), .ref (u_15.1 7), .ref (u_15.1 8)])), ((u_15.1 1), .inl (cA 1, 8, .inl (fun _ => 0))), ((u_15.1 2), .inl (cA 1, 8, .inl (fun _ => 0))), ((u_15.1 3), .inl (cA 1, 8, .inl (fun _ => 0))), ((u_15.1 4), .inl (cA 1, 7, .inl (fun _ => 0))), ((u_15.1 5), .inl (cA 1, 7, .inl (fun _ => 0))), ((u_15.1 6), .inl (cA 1, 7, .inl (fun _ => 0))), ((u_15.1 7), .inl (cA 1, 4, .inl (fun _ => 0))), ((u_15.1 8), .inl (cA 1, 4, .inl (fun _ => 0))), ((u_15.1 9), .inr (2, [.int (-1), .int (-1), .int 0, .int 0, .int 0, .int 0, .int 0, .ref (u_15.1 10), .ref (u_15.1 11), .ref (u_15.1 12)])), ((u_15.1 10), .inl (cA 1, 60, .inl (fun _ => 0))), ((u_15.1 11), .inl (cA 1, 60, .inl (fun _ => 0))), ((u_15.1 12), .inl (cA 1, 60, .inl (fun _ => 0)))]) ⟨hx, hb, hml, hown, hts⟩ hKN hP hD hS hA [56] [0, 1, 2, 3, 4, 5, 6, 7, 8, 9, 10, 11, 12, 13, 14, 15, 16, 17, 18, 19, 20, 21, 22, 23, 24, 25, 26, 27, 28, 29, 30, 31, 32, 33, 34, 35, 36, 37, 38, 39, 40, 41, 42, 43, 44, 45, 46, 47, 48, 49, 50, 51, 52, 53, 54, 55] rfl rfl (by decide) (by decide) (by decide) (k_X4_init l D cA _ q_17) ⟨nw_4, tw_315, tw_106, tw_316⟩ hdX4_init ⟨rfl, rfl, Nat.le_of_ble_eq_true rfl, Nat.le_of_ble_eq_true rfl⟩ ⟨Nat.le_of_ble_eq_true rfl, Nat.le_of_ble_eq_true rfl⟩ rfl hl.1 rfl (Nat.le_of_ble_eq_true rfl) dX11_init_76 (fun u_18 H locs hr_18 hP hD hS => ?_)
  have hP : va_P D vwCl [(h0, .inr (11, [.ref q_1, .ref q_3, .ref q_5, .ref q_7, .ref q_9, .null, .null, .null, .null, .null, .null])), (q_1, .inr (9, [.ref (u_2.1 0), .int 0])), ((u_2.1 0), .inl (cA 0, 800, .inl (fun _ => 0))), (q_3, .inr (6, [.ref (u_4.1 0), .int 0, .int (-1), .ref q_1, .int 0, .int 0, .int 0, .int 0, .int 0, .int 0, .int 0, .int 0, .ref (u_4.1 9)])), ((u_4.1 0), .inr (3, [.int 0, .int 0, .int 0, .int 0, .int 0, .int 0, .int 0, .int 0, .ref (u_4.1 1), .ref (u_4.1 2), .ref (u_4.1 3), .ref (u_4.1 4), .ref (u_4.1 5), .ref (u_4.1 6), .ref (u_4.1 7), .ref (u_4.1 8)])), ((u_4.1 1), .inl (cA 1, 8, .inl (fun _ => 0))), ((u_4.1 2), .inl (cA 1, 8, .inl (fun _ => 0))), ((u_4.1 3), .inl (cA 1, 8, .inl (fun _ => 0))), ((u_4.1 4), .inl (cA 1, 7, .inl (fun _ => 0))), ((u_4.1 5), .inl (cA 1, 7, .inl (fun _ => 0))), ((u_4.1 6), .inl (cA 1, 7, .inl (fun _ => 0))), ((u_4.1 7), .inl (cA 1, 4, .inl (fun _ => 0))), ((u_4.1 8), .inl (cA 1, 4, .inl (fun _ => 0))), ((u_4.1 9), .inl (cA 1, 3, .inl (fun _ => 0))), (q_5, .inr (3, [.int 0, .int 0, .int 0, .int 0, .int 0, .int 0, .int 0, .int 0, .ref (u_6.1 0), .ref (u_6.1 1), .ref (u_6.1 2), .ref (u_6.1 3), .ref (u_6.1 4), .ref (u_6.1 5), .ref (u_6.1 6), .ref (u_6.1 7)])), ((u_6.1 0), .inl (cA 1, 8, .inl (fun _ => 0))), ((u_6.1 1), .inl (cA 1, 8, .inl (fun _ => 0))), ((u_6.1 2), .inl (cA 1, 8, .inl (fun _ => 0))), ((u_6.1 3), .inl (cA 1, 7, .inl (fun _ => 0))), ((u_6.1 4), .inl (cA 1, 7, .inl (fun _ => 0))), ((u_6.1 5), .inl (cA 1, 7, .inl (fun _ => 0))), ((u_6.1 6), .inl (cA 1, 4, .inl (fun _ => 0))), ((u_6.1 7), .inl (cA 1, 4, .inl (fun _ => 0))), (q_7, .inr (2, [.int (-1), .int (-1), .int 0, .int 0, .int 0, .int 0, .int 0, .ref (u_8.1 0), .ref (u_8.1 1), .ref (u_8.1 2)])), ((u_8.1 0), .inl (cA 1, 60, .inl (fun _ => 0))), ((u_8.1 1), .inl (cA 1, 60, .inl (fun _ => 0))), ((u_8.1 2), .inl (cA 1, 60, .inl (fun _ => 0))), (q_9, .inl (cA 4, 3, .inr (.inr (.inr (.inr (va_up (va_up (fun _ => none) 0 (some q_11)) 1 (some q_14))))))), (q_11, .inr (4, [.ref (u_12.1 0), .ref (u_12.1 9), .int 0])), ((u_12.1 0), .inr (3, [.int 0, .int 0, .int 0, .int 0, .int 0, .int 0, .int 0, .int 0, .ref (u_12.1 1), .ref (u_12.1 2), .ref (u_12.1 3), .ref (u_12.1 4), .ref (u_12.1 5), .ref (u_12.1 6), .ref (u_12.1 7), .ref (u_12.1 8)])), ((u_12.1 1), .inl (cA 1, 8, .inl (fun _ => 0))), ((u_12.1 2), .inl (cA 1, 8, .inl (fun _ => 0))), ((u_12.1 3), .inl (cA 1, 8, .inl (fun _ => 0))), ((u_12.1 4), .inl (cA 1, 7, .inl (fun _ => 0))), ((u_12.1 5), .inl (cA 1, 7, .inl (fun _ => 0))), ((u_12.1 6), .inl (cA 1, 7, .inl (fun _ => 0))), ((u_12.1 7), .inl (cA 1, 4, .inl (fun _ => 0))), ((u_12.1 8), .inl (cA 1, 4, .inl (fun _ => 0))), ((u_12.1 9), .inr (2, [.int (-1), .int (-1), .int 0, .int 0, .int 0, .int 0, .int 0, .ref (u_12.1 10), .ref (u_12.1 11), .ref (u_12.1 12)])), ((u_12.1 10), .inl (cA 1, 60, .inl (fun _ => 0))), ((u_12.1 11), .inl (cA 1, 60, .inl (fun _ => 0))), ((u_12.1 12), .inl (cA 1, 60, .inl (fun _ => 0))), (q_14, .inr (4, [.ref (u_15.1 0), .ref (u_15.1 9), .int 0])), ((u_15.1 0), .inr (3, [.int 0, .int 0, .int 0, .int 0, .int 0, .int 0, .int 0, .int 0, .ref (u_15.1 1), .ref (u_15.1 2), .ref (u_15.1 3), .ref (u_15.1 4), .ref (u_15.1 5), .ref (u_15.1 6), .ref (u_15.1 7), .ref (u_15.1 8)])), ((u_15.1 1), .inl (cA 1, 8, .inl (fun _ => 0))), ((u_15.1 2), .inl (cA 1, 8, .inl (fun _ => 0))), ((u_15.1 3), .inl (cA 1, 8, .inl (fun _ => 0))), ((u_15.1 4), .inl (cA 1, 7, .inl (fun _ => 0))), ((u_15.1 5), .inl (cA 1, 7, .inl (fun _ => 0))), ((u_15.1 6), .inl (cA 1, 7, .inl (fun _ => 0))), ((u_15.1 7), .inl (cA 1, 4, .inl (fun _ => 0))), ((u_15.1 8), .inl (cA 1, 4, .inl (fun _ => 0))), ((u_15.1 9), .inr (2, [.int (-1), .int (-1), .int 0, .int 0, .int 0, .int 0, .int 0, .ref (u_15.1 10), .ref (u_15.1 11), .ref (u_15.1 12)])), ((u_15.1 10), .inl (cA 1, 60, .inl (fun _ => 0))), ((u_15.1 11), .inl (cA 1, 60, .inl (fun _ => 0))), ((u_15.1 12), .inl (cA 1, 60, .inl (fun _ => 0))), (q_17, .inr (4, [.ref (u_18.1 0), .ref (u_18.1 9), .int 0])), ((u_18.1 0), .inr (3, [.int 0, .int 0, .int 0, .int 0, .int 0, .int 0, .int 0, .int 0, .ref (u_18.1 1), .ref (u_18.1 2), .ref (u_18.1 3), .ref (u_18.1 4), .ref (u_18.1 5), .ref (u_18.1 6), .ref (u_18.1 7), .ref (u_18.1 8)])), ((u_18.1 1), .inl (cA 1, 8, .inl (fun _ => 0))), ((u_18.1 2), .inl (cA 1, 8, .inl (fun _ => 0))), ((u_18.1 3), .inl (cA 1, 8, .inl (fun _ => 0))), ((u_18.1 4), .inl (cA 1, 7, .inl (fun _ => 0))), ((u_18.1 5), .inl (cA 1, 7, .inl (fun _ => 0))), ((u_18.1 6), .inl (cA 1, 7, .inl (fun _ => 0))), ((u_18.1 7), .inl (cA 1, 4, .inl (fun _ => 0))), ((u_18.1 8), .inl (cA 1, 4, .inl (fun _ => 0))), ((u_18.1 9), .inr (2, [.int (-1), .int (-1), .int 0, .int 0, .int 0, .int 0, .int 0, .ref (u_18.1 10), .ref (u_18.1 11), .ref (u_18.1 12)])), ((u_18.1 10), .inl (cA 1, 60, .inl (fun _ => 0))), ((u_18.1 11), .inl (cA 1, 60, .inl (fun _ => 0))), ((u_18.1 12), .inl (cA 1, 60, .inl (fun _ => 0)))] H := hP
  have hD : va_D A [(h0, .inr (11, [.ref q_1, .ref q_3, .ref q_5, .ref q_7, .ref q_9, .null, .null, .null, .null, .null, .null])), (q_1, .inr (9, [.ref (u_2.1 0), .int 0])), ((u_2.1 0), .inl (cA 0, 800, .inl (fun _ => 0))), (q_3, .inr (6, [.ref (u_4.1 0), .int 0, .int (-1), .ref q_1, .int 0, .int 0, .int 0, .int 0, .int 0, .int 0, .int 0, .int 0, .ref (u_4.1 9)])), ((u_4.1 0), .inr (3, [.int 0, .int 0, .int 0, .int 0, .int 0, .int 0, .int 0, .int 0, .ref (u_4.1 1), .ref (u_4.1 2), .ref (u_4.1 3), .ref (u_4.1 4), .ref (u_4.1 5), .ref (u_4.1 6), .ref (u_4.1 7), .ref (u_4.1 8)])), ((u_4.1 1), .inl (cA 1, 8, .inl (fun _ => 0))), ((u_4.1 2), .inl (cA 1, 8, .inl (fun _ => 0))), ((u_4.1 3), .inl (cA 1, 8, .inl (fun _ => 0))), ((u_4.1 4), .inl (cA 1, 7, .inl (fun _ => 0))), ((u_4.1 5), .inl (cA 1, 7, .inl (fun _ => 0))), ((u_4.1 6), .inl (cA 1, 7, .inl (fun _ => 0))), ((u_4.1 7), .inl (cA 1, 4, .inl (fun _ => 0))), ((u_4.1 8), .inl (cA 1, 4, .inl (fun _ => 0))), ((u_4.1 9), .inl (cA 1, 3, .inl (fun _ => 0))), (q_5, .inr (3, [.int 0, .int 0, .int 0, .int 0, .int 0, .int 0, .int 0, .int 0, .ref (u_6.1 0), .ref (u_6.1 1), .ref (u_6.1 2), .ref (u_6.1 3), .ref (u_6.1 4), .ref (u_6.1 5), .ref (u_6.1 6), .ref (u_6.1 7)])), ((u_6.1 0), .inl (cA 1, 8, .inl (fun _ => 0))), ((u_6.1 1), .inl (cA 1, 8, .inl (fun _ => 0))), ((u_6.1 2), .inl (cA 1, 8, .inl (fun _ => 0))), ((u_6.1 3), .inl (cA 1, 7, .inl (fun _ => 0))), ((u_6.1 4), .inl (cA 1, 7, .inl (fun _ => 0))), ((u_6.1 5), .inl (cA 1, 7, .inl (fun _ => 0))), ((u_6.1 6), .inl (cA 1, 4, .inl (fun _ => 0))), ((u_6.1 7), .inl (cA 1, 4, .inl (fun _ => 0))), (q_7, .inr (2, [.int (-1), .int (-1), .int 0, .int 0, .int 0, .int 0, .int 0, .ref (u_8.1 0), .ref (u_8.1 1), .ref (u_8.1 2)])), ((u_8.1 0), .inl (cA 1, 60, .inl (fun _ => 0))), ((u_8.1 1), .inl (cA 1, 60, .inl (fun _ => 0))), ((u_8.1 2), .inl (cA 1, 60, .inl (fun _ => 0))), (q_9, .inl (cA 4, 3, .inr (.inr (.inr (.inr (va_up (va_up (fun _ => none) 0 (some q_11)) 1 (some q_14))))))), (q_11, .inr (4, [.ref (u_12.1 0), .ref (u_12.1 9), .int 0])), ((u_12.1 0), .inr (3, [.int 0, .int 0, .int 0, .int 0, .int 0, .int 0, .int 0, .int 0, .ref (u_12.1 1), .ref (u_12.1 2), .ref (u_12.1 3), .ref (u_12.1 4), .ref (u_12.1 5), .ref (u_12.1 6), .ref (u_12.1 7), .ref (u_12.1 8)])), ((u_12.1 1), .inl (cA 1, 8, .inl (fun _ => 0))), ((u_12.1 2), .inl (cA 1, 8, .inl (fun _ => 0))), ((u_12.1 3), .inl (cA 1, 8, .inl (fun _ => 0))), ((u_12.1 4), .inl (cA 1, 7, .inl (fun _ => 0))), ((u_12.1 5), .inl (cA 1, 7, .inl (fun _ => 0))), ((u_12.1 6), .inl (cA 1, 7, .inl (fun _ => 0))), ((u_12.1 7), .inl (cA 1, 4, .inl (fun _ => 0))), ((u_12.1 8), .inl (cA 1, 4, .inl (fun _ => 0))), ((u_12.1 9), .inr (2, [.int (-1), .int (-1), .int 0, .int 0, .int 0, .int 0, .int 0, .ref (u_12.1 10), .ref (u_12.1 11), .ref (u_12.1 12)])), ((u_12.1 10), .inl (cA 1, 60, .inl (fun _ => 0))), ((u_12.1 11), .inl (cA 1, 60, .inl (fun _ => 0))), ((u_12.1 12), .inl (cA 1, 60, .inl (fun _ => 0))), (q_14, .inr (4, [.ref (u_15.1 0), .ref (u_15.1 9), .int 0])), ((u_15.1 0), .inr (3, [.int 0, .int 0, .int 0, .int 0, .int 0, .int 0, .int 0, .int 0, .ref (u_15.1 1), .ref (u_15.1 2), .ref (u_15.1 3), .ref (u_15.1 4), .ref (u_15.1 5), .ref (u_15.1 6), .ref (u_15.1 7), .ref (u_15.1 8)])), ((u_15.1 1), .inl (cA 1, 8, .inl (fun _ => 0))), ((u_15.1 2), .inl (cA 1, 8, .inl (fun _ => 0))), ((u_15.1 3), .inl (cA 1, 8, .inl (fun _ => 0))), ((u_15.1 4), .inl (cA 1, 7, .inl (fun _ => 0))), ((u_15.1 5), .inl (cA 1, 7, .inl (fun _ => 0))), ((u_15.1 6), .inl (cA 1, 7, .inl (fun _ => 0))), ((u_15.1 7), .inl (cA 1, 4, .inl (fun _ => 0))), ((u_15.1 8), .inl (cA 1, 4, .inl (fun _ => 0))), ((u_15.1 9), .inr (2, [.int (-1), .int (-1), .int 0, .int 0, .int 0, .int 0, .int 0, .ref (u_15.1 10), .ref (u_15.1 11), .ref (u_15.1 12)])), ((u_15.1 10), .inl (cA 1, 60, .inl (fun _ => 0))), ((u_15.1 11), .inl (cA 1, 60, .inl (fun _ => 0))), ((u_15.1 12), .inl (cA 1, 60, .inl (fun _ => 0))), (q_17, .inr (4, [.ref (u_18.1 0), .ref (u_18.1 9), .int 0])), ((u_18.1 0), .inr (3, [.int 0, .int 0, .int 0, .int 0, .int 0, .int 0, .int 0, .int 0, .ref (u_18.1 1), .ref (u_18.1 2), .ref (u_18.1 3), .ref (u_18.1 4), .ref (u_18.1 5), .ref (u_18.1 6), .ref (u_18.1 7), .ref (u_18.1 8)])), ((u_18.1 1), .inl (cA 1, 8, .inl (fun _ => 0))), ((u_18.1 2), .inl (cA 1, 8, .inl (fun _ => 0))), ((u_18.1 3), .inl (cA 1, 8, .inl (fun _ => 0))), ((u_18.1 4), .inl (cA 1, 7, .inl (fun _ => 0))), ((u_18.1 5), .inl (cA 1, 7, .inl (fun _ => 0))), ((u_18.1 6), .inl (cA 1, 7, .inl (fun _ => 0))), ((u_18.1 7), .inl (cA 1, 4, .inl (fun _ => 0))), ((u_18.1 8), .inl (cA 1, 4, .inl (fun _ => 0))), ((u_18.1 9), .inr (2, [.int (-1), .int (-1), .int 0, .int 0, .int 0, .int 0, .int 0, .ref (u_18.1 10), .ref (u_18.1 11), .ref (u_18.1 12)])), ((u_18.1 10), .inl (cA 1, 60, .inl (fun _ => 0))), ((u_18.1 11), .inl (cA 1, 60, .inl (fun _ => 0))), ((u_18.1 12), .inl (cA 1, 60, .inl (fun _ => 0)))] := hD
  refine W.widen (k := 69) (n := 1935) (Nat.le_of_ble_eq_true rfl) (Nat.le_of_ble_eq_true rfl) ?_
  refine va_astq hx hb hKN.1 hP hD hS 27 4 56 4 rfl rfl rfl rfl (by unfold vp_in; decide) dX11_init_79 (fun H locs hP hD hS => ?_)
  have hP : va_P D vwCl [(h0, .inr (11, [.ref q_1, .ref q_3, .ref q_5, .ref q_7, .ref q_9, .null, .null, .null, .null, .null, .null])), (q_1, .inr (9, [.ref (u_2.1 0), .int 0])), ((u_2.1 0), .inl (cA 0, 800, .inl (fun _ => 0))), (q_3, .inr (6, [.ref (u_4.1 0), .int 0, .int (-1), .ref q_1, .int 0, .int 0, .int 0, .int 0, .int 0, .int 0, .int 0, .int 0, .ref (u_4.1 9)])), ((u_4.1 0), .inr (3, [.int 0, .int 0, .int 0, .int 0, .int 0, .int 0, .int 0, .int 0, .ref (u_4.1 1), .ref (u_4.1 2), .ref (u_4.1 3), .ref (u_4.1 4), .ref (u_4.1 5), .ref (u_4.1 6), .ref (u_4.1 7), .ref (u_4.1 8)])), ((u_4.1 1), .inl (cA 1, 8, .inl (fun _ => 0))), ((u_4.1 2), .inl (cA 1, 8, .inl (fun _ => 0))), ((u_4.1 3), .inl (cA 1, 8, .inl (fun _ => 0))), ((u_4.1 4), .inl (cA 1, 7, .inl (fun _ => 0))), ((u_4.1 5), .inl (cA 1, 7, .inl (fun _ => 0))), ((u_4.1 6), .inl (cA 1, 7, .inl (fun _ => 0))), ((u_4.1 7), .inl (cA 1, 4, .inl (fun _ => 0))), ((u_4.1 8), .inl (cA 1, 4, .inl (fun _ => 0))), ((u_4.1 9), .inl (cA 1, 3, .inl (fun _ => 0))), (q_5, .inr (3, [.int 0, .int 0, .int 0, .int 0, .int 0, .int 0, .int 0, .int 0, .ref (u_6.1 0), .ref (u_6.1 1), .ref (u_6.1 2), .ref (u_6.1 3), .ref (u_6.1 4), .ref (u_6.1 5), .ref (u_6.1 6), .ref (u_6.1 7)])), ((u_6.1 0), .inl (cA 1, 8, .inl (fun _ => 0))), ((u_6.1 1), .inl (cA 1, 8, .inl (fun _ => 0))), ((u_6.1 2), .inl (cA 1, 8, .inl (fun _ => 0))), ((u_6.1 3), .inl (cA 1, 7, .inl (fun _ => 0))), ((u_6.1 4), .inl (cA 1, 7, .inl (fun _ => 0))), ((u_6.1 5), .inl (cA 1, 7, .inl (fun _ => 0))), ((u_6.1 6), .inl (cA 1, 4, .inl (fun _ => 0))), ((u_6.1 7), .inl (cA 1, 4, .inl (fun _ => 0))), (q_7, .inr (2, [.int (-1), .int (-1), .int 0, .int 0, .int 0, .int 0, .int 0, .ref (u_8.1 0), .ref (u_8.1 1), .ref (u_8.1 2)])), ((u_8.1 0), .inl (cA 1, 60, .inl (fun _ => 0))), ((u_8.1 1), .inl (cA 1, 60, .inl (fun _ => 0))), ((u_8.1 2), .inl (cA 1, 60, .inl (fun _ => 0))), (q_9, .inl (cA 4, 3, .inr (.inr (.inr (.inr (va_up (va_up (va_up (fun _ => none) 0 (some q_11)) 1 (some q_14)) 2 (some q_17))))))), (q_11, .inr (4, [.ref (u_12.1 0), .ref (u_12.1 9), .int 0])), ((u_12.1 0), .inr (3, [.int 0, .int 0, .int 0, .int 0, .int 0, .int 0, .int 0, .int 0, .ref (u_12.1 1), .ref (u_12.1 2), .ref (u_12.1 3), .ref (u_12.1 4), .ref (u_12.1 5), .ref (u_12.1 6), .ref (u_12.1 7), .ref (u_12.1 8)])), ((u_12.1 1), .inl (cA 1, 8, .inl (fun _ => 0))), ((u_12.1 2), .inl (cA 1, 8, .inl (fun _ => 0))), ((u_12.1 3), .inl (cA 1, 8, .inl (fun _ => 0))), ((u_12.1 4), .inl (cA 1, 7, .inl (fun _ => 0))), ((u_12.1 5), .inl (cA 1, 7, .inl (fun _ => 0))), ((u_12.1 6), .inl (cA 1, 7, .inl (fun _ => 0))), ((u_12.1 7), .inl (cA 1, 4, .inl (fun _ => 0))), ((u_12.1 8), .inl (cA 1, 4, .inl (fun _ => 0))), ((u_12.1 9), .inr (2, [.int (-1), .int (-1), .int 0, .int 0, .int 0, .int 0, .int 0, .ref (u_12.1 10), .ref (u_12.1 11), .ref (u_12.1 12)])), ((u_12.1 10), .inl (cA 1, 60, .inl (fun _ => 0))), ((u_12.1 11), .inl (cA 1, 60, .inl (fun _ => 0))), ((u_12.1 12), .inl (cA 1, 60, .inl (fun _ => 0))), (q_14, .inr (4, [.ref (u_15.1 0), .ref (u_15.1 9), .int 0])), ((u_15.1 0), .inr (3, [.int 0, .int 0, .int 0, .int 0, .int 0, .int 0, .int 0, .int 0, .ref (u_15.1 1), .ref (u_15.1 2), .ref (u_15.1 3), .ref (u_15.1 4), .ref (u_15.1 5), .ref (u_15.1 6), .ref (u_15.1 7), .ref (u_15.1 8)])), ((u_15.1 1), .inl (cA 1, 8, .inl (fun _ => 0))), ((u_15.1 2), .inl (cA 1, 8, .inl (fun _ => 0))), ((u_15.1 3), .inl (cA 1, 8, .inl (fun _ => 0))), ((u_15.1 4), .inl (cA 1, 7, .inl (fun _ => 0))), ((u_15.1 5), .inl (cA 1, 7, .inl (fun _ => 0))), ((u_15.1 6), .inl (cA 1, 7, .inl (fun _ => 0))), ((u_15.1 7), .inl (cA 1, 4, .inl (fun _ => 0))), ((u_15.1 8), .inl (cA 1, 4, .inl (fun _ => 0))), ((u_15.1 9), .inr (2, [.int (-1), .int (-1), .int 0, .int 0, .int 0, .int 0, .int 0, .ref (u_15.1 10), .ref (u_15.1 11), .ref (u_15.1 12)])), ((u_15.1 10), .inl (cA 1, 60, .inl (fun _ => 0))), ((u_15.1 11), .inl (cA 1, 60, .inl (fun _ => 0))), ((u_15.1 12), .inl (cA 1, 60, .inl (fun _ => 0))), (q_17, .inr (4, [.ref (u_18.1 0), .ref (u_18.1 9), .int 0])), ((u_18.1 0), .inr (3, [.int 0, .int 0, .int 0, .int 0, .int 0, .int 0, .int 0, .int 0, .ref (u_18.1 1), .ref (u_18.1 2), .ref (u_18.1 3), .ref (u_18.1 4), .ref (u_18.1 5), .ref (u_18.1 6), .ref (u_18.1 7), .ref (u_18.1 8)])), ((u_18.1 1), .inl (cA 1, 8, .inl (fun _ => 0))), ((u_18.1 2), .inl (cA 1, 8, .inl (fun _ => 0))), ((u_18.1 3), .inl (cA 1, 8, .inl (fun _ => 0))), ((u_18.1 4), .inl (cA 1, 7, .inl (fun _ => 0))), ((u_18.1 5), .inl (cA 1, 7, .inl (fun _ => 0))), ((u_18.1 6), .inl (cA 1, 7, .inl (fun _ => 0))), ((u_18.1 7), .inl (cA 1, 4, .inl (fun _ => 0))), ((u_18.1 8), .inl (cA 1, 4, .inl (fun _ => 0))), ((u_18.1 9), .inr (2, [.int (-1), .int (-1), .int 0, .int 0, .int 0, .int 0, .int 0, .ref (u_18.1 10), .ref (u_18.1 11), .ref (u_18.1 12)])), ((u_18.1 10), .inl (cA 1, 60, .inl (fun _ => 0))), ((u_18.1 11), .inl (cA 1, 60, .inl (fun _ => 0))), ((u_18.1 12), .inl (cA 1, 60, .inl (fun _ => 0)))] H := hP
  have hD : va_D A [(h0, .inr (11, [.ref q_1, .ref q_3, .ref q_5, .ref q_7, .ref q_9, .null, .null, .null, .null, .null, .null])), (q_1, .inr (9, [.ref (u_2.1 0), .int 0])), ((u_2.1 0), .inl (cA 0, 800, .inl (fun _ => 0))), (q_3, .inr (6, [.ref (u_4.1 0), .int 0, .int (-1), .ref q_1, .int 0, .int 0, .int 0, .int 0, .int 0, .int 0, .int 0, .int 0, .ref (u_4.1 9)])), ((u_4.1 0), .inr (3, [.int 0, .int 0, .int 0, .int 0, .int 0, .int 0, .int 0, .int 0, .ref (u_4.1 1), .ref (u_4.1 2), .ref (u_4.1 3), .ref (u_4.1 4), .ref (u_4.1 5), .ref (u_4.1 6), .ref (u_4.1 7), .ref (u_4.1 8)])), ((u_4.1 1), .inl (cA 1, 8, .inl (fun _ => 0))), ((u_4.1 2), .inl (cA 1, 8, .inl (fun _ => 0))), ((u_4.1 3), .inl (cA 1, 8, .inl (fun _ => 0))), ((u_4.1 4), .inl (cA 1, 7, .inl (fun _ => 0))), ((u_4.1 5), .inl (cA 1, 7, .inl (fun _ => 0))), ((u_4.1 6), .inl (cA 1, 7, .inl (fun _ => 0))), ((u_4.1 7), .inl (cA 1, 4, .inl (fun _ => 0))), ((u_4.1 8), .inl (cA 1, 4, .inl (fun _ => 0))), ((u_4.1 9), .inl (cA 1, 3, .inl (fun _ => 0))), (q_5, .inr (3, [.int 0, .int 0, .int 0, .int 0, .int 0, .int 0, .int 0, .int 0, .ref (u_6.1 0), .ref (u_6.1 1), .ref (u_6.1 2), .ref (u_6.1 3), .ref (u_6.1 4), .ref (u_6.1 5), .ref (u_6.1 6), .ref (u_6.1 7)])), ((u_6.1 0), .inl (cA 1, 8, .inl (fun _ => 0))), ((u_6.1 1), .inl (cA 1, 8, .inl (fun _ => 0))), ((u_6.1 2), .inl (cA 1, 8, .inl (fun _ => 0))), ((u_6.1 3), .inl (cA 1, 7, .inl (fun _ => 0))), ((u_6.1 4), .inl (cA 1, 7, .inl (fun _ => 0))), ((u_6.1 5), .inl (cA 1, 7, .inl (fun _ => 0))), ((u_6.1 6), .inl (cA 1, 4, .inl (fun _ => 0))), ((u_6.1 7), .inl (cA 1, 4, .inl (fun _ => 0))), (q_7, .inr (2, [.int (-1), .int (-1), .int 0, .int 0, .int 0, .int 0, .int 0, .ref (u_8.1 0), .ref (u_8.1 1), .ref (u_8.1 2)])), ((u_8.1 0), .inl (cA 1, 60, .inl (fun _ => 0))), ((u_8.1 1), .inl (cA 1, 60, .inl (fun _ => 0))), ((u_8.1 2), .inl (cA 1, 60, .inl (fun _ => 0))), (q_9, .inl (cA 4, 3, .inr (.inr (.inr (.inr (va_up (va_up (va_up (fun _ => none) 0 (some q_11)) 1 (some q_14)) 2 (some q_17))))))), (q_11, .inr (4, [.ref (u_12.1 0), .ref (u_12.1 9), .int 0])), ((u_12.1 0), .inr (3, [.int 0, .int 0, .int 0, .int 0, .int 0, .int 0, .int 0, .int 0, .ref (u_12.1 1), .ref (u_12.1 2), .ref (u_12.1 3), .ref (u_12.1 4), .ref (u_12.1 5), .ref (u_12.1 6), .ref (u_12.1 7), .ref (u_12.1 8)])), ((u_12.1 1), .inl (cA 1, 8, .inl (fun _ => 0))), ((u_12.1 2), .inl (cA 1, 8, .inl (fun _ => 0))), ((u_12.1 3), .inl (cA 1, 8, .inl (fun _ => 0))), ((u_12.1 4), .inl (cA 1, 7, .inl (fun _ => 0))), ((u_12.1 5), .inl (cA 1, 7, .inl (fun _ => 0))), ((u_12.1 6), .inl (cA 1, 7, .inl (fun _ => 0))), ((u_12.1 7), .inl (cA 1, 4, .inl (fun _ => 0))), ((u_12.1 8), .inl (cA 1, 4, .inl (fun _ => 0))), ((u_12.1 9), .inr (2, [.int (-1), .int (-1), .int 0, .int 0, .int 0, .int 0, .int 0, .ref (u_12.1 10), .ref (u_12.1 11), .ref (u_12.1 12)])), ((u_12.1 10), .inl (cA 1, 60, .inl (fun _ => 0))), ((u_12.1 11), .inl (cA 1, 60, .inl (fun _ => 0))), ((u_12.1 12), .inl (cA 1, 60, .inl (fun _ => 0))), (q_14, .inr (4, [.ref (u_15.1 0), .ref (u_15.1 9), .int 0])), ((u_15.1 0), .inr (3, [.int 0, .int 0, .int 0, .int 0, .int 0, .int 0, .int 0, .int 0, .ref (u_15.1 1), .ref (u_15.1 2), .ref (u_15.1 3), .ref (u_15.1 4), .ref (u_15.1 5), .ref (u_15.1 6), .ref (u_15.1 7), .ref (u_15.1 8)])), ((u_15.1 1), .inl (cA 1, 8, .inl (fun _ => 0))), ((u_15.1 2), .inl (cA 1, 8, .inl (fun _ => 0))), ((u_15.1 3), .inl (cA 1, 8, .inl (fun _ => 0))), ((u_15.1 4), .inl (cA 1, 7, .inl (fun _ => 0))), ((u_15.1 5), .inl (cA 1, 7, .inl (fun _ => 0))), ((u_15.1 6), .inl (cA 1, 7, .inl (fun _ => 0))), ((u_15.1 7), .inl (cA 1, 4, .inl (fun _ => 0))), ((u_15.1 8), .inl (cA 1, 4, .inl (fun _ => 0))), ((u_15.1 9), .inr (2, [.int (-1), .int (-1), .int 0, .int 0, .int 0, .int 0, .int 0, .ref (u_15.1 10), .ref (u_15.1 11), .ref (u_15.1 12)])), ((u_15.1 10), .inl (cA 1, 60, .inl (fun _ => 0))), ((u_15.1 11), .inl (cA 1, 60, .inl (fun _ => 0))), ((u_15.1 12), .inl (cA 1, 60, .inl (fun _ => 0))), (q_17, .inr (4, [.ref (u_18.1 0), .ref (u_18.1 9), .int 0])), ((u_18.1 0), .inr (3, [.int 0, .int 0, .int 0, .int 0, .int 0, .int 0, .int 0, .int 0, .ref (u_18.1 1), .ref (u_18.1 2), .ref (u_18.1 3), .ref (u_18.1 4), .ref (u_18.1 5), .ref (u_18.1 6), .ref (u_18.1 7), .ref (u_18.1 8)])), ((u_18.1 1), .inl (cA 1, 8, .inl (fun _ => 0))), ((u_18.1 2), .inl (cA 1, 8, .inl (fun _ => 0))), ((u_18.1 3), .inl (cA 1, 8, .inl (fun _ => 0))), ((u_18.1 4), .inl (cA 1, 7, .inl (fun _ => 0))), ((u_18.1 5), .inl (cA 1, 7, .inl (fun _ => 0))), ((u_18.1 6), .inl (cA 1, 7, .inl (fun _ => 0))), ((u_18.1 7), .inl (cA 1, 4, .inl (fun _ => 0))), ((u_18.1 8), .inl (cA 1, 4, .inl (fun _ => 0))), ((u_18.1 9), .inr (2, [.int (-1), .int (-1), .int 0, .int 0, .int 0, .int 0, .int 0, .ref (u_18.1 10), .ref (u_18.1 11), .ref (u_18.1 12)])), ((u_18.1 10), .inl (cA 1, 60, .inl (fun _ => 0))), ((u_18.1 11), .inl (cA 1, 60, .inl (fun _ => 0))), ((u_18.1 12), .inl (cA 1, 60, .inl (fun _ => 0)))] := hD
  refine lv_iinc (v := 3) (lv' := [(1, .int 3), (0, .ref h0)]) hx hb dX11_init_80 hl (k := 0) rfl (by decide) (by decide) rfl (fun ls hl => ?_)
  refine lv_goto (tgt := 62) hx hb dX11_init_83 (by decide) ?_
  refine lv_iload_n hx hb dX11_init_62 rfl (lv_at hl 0 rfl) ?_
  refine lv_iconst (v := 3) hx hb dX11_init_63 (by decide) ?_
  refine lv_icmp_ge (tgt := 86) hx hb dX11_init_64 (by decide) (fun c_19 => ?_) (fun c_19 => absurd (by decide) c_19)
  refine lv_aload_n hx hb dX11_init_86 rfl (lv_at hl 1 rfl) ?_
  refine va_new (ci := 7) (fs := [.null, .null, .null]) (C := RX7) (T := TX7) (N := 3) hx hb hts inX7 tyX7 tyX7_ok hown (hts _ tw_334) (hts _ tw_335) (hts _ tw_107) hKN.1 hP hD hS hA rfl dfX7 (Nat.le_of_ble_eq_true rfl) (Nat.le_of_ble_eq_true rfl) dX11_init_87 (fun q_20 H hP hD hS => ?_)
  have hP : va_P D vwCl [(h0, .inr (11, [.ref q_1, .ref q_3, .ref q_5, .ref q_7, .ref q_9, .null, .null, .null, .null, .null, .null])), (q_1, .inr (9, [.ref (u_2.1 0), .int 0])), ((u_2.1 0), .inl (cA 0, 800, .inl (fun _ => 0))), (q_3, .inr (6, [.ref (u_4.1 0), .int 0, .int (-1), .ref q_1, .int 0, .int 0, .int 0, .int 0, .int 0, .int 0, .int 0, .int 0, .ref (u_4.1 9)])), ((u_4.1 0), .inr (3, [.int 0, .int 0, .int 0, .int 0, .int 0, .int 0, .int 0, .int 0, .ref (u_4.1 1), .ref (u_4.1 2), .ref (u_4.1 3), .ref (u_4.1 4), .ref (u_4.1 5), .ref (u_4.1 6), .ref (u_4.1 7), .ref (u_4.1 8)])), ((u_4.1 1), .inl (cA 1, 8, .inl (fun _ => 0))), ((u_4.1 2), .inl (cA 1, 8, .inl (fun _ => 0))), ((u_4.1 3), .inl (cA 1, 8, .inl (fun _ => 0))), ((u_4.1 4), .inl (cA 1, 7, .inl (fun _ => 0))), ((u_4.1 5), .inl (cA 1, 7, .inl (fun _ => 0))), ((u_4.1 6), .inl (cA 1, 7, .inl (fun _ => 0))), ((u_4.1 7), .inl (cA 1, 4, .inl (fun _ => 0))), ((u_4.1 8), .inl (cA 1, 4, .inl (fun _ => 0))), ((u_4.1 9), .inl (cA 1, 3, .inl (fun _ => 0))), (q_5, .inr (3, [.int 0, .int 0, .int 0, .int 0, .int 0, .int 0, .int 0, .int 0, .ref (u_6.1 0), .ref (u_6.1 1), .ref (u_6.1 2), .ref (u_6.1 3), .ref (u_6.1 4), .ref (u_6.1 5), .ref (u_6.1 6), .ref (u_6.1 7)])), ((u_6.1 0), .inl (cA 1, 8, .inl (fun _ => 0))), ((u_6.1 1), .inl (cA 1, 8, .inl (fun _ => 0))), ((u_6.1 2), .inl (cA 1, 8, .inl (fun _ => 0))), ((u_6.1 3), .inl (cA 1, 7, .inl (fun _ => 0))), ((u_6.1 4), .inl (cA 1, 7, .inl (fun _ => 0))), ((u_6.1 5), .inl (cA 1, 7, .inl (fun _ => 0))), ((u_6.1 6), .inl (cA 1, 4, .inl (fun _ => 0))), ((u_6.1 7), .inl (cA 1, 4, .inl (fun _ => 0))), (q_7, .inr (2, [.int (-1), .int (-1), .int 0, .int 0, .int 0, .int 0, .int 0, .ref (u_8.1 0), .ref (u_8.1 1), .ref (u_8.1 2)])), ((u_8.1 0), .inl (cA 1, 60, .inl (fun _ => 0))), ((u_8.1 1), .inl (cA 1, 60, .inl (fun _ => 0))), ((u_8.1 2), .inl (cA 1, 60, .inl (fun _ => 0))), (q_9, .inl (cA 4, 3, .inr (.inr (.inr (.inr (va_up (va_up (va_up (fun _ => none) 0 (some q_11)) 1 (some q_14)) 2 (some q_17))))))), (q_11, .inr (4, [.ref (u_12.1 0), .ref (u_12.1 9), .int 0])), ((u_12.1 0), .inr (3, [.int 0, .int 0, .int 0, .int 0, .int 0, .int 0, .int 0, .int 0, .ref (u_12.1 1), .ref (u_12.1 2), .ref (u_12.1 3), .ref (u_12.1 4), .ref (u_12.1 5), .ref (u_12.1 6), .ref (u_12.1 7), .ref (u_12.1 8)])), ((u_12.1 1), .inl (cA 1, 8, .inl (fun _ => 0))), ((u_12.1 2), .inl (cA 1, 8, .inl (fun _ => 0))), ((u_12.1 3), .inl (cA 1, 8, .inl (fun _ => 0))), ((u_12.1 4), .inl (cA 1, 7, .inl (fun _ => 0))), ((u_12.1 5), .inl (cA 1, 7, .inl (fun _ => 0))), ((u_12.1 6), .inl (cA 1, 7, .inl (fun _ => 0))), ((u_12.1 7), .inl (cA 1, 4, .inl (fun _ => 0))), ((u_12.1 8), .inl (cA 1, 4, .inl (fun _ => 0))), ((u_12.1 9), .inr (2, [.int (-1), .int (-1), .int 0, .int 0, .int 0, .int 0, .int 0, .ref (u_12.1 10), .ref (u_12.1 11), .ref (u_12.1 12)])), ((u_12.1 10), .inl (cA 1, 60, .inl (fun _ => 0))), ((u_12.1 11), .inl (cA 1, 60, .inl (fun _ => 0))), ((u_12.1 12), .inl (cA 1, 60, .inl (fun _ => 0))), (q_14, .inr (4, [.ref (u_15.1 0), .ref (u_15.1 9), .int 0])), ((u_15.1 0), .inr (3, [.int 0, .int 0, .int 0, .int 0, .int 0, .int 0, .int 0, .int 0, .ref (u_15.1 1), .ref (u_15.1 2), .ref (u_15.1 3), .ref (u_15.1 4), .ref (u_15.1 5), .ref (u_15.1 6), .ref (u_15.1 7), .ref (u_15.1 8)])), ((u_15.1 1), .inl (cA 1, 8, .inl (fun _ => 0))), ((u_15.1 2), .inl (cA 1, 8, .inl (fun _ => 0))), ((u_15.1 3), .inl (cA 1, 8, .inl (fun _ => 0))), ((u_15.1 4), .inl (cA 1, 7, .inl (fun _ => 0))), ((u_15.1 5), .inl (cA 1, 7, .inl (fun _ => 0))), ((u_15.1 6), .inl (cA 1, 7, .inl (fun _ => 0))), ((u_15.1 7), .inl (cA 1, 4, .inl (fun _ => 0))), ((u_15.1 8), .inl (cA 1, 4, .inl (fun _ => 0))), ((u_15.1 9), .inr (2, [.int (-1), .int (-1), .int 0, .int 0, .int 0, .int 0, .int 0, .ref (u_15.1 10), .ref (u_15.1 11), .ref (u_15.1 12)])), ((u_15.1 10), .inl (cA 1, 60, .inl (fun _ => 0))), ((u_15.1 11), .inl (cA 1, 60, .inl (fun _ => 0))), ((u_15.1 12), .inl (cA 1, 60, .inl (fun _ => 0))), (q_17, .inr (4, [.ref (u_18.1 0), .ref (u_18.1 9), .int 0])), ((u_18.1 0), .inr (3, [.int 0, .int 0, .int 0, .int 0, .int 0, .int 0, .int 0, .int 0, .ref (u_18.1 1), .ref (u_18.1 2), .ref (u_18.1 3), .ref (u_18.1 4), .ref (u_18.1 5), .ref (u_18.1 6), .ref (u_18.1 7), .ref (u_18.1 8)])), ((u_18.1 1), .inl (cA 1, 8, .inl (fun _ => 0))), ((u_18.1 2), .inl (cA 1, 8, .inl (fun _ => 0))), ((u_18.1 3), .inl (cA 1, 8, .inl (fun _ => 0))), ((u_18.1 4), .inl (cA 1, 7, .inl (fun _ => 0))), ((u_18.1 5), .inl (cA 1, 7, .inl (fun _ => 0))), ((u_18.1 6), .inl (cA 1, 7, .inl (fun _ => 0))), ((u_18.1 7), .inl (cA 1, 4, .inl (fun _ => 0))), ((u_18.1 8), .inl (cA 1, 4, .inl (fun _ => 0))), ((u_18.1 9), .inr (2, [.int (-1), .int (-1), .int 0, .int 0, .int 0, .int 0, .int 0, .ref (u_18.1 10), .ref (u_18.1 11), .ref (u_18.1 12)])), ((u_18.1 10), .inl (cA 1, 60, .inl (fun _ => 0))), ((u_18.1 11), .inl (cA 1, 60, .inl (fun _ => 0))), ((u_18.1 12), .inl (cA 1, 60, .inl (fun _ => 0))), (q_20, .inr (7, [.null, .null, .null]))] H := hP
  have hD : va_D A [(h0, .inr (11, [.ref q_1, .ref q_3, .ref q_5, .ref q_7, .ref q_9, .null, .null, .null, .null, .null, .null])), (q_1, .inr (9, [.ref (u_2.1 0), .int 0])), ((u_2.1 0), .inl (cA 0, 800, .inl (fun _ => 0))), (q_3, .inr (6, [.ref (u_4.1 0), .int 0, .int (-1), .ref q_1, .int 0, .int 0, .int 0, .int 0, .int 0, .int 0, .int 0, .int 0, .ref (u_4.1 9)])), ((u_4.1 0), .inr (3, [.int 0, .int 0, .int 0, .int 0, .int 0, .int 0, .int 0, .int 0, .ref (u_4.1 1), .ref (u_4.1 2), .ref (u_4.1 3), .ref (u_4.1 4), .ref (u_4.1 5), .ref (u_4.1 6), .ref (u_4.1 7), .ref (u_4.1 8)])), ((u_4.1 1), .inl (cA 1, 8, .inl (fun _ => 0))), ((u_4.1 2), .inl (cA 1, 8, .inl (fun _ => 0))), ((u_4.1 3), .inl (cA 1, 8, .inl (fun _ => 0))), ((u_4.1 4), .inl (cA 1, 7, .inl (fun _ => 0))), ((u_4.1 5), .inl (cA 1, 7, .inl (fun _ => 0))), ((u_4.1 6), .inl (cA 1, 7, .inl (fun _ => 0))), ((u_4.1 7), .inl (cA 1, 4, .inl (fun _ => 0))), ((u_4.1 8), .inl (cA 1, 4, .inl (fun _ => 0))), ((u_4.1 9), .inl (cA 1, 3, .inl (fun _ => 0))), (q_5, .inr (3, [.int 0, .int 0, .int 0, .int 0, .int 0, .int 0, .int 0, .int 0, .ref (u_6.1 0), .ref (u_6.1 1), .ref (u_6.1 2), .ref (u_6.1 3), .ref (u_6.1 4), .ref (u_6.1 5), .ref (u_6.1 6), .ref (u_6.1 7)])), ((u_6.1 0), .inl (cA 1, 8, .inl (fun _ => 0))), ((u_6.1 1), .inl (cA 1, 8, .inl (fun _ => 0))), ((u_6.1 2), .inl (cA 1, 8, .inl (fun _ => 0))), ((u_6.1 3), .inl (cA 1, 7, .inl (fun _ => 0))), ((u_6.1 4), .inl (cA 1, 7, .inl (fun _ => 0))), ((u_6.1 5), .inl (cA 1, 7, .inl (fun _ => 0))), ((u_6.1 6), .inl (cA 1, 4, .inl (fun _ => 0))), ((u_6.1 7), .inl (cA 1, 4, .inl (fun _ => 0))), (q_7, .inr (2, [.int (-1), .int (-1), .int 0, .int 0, .int 0, .int 0, .int 0, .ref (u_8.1 0), .ref (u_8.1 1), .ref (u_8.1 2)])), ((u_8.1 0), .inl (cA 1, 60, .inl (fun _ => 0))), ((u_8.1 1), .inl (cA 1, 60, .inl (fun _ => 0))), ((u_8.1 2), .inl (cA 1, 60, .inl (fun _ => 0))), (q_9, .inl (cA 4, 3, .inr (.inr (.inr (.inr (va_up (va_up (va_up (fun _ => none) 0 (some q_11)) 1 (some q_14)) 2 (some q_17))))))), (q_11, .inr (4, [.ref (u_12.1 0), .ref (u_12.1 9), .int 0])), ((u_12.1 0), .inr (3, [.int 0, .int 0, .int 0, .int 0, .int 0, .int 0, .int 0, .int 0, .ref (u_12.1 1), .ref (u_12.1 2), .ref (u_12.1 3), .ref (u_12.1 4), .ref (u_12.1 5), .ref (u_12.1 6), .ref (u_12.1 7), .ref (u_12.1 8)])), ((u_12.1 1), .inl (cA 1, 8, .inl (fun _ => 0))), ((u_12.1 2), .inl (cA 1, 8, .inl (fun _ => 0))), ((u_12.1 3), .inl (cA 1, 8, .inl (fun _ => 0))), ((u_12.1 4), .inl (cA 1, 7, .inl (fun _ => 0))), ((u_12.1 5), .inl (cA 1, 7, .inl (fun _ => 0))), ((u_12.1 6), .inl (cA 1, 7, .inl (fun _ => 0))), ((u_12.1 7), .inl (cA 1, 4, .inl (fun _ => 0))), ((u_12.1 8), .inl (cA 1, 4, .inl (fun _ => 0))), ((u_12.1 9), .inr (2, [.int (-1), .int (-1), .int 0, .int 0, .int 0, .int 0, .int 0, .ref (u_12.1 10), .ref (u_12.1 11), .ref (u_12.1 12)])), ((u_12.1 10), .inl (cA 1, 60, .inl (fun _ => 0))), ((u_12.1 11), .inl (cA 1, 60, .inl (fun _ => 0))), ((u_12.1 12), .inl (cA 1, 60, .inl (fun _ => 0))), (q_14, .inr (4, [.ref (u_15.1 0), .ref (u_15.1 9), .int 0])), ((u_15.1 0), .inr (3, [.int 0, .int 0, .int 0, .int 0, .int 0, .int 0, .int 0, .int 0, .ref (u_15.1 1), .ref (u_15.1 2), .ref (u_15.1 3), .ref (u_15.1 4), .ref (u_15.1 5), .ref (u_15.1 6), .ref (u_15.1 7), .ref (u_15.1 8)])), ((u_15.1 1), .inl (cA 1, 8, .inl (fun _ => 0))), ((u_15.1 2), .inl (cA 1, 8, .inl (fun _ => 0))), ((u_15.1 3), .inl (cA 1, 8, .inl (fun _ => 0))), ((u_15.1 4), .inl (cA 1, 7, .inl (fun _ => 0))), ((u_15.1 5), .inl (cA 1, 7, .inl (fun _ => 0))), ((u_15.1 6), .inl (cA 1, 7, .inl (fun _ => 0))), ((u_15.1 7), .inl (cA 1, 4, .inl (fun _ => 0))), ((u_15.1 8), .inl (cA 1, 4, .inl (fun _ => 0))), ((u_15.1 9), .inr (2, [.int (-1), .int (-1), .int 0, .int 0, .int 0, .int 0, .int 0, .ref (u_15.1 10), .ref (u_15.1 11), .ref (u_15.1 12)])), ((u_15.1 10), .inl (cA 1, 60, .inl (fun _ => 0))), ((u_15.1 11), .inl (cA 1, 60, .inl (fun _ => 0))), ((u_15.1 12), .inl (cA 1, 60, .inl (fun _ => 0))), (q_17, .inr (4, [.ref (u_18.1 0), .ref (u_18.1 9), .int 0])), ((u_18.1 0), .inr (3, [.int 0, .int 0, .int 0, .int 0, .int 0, .int 0, .int 0, .int 0, .ref (u_18.1 1), .ref (u_18.1 2), .ref (u_18.1 3), .ref (u_18.1 4), .ref (u_18.1 5), .ref (u_18.1 6), .ref (u_18.1 7), .ref (u_18.1 8)])), ((u_18.1 1), .inl (cA 1, 8, .inl (fun _ => 0))), ((u_18.1 2), .inl (cA 1, 8, .inl (fun _ => 0))), ((u_18.1 3), .inl (cA 1, 8, .inl (fun _ => 0))), ((u_18.1 4), .inl (cA 1, 7, .inl (fun _ => 0))), ((u_18.1 5), .inl (cA 1, 7, .inl (fun _ => 0))), ((u_18.1 6), .inl (cA 1, 7, .inl (fun _ => 0))), ((u_18.1 7), .inl (cA 1, 4, .inl (fun _ => 0))), ((u_18.1 8), .inl (cA 1, 4, .inl (fun _ => 0))), ((u_18.1 9), .inr (2, [.int (-1), .int (-1), .int 0, .int 0, .int 0, .int 0, .int 0, .ref (u_18.1 10), .ref (u_18.1 11), .ref (u_18.1 12)])), ((u_18.1 10), .inl (cA 1, 60, .inl (fun _ => 0))), ((u_18.1 11), .inl (cA 1, 60, .inl (fun _ => 0))), ((u_18.1 12), .inl (cA 1, 60, .inl (fun _ => 0))), (q_20, .inr (7, [.null, .null, .null]))] := hD
  refine W.widen (k := 70) (n := 1938) (Nat.le_of_ble_eq_true rfl) (Nat.le_of_ble_eq_true rfl) ?_
  refine lv_dup hx hb dX11_init_90 rfl ?_
  refine cmIv (rest := [.ref q_20, .ref h0]) (wsC := [(q_20, .inr (7, [.null, .null, .null]))]) (wr := [(h0, .inr (11, [.ref q_1, .ref q_3, .ref q_5, .ref q_7, .ref q_9, .null, .null, .null, .null, .null, .null])), (q_1, .inr (9, [.ref (u_2.1 0), .int 0])), ((u_2.1 0), .inl (cA 0, 800, .inl (fun _ => 0))), (q_3, .inr (6, [.ref (u_4.1 0), .int 0, .int (-1), .ref q_1, .int 0, .int 0, .int 0, .int 0, .int 0, .int 0, .int 0, .int 0, .ref (u_4.1 9)])), ((u_4.1 0), .inr (3, [.int 0, .int 0, .int 0, .int 0, .int 0, .int 0, .int 0, .int 0, .ref (u_4.1 1), .ref (u_4.1 2), .ref (u_4.1 3), .ref (u_4.1 4), .ref (u_4.1 5), .ref (u_4.1 6), .ref (u_4.1 7), .ref (u_4.1 8)])), ((u_4.1 1), .inl (cA 1, 8, .inl (fun _ => 0))), ((u_4.1 2), .inl (cA 1, 8, .inl (fun _ => 0))), ((u_4.1 3), .inl (cA 1, 8, .inl (fun _ => 0))), ((u_4.1 4), .inl (cA 1, 7, .inl (fun _ => 0))), ((u_4.1 5), .inl (cA 1, 7, .inl (fun _ => 0))), ((u_4.1 6), .inl (cA 1, 7, .inl (fun _ => 0))), ((u_4.1 7), .inl (cA 1, 4, .inl (fun _ => 0))), ((u_4.1 8), .inl (cA 1, 4, .inl (fun _ => 0))), ((u_4.1 9), .inl (cA 1, 3, .inl (fun _ => 0))), (q_5, .inr (3, [.int 0, .int 0, .int 0, .int 0, .int 0, .int 0, .int 0, .int 0, .ref (u_6.1 0), .ref (u_6.1 1), .ref (u_6.1 2), .ref (u_6.1 3), .ref (u_6.1 4), .ref (u_6.1 5), .ref (u_6.1 6), .ref (u_6.1 7)])), ((u_6.1 0), .inl (cA 1, 8, .inl (fun _ => 0))), ((u_6.1 1), .inl (cA 1, 8, .inl (fun _ => 0))), ((u_6.1 2), .inl (cA 1, 8, .inl (fun _ => 0))), ((u_6.1 3), .inl (cA 1, 7, .inl (fun _ => 0))), ((u_6.1 4), .inl (cA 1, 7, .inl (fun _ => 0))), ((u_6.1 5), .inl (cA 1, 7, .inl (fun _ => 0))), ((u_6.1 6), .inl (cA 1, 4, .inl (fun _ => 0))), ((u_6.1 7), .inl (cA 1, 4, .inl (fun _ => 0))), (q_7, .inr (2, [.int (-1), .int (-1), .int 0, .int 0, .int 0, .int 0, .int 0, .ref (u_8.1 0), .ref (u_8.1 1), .ref (u_8.1 2)])), ((u_8.1 0), .inl (cA 1, 60, .inl (fun _ => 0))), ((u_8.1 1), .inl (cA 1, 60, .inl (fun _ => 0))), ((u_8.1 2), .inl (cA 1, 60, .inl (fun _ => 0))), (q_9, .inl (cA 4, 3, .inr (.inr (.inr (.inr (va_up (va_up (va_up (fun _ => none) 0 (some q_11)) 1 (some q_14)) 2 (some q_17))))))), (q_11, .inr (4, [.ref (u_12.1 0), .ref (u_12.1 9), .int 0])), ((u_12.1 0), .inr (3, [.int 0, .int 0, .int 0, .int 0, .int 0, .int 0, .int 0, .int 0, .ref (u_12.1 1), .ref (u_12.1 2), .ref (u_12.1 3), .ref (u_12.1 4), .ref (u_12.1 5), .ref (u_12.1 6), .ref (u_12.1 7), .ref (u_12.1 8)])), ((u_12.1 1), .inl (cA 1, 8, .inl (fun _ => 0))), ((u_12.1 2), .inl (cA 1, 8, .inl (fun _ => 0))), ((u_12.1 3), .inl (cA 1, 8, .inl (fun _ => 0))), ((u_12.1 4), .inl (cA 1, 7, .inl (fun _ => 0))), ((u_12.1 5), .inl (cA 1, 7, .inl (fun _ => 0))), ((u_12.1 6), .inl (cA 1, 7, .inl (fun _ => 0))), ((u_12.1 7), .inl (cA 1, 4, .inl (fun _ => 0))), ((u_12.1 8), .inl (cA 1, 4, .inl (fun _ => 0))), ((u_12.1 9), .inr (2, [.int (-1), .int (-1), .int 0, .int 0, .int 0, .int 0, .int 0, .ref (u_12.1 10), .ref (u_12.1 11), .ref (u_12.1 12)])), ((u_12.1 10), .inl (cA 1, 60, .inl (fun _ => 0))), ((u_12.1 11), .inl (cA 1, 60, .inl (fun _ => 0))), ((u_12.1 12), .inl (cA 1, 60, .inl (fun _ => 0))), (q_14, .inr (4, [.ref (u_15.1 0), .ref (u_15.1 9), .int 0])), ((u_15.1 0), .inr (3, [.int 0, .int 0, .int 0, .int 0, .int 0, .int 0, .int 0, .int 0, .ref (u_15.1 1), .ref (u_15.1 2), .ref (u_15.1 3), .ref (u_15.1 4), .ref (u_15.1 5), .ref (u_15.1 6), .ref (u_15.1 7), .ref (u_15.1 8)])), ((u_15.1 1), .inl (cA 1, 8, .inl (fun _ => 0))), ((u_15.1 2), .inl (cA 1, 8, .inl (fun _ => 0))), ((u_15.1 3), .inl (cA 1, 8, .inl (fun _ => 0))), ((u_15.1 4), .inl (cA 1, 7, .inl (fun _ => 0))), ((u_15.1 5), .inl (cA 1, 7, .inl (fun _ => 0))), ((u_15.1 6), .inl (cA 1, 7, .inl (fun _ => 0))), ((u_15.1 7), .inl (cA 1, 4, .inl (fun _ => 0))), ((u_15.1 8), .inl (cA 1, 4, .inl (fun _ => 0))), ((u_15.1 9), .inr (2, [.int (-1), .int (-1), .int 0, .int 0, .int 0, .int 0, .int 0, .ref (u_15.1 10), .ref (u_15.1 11), .ref (u_15.1 12)])), ((u_15.1 10), .inl (cA 1, 60, .inl (fun _ => 0))), ((u_15.1 11), .inl (cA 1, 60, .inl (fun _ => 0))), ((u_15.1 12), .inl (cA 1, 60, .inl (fun _ => 0))), (q_17, .inr (4, [.ref (u_18.1 0), .ref (u_18.1 9), .int 0])), ((u_18.1 0), .inr (3, [.int 0, .int 0, .int 0, .int 0, .int 0, .int 0, .int 0, .int 0, .ref (u_18.1 1), .ref (u_18.1 2), .ref (u_18.1 3), .ref (u_18.1 4), .ref (u_18.1 5), .ref (u_18.1 6), .ref (u_18.1 7), .ref (u_18.1 8)])), ((u_18.1 1), .inl (cA 1, 8, .inl (fun _ => 0))), ((u_18.1 2), .inl (cA 1, 8, .inl (fun _ => 0))), ((u_18.1 3), .inl (cA 1, 8, .inl (fun _ => 0))), ((u_18.1 4), .inl (cA 1, 7, .inl (fun _ => 0))), ((u_18.1 5), .inl (cA 1, 7, .inl (fun _ => 0))), ((u_18.1 6), .inl (cA 1, 7, .inl (fun _ => 0))), ((u_18.1 7), .inl (cA 1, 4, .inl (fun _ => 0))), ((u_18.1 8), .inl (cA 1, 4, .inl (fun _ => 0))), ((u_18.1 9), .inr (2, [.int (-1), .int (-1), .int 0, .int 0, .int 0, .int 0, .int 0, .ref (u_18.1 10), .ref (u_18.1 11), .ref (u_18.1 12)])), ((u_18.1 10), .inl (cA 1, 60, .inl (fun _ => 0))), ((u_18.1 11), .inl (cA 1, 60, .inl (fun _ => 0))), ((u_18.1 12), .inl (cA 1, 60, .inl (fun _ => 0)))]) ⟨hx, hb, hml, hown, hts⟩ hKN hP hD hS hA [70] [0, 1, 2, 3, 4, 5, 6, 7, 8, 9, 10, 11, 12, 13, 14, 15, 16, 17, 18, 19, 20, 21, 22, 23, 24, 25, 26, 27, 28, 29, 30, 31, 32, 33, 34, 35, 36, 37, 38, 39, 40, 41, 42, 43, 44, 45, 46, 47, 48, 49, 50, 51, 52, 53, 54, 55, 56, 57, 58, 59, 60, 61, 62, 63, 64, 65, 66, 67, 68, 69] rfl rfl (by decide) (by decide) (by decide) (k_X7_init l D cA _ q_20) ⟨tw_336, tw_337, tw_107, tw_338⟩ hdX7_init ⟨rfl, rfl, Nat.le_of_ble_eq_true rfl, Nat.le_of_ble_eq_true rfl⟩ ⟨Nat.le_of_ble_eq_true rfl, Nat.le_of_ble_eq_true rfl⟩ rfl hl.1 rfl (Nat.le_of_ble_eq_true rfl) dX11_init_91 (fun u_21 H locs hr_21 hP hD hS => ?_)
  have hP : va_P D vwCl [(h0, .inr (11, [.ref q_1, .ref q_3, .ref q_5, .ref q_7, .ref q_9, .null, .null, .null, .null, .null, .null])), (q_1, .inr (9, [.ref (u_2.1 0), .int 0])), ((u_2.1 0), .inl (cA 0, 800, .inl (fun _ => 0))), (q_3, .inr (6, [.ref (u_4.1 0), .int 0, .int (-1), .ref q_1, .int 0, .int 0, .int 0, .int 0, .int 0, .int 0, .int 0, .int 0, .ref (u_4.1 9)])), ((u_4.1 0), .inr (3, [.int 0, .int 0, .int 0, .int 0, .int 0, .int 0, .int 0, .int 0, .ref (u_4.1 1), .ref (u_4.1 2), .ref (u_4.1 3), .ref (u_4.1 4), .ref (u_4.1 5), .ref (u_4.1 6), .ref (u_4.1 7), .ref (u_4.1 8)])), ((u_4.1 1), .inl (cA 1, 8, .inl (fun _ => 0))), ((u_4.1 2), .inl (cA 1, 8, .inl (fun _ => 0))), ((u_4.1 3), .inl (cA 1, 8, .inl (fun _ => 0))), ((u_4.1 4), .inl (cA 1, 7, .inl (fun _ => 0))), ((u_4.1 5), .inl (cA 1, 7, .inl (fun _ => 0))), ((u_4.1 6), .inl (cA 1, 7, .inl (fun _ => 0))), ((u_4.1 7), .inl (cA 1, 4, .inl (fun _ => 0))), ((u_4.1 8), .inl (cA 1, 4, .inl (fun _ => 0))), ((u_4.1 9), .inl (cA 1, 3, .inl (fun _ => 0))), (q_5, .inr (3, [.int 0, .int 0, .int 0, .int 0, .int 0, .int 0, .int 0, .int 0, .ref (u_6.1 0), .ref (u_6.1 1), .ref (u_6.1 2), .ref (u_6.1 3), .ref (u_6.1 4), .ref (u_6.1 5), .ref (u_6.1 6), .ref (u_6.1 7)])), ((u_6.1 0), .inl (cA 1, 8, .inl (fun _ => 0))), ((u_6.1 1), .inl (cA 1, 8, .inl (fun _ => 0))), ((u_6.1 2), .inl (cA 1, 8, .inl (fun _ => 0))), ((u_6.1 3), .inl (cA 1, 7, .inl (fun _ => 0))), ((u_6.1 4), .inl (cA 1, 7, .inl (fun _ => 0))), ((u_6.1 5), .inl (cA 1, 7, .inl (fun _ => 0))), ((u_6.1 6), .inl (cA 1, 4, .inl (fun _ => 0))), ((u_6.1 7), .inl (cA 1, 4, .inl (fun _ => 0))), (q_7, .inr (2, [.int (-1), .int (-1), .int 0, .int 0, .int 0, .int 0, .int 0, .ref (u_8.1 0), .ref (u_8.1 1), .ref (u_8.1 2)])), ((u_8.1 0), .inl (cA 1, 60, .inl (fun _ => 0))), ((u_8.1 1), .inl (cA 1, 60, .inl (fun _ => 0))), ((u_8.1 2), .inl (cA 1, 60, .inl (fun _ => 0))), (q_9, .inl (cA 4, 3, .inr (.inr (.inr (.inr (va_up (va_up (va_up (fun _ => none) 0 (some q_11)) 1 (some q_14)) 2 (some q_17))))))), (q_11, .inr (4, [.ref (u_12.1 0), .ref (u_12.1 9), .int 0])), ((u_12.1 0), .inr (3, [.int 0, .int 0, .int 0, .int 0, .int 0, .int 0, .int 0, .int 0, .ref (u_12.1 1), .ref (u_12.1 2), .ref (u_12.1 3), .ref (u_12.1 4), .ref (u_12.1 5), .ref (u_12.1 6), .ref (u_12.1 7), .ref (u_12.1 8)])), ((u_12.1 1), .inl (cA 1, 8, .inl (fun _ => 0))), ((u_12.1 2), .inl (cA 1, 8, .inl (fun _ => 0))), ((u_12.1 3), .inl (cA 1, 8, .inl (fun _ => 0))), ((u_12.1 4), .inl (cA 1, 7, .inl (fun _ => 0))), ((u_12.1 5), .inl (cA 1, 7, .inl (fun _ => 0))), ((u_12.1 6), .inl (cA 1, 7, .inl (fun _ => 0))), ((u_12.1 7), .inl (cA 1, 4, .inl (fun _ => 0))), ((u_12.1 8), .inl (cA 1, 4, .inl (fun _ => 0))), ((u_12.1 9), .inr (2, [.int (-1), .int (-1), .int 0, .int 0, .int 0, .int 0, .int 0, .ref (u_12.1 10), .ref (u_12.1 11), .ref (u_12.1 12)])), ((u_12.1 10), .inl (cA 1, 60, .inl (fun _ => 0))), ((u_12.1 11), .inl (cA 1, 60, .inl (fun _ => 0))), ((u_12.1 12), .inl (cA 1, 60, .inl (fun _ => 0))), (q_14, .inr (4, [.ref (u_15.1 0), .ref (u_15.1 9), .int 0])), ((u_15.1 0), .inr (3, [.int 0, .int 0, .int 0, .int 0, .int 0, .int 0, .int 0, .int 0, .ref (u_15.1 1), .ref (u_15.1 2), .ref (u_15.1 3), .ref (u_15.1 4), .ref (u_15.1 5), .ref (u_15.1 6), .ref (u_15.1 7), .ref (u_15.1 8)])), ((u_15.1 1), .inl (cA 1, 8, .inl (fun _ => 0))), ((u_15.1 2), .inl (cA 1, 8, .inl (fun _ => 0))), ((u_15.1 3), .inl (cA 1, 8, .inl (fun _ => 0))), ((u_15.1 4), .inl (cA 1, 7, .inl (fun _ => 0))), ((u_15.1 5), .inl (cA 1, 7, .inl (fun _ => 0))), ((u_15.1 6), .inl (cA 1, 7, .inl (fun _ => 0))), ((u_15.1 7), .inl (cA 1, 4, .inl (fun _ => 0))), ((u_15.1 8), .inl (cA 1, 4, .inl (fun _ => 0))), ((u_15.1 9), .inr (2, [.int (-1), .int (-1), .int 0, .int 0, .int 0, .int 0, .int 0, .ref (u_15.1 10), .ref (u_15.1 11), .ref (u_15.1 12)])), ((u_15.1 10), .inl (cA 1, 60, .inl (fun _ => 0))), ((u_15.1 11), .inl (cA 1, 60, .inl (fun _ => 0))), ((u_15.1 12), .inl (cA 1, 60, .inl (fun _ => 0))), (q_17, .inr (4, [.ref (u_18.1 0), .ref (u_18.1 9), .int 0])), ((u_18.1 0), .inr (3, [.int 0, .int 0, .int 0, .int 0, .int 0, .int 0, .int 0, .int 0, .ref (u_18.1 1), .ref (u_18.1 2), .ref (u_18.1 3), .ref (u_18.1 4), .ref (u_18.1 5), .ref (u_18.1 6), .ref (u_18.1 7), .ref (u_18.1 8)])), ((u_18.1 1), .inl (cA 1, 8, .inl (fun _ => 0))), ((u_18.1 2), .inl (cA 1, 8, .inl (fun _ => 0))), ((u_18.1 3), .inl (cA 1, 8, .inl (fun _ => 0))), ((u_18.1 4), .inl (cA 1, 7, .inl (fun _ => 0))), ((u_18.1 5), .inl (cA 1, 7, .inl (fun _ => 0))), ((u_18.1 6), .inl (cA 1, 7, .inl (fun _ => 0))), ((u_18.1 7), .inl (cA 1, 4, .inl (fun _ => 0))), ((u_18.1 8), .inl (cA 1, 4, .inl (fun _ => 0))), ((u_18.1 9), .inr (2, [.int (-1), .int (-1), .int 0, .int 0, .int 0, .int 0, .int 0, .ref (u_18.1 10), .ref (u_18.1 11), .ref (u_18.1 12)])), ((u_18.1 10), .inl (cA 1, 60, .inl (fun _ => 0))), ((u_18.1 11), .inl (cA 1, 60, .inl (fun _ => 0))), ((u_18.1 12), .inl (cA 1, 60, .inl (fun _ => 0))), (q_20, .inr (7, [.ref (u_21.1 2), .ref (u_21.1 0), .ref (u_21.1 1)])), ((u_21.1 0), .inl (cA 1, 4, .inl (fun _ => 0))), ((u_21.1 1), .inl (cA 2, 240, .inr (.inl (fun _ => 0)))), ((u_21.1 2), .inl (cA 1, 4, .inl (u_21.2.2.1 0)))] H := hP
  have hD : va_D A [(h0, .inr (11, [.ref q_1, .ref q_3, .ref q_5, .ref q_7, .ref q_9, .null, .null, .null, .null, .null, .null])), (q_1, .inr (9, [.ref (u_2.1 0), .int 0])), ((u_2.1 0), .inl (cA 0, 800, .inl (fun _ => 0))), (q_3, .inr (6, [.ref (u_4.1 0), .int 0, .int (-1), .ref q_1, .int 0, .int 0, .int 0, .int 0, .int 0, .int 0, .int 0, .int 0, .ref (u_4.1 9)])), ((u_4.1 0), .inr (3, [.int 0, .int 0, .int 0, .int 0, .int 0, .int 0, .int 0, .int 0, .ref (u_4.1 1), .ref (u_4.1 2), .ref (u_4.1 3), .ref (u_4.1 4), .ref (u_4.1 5), .ref (u_4.1 6), .ref (u_4.1 7), .ref (u_4.1 8)])), ((u_4.1 1), .inl (cA 1, 8, .inl (fun _ => 0))), ((u_4.1 2), .inl (cA 1, 8, .inl (fun _ => 0))), ((u_4.1 3), .inl (cA 1, 8, .inl (fun _ => 0))), ((u_4.1 4), .inl (cA 1, 7, .inl (fun _ => 0))), ((u_4.1 5), .inl (cA 1, 7, .inl (fun _ => 0))), ((u_4.1 6), .inl (cA 1, 7, .inl (fun _ => 0))), ((u_4.1 7), .inl (cA 1, 4, .inl (fun _ => 0))), ((u_4.1 8), .inl (cA 1, 4, .inl (fun _ => 0))), ((u_4.1 9), .inl (cA 1, 3, .inl (fun _ => 0))), (q_5, .inr (3, [.int 0, .int 0, .int 0, .int 0, .int 0, .int 0, .int 0, .int 0, .ref (u_6.1 0), .ref (u_6.1 1), .ref (u_6.1 2), .ref (u_6.1 3), .ref (u_6.1 4), .ref (u_6.1 5), .ref (u_6.1 6), .ref (u_6.1 7)])), ((u_6.1 0), .inl (cA 1, 8, .inl (fun _ => 0))), ((u_6.1 1), .inl (cA 1, 8, .inl (fun _ => 0))), ((u_6.1 2), .inl (cA 1, 8, .inl (fun _ => 0))), ((u_6.1 3), .inl (cA 1, 7, .inl (fun _ => 0))), ((u_6.1 4), .inl (cA 1, 7, .inl (fun _ => 0))), ((u_6.1 5), .inl (cA 1, 7, .inl (fun _ => 0))), ((u_6.1 6), .inl (cA 1, 4, .inl (fun _ => 0))), ((u_6.1 7), .inl (cA 1, 4, .inl (fun _ => 0))), (q_7, .inr (2, [.int (-1), .int (-1), .int 0, .int 0, .int 0, .int 0, .int 0, .ref (u_8.1 0), .ref (u_8.1 1), .ref (u_8.1 2)])), ((u_8.1 0), .inl (cA 1, 60, .inl (fun _ => 0))), ((u_8.1 1), .inl (cA 1, 60, .inl (fun _ => 0))), ((u_8.1 2), .inl (cA 1, 60, .inl (fun _ => 0))), (q_9, .inl (cA 4, 3, .inr (.inr (.inr (.inr (va_up (va_up (va_up (fun _ => none) 0 (some q_11)) 1 (some q_14)) 2 (some q_17))))))), (q_11, .inr (4, [.ref (u_12.1 0), .ref (u_12.1 9), .int 0])), ((u_12.1 0), .inr (3, [.int 0, .int 0, .int 0, .int 0, .int 0, .int 0, .int 0, .int 0, .ref (u_12.1 1), .ref (u_12.1 2), .ref (u_12.1 3), .ref (u_12.1 4), .ref (u_12.1 5), .ref (u_12.1 6), .ref (u_12.1 7), .ref (u_12.1 8)])), ((u_12.1 1), .inl (cA 1, 8, .inl (fun _ => 0))), ((u_12.1 2), .inl (cA 1, 8, .inl (fun _ => 0))), ((u_12.1 3), .inl (cA 1, 8, .inl (fun _ => 0))), ((u_12.1 4), .inl (cA 1, 7, .inl (fun _ => 0))), ((u_12.1 5), .inl (cA 1, 7, .inl (fun _ => 0))), ((u_12.1 6), .inl (cA 1, 7, .inl (fun _ => 0))), ((u_12.1 7), .inl (cA 1, 4, .inl (fun _ => 0))), ((u_12.1 8), .inl (cA 1, 4, .inl (fun _ => 0))), ((u_12.1 9), .inr (2, [.int (-1), .int (-1), .int 0, .int 0, .int 0, .int 0, .int 0, .ref (u_12.1 10), .ref (u_12.1 11), .ref (u_12.1 12)])), ((u_12.1 10), .inl (cA 1, 60, .inl (fun _ => 0))), ((u_12.1 11), .inl (cA 1, 60, .inl (fun _ => 0))), ((u_12.1 12), .inl (cA 1, 60, .inl (fun _ => 0))), (q_14, .inr (4, [.ref (u_15.1 0), .ref (u_15.1 9), .int 0])), ((u_15.1 0), .inr (3, [.int 0, .int 0, .int 0, .int 0, .int 0, .int 0, .int 0, .int 0, .ref (u_15.1 1), .ref (u_15.1 2), .ref (u_15.1 3), .ref (u_15.1 4), .ref (u_15.1 5), .ref (u_15.1 6), .ref (u_15.1 7), .ref (u_15.1 8)])), ((u_15.1 1), .inl (cA 1, 8, .inl (fun _ => 0))), ((u_15.1 2), .inl (cA 1, 8, .inl (fun _ => 0))), ((u_15.1 3), .inl (cA 1, 8, .inl (fun _ => 0))), ((u_15.1 4), .inl (cA 1, 7, .inl (fun _ => 0))), ((u_15.1 5), .inl (cA 1, 7, .inl (fun _ => 0))), ((u_15.1 6), .inl (cA 1, 7, .inl (fun _ => 0))), ((u_15.1 7), .inl (cA 1, 4, .inl (fun _ => 0))), ((u_15.1 8), .inl (cA 1, 4, .inl (fun _ => 0))), ((u_15.1 9), .inr (2, [.int (-1), .int (-1), .int 0, .int 0, .int 0, .int 0, .int 0, .ref (u_15.1 10), .ref (u_15.1 11), .ref (u_15.1 12)])), ((u_15.1 10), .inl (cA 1, 60, .inl (fun _ => 0))), ((u_15.1 11), .inl (cA 1, 60, .inl (fun _ => 0))), ((u_15.1 12), .inl (cA 1, 60, .inl (fun _ => 0))), (q_17, .inr (4, [.ref (u_18.1 0), .ref (u_18.1 9), .int 0])), ((u_18.1 0), .inr (3, [.int 0, .int 0, .int 0, .int 0, .int 0, .int 0, .int 0, .int 0, .ref (u_18.1 1), .ref (u_18.1 2), .ref (u_18.1 3), .ref (u_18.1 4), .ref (u_18.1 5), .ref (u_18.1 6), .ref (u_18.1 7), .ref (u_18.1 8)])), ((u_18.1 1), .inl (cA 1, 8, .inl (fun _ => 0))), ((u_18.1 2), .inl (cA 1, 8, .inl (fun _ => 0))), ((u_18.1 3), .inl (cA 1, 8, .inl (fun _ => 0))), ((u_18.1 4), .inl (cA 1, 7, .inl (fun _ => 0))), ((u_18.1 5), .inl (cA 1, 7, .inl (fun _ => 0))), ((u_18.1 6), .inl (cA 1, 7, .inl (fun _ => 0))), ((u_18.1 7), .inl (cA 1, 4, .inl (fun _ => 0))), ((u_18.1 8), .inl (cA 1, 4, .inl (fun _ => 0))), ((u_18.1 9), .inr (2, [.int (-1), .int (-1), .int 0, .int 0, .int 0, .int 0, .int 0, .ref (u_18.1 10), .ref (u_18.1 11), .ref (u_18.1 12)])), ((u_18.1 10), .inl (cA 1, 60, .inl (fun _ => 0))), ((u_18.1 11), .inl (cA 1, 60, .inl (fun _ => 0))), ((u_18.1 12), .inl (cA 1, 60, .inl (fun _ => 0))), (q_20, .inr (7, [.ref (u_21.1 2), .ref (u_21.1 0), .ref (u_21.1 1)])), ((u_21.1 0), .inl (cA 1, 4, .inl (fun _ => 0))), ((u_21.1 1), .inl (cA 2, 240, .inr (.inl (fun _ => 0)))), ((u_21.1 2), .inl (cA 1, 4, .inl (u_21.2.2.1 0)))] := hD
  refine W.widen (k := 73) (n := 2186) (Nat.le_of_ble_eq_true rfl) (Nat.le_of_ble_eq_true rfl) ?_
  refine va_putF (D := D) (ci := 11) (v := .ref q_20) (ty := (.object "WristTreaty$Slots")) (C := RX11) (T := TX11) (N := 11) hx hb hts inX11 tyX11 tyX11_ok nmX11 hown hKN.1 hP hD hS 0 rfl rfl 5 (by decide) (hts _ tw_470) (fun _ h9 => h9) rfl hin rfl (by decide +kernel) rfl rfl (Nat.le_of_ble_eq_true rfl) dX11_init_94 (fun H locs hP hD hS => ?_)
  have hP : va_P D vwCl [(h0, .inr (11, [.ref q_1, .ref q_3, .ref q_5, .ref q_7, .ref q_9, .ref q_20, .null, .null, .null, .null, .null])), (q_1, .inr (9, [.ref (u_2.1 0), .int 0])), ((u_2.1 0), .inl (cA 0, 800, .inl (fun _ => 0))), (q_3, .inr (6, [.ref (u_4.1 0), .int 0, .int (-1), .ref q_1, .int 0, .int 0, .int 0, .int 0, .int 0, .int 0, .int 0, .int 0, .ref (u_4.1 9)])), ((u_4.1 0), .inr (3, [.int 0, .int 0, .int 0, .int 0, .int 0, .int 0, .int 0, .int 0, .ref (u_4.1 1), .ref (u_4.1 2), .ref (u_4.1 3), .ref (u_4.1 4), .ref (u_4.1 5), .ref (u_4.1 6), .ref (u_4.1 7), .ref (u_4.1 8)])), ((u_4.1 1), .inl (cA 1, 8, .inl (fun _ => 0))), ((u_4.1 2), .inl (cA 1, 8, .inl (fun _ => 0))), ((u_4.1 3), .inl (cA 1, 8, .inl (fun _ => 0))), ((u_4.1 4), .inl (cA 1, 7, .inl (fun _ => 0))), ((u_4.1 5), .inl (cA 1, 7, .inl (fun _ => 0))), ((u_4.1 6), .inl (cA 1, 7, .inl (fun _ => 0))), ((u_4.1 7), .inl (cA 1, 4, .inl (fun _ => 0))), ((u_4.1 8), .inl (cA 1, 4, .inl (fun _ => 0))), ((u_4.1 9), .inl (cA 1, 3, .inl (fun _ => 0))), (q_5, .inr (3, [.int 0, .int 0, .int 0, .int 0, .int 0, .int 0, .int 0, .int 0, .ref (u_6.1 0), .ref (u_6.1 1), .ref (u_6.1 2), .ref (u_6.1 3), .ref (u_6.1 4), .ref (u_6.1 5), .ref (u_6.1 6), .ref (u_6.1 7)])), ((u_6.1 0), .inl (cA 1, 8, .inl (fun _ => 0))), ((u_6.1 1), .inl (cA 1, 8, .inl (fun _ => 0))), ((u_6.1 2), .inl (cA 1, 8, .inl (fun _ => 0))), ((u_6.1 3), .inl (cA 1, 7, .inl (fun _ => 0))), ((u_6.1 4), .inl (cA 1, 7, .inl (fun _ => 0))), ((u_6.1 5), .inl (cA 1, 7, .inl (fun _ => 0))), ((u_6.1 6), .inl (cA 1, 4, .inl (fun _ => 0))), ((u_6.1 7), .inl (cA 1, 4, .inl (fun _ => 0))), (q_7, .inr (2, [.int (-1), .int (-1), .int 0, .int 0, .int 0, .int 0, .int 0, .ref (u_8.1 0), .ref (u_8.1 1), .ref (u_8.1 2)])), ((u_8.1 0), .inl (cA 1, 60, .inl (fun _ => 0))), ((u_8.1 1), .inl (cA 1, 60, .inl (fun _ => 0))), ((u_8.1 2), .inl (cA 1, 60, .inl (fun _ => 0))), (q_9, .inl (cA 4, 3, .inr (.inr (.inr (.inr (va_up (va_up (va_up (fun _ => none) 0 (some q_11)) 1 (some q_14)) 2 (some q_17))))))), (q_11, .inr (4, [.ref (u_12.1 0), .ref (u_12.1 9), .int 0])), ((u_12.1 0), .inr (3, [.int 0, .int 0, .int 0, .int 0, .int 0, .int 0, .int 0, .int 0, .ref (u_12.1 1), .ref (u_12.1 2), .ref (u_12.1 3), .ref (u_12.1 4), .ref (u_12.1 5), .ref (u_12.1 6), .ref (u_12.1 7), .ref (u_12.1 8)])), ((u_12.1 1), .inl (cA 1, 8, .inl (fun _ => 0))), ((u_12.1 2), .inl (cA 1, 8, .inl (fun _ => 0))), ((u_12.1 3), .inl (cA 1, 8, .inl (fun _ => 0))), ((u_12.1 4), .inl (cA 1, 7, .inl (fun _ => 0))), ((u_12.1 5), .inl (cA 1, 7, .inl (fun _ => 0))), ((u_12.1 6), .inl (cA 1, 7, .inl (fun _ => 0))), ((u_12.1 7), .inl (cA 1, 4, .inl (fun _ => 0))), ((u_12.1 8), .inl (cA 1, 4, .inl (fun _ => 0))), ((u_12.1 9), .inr (2, [.int (-1), .int (-1), .int 0, .int 0, .int 0, .int 0, .int 0, .ref (u_12.1 10), .ref (u_12.1 11), .ref (u_12.1 12)])), ((u_12.1 10), .inl (cA 1, 60, .inl (fun _ => 0))), ((u_12.1 11), .inl (cA 1, 60, .inl (fun _ => 0))), ((u_12.1 12), .inl (cA 1, 60, .inl (fun _ => 0))), (q_14, .inr (4, [.ref (u_15.1 0), .ref (u_15.1 9), .int 0])), ((u_15.1 0), .inr (3, [.int 0, .int 0, .int 0, .int 0, .int 0, .int 0, .int 0, .int 0, .ref (u_15.1 1), .ref (u_15.1 2), .ref (u_15.1 3), .ref (u_15.1 4), .ref (u_15.1 5), .ref (u_15.1 6), .ref (u_15.1 7), .ref (u_15.1 8)])), ((u_15.1 1), .inl (cA 1, 8, .inl (fun _ => 0))), ((u_15.1 2), .inl (cA 1, 8, .inl (fun _ => 0))), ((u_15.1 3), .inl (cA 1, 8, .inl (fun _ => 0))), ((u_15.1 4), .inl (cA 1, 7, .inl (fun _ => 0))), ((u_15.1 5), .inl (cA 1, 7, .inl (fun _ => 0))), ((u_15.1 6), .inl (cA 1, 7, .inl (fun _ => 0))), ((u_15.1 7), .inl (cA 1, 4, .inl (fun _ => 0))), ((u_15.1 8), .inl (cA 1, 4, .inl (fun _ => 0))), ((u_15.1 9), .inr (2, [.int (-1), .int (-1), .int 0, .int 0, .int 0, .int 0, .int 0, .ref (u_15.1 10), .ref (u_15.1 11), .ref (u_15.1 12)])), ((u_15.1 10), .inl (cA 1, 60, .inl (fun _ => 0))), ((u_15.1 11), .inl (cA 1, 60, .inl (fun _ => 0))), ((u_15.1 12), .inl (cA 1, 60, .inl (fun _ => 0))), (q_17, .inr (4, [.ref (u_18.1 0), .ref (u_18.1 9), .int 0])), ((u_18.1 0), .inr (3, [.int 0, .int 0, .int 0, .int 0, .int 0, .int 0, .int 0, .int 0, .ref (u_18.1 1), .ref (u_18.1 2), .ref (u_18.1 3), .ref (u_18.1 4), .ref (u_18.1 5), .ref (u_18.1 6), .ref (u_18.1 7), .ref (u_18.1 8)])), ((u_18.1 1), .inl (cA 1, 8, .inl (fun _ => 0))), ((u_18.1 2), .inl (cA 1, 8, .inl (fun _ => 0))), ((u_18.1 3), .inl (cA 1, 8, .inl (fun _ => 0))), ((u_18.1 4), .inl (cA 1, 7, .inl (fun _ => 0))), ((u_18.1 5), .inl (cA 1, 7, .inl (fun _ => 0))), ((u_18.1 6), .inl (cA 1, 7, .inl (fun _ => 0))), ((u_18.1 7), .inl (cA 1, 4, .inl (fun _ => 0))), ((u_18.1 8), .inl (cA 1, 4, .inl (fun _ => 0))), ((u_18.1 9), .inr (2, [.int (-1), .int (-1), .int 0, .int 0, .int 0, .int 0, .int 0, .ref (u_18.1 10), .ref (u_18.1 11), .ref (u_18.1 12)])), ((u_18.1 10), .inl (cA 1, 60, .inl (fun _ => 0))), ((u_18.1 11), .inl (cA 1, 60, .inl (fun _ => 0))), ((u_18.1 12), .inl (cA 1, 60, .inl (fun _ => 0))), (q_20, .inr (7, [.ref (u_21.1 2), .ref (u_21.1 0), .ref (u_21.1 1)])), ((u_21.1 0), .inl (cA 1, 4, .inl (fun _ => 0))), ((u_21.1 1), .inl (cA 2, 240, .inr (.inl (fun _ => 0)))), ((u_21.1 2), .inl (cA 1, 4, .inl (u_21.2.2.1 0)))] H := hP
  have hD : va_D A [(h0, .inr (11, [.ref q_1, .ref q_3, .ref q_5, .ref q_7, .ref q_9, .ref q_20, .null, .null, .null, .null, .null])), (q_1, .inr (9, [.ref (u_2.1 0), .int 0])), ((u_2.1 0), .inl (cA 0, 800, .inl (fun _ => 0))), (q_3, .inr (6, [.ref (u_4.1 0), .int 0, .int (-1), .ref q_1, .int 0, .int 0, .int 0, .int 0, .int 0, .int 0, .int 0, .int 0, .ref (u_4.1 9)])), ((u_4.1 0), .inr (3, [.int 0, .int 0, .int 0, .int 0, .int 0, .int 0, .int 0, .int 0, .ref (u_4.1 1), .ref (u_4.1 2), .ref (u_4.1 3), .ref (u_4.1 4), .ref (u_4.1 5), .ref (u_4.1 6), .ref (u_4.1 7), .ref (u_4.1 8)])), ((u_4.1 1), .inl (cA 1, 8, .inl (fun _ => 0))), ((u_4.1 2), .inl (cA 1, 8, .inl (fun _ => 0))), ((u_4.1 3), .inl (cA 1, 8, .inl (fun _ => 0))), ((u_4.1 4), .inl (cA 1, 7, .inl (fun _ => 0))), ((u_4.1 5), .inl (cA 1, 7, .inl (fun _ => 0))), ((u_4.1 6), .inl (cA 1, 7, .inl (fun _ => 0))), ((u_4.1 7), .inl (cA 1, 4, .inl (fun _ => 0))), ((u_4.1 8), .inl (cA 1, 4, .inl (fun _ => 0))), ((u_4.1 9), .inl (cA 1, 3, .inl (fun _ => 0))), (q_5, .inr (3, [.int 0, .int 0, .int 0, .int 0, .int 0, .int 0, .int 0, .int 0, .ref (u_6.1 0), .ref (u_6.1 1), .ref (u_6.1 2), .ref (u_6.1 3), .ref (u_6.1 4), .ref (u_6.1 5), .ref (u_6.1 6), .ref (u_6.1 7)])), ((u_6.1 0), .inl (cA 1, 8, .inl (fun _ => 0))), ((u_6.1 1), .inl (cA 1, 8, .inl (fun _ => 0))), ((u_6.1 2), .inl (cA 1, 8, .inl (fun _ => 0))), ((u_6.1 3), .inl (cA 1, 7, .inl (fun _ => 0))), ((u_6.1 4), .inl (cA 1, 7, .inl (fun _ => 0))), ((u_6.1 5), .inl (cA 1, 7, .inl (fun _ => 0))), ((u_6.1 6), .inl (cA 1, 4, .inl (fun _ => 0))), ((u_6.1 7), .inl (cA 1, 4, .inl (fun _ => 0))), (q_7, .inr (2, [.int (-1), .int (-1), .int 0, .int 0, .int 0, .int 0, .int 0, .ref (u_8.1 0), .ref (u_8.1 1), .ref (u_8.1 2)])), ((u_8.1 0), .inl (cA 1, 60, .inl (fun _ => 0))), ((u_8.1 1), .inl (cA 1, 60, .inl (fun _ => 0))), ((u_8.1 2), .inl (cA 1, 60, .inl (fun _ => 0))), (q_9, .inl (cA 4, 3, .inr (.inr (.inr (.inr (va_up (va_up (va_up (fun _ => none) 0 (some q_11)) 1 (some q_14)) 2 (some q_17))))))), (q_11, .inr (4, [.ref (u_12.1 0), .ref (u_12.1 9), .int 0])), ((u_12.1 0), .inr (3, [.int 0, .int 0, .int 0, .int 0, .int 0, .int 0, .int 0, .int 0, .ref (u_12.1 1), .ref (u_12.1 2), .ref (u_12.1 3), .ref (u_12.1 4), .ref (u_12.1 5), .ref (u_12.1 6), .ref (u_12.1 7), .ref (u_12.1 8)])), ((u_12.1 1), .inl (cA 1, 8, .inl (fun _ => 0))), ((u_12.1 2), .inl (cA 1, 8, .inl (fun _ => 0))), ((u_12.1 3), .inl (cA 1, 8, .inl (fun _ => 0))), ((u_12.1 4), .inl (cA 1, 7, .inl (fun _ => 0))), ((u_12.1 5), .inl (cA 1, 7, .inl (fun _ => 0))), ((u_12.1 6), .inl (cA 1, 7, .inl (fun _ => 0))), ((u_12.1 7), .inl (cA 1, 4, .inl (fun _ => 0))), ((u_12.1 8), .inl (cA 1, 4, .inl (fun _ => 0))), ((u_12.1 9), .inr (2, [.int (-1), .int (-1), .int 0, .int 0, .int 0, .int 0, .int 0, .ref (u_12.1 10), .ref (u_12.1 11), .ref (u_12.1 12)])), ((u_12.1 10), .inl (cA 1, 60, .inl (fun _ => 0))), ((u_12.1 11), .inl (cA 1, 60, .inl (fun _ => 0))), ((u_12.1 12), .inl (cA 1, 60, .inl (fun _ => 0))), (q_14, .inr (4, [.ref (u_15.1 0), .ref (u_15.1 9), .int 0])), ((u_15.1 0), .inr (3, [.int 0, .int 0, .int 0, .int 0, .int 0, .int 0, .int 0, .int 0, .ref (u_15.1 1), .ref (u_15.1 2), .ref (u_15.1 3), .ref (u_15.1 4), .ref (u_15.1 5), .ref (u_15.1 6), .ref (u_15.1 7), .ref (u_15.1 8)])), ((u_15.1 1), .inl (cA 1, 8, .inl (fun _ => 0))), ((u_15.1 2), .inl (cA 1, 8, .inl (fun _ => 0))), ((u_15.1 3), .inl (cA 1, 8, .inl (fun _ => 0))), ((u_15.1 4), .inl (cA 1, 7, .inl (fun _ => 0))), ((u_15.1 5), .inl (cA 1, 7, .inl (fun _ => 0))), ((u_15.1 6), .inl (cA 1, 7, .inl (fun _ => 0))), ((u_15.1 7), .inl (cA 1, 4, .inl (fun _ => 0))), ((u_15.1 8), .inl (cA 1, 4, .inl (fun _ => 0))), ((u_15.1 9), .inr (2, [.int (-1), .int (-1), .int 0, .int 0, .int 0, .int 0, .int 0, .ref (u_15.1 10), .ref (u_15.1 11), .ref (u_15.1 12)])), ((u_15.1 10), .inl (cA 1, 60, .inl (fun _ => 0))), ((u_15.1 11), .inl (cA 1, 60, .inl (fun _ => 0))), ((u_15.1 12), .inl (cA 1, 60, .inl (fun _ => 0))), (q_17, .inr (4, [.ref (u_18.1 0), .ref (u_18.1 9), .int 0])), ((u_18.1 0), .inr (3, [.int 0, .int 0, .int 0, .int 0, .int 0, .int 0, .int 0, .int 0, .ref (u_18.1 1), .ref (u_18.1 2), .ref (u_18.1 3), .ref (u_18.1 4), .ref (u_18.1 5), .ref (u_18.1 6), .ref (u_18.1 7), .ref (u_18.1 8)])), ((u_18.1 1), .inl (cA 1, 8, .inl (fun _ => 0))), ((u_18.1 2), .inl (cA 1, 8, .inl (fun _ => 0))), ((u_18.1 3), .inl (cA 1, 8, .inl (fun _ => 0))), ((u_18.1 4), .inl (cA 1, 7, .inl (fun _ => 0))), ((u_18.1 5), .inl (cA 1, 7, .inl (fun _ => 0))), ((u_18.1 6), .inl (cA 1, 7, .inl (fun _ => 0))), ((u_18.1 7), .inl (cA 1, 4, .inl (fun _ => 0))), ((u_18.1 8), .inl (cA 1, 4, .inl (fun _ => 0))), ((u_18.1 9), .inr (2, [.int (-1), .int (-1), .int 0, .int 0, .int 0, .int 0, .int 0, .ref (u_18.1 10), .ref (u_18.1 11), .ref (u_18.1 12)])), ((u_18.1 10), .inl (cA 1, 60, .inl (fun _ => 0))), ((u_18.1 11), .inl (cA 1, 60, .inl (fun _ => 0))), ((u_18.1 12), .inl (cA 1, 60, .inl (fun _ => 0))), (q_20, .inr (7, [.ref (u_21.1 2), .ref (u_21.1 0), .ref (u_21.1 1)])), ((u_21.1 0), .inl (cA 1, 4, .inl (fun _ => 0))), ((u_21.1 1), .inl (cA 2, 240, .inr (.inl (fun _ => 0)))), ((u_21.1 2), .inl (cA 1, 4, .inl (u_21.2.2.1 0)))] := hD
  refine lv_aload_n hx hb dX11_init_97 rfl (lv_at hl 1 rfl) ?_
  refine va_new (ci := 1) (fs := [.int 0, .int 0, .null]) (C := RX1) (T := TX1) (N := 3) hx hb hts inX1 tyX1 tyX1_ok hown (hts _ tw_354) (hts _ tw_355) (hts _ tw_109) hKN.1 hP hD hS hA rfl dfX1 (Nat.le_of_ble_eq_true rfl) (Nat.le_of_ble_eq_true rfl) dX11_init_98 (fun q_22 H hP hD hS => ?_)
  have hP : va_P D vwCl [(h0, .inr (11, [.ref q_1, .ref q_3, .ref q_5, .ref q_7, .ref q_9, .ref q_20, .null, .null, .null, .null, .null])), (q_1, .inr (9, [.ref (u_2.1 0), .int 0])), ((u_2.1 0), .inl (cA 0, 800, .inl (fun _ => 0))), (q_3, .inr (6, [.ref (u_4.1 0), .int 0, .int (-1), .ref q_1, .int 0, .int 0, .int 0, .int 0, .int 0, .int 0, .int 0, .int 0, .ref (u_4.1 9)])), ((u_4.1 0), .inr (3, [.int 0, .int 0, .int 0, .int 0, .int 0, .int 0, .int 0, .int 0, .ref (u_4.1 1), .ref (u_4.1 2), .ref (u_4.1 3), .ref (u_4.1 4), .ref (u_4.1 5), .ref (u_4.1 6), .ref (u_4.1 7), .ref (u_4.1 8)])), ((u_4.1 1), .inl (cA 1, 8, .inl (fun _ => 0))), ((u_4.1 2), .inl (cA 1, 8, .inl (fun _ => 0))), ((u_4.1 3), .inl (cA 1, 8, .inl (fun _ => 0))), ((u_4.1 4), .inl (cA 1, 7, .inl (fun _ => 0))), ((u_4.1 5), .inl (cA 1, 7, .inl (fun _ => 0))), ((u_4.1 6), .inl (cA 1, 7, .inl (fun _ => 0))), ((u_4.1 7), .inl (cA 1, 4, .inl (fun _ => 0))), ((u_4.1 8), .inl (cA 1, 4, .inl (fun _ => 0))), ((u_4.1 9), .inl (cA 1, 3, .inl (fun _ => 0))), (q_5, .inr (3, [.int 0, .int 0, .int 0, .int 0, .int 0, .int 0, .int 0, .int 0, .ref (u_6.1 0), .ref (u_6.1 1), .ref (u_6.1 2), .ref (u_6.1 3), .ref (u_6.1 4), .ref (u_6.1 5), .ref (u_6.1 6), .ref (u_6.1 7)])), ((u_6.1 0), .inl (cA 1, 8, .inl (fun _ => 0))), ((u_6.1 1), .inl (cA 1, 8, .inl (fun _ => 0))), ((u_6.1 2), .inl (cA 1, 8, .inl (fun _ => 0))), ((u_6.1 3), .inl (cA 1, 7, .inl (fun _ => 0))), ((u_6.1 4), .inl (cA 1, 7, .inl (fun _ => 0))), ((u_6.1 5), .inl (cA 1, 7, .inl (fun _ => 0))), ((u_6.1 6), .inl (cA 1, 4, .inl (fun _ => 0))), ((u_6.1 7), .inl (cA 1, 4, .inl (fun _ => 0))), (q_7, .inr (2, [.int (-1), .int (-1), .int 0, .int 0, .int 0, .int 0, .int 0, .ref (u_8.1 0), .ref (u_8.1 1), .ref (u_8.1 2)])), ((u_8.1 0), .inl (cA 1, 60, .inl (fun _ => 0))), ((u_8.1 1), .inl (cA 1, 60, .inl (fun _ => 0))), ((u_8.1 2), .inl (cA 1, 60, .inl (fun _ => 0))), (q_9, .inl (cA 4, 3, .inr (.inr (.inr (.inr (va_up (va_up (va_up (fun _ => none) 0 (some q_11)) 1 (some q_14)) 2 (some q_17))))))), (q_11, .inr (4, [.ref (u_12.1 0), .ref (u_12.1 9), .int 0])), ((u_12.1 0), .inr (3, [.int 0, .int 0, .int 0, .int 0, .int 0, .int 0, .int 0, .int 0, .ref (u_12.1 1), .ref (u_12.1 2), .ref (u_12.1 3), .ref (u_12.1 4), .ref (u_12.1 5), .ref (u_12.1 6), .ref (u_12.1 7), .ref (u_12.1 8)])), ((u_12.1 1), .inl (cA 1, 8, .inl (fun _ => 0))), ((u_12.1 2), .inl (cA 1, 8, .inl (fun _ => 0))), ((u_12.1 3), .inl (cA 1, 8, .inl (fun _ => 0))), ((u_12.1 4), .inl (cA 1, 7, .inl (fun _ => 0))), ((u_12.1 5), .inl (cA 1, 7, .inl (fun _ => 0))), ((u_12.1 6), .inl (cA 1, 7, .inl (fun _ => 0))), ((u_12.1 7), .inl (cA 1, 4, .inl (fun _ => 0))), ((u_12.1 8), .inl (cA 1, 4, .inl (fun _ => 0))), ((u_12.1 9), .inr (2, [.int (-1), .int (-1), .int 0, .int 0, .int 0, .int 0, .int 0, .ref (u_12.1 10), .ref (u_12.1 11), .ref (u_12.1 12)])), ((u_12.1 10), .inl (cA 1, 60, .inl (fun _ => 0))), ((u_12.1 11), .inl (cA 1, 60, .inl (fun _ => 0))), ((u_12.1 12), .inl (cA 1, 60, .inl (fun _ => 0))), (q_14, .inr (4, [.ref (u_15.1 0), .ref (u_15.1 9), .int 0])), ((u_15.1 0), .inr (3, [.int 0, .int 0, .int 0, .int 0, .int 0, .int 0, .int 0, .int 0, .ref (u_15.1 1), .ref (u_15.1 2), .ref (u_15.1 3), .ref (u_15.1 4), .ref (u_15.1 5), .ref (u_15.1 6), .ref (u_15.1 7), .ref (u_15.1 8)])), ((u_15.1 1), .inl (cA 1, 8, .inl (fun _ => 0))), ((u_15.1 2), .inl (cA 1, 8, .inl (fun _ => 0))), ((u_15.1 3), .inl (cA 1, 8, .inl (fun _ => 0))), ((u_15.1 4), .inl (cA 1, 7, .inl (fun _ => 0))), ((u_15.1 5), .inl (cA 1, 7, .inl (fun _ => 0))), ((u_15.1 6), .inl (cA 1, 7, .inl (fun _ => 0))), ((u_15.1 7), .inl (cA 1, 4, .inl (fun _ => 0))), ((u_15.1 8), .inl (cA 1, 4, .inl (fun _ => 0))), ((u_15.1 9), .inr (2, [.int (-1), .int (-1), .int 0, .int 0, .int 0, .int 0, .int 0, .ref (u_15.1 10), .ref (u_15.1 11), .ref (u_15.1 12)])), ((u_15.1 10), .inl (cA 1, 60, .inl (fun _ => 0))), ((u_15.1 11), .inl (cA 1, 60, .inl (fun _ => 0))), ((u_15.1 12), .inl (cA 1, 60, .inl (fun _ => 0))), (q_17, .inr (4, [.ref (u_18.1 0), .ref (u_18.1 9), .int 0])), ((u_18.1 0), .inr (3, [.int 0, .int 0, .int 0, .int 0, .int 0, .int 0, .int 0, .int 0, .ref (u_18.1 1), .ref (u_18.1 2), .ref (u_18.1 3), .ref (u_18.1 4), .ref (u_18.1 5), .ref (u_18.1 6), .ref (u_18.1 7), .ref (u_18.1 8)])), ((u_18.1 1), .inl (cA 1, 8, .inl (fun _ => 0))), ((u_18.1 2), .inl (cA 1, 8, .inl (fun _ => 0))), ((u_18.1 3), .inl (cA 1, 8, .inl (fun _ => 0))), ((u_18.1 4), .inl (cA 1, 7, .inl (fun _ => 0))), ((u_18.1 5), .inl (cA 1, 7, .inl (fun _ => 0))), ((u_18.1 6), .inl (cA 1, 7, .inl (fun _ => 0))), ((u_18.1 7), .inl (cA 1, 4, .inl (fun _ => 0))), ((u_18.1 8), .inl (cA 1, 4, .inl (fun _ => 0))), ((u_18.1 9), .inr (2, [.int (-1), .int (-1), .int 0, .int 0, .int 0, .int 0, .int 0, .ref (u_18.1 10), .ref (u_18.1 11), .ref (u_18.1 12)])), ((u_18.1 10), .inl (cA 1, 60, .inl (fun _ => 0))), ((u_18.1 11), .inl (cA 1, 60, .inl (fun _ => 0))), ((u_18.1 12), .inl (cA 1, 60, .inl (fun _ => 0))), (q_20, .inr (7, [.ref (u_21.1 2), .ref (u_21.1 0), .ref (u_21.1 1)])), ((u_21.1 0), .inl (cA 1, 4, .inl (fun _ => 0))), ((u_21.1 1), .inl (cA 2, 240, .inr (.inl (fun _ => 0)))), ((u_21.1 2), .inl (cA 1, 4, .inl (u_21.2.2.1 0))), (q_22, .inr (1, [.int 0, .int 0, .null]))] H := hP
  have hD : va_D A [(h0, .inr (11, [.ref q_1, .ref q_3, .ref q_5, .ref q_7, .ref q_9, .ref q_20, .null, .null, .null, .null, .null])), (q_1, .inr (9, [.ref (u_2.1 0), .int 0])), ((u_2.1 0), .inl (cA 0, 800, .inl (fun _ => 0))), (q_3, .inr (6, [.ref (u_4.1 0), .int 0, .int (-1), .ref q_1, .int 0, .int 0, .int 0, .int 0, .int 0, .int 0, .int 0, .int 0, .ref (u_4.1 9)])), ((u_4.1 0), .inr (3, [.int 0, .int 0, .int 0, .int 0, .int 0, .int 0, .int 0, .int 0, .ref (u_4.1 1), .ref (u_4.1 2), .ref (u_4.1 3), .ref (u_4.1 4), .ref (u_4.1 5), .ref (u_4.1 6), .ref (u_4.1 7), .ref (u_4.1 8)])), ((u_4.1 1), .inl (cA 1, 8, .inl (fun _ => 0))), ((u_4.1 2), .inl (cA 1, 8, .inl (fun _ => 0))), ((u_4.1 3), .inl (cA 1, 8, .inl (fun _ => 0))), ((u_4.1 4), .inl (cA 1, 7, .inl (fun _ => 0))), ((u_4.1 5), .inl (cA 1, 7, .inl (fun _ => 0))), ((u_4.1 6), .inl (cA 1, 7, .inl (fun _ => 0))), ((u_4.1 7), .inl (cA 1, 4, .inl (fun _ => 0))), ((u_4.1 8), .inl (cA 1, 4, .inl (fun _ => 0))), ((u_4.1 9), .inl (cA 1, 3, .inl (fun _ => 0))), (q_5, .inr (3, [.int 0, .int 0, .int 0, .int 0, .int 0, .int 0, .int 0, .int 0, .ref (u_6.1 0), .ref (u_6.1 1), .ref (u_6.1 2), .ref (u_6.1 3), .ref (u_6.1 4), .ref (u_6.1 5), .ref (u_6.1 6), .ref (u_6.1 7)])), ((u_6.1 0), .inl (cA 1, 8, .inl (fun _ => 0))), ((u_6.1 1), .inl (cA 1, 8, .inl (fun _ => 0))), ((u_6.1 2), .inl (cA 1, 8, .inl (fun _ => 0))), ((u_6.1 3), .inl (cA 1, 7, .inl (fun _ => 0))), ((u_6.1 4), .inl (cA 1, 7, .inl (fun _ => 0))), ((u_6.1 5), .inl (cA 1, 7, .inl (fun _ => 0))), ((u_6.1 6), .inl (cA 1, 4, .inl (fun _ => 0))), ((u_6.1 7), .inl (cA 1, 4, .inl (fun _ => 0))), (q_7, .inr (2, [.int (-1), .int (-1), .int 0, .int 0, .int 0, .int 0, .int 0, .ref (u_8.1 0), .ref (u_8.1 1), .ref (u_8.1 2)])), ((u_8.1 0), .inl (cA 1, 60, .inl (fun _ => 0))), ((u_8.1 1), .inl (cA 1, 60, .inl (fun _ => 0))), ((u_8.1 2), .inl (cA 1, 60, .inl (fun _ => 0))), (q_9, .inl (cA 4, 3, .inr (.inr (.inr (.inr (va_up (va_up (va_up (fun _ => none) 0 (some q_11)) 1 (some q_14)) 2 (some q_17))))))), (q_11, .inr (4, [.ref (u_12.1 0), .ref (u_12.1 9), .int 0])), ((u_12.1 0), .inr (3, [.int 0, .int 0, .int 0, .int 0, .int 0, .int 0, .int 0, .int 0, .ref (u_12.1 1), .ref (u_12.1 2), .ref (u_12.1 3), .ref (u_12.1 4), .ref (u_12.1 5), .ref (u_12.1 6), .ref (u_12.1 7), .ref (u_12.1 8)])), ((u_12.1 1), .inl (cA 1, 8, .inl (fun _ => 0))), ((u_12.1 2), .inl (cA 1, 8, .inl (fun _ => 0))), ((u_12.1 3), .inl (cA 1, 8, .inl (fun _ => 0))), ((u_12.1 4), .inl (cA 1, 7, .inl (fun _ => 0))), ((u_12.1 5), .inl (cA 1, 7, .inl (fun _ => 0))), ((u_12.1 6), .inl (cA 1, 7, .inl (fun _ => 0))), ((u_12.1 7), .inl (cA 1, 4, .inl (fun _ => 0))), ((u_12.1 8), .inl (cA 1, 4, .inl (fun _ => 0))), ((u_12.1 9), .inr (2, [.int (-1), .int (-1), .int 0, .int 0, .int 0, .int 0, .int 0, .ref (u_12.1 10), .ref (u_12.1 11), .ref (u_12.1 12)])), ((u_12.1 10), .inl (cA 1, 60, .inl (fun _ => 0))), ((u_12.1 11), .inl (cA 1, 60, .inl (fun _ => 0))), ((u_12.1 12), .inl (cA 1, 60, .inl (fun _ => 0))), (q_14, .inr (4, [.ref (u_15.1 0), .ref (u_15.1 9), .int 0])), ((u_15.1 0), .inr (3, [.int 0, .int 0, .int 0, .int 0, .int 0, .int 0, .int 0, .int 0, .ref (u_15.1 1), .ref (u_15.1 2), .ref (u_15.1 3), .ref (u_15.1 4), .ref (u_15.1 5), .ref (u_15.1 6), .ref (u_15.1 7), .ref (u_15.1 8)])), ((u_15.1 1), .inl (cA 1, 8, .inl (fun _ => 0))), ((u_15.1 2), .inl (cA 1, 8, .inl (fun _ => 0))), ((u_15.1 3), .inl (cA 1, 8, .inl (fun _ => 0))), ((u_15.1 4), .inl (cA 1, 7, .inl (fun _ => 0))), ((u_15.1 5), .inl (cA 1, 7, .inl (fun _ => 0))), ((u_15.1 6), .inl (cA 1, 7, .inl (fun _ => 0))), ((u_15.1 7), .inl (cA 1, 4, .inl (fun _ => 0))), ((u_15.1 8), .inl (cA 1, 4, .inl (fun _ => 0))), ((u_15.1 9), .inr (2, [.int (-1), .int (-1), .int 0, .int 0, .int 0, .int 0, .int 0, .ref (u_15.1 10), .ref (u_15.1 11), .ref (u_15.1 12)])), ((u_15.1 10), .inl (cA 1, 60, .inl (fun _ => 0))), ((u_15.1 11), .inl (cA 1, 60, .inl (fun _ => 0))), ((u_15.1 12), .inl (cA 1, 60, .inl (fun _ => 0))), (q_17, .inr (4, [.ref (u_18.1 0), .ref (u_18.1 9), .int 0])), ((u_18.1 0), .inr (3, [.int 0, .int 0, .int 0, .int 0, .int 0, .int 0, .int 0, .int 0, .ref (u_18.1 1), .ref (u_18.1 2), .ref (u_18.1 3), .ref (u_18.1 4), .ref (u_18.1 5), .ref (u_18.1 6), .ref (u_18.1 7), .ref (u_18.1 8)])), ((u_18.1 1), .inl (cA 1, 8, .inl (fun _ => 0))), ((u_18.1 2), .inl (cA 1, 8, .inl (fun _ => 0))), ((u_18.1 3), .inl (cA 1, 8, .inl (fun _ => 0))), ((u_18.1 4), .inl (cA 1, 7, .inl (fun _ => 0))), ((u_18.1 5), .inl (cA 1, 7, .inl (fun _ => 0))), ((u_18.1 6), .inl (cA 1, 7, .inl (fun _ => 0))), ((u_18.1 7), .inl (cA 1, 4, .inl (fun _ => 0))), ((u_18.1 8), .inl (cA 1, 4, .inl (fun _ => 0))), ((u_18.1 9), .inr (2, [.int (-1), .int (-1), .int 0, .int 0, .int 0, .int 0, .int 0, .ref (u_18.1 10), .ref (u_18.1 11), .ref (u_18.1 12)])), ((u_18.1 10), .inl (cA 1, 60, .inl (fun _ => 0))), ((u_18.1 11), .inl (cA 1, 60, .inl (fun _ => 0))), ((u_18.1 12), .inl (cA 1, 60, .inl (fun _ => 0))), (q_20, .inr (7, [.ref (u_21.1 2), .ref (u_21.1 0), .ref (u_21.1 1)])), ((u_21.1 0), .inl (cA 1, 4, .inl (fun _ => 0))), ((u_21.1 1), .inl (cA 2, 240, .inr (.inl (fun _ => 0)))), ((u_21.1 2), .inl (cA 1, 4, .inl (u_21.2.2.1 0))), (q_22, .inr (1, [.int 0, .int 0, .null]))] := hD
  refine W.widen (k := 74) (n := 2189) (Nat.le_of_ble_eq_true rfl) (Nat.le_of_ble_eq_true rfl) ?_
  refine lv_dup hx hb dX11_init_101 rfl ?_
  refine lv_aload_n hx hb dX11_init_102 rfl (lv_at hl 1 rfl) ?_
  refine va_get (D := D) (ci := 11) (v := .ref q_5) (C := RX11) (T := TX11) (N := 11) hx hb hts inX11 hown hKN.1 hP 0 rfl rfl 2 (by decide) (hts _ tw_467) (fun _ h9 => h9) rfl dX11_init_103 ?_
  refine cmIv (rest := [.ref q_22, .ref h0]) (wsC := [(q_22, .inr (1, [.int 0, .int 0, .null]))]) (wr := [(h0, .inr (11, [.ref q_1, .ref q_3, .ref q_5, .ref q_7, .ref q_9, .ref q_20, .null, .null, .null, .null, .null])), (q_1, .inr (9, [.ref (u_2.1 0), .int 0])), ((u_2.1 0), .inl (cA 0, 800, .inl (fun _ => 0))), (q_3, .inr (6, [.ref (u_4.1 0), .int 0, .int (-1), .ref q_1, .int 0, .int 0, .int 0, .int 0, .int 0, .int 0, .int 0, .int 0, .ref (u_4.1 9)])), ((u_4.1 0), .inr (3, [.int 0, .int 0, .int 0, .int 0, .int 0, .int 0, .int 0, .int 0, .ref (u_4.1 1), .ref (u_4.1 2), .ref (u_4.1 3), .ref (u_4.1 4), .ref (u_4.1 5), .ref (u_4.1 6), .ref (u_4.1 7), .ref (u_4.1 8)])), ((u_4.1 1), .inl (cA 1, 8, .inl (fun _ => 0))), ((u_4.1 2), .inl (cA 1, 8, .inl (fun _ => 0))), ((u_4.1 3), .inl (cA 1, 8, .inl (fun _ => 0))), ((u_4.1 4), .inl (cA 1, 7, .inl (fun _ => 0))), ((u_4.1 5), .inl (cA 1, 7, .inl (fun _ => 0))), ((u_4.1 6), .inl (cA 1, 7, .inl (fun _ => 0))), ((u_4.1 7), .inl (cA 1, 4, .inl (fun _ => 0))), ((u_4.1 8), .inl (cA 1, 4, .inl (fun _ => 0))), ((u_4.1 9), .inl (cA 1, 3, .inl (fun _ => 0))), (q_5, .inr (3, [.int 0, .int 0, .int 0, .int 0, .int 0, .int 0, .int 0, .int 0, .ref (u_6.1 0), .ref (u_6.1 1), .ref (u_6.1 2), .ref (u_6.1 3), .ref (u_6.1 4), .ref (u_6.1 5), .ref (u_6.1 6), .ref (u_6.1 7)])), ((u_6.1 0), .inl (cA 1, 8, .inl (fun _ => 0))), ((u_6.1 1), .inl (cA 1, 8, .inl (fun _ => 0))), ((u_6.1 2), .inl (cA 1, 8, .inl (fun _ => 0))), ((u_6.1 3), .inl (cA 1, 7, .inl (fun _ => 0))), ((u_6.1 4), .inl (cA 1, 7, .inl (fun _ => 0))), ((u_6.1 5), .inl (cA 1, 7, .inl (fun _ => 0))), ((u_6.1 6), .inl (cA 1, 4, .inl (fun _ => 0))), ((u_6.1 7), .inl (cA 1, 4, .inl (fun _ => 0))), (q_7, .inr (2, [.int (-1), .int (-1), .int 0, .int 0, .int 0, .int 0, .int 0, .ref (u_8.1 0), .ref (u_8.1 1), .ref (u_8.1 2)])), ((u_8.1 0), .inl (cA 1, 60, .inl (fun _ => 0))), ((u_8.1 1), .inl (cA 1, 60, .inl (fun _ => 0))), ((u_8.1 2), .inl (cA 1, 60, .inl (fun _ => 0))), (q_9, .inl (cA 4, 3, .inr (.inr (.inr (.inr (va_up (va_up (va_up (fun _ => none) 0 (some q_11)) 1 (some q_14)) 2 (some q_17))))))), (q_11, .inr (4, [.ref (u_12.1 0), .ref (u_12.1 9), .int 0])), ((u_12.1 0), .inr (3, [.int 0, .int 0, .int 0, .int 0, .int 0, .int 0, .int 0, .int 0, .ref (u_12.1 1), .ref (u_12.1 2), .ref (u_12.1 3), .ref (u_12.1 4), .ref (u_12.1 5), .ref (u_12.1 6), .ref (u_12.1 7), .ref (u_12.1 8)])), ((u_12.1 1), .inl (cA 1, 8, .inl (fun _ => 0))), ((u_12.1 2), .inl (cA 1, 8, .inl (fun _ => 0))), ((u_12.1 3), .inl (cA 1, 8, .inl (fun _ => 0))), ((u_12.1 4), .inl (cA 1, 7, .inl (fun _ => 0))), ((u_12.1 5), .inl (cA 1, 7, .inl (fun _ => 0))), ((u_12.1 6), .inl (cA 1, 7, .inl (fun _ => 0))), ((u_12.1 7), .inl (cA 1, 4, .inl (fun _ => 0))), ((u_12.1 8), .inl (cA 1, 4, .inl (fun _ => 0))), ((u_12.1 9), .inr (2, [.int (-1), .int (-1), .int 0, .int 0, .int 0, .int 0, .int 0, .ref (u_12.1 10), .ref (u_12.1 11), .ref (u_12.1 12)])), ((u_12.1 10), .inl (cA 1, 60, .inl (fun _ => 0))), ((u_12.1 11), .inl (cA 1, 60, .inl (fun _ => 0))), ((u_12.1 12), .inl (cA 1, 60, .inl (fun _ => 0))), (q_14, .inr (4, [.ref (u_15.1 0), .ref (u_15.1 9), .int 0])), ((u_15.1 0), .inr (3, [.int 0, .int 0, .int 0, .int 0, .int 0, .int 0, .int 0, .int 0, .ref (u_15.1 1), .ref (u_15.1 2), .ref (u_15.1 3), .ref (u_15.1 4), .ref (u_15.1 5), .ref (u_15.1 6), .ref (u_15.1 7), .ref (u_15.1 8)])), ((u_15.1 1), .inl (cA 1, 8, .inl (fun _ => 0))), ((u_15.1 2), .inl (cA 1, 8, .inl (fun _ => 0))), ((u_15.1 3), .inl (cA 1, 8, .inl (fun _ => 0))), ((u_15.1 4), .inl (cA 1, 7, .inl (fun _ => 0))), ((u_15.1 5), .inl (cA 1, 7, .inl (fun _ => 0))), ((u_15.1 6), .inl (cA 1, 7, .inl (fun _ => 0))), ((u_15.1 7), .inl (cA 1, 4, .inl (fun _ => 0))), ((u_15.1 8), .inl (cA 1, 4, .inl (fun _ => 0))), ((u_15.1 9), .inr (2, [.int (-1), .int (-1), .int 0, .int 0, .int 0, .int 0, .int 0, .ref (u_15.1 10), .ref (u_15.1 11), .ref (u_15.1 12)])), ((u_15.1 10), .inl (cA 1, 60, .inl (fun _ => 0))), ((u_15.1 11), .inl (cA 1, 60, .inl (fun _ => 0))), ((u_15.1 12), .inl (cA 1, 60, .inl (fun _ => 0))), (q_17, .inr (4, [.ref (u_18.1 0), .ref (u_18.1 9), .int 0])), ((u_18.1 0), .inr (3, [.int 0, .int 0, .int 0, .int 0, .int 0, .int 0, .int 0, .int 0, .ref (u_18.1 1), .ref (u_18.1 2), .ref (u_18.1 3), .ref (u_18.1 4), .ref (u_18.1 5), .ref (u_18.1 6), .ref (u_18.1 7), .ref (u_18.1 8)])), ((u_18.1 1), .inl (cA 1, 8, .inl (fun _ => 0))), ((u_18.1 2), .inl (cA 1, 8, .inl (fun _ => 0))), ((u_18.1 3), .inl (cA 1, 8, .inl (fun _ => 0))), ((u_18.1 4), .inl (cA 1, 7, .inl (fun _ => 0))), ((u_18.1 5), .inl (cA 1, 7, .inl (fun _ => 0))), ((u_18.1 6), .inl (cA 1, 7, .inl (fun _ => 0))), ((u_18.1 7), .inl (cA 1, 4, .inl (fun _ => 0))), ((u_18.1 8), .inl (cA 1, 4, .inl (fun _ => 0))), ((u_18.1 9), .inr (2, [.int (-1), .int (-1), .int 0, .int 0, .int 0, .int 0, .int 0, .ref (u_18.1 10), .ref (u_18.1 11), .ref (u_18.1 12)])), ((u_18.1 10), .inl (cA 1, 60, .inl (fun _ => 0))), ((u_18.1 11), .inl (cA 1, 60, .inl (fun _ => 0))), ((u_18.1 12), .inl (cA 1, 60, .inl (fun _ => 0))), (q_20, .inr (7, [.ref (u_21.1 2), .ref (u_21.1 0), .ref (u_21.1 1)])), ((u_21.1 0), .inl (cA 1, 4, .inl (fun _ => 0))), ((u_21.1 1), .inl (cA 2, 240, .inr (.inl (fun _ => 0)))), ((u_21.1 2), .inl (cA 1, 4, .inl (u_21.2.2.1 0)))]) ⟨hx, hb, hml, hown, hts⟩ hKN hP hD hS hA [74] [0, 1, 2, 3, 4, 5, 6, 7, 8, 9, 10, 11, 12, 13, 14, 15, 16, 17, 18, 19, 20, 21, 22, 23, 24, 25, 26, 27, 28, 29, 30, 31, 32, 33, 34, 35, 36, 37, 38, 39, 40, 41, 42, 43, 44, 45, 46, 47, 48, 49, 50, 51, 52, 53, 54, 55, 56, 57, 58, 59, 60, 61, 62, 63, 64, 65, 66, 67, 68, 69, 70, 71, 72, 73] rfl rfl (by decide) (by decide) (by decide) (k_X1_init l D cA _ q_22 q_5) ⟨tw_356, tw_357, tw_109, tw_358⟩ hdX1_init ⟨rfl, rfl, Nat.le_of_ble_eq_true rfl, Nat.le_of_ble_eq_true rfl⟩ ⟨Nat.le_of_ble_eq_true rfl, Nat.le_of_ble_eq_true rfl⟩ rfl hl.1 rfl (Nat.le_of_ble_eq_true rfl) dX11_init_106 (fun u_23 H locs hr_23 hP hD hS => ?_)
  have hP : va_P D vwCl [(h0, .inr (11, [.ref q_1, .ref q_3, .ref q_5, .ref q_7, .ref q_9, .ref q_20, .null, .null, .null, .null, .null])), (q_1, .inr (9, [.ref (u_2.1 0), .int 0])), ((u_2.1 0), .inl (cA 0, 800, .inl (fun _ => 0))), (q_3, .inr (6, [.ref (u_4.1 0), .int 0, .int (-1), .ref q_1, .int 0, .int 0, .int 0, .int 0, .int 0, .int 0, .int 0, .int 0, .ref (u_4.1 9)])), ((u_4.1 0), .inr (3, [.int 0, .int 0, .int 0, .int 0, .int 0, .int 0, .int 0, .int 0, .ref (u_4.1 1), .ref (u_4.1 2), .ref (u_4.1 3), .ref (u_4.1 4), .ref (u_4.1 5), .ref (u_4.1 6), .ref (u_4.1 7), .ref (u_4.1 8)])), ((u_4.1 1), .inl (cA 1, 8, .inl (fun _ => 0))), ((u_4.1 2), .inl (cA 1, 8, .inl (fun _ => 0))), ((u_4.1 3), .inl (cA 1, 8, .inl (fun _ => 0))), ((u_4.1 4), .inl (cA 1, 7, .inl (fun _ => 0))), ((u_4.1 5), .inl (cA 1, 7, .inl (fun _ => 0))), ((u_4.1 6), .inl (cA 1, 7, .inl (fun _ => 0))), ((u_4.1 7), .inl (cA 1, 4, .inl (fun _ => 0))), ((u_4.1 8), .inl (cA 1, 4, .inl (fun _ => 0))), ((u_4.1 9), .inl (cA 1, 3, .inl (fun _ => 0))), (q_5, .inr (3, [.int 0, .int 0, .int 0, .int 0, .int 0, .int 0, .int 0, .int 0, .ref (u_6.1 0), .ref (u_6.1 1), .ref (u_6.1 2), .ref (u_6.1 3), .ref (u_6.1 4), .ref (u_6.1 5), .ref (u_6.1 6), .ref (u_6.1 7)])), ((u_6.1 0), .inl (cA 1, 8, .inl (fun _ => 0))), ((u_6.1 1), .inl (cA 1, 8, .inl (fun _ => 0))), ((u_6.1 2), .inl (cA 1, 8, .inl (fun _ => 0))), ((u_6.1 3), .inl (cA 1, 7, .inl (fun _ => 0))), ((u_6.1 4), .inl (cA 1, 7, .inl (fun _ => 0))), ((u_6.1 5), .inl (cA 1, 7, .inl (fun _ => 0))), ((u_6.1 6), .inl (cA 1, 4, .inl (fun _ => 0))), ((u_6.1 7), .inl (cA 1, 4, .inl (fun _ => 0))), (q_7, .inr (2, [.int (-1), .int (-1), .int 0, .int 0, .int 0, .int 0, .int 0, .ref (u_8.1 0), .ref (u_8.1 1), .ref (u_8.1 2)])), ((u_8.1 0), .inl (cA 1, 60, .inl (fun _ => 0))), ((u_8.1 1), .inl (cA 1, 60, .inl (fun _ => 0))), ((u_8.1 2), .inl (cA 1, 60, .inl (fun _ => 0))), (q_9, .inl (cA 4, 3, .inr (.inr (.inr (.inr (va_up (va_up (va_up (fun _ => none) 0 (some q_11)) 1 (some q_14)) 2 (some q_17))))))), (q_11, .inr (4, [.ref (u_12.1 0), .ref (u_12.1 9), .int 0])), ((u_12.1 0), .inr (3, [.int 0, .int 0, .int 0, .int 0, .int 0, .int 0, .int 0, .int 0, .ref (u_12.1 1), .ref (u_12.1 2), .ref (u_12.1 3), .ref (u_12.1 4), .ref (u_12.1 5), .ref (u_12.1 6), .ref (u_12.1 7), .ref (u_12.1 8)])), ((u_12.1 1), .inl (cA 1, 8, .inl (fun _ => 0))), ((u_12.1 2), .inl (cA 1, 8, .inl (fun _ => 0))), ((u_12.1 3), .inl (cA 1, 8, .inl (fun _ => 0))), ((u_12.1 4), .inl (cA 1, 7, .inl (fun _ => 0))), ((u_12.1 5), .inl (cA 1, 7, .inl (fun _ => 0))), ((u_12.1 6), .inl (cA 1, 7, .inl (fun _ => 0))), ((u_12.1 7), .inl (cA 1, 4, .inl (fun _ => 0))), ((u_12.1 8), .inl (cA 1, 4, .inl (fun _ => 0))), ((u_12.1 9), .inr (2, [.int (-1), .int (-1), .int 0, .int 0, .int 0, .int 0, .int 0, .ref (u_12.1 10), .ref (u_12.1 11), .ref (u_12.1 12)])), ((u_12.1 10), .inl (cA 1, 60, .inl (fun _ => 0))), ((u_12.1 11), .inl (cA 1, 60, .inl (fun _ => 0))), ((u_12.1 12), .inl (cA 1, 60, .inl (fun _ => 0))), (q_14, .inr (4, [.ref (u_15.1 0), .ref (u_15.1 9), .int 0])), ((u_15.1 0), .inr (3, [.int 0, .int 0, .int 0, .int 0, .int 0, .int 0, .int 0, .int 0, .ref (u_15.1 1), .ref (u_15.1 2), .ref (u_15.1 3), .ref (u_15.1 4), .ref (u_15.1 5), .ref (u_15.1 6), .ref (u_15.1 7), .ref (u_15.1 8)])), ((u_15.1 1), .inl (cA 1, 8, .inl (fun _ => 0))), ((u_15.1 2), .inl (cA 1, 8, .inl (fun _ => 0))), ((u_15.1 3), .inl (cA 1, 8, .inl (fun _ => 0))), ((u_15.1 4), .inl (cA 1, 7, .inl (fun _ => 0))), ((u_15.1 5), .inl (cA 1, 7, .inl (fun _ => 0))), ((u_15.1 6), .inl (cA 1, 7, .inl (fun _ => 0))), ((u_15.1 7), .inl (cA 1, 4, .inl (fun _ => 0))), ((u_15.1 8), .inl (cA 1, 4, .inl (fun _ => 0))), ((u_15.1 9), .inr (2, [.int (-1), .int (-1), .int 0, .int 0, .int 0, .int 0, .int 0, .ref (u_15.1 10), .ref (u_15.1 11), .ref (u_15.1 12)])), ((u_15.1 10), .inl (cA 1, 60, .inl (fun _ => 0))), ((u_15.1 11), .inl (cA 1, 60, .inl (fun _ => 0))), ((u_15.1 12), .inl (cA 1, 60, .inl (fun _ => 0))), (q_17, .inr (4, [.ref (u_18.1 0), .ref (u_18.1 9), .int 0])), ((u_18.1 0), .inr (3, [.int 0, .int 0, .int 0, .int 0, .int 0, .int 0, .int 0, .int 0, .ref (u_18.1 1), .ref (u_18.1 2), .ref (u_18.1 3), .ref (u_18.1 4), .ref (u_18.1 5), .ref (u_18.1 6), .ref (u_18.1 7), .ref (u_18.1 8)])), ((u_18.1 1), .inl (cA 1, 8, .inl (fun _ => 0))), ((u_18.1 2), .inl (cA 1, 8, .inl (fun _ => 0))), ((u_18.1 3), .inl (cA 1, 8, .inl (fun _ => 0))), ((u_18.1 4), .inl (cA 1, 7, .inl (fun _ => 0))), ((u_18.1 5), .inl (cA 1, 7, .inl (fun _ => 0))), ((u_18.1 6), .inl (cA 1, 7, .inl (fun _ => 0))), ((u_18.1 7), .inl (cA 1, 4, .inl (fun _ => 0))), ((u_18.1 8), .inl (cA 1, 4, .inl (fun _ => 0))), ((u_18.1 9), .inr (2, [.int (-1), .int (-1), .int 0, .int 0, .int 0, .int 0, .int 0, .ref (u_18.1 10), .ref (u_18.1 11), .ref (u_18.1 12)])), ((u_18.1 10), .inl (cA 1, 60, .inl (fun _ => 0))), ((u_18.1 11), .inl (cA 1, 60, .inl (fun _ => 0))), ((u_18.1 12), .inl (cA 1, 60, .inl (fun _ => 0))), (q_20, .inr (7, [.ref (u_21.1 2), .ref (u_21.1 0), .ref (u_21.1 1)])), ((u_21.1 0), .inl (cA 1, 4, .inl (fun _ => 0))), ((u_21.1 1), .inl (cA 2, 240, .inr (.inl (fun _ => 0)))), ((u_21.1 2), .inl (cA 1, 4, .inl (u_21.2.2.1 0))), (q_22, .inr (1, [.int (-1), .int 1, .ref q_5]))] H := hP
  have hD : va_D A [(h0, .inr (11, [.ref q_1, .ref q_3, .ref q_5, .ref q_7, .ref q_9, .ref q_20, .null, .null, .null, .null, .null])), (q_1, .inr (9, [.ref (u_2.1 0), .int 0])), ((u_2.1 0), .inl (cA 0, 800, .inl (fun _ => 0))), (q_3, .inr (6, [.ref (u_4.1 0), .int 0, .int (-1), .ref q_1, .int 0, .int 0, .int 0, .int 0, .int 0, .int 0, .int 0, .int 0, .ref (u_4.1 9)])), ((u_4.1 0), .inr (3, [.int 0, .int 0, .int 0, .int 0, .int 0, .int 0, .int 0, .int 0, .ref (u_4.1 1), .ref (u_4.1 2), .ref (u_4.1 3), .ref (u_4.1 4), .ref (u_4.1 5), .ref (u_4.1 6), .ref (u_4.1 7), .ref (u_4.1 8)])), ((u_4.1 1), .inl (cA 1, 8, .inl (fun _ => 0))), ((u_4.1 2), .inl (cA 1, 8, .inl (fun _ => 0))), ((u_4.1 3), .inl (cA 1, 8, .inl (fun _ => 0))), ((u_4.1 4), .inl (cA 1, 7, .inl (fun _ => 0))), ((u_4.1 5), .inl (cA 1, 7, .inl (fun _ => 0))), ((u_4.1 6), .inl (cA 1, 7, .inl (fun _ => 0))), ((u_4.1 7), .inl (cA 1, 4, .inl (fun _ => 0))), ((u_4.1 8), .inl (cA 1, 4, .inl (fun _ => 0))), ((u_4.1 9), .inl (cA 1, 3, .inl (fun _ => 0))), (q_5, .inr (3, [.int 0, .int 0, .int 0, .int 0, .int 0, .int 0, .int 0, .int 0, .ref (u_6.1 0), .ref (u_6.1 1), .ref (u_6.1 2), .ref (u_6.1 3), .ref (u_6.1 4), .ref (u_6.1 5), .ref (u_6.1 6), .ref (u_6.1 7)])), ((u_6.1 0), .inl (cA 1, 8, .inl (fun _ => 0))), ((u_6.1 1), .inl (cA 1, 8, .inl (fun _ => 0))), ((u_6.1 2), .inl (cA 1, 8, .inl (fun _ => 0))), ((u_6.1 3), .inl (cA 1, 7, .inl (fun _ => 0))), ((u_6.1 4), .inl (cA 1, 7, .inl (fun _ => 0))), ((u_6.1 5), .inl (cA 1, 7, .inl (fun _ => 0))), ((u_6.1 6), .inl (cA 1, 4, .inl (fun _ => 0))), ((u_6.1 7), .inl (cA 1, 4, .inl (fun _ => 0))), (q_7, .inr (2, [.int (-1), .int (-1), .int 0, .int 0, .int 0, .int 0, .int 0, .ref (u_8.1 0), .ref (u_8.1 1), .ref (u_8.1 2)])), ((u_8.1 0), .inl (cA 1, 60, .inl (fun _ => 0))), ((u_8.1 1), .inl (cA 1, 60, .inl (fun _ => 0))), ((u_8.1 2), .inl (cA 1, 60, .inl (fun _ => 0))), (q_9, .inl (cA 4, 3, .inr (.inr (.inr (.inr (va_up (va_up (va_up (fun _ => none) 0 (some q_11)) 1 (some q_14)) 2 (some q_17))))))), (q_11, .inr (4, [.ref (u_12.1 0), .ref (u_12.1 9), .int 0])), ((u_12.1 0), .inr (3, [.int 0, .int 0, .int 0, .int 0, .int 0, .int 0, .int 0, .int 0, .ref (u_12.1 1), .ref (u_12.1 2), .ref (u_12.1 3), .ref (u_12.1 4), .ref (u_12.1 5), .ref (u_12.1 6), .ref (u_12.1 7), .ref (u_12.1 8)])), ((u_12.1 1), .inl (cA 1, 8, .inl (fun _ => 0))), ((u_12.1 2), .inl (cA 1, 8, .inl (fun _ => 0))), ((u_12.1 3), .inl (cA 1, 8, .inl (fun _ => 0))), ((u_12.1 4), .inl (cA 1, 7, .inl (fun _ => 0))), ((u_12.1 5), .inl (cA 1, 7, .inl (fun _ => 0))), ((u_12.1 6), .inl (cA 1, 7, .inl (fun _ => 0))), ((u_12.1 7), .inl (cA 1, 4, .inl (fun _ => 0))), ((u_12.1 8), .inl (cA 1, 4, .inl (fun _ => 0))), ((u_12.1 9), .inr (2, [.int (-1), .int (-1), .int 0, .int 0, .int 0, .int 0, .int 0, .ref (u_12.1 10), .ref (u_12.1 11), .ref (u_12.1 12)])), ((u_12.1 10), .inl (cA 1, 60, .inl (fun _ => 0))), ((u_12.1 11), .inl (cA 1, 60, .inl (fun _ => 0))), ((u_12.1 12), .inl (cA 1, 60, .inl (fun _ => 0))), (q_14, .inr (4, [.ref (u_15.1 0), .ref (u_15.1 9), .int 0])), ((u_15.1 0), .inr (3, [.int 0, .int 0, .int 0, .int 0, .int 0, .int 0, .int 0, .int 0, .ref (u_15.1 1), .ref (u_15.1 2), .ref (u_15.1 3), .ref (u_15.1 4), .ref (u_15.1 5), .ref (u_15.1 6), .ref (u_15.1 7), .ref (u_15.1 8)])), ((u_15.1 1), .inl (cA 1, 8, .inl (fun _ => 0))), ((u_15.1 2), .inl (cA 1, 8, .inl (fun _ => 0))), ((u_15.1 3), .inl (cA 1, 8, .inl (fun _ => 0))), ((u_15.1 4), .inl (cA 1, 7, .inl (fun _ => 0))), ((u_15.1 5), .inl (cA 1, 7, .inl (fun _ => 0))), ((u_15.1 6), .inl (cA 1, 7, .inl (fun _ => 0))), ((u_15.1 7), .inl (cA 1, 4, .inl (fun _ => 0))), ((u_15.1 8), .inl (cA 1, 4, .inl (fun _ => 0))), ((u_15.1 9), .inr (2, [.int (-1), .int (-1), .int 0, .int 0, .int 0, .int 0, .int 0, .ref (u_15.1 10), .ref (u_15.1 11), .ref (u_15.1 12)])), ((u_15.1 10), .inl (cA 1, 60, .inl (fun _ => 0))), ((u_15.1 11), .inl (cA 1, 60, .inl (fun _ => 0))), ((u_15.1 12), .inl (cA 1, 60, .inl (fun _ => 0))), (q_17, .inr (4, [.ref (u_18.1 0), .ref (u_18.1 9), .int 0])), ((u_18.1 0), .inr (3, [.int 0, .int 0, .int 0, .int 0, .int 0, .int 0, .int 0, .int 0, .ref (u_18.1 1), .ref (u_18.1 2), .ref (u_18.1 3), .ref (u_18.1 4), .ref (u_18.1 5), .ref (u_18.1 6), .ref (u_18.1 7), .ref (u_18.1 8)])), ((u_18.1 1), .inl (cA 1, 8, .inl (fun _ => 0))), ((u_18.1 2), .inl (cA 1, 8, .inl (fun _ => 0))), ((u_18.1 3), .inl (cA 1, 8, .inl (fun _ => 0))), ((u_18.1 4), .inl (cA 1, 7, .inl (fun _ => 0))), ((u_18.1 5), .inl (cA 1, 7, .inl (fun _ => 0))), ((u_18.1 6), .inl (cA 1, 7, .inl (fun _ => 0))), ((u_18.1 7), .inl (cA 1, 4, .inl (fun _ => 0))), ((u_18.1 8), .inl (cA 1, 4, .inl (fun _ => 0))), ((u_18.1 9), .inr (2, [.int (-1), .int (-1), .int 0, .int 0, .int 0, .int 0, .int 0, .ref (u_18.1 10), .ref (u_18.1 11), .ref (u_18.1 12)])), ((u_18.1 10), .inl (cA 1, 60, .inl (fun _ => 0))), ((u_18.1 11), .inl (cA 1, 60, .inl (fun _ => 0))), ((u_18.1 12), .inl (cA 1, 60, .inl (fun _ => 0))), (q_20, .inr (7, [.ref (u_21.1 2), .ref (u_21.1 0), .ref (u_21.1 1)])), ((u_21.1 0), .inl (cA 1, 4, .inl (fun _ => 0))), ((u_21.1 1), .inl (cA 2, 240, .inr (.inl (fun _ => 0)))), ((u_21.1 2), .inl (cA 1, 4, .inl (u_21.2.2.1 0))), (q_22, .inr (1, [.int (-1), .int 1, .ref q_5]))] := hD
  refine va_putF (D := D) (ci := 11) (v := .ref q_22) (ty := (.object "WristTreaty$Course")) (C := RX11) (T := TX11) (N := 11) hx hb hts inX11 tyX11 tyX11_ok nmX11 hown hKN.1 hP hD hS 0 rfl rfl 6 (by decide) (hts _ tw_471) (fun _ h9 => h9) rfl hin rfl (by decide +kernel) rfl rfl (Nat.le_of_ble_eq_true rfl) dX11_init_109 (fun H locs hP hD hS => ?_)
  have hP : va_P D vwCl [(h0, .inr (11, [.ref q_1, .ref q_3, .ref q_5, .ref q_7, .ref q_9, .ref q_20, .ref q_22, .null, .null, .null, .null])), (q_1, .inr (9, [.ref (u_2.1 0), .int 0])), ((u_2.1 0), .inl (cA 0, 800, .inl (fun _ => 0))), (q_3, .inr (6, [.ref (u_4.1 0), .int 0, .int (-1), .ref q_1, .int 0, .int 0, .int 0, .int 0, .int 0, .int 0, .int 0, .int 0, .ref (u_4.1 9)])), ((u_4.1 0), .inr (3, [.int 0, .int 0, .int 0, .int 0, .int 0, .int 0, .int 0, .int 0, .ref (u_4.1 1), .ref (u_4.1 2), .ref (u_4.1 3), .ref (u_4.1 4), .ref (u_4.1 5), .ref (u_4.1 6), .ref (u_4.1 7), .ref (u_4.1 8)])), ((u_4.1 1), .inl (cA 1, 8, .inl (fun _ => 0))), ((u_4.1 2), .inl (cA 1, 8, .inl (fun _ => 0))), ((u_4.1 3), .inl (cA 1, 8, .inl (fun _ => 0))), ((u_4.1 4), .inl (cA 1, 7, .inl (fun _ => 0))), ((u_4.1 5), .inl (cA 1, 7, .inl (fun _ => 0))), ((u_4.1 6), .inl (cA 1, 7, .inl (fun _ => 0))), ((u_4.1 7), .inl (cA 1, 4, .inl (fun _ => 0))), ((u_4.1 8), .inl (cA 1, 4, .inl (fun _ => 0))), ((u_4.1 9), .inl (cA 1, 3, .inl (fun _ => 0))), (q_5, .inr (3, [.int 0, .int 0, .int 0, .int 0, .int 0, .int 0, .int 0, .int 0, .ref (u_6.1 0), .ref (u_6.1 1), .ref (u_6.1 2), .ref (u_6.1 3), .ref (u_6.1 4), .ref (u_6.1 5), .ref (u_6.1 6), .ref (u_6.1 7)])), ((u_6.1 0), .inl (cA 1, 8, .inl (fun _ => 0))), ((u_6.1 1), .inl (cA 1, 8, .inl (fun _ => 0))), ((u_6.1 2), .inl (cA 1, 8, .inl (fun _ => 0))), ((u_6.1 3), .inl (cA 1, 7, .inl (fun _ => 0))), ((u_6.1 4), .inl (cA 1, 7, .inl (fun _ => 0))), ((u_6.1 5), .inl (cA 1, 7, .inl (fun _ => 0))), ((u_6.1 6), .inl (cA 1, 4, .inl (fun _ => 0))), ((u_6.1 7), .inl (cA 1, 4, .inl (fun _ => 0))), (q_7, .inr (2, [.int (-1), .int (-1), .int 0, .int 0, .int 0, .int 0, .int 0, .ref (u_8.1 0), .ref (u_8.1 1), .ref (u_8.1 2)])), ((u_8.1 0), .inl (cA 1, 60, .inl (fun _ => 0))), ((u_8.1 1), .inl (cA 1, 60, .inl (fun _ => 0))), ((u_8.1 2), .inl (cA 1, 60, .inl (fun _ => 0))), (q_9, .inl (cA 4, 3, .inr (.inr (.inr (.inr (va_up (va_up (va_up (fun _ => none) 0 (some q_11)) 1 (some q_14)) 2 (some q_17))))))), (q_11, .inr (4, [.ref (u_12.1 0), .ref (u_12.1 9), .int 0])), ((u_12.1 0), .inr (3, [.int 0, .int 0, .int 0, .int 0, .int 0, .int 0, .int 0, .int 0, .ref (u_12.1 1), .ref (u_12.1 2), .ref (u_12.1 3), .ref (u_12.1 4), .ref (u_12.1 5), .ref (u_12.1 6), .ref (u_12.1 7), .ref (u_12.1 8)])), ((u_12.1 1), .inl (cA 1, 8, .inl (fun _ => 0))), ((u_12.1 2), .inl (cA 1, 8, .inl (fun _ => 0))), ((u_12.1 3), .inl (cA 1, 8, .inl (fun _ => 0))), ((u_12.1 4), .inl (cA 1, 7, .inl (fun _ => 0))), ((u_12.1 5), .inl (cA 1, 7, .inl (fun _ => 0))), ((u_12.1 6), .inl (cA 1, 7, .inl (fun _ => 0))), ((u_12.1 7), .inl (cA 1, 4, .inl (fun _ => 0))), ((u_12.1 8), .inl (cA 1, 4, .inl (fun _ => 0))), ((u_12.1 9), .inr (2, [.int (-1), .int (-1), .int 0, .int 0, .int 0, .int 0, .int 0, .ref (u_12.1 10), .ref (u_12.1 11), .ref (u_12.1 12)])), ((u_12.1 10), .inl (cA 1, 60, .inl (fun _ => 0))), ((u_12.1 11), .inl (cA 1, 60, .inl (fun _ => 0))), ((u_12.1 12), .inl (cA 1, 60, .inl (fun _ => 0))), (q_14, .inr (4, [.ref (u_15.1 0), .ref (u_15.1 9), .int 0])), ((u_15.1 0), .inr (3, [.int 0, .int 0, .int 0, .int 0, .int 0, .int 0, .int 0, .int 0, .ref (u_15.1 1), .ref (u_15.1 2), .ref (u_15.1 3), .ref (u_15.1 4), .ref (u_15.1 5), .ref (u_15.1 6), .ref (u_15.1 7), .ref (u_15.1 8)])), ((u_15.1 1), .inl (cA 1, 8, .inl (fun _ => 0))), ((u_15.1 2), .inl (cA 1, 8, .inl (fun _ => 0))), ((u_15.1 3), .inl (cA 1, 8, .inl (fun _ => 0))), ((u_15.1 4), .inl (cA 1, 7, .inl (fun _ => 0))), ((u_15.1 5), .inl (cA 1, 7, .inl (fun _ => 0))), ((u_15.1 6), .inl (cA 1, 7, .inl (fun _ => 0))), ((u_15.1 7), .inl (cA 1, 4, .inl (fun _ => 0))), ((u_15.1 8), .inl (cA 1, 4, .inl (fun _ => 0))), ((u_15.1 9), .inr (2, [.int (-1), .int (-1), .int 0, .int 0, .int 0, .int 0, .int 0, .ref (u_15.1 10), .ref (u_15.1 11), .ref (u_15.1 12)])), ((u_15.1 10), .inl (cA 1, 60, .inl (fun _ => 0))), ((u_15.1 11), .inl (cA 1, 60, .inl (fun _ => 0))), ((u_15.1 12), .inl (cA 1, 60, .inl (fun _ => 0))), (q_17, .inr (4, [.ref (u_18.1 0), .ref (u_18.1 9), .int 0])), ((u_18.1 0), .inr (3, [.int 0, .int 0, .int 0, .int 0, .int 0, .int 0, .int 0, .int 0, .ref (u_18.1 1), .ref (u_18.1 2), .ref (u_18.1 3), .ref (u_18.1 4), .ref (u_18.1 5), .ref (u_18.1 6), .ref (u_18.1 7), .ref (u_18.1 8)])), ((u_18.1 1), .inl (cA 1, 8, .inl (fun _ => 0))), ((u_18.1 2), .inl (cA 1, 8, .inl (fun _ => 0))), ((u_18.1 3), .inl (cA 1, 8, .inl (fun _ => 0))), ((u_18.1 4), .inl (cA 1, 7, .inl (fun _ => 0))), ((u_18.1 5), .inl (cA 1, 7, .inl (fun _ => 0))), ((u_18.1 6), .inl (cA 1, 7, .inl (fun _ => 0))), ((u_18.1 7), .inl (cA 1, 4, .inl (fun _ => 0))), ((u_18.1 8), .inl (cA 1, 4, .inl (fun _ => 0))), ((u_18.1 9), .inr (2, [.int (-1), .int (-1), .int 0, .int 0, .int 0, .int 0, .int 0, .ref (u_18.1 10), .ref (u_18.1 11), .ref (u_18.1 12)])), ((u_18.1 10), .inl (cA 1, 60, .inl (fun _ => 0))), ((u_18.1 11), .inl (cA 1, 60, .inl (fun _ => 0))), ((u_18.1 12), .inl (cA 1, 60, .inl (fun _ => 0))), (q_20, .inr (7, [.ref (u_21.1 2), .ref (u_21.1 0), .ref (u_21.1 1)])), ((u_21.1 0), .inl (cA 1, 4, .inl (fun _ => 0))), ((u_21.1 1), .inl (cA 2, 240, .inr (.inl (fun _ => 0)))), ((u_21.1 2), .inl (cA 1, 4, .inl (u_21.2.2.1 0))), (q_22, .inr (1, [.int (-1), .int 1, .ref q_5]))] H := hP
  have hD : va_D A [(h0, .inr (11, [.ref q_1, .ref q_3, .ref q_5, .ref q_7, .ref q_9, .ref q_20, .ref q_22, .null, .null, .null, .null])), (q_1, .inr (9, [.ref (u_2.1 0), .int 0])), ((u_2.1 0), .inl (cA 0, 800, .inl (fun _ => 0))), (q_3, .inr (6, [.ref (u_4.1 0), .int 0, .int (-1), .ref q_1, .int 0, .int 0, .int 0, .int 0, .int 0, .int 0, .int 0, .int 0, .ref (u_4.1 9)])), ((u_4.1 0), .inr (3, [.int 0, .int 0, .int 0, .int 0, .int 0, .int 0, .int 0, .int 0, .ref (u_4.1 1), .ref (u_4.1 2), .ref (u_4.1 3), .ref (u_4.1 4), .ref (u_4.1 5), .ref (u_4.1 6), .ref (u_4.1 7), .ref (u_4.1 8)])), ((u_4.1 1), .inl (cA 1, 8, .inl (fun _ => 0))), ((u_4.1 2), .inl (cA 1, 8, .inl (fun _ => 0))), ((u_4.1 3), .inl (cA 1, 8, .inl (fun _ => 0))), ((u_4.1 4), .inl (cA 1, 7, .inl (fun _ => 0))), ((u_4.1 5), .inl (cA 1, 7, .inl (fun _ => 0))), ((u_4.1 6), .inl (cA 1, 7, .inl (fun _ => 0))), ((u_4.1 7), .inl (cA 1, 4, .inl (fun _ => 0))), ((u_4.1 8), .inl (cA 1, 4, .inl (fun _ => 0))), ((u_4.1 9), .inl (cA 1, 3, .inl (fun _ => 0))), (q_5, .inr (3, [.int 0, .int 0, .int 0, .int 0, .int 0, .int 0, .int 0, .int 0, .ref (u_6.1 0), .ref (u_6.1 1), .ref (u_6.1 2), .ref (u_6.1 3), .ref (u_6.1 4), .ref (u_6.1 5), .ref (u_6.1 6), .ref (u_6.1 7)])), ((u_6.1 0), .inl (cA 1, 8, .inl (fun _ => 0))), ((u_6.1 1), .inl (cA 1, 8, .inl (fun _ => 0))), ((u_6.1 2), .inl (cA 1, 8, .inl (fun _ => 0))), ((u_6.1 3), .inl (cA 1, 7, .inl (fun _ => 0))), ((u_6.1 4), .inl (cA 1, 7, .inl (fun _ => 0))), ((u_6.1 5), .inl (cA 1, 7, .inl (fun _ => 0))), ((u_6.1 6), .inl (cA 1, 4, .inl (fun _ => 0))), ((u_6.1 7), .inl (cA 1, 4, .inl (fun _ => 0))), (q_7, .inr (2, [.int (-1), .int (-1), .int 0, .int 0, .int 0, .int 0, .int 0, .ref (u_8.1 0), .ref (u_8.1 1), .ref (u_8.1 2)])), ((u_8.1 0), .inl (cA 1, 60, .inl (fun _ => 0))), ((u_8.1 1), .inl (cA 1, 60, .inl (fun _ => 0))), ((u_8.1 2), .inl (cA 1, 60, .inl (fun _ => 0))), (q_9, .inl (cA 4, 3, .inr (.inr (.inr (.inr (va_up (va_up (va_up (fun _ => none) 0 (some q_11)) 1 (some q_14)) 2 (some q_17))))))), (q_11, .inr (4, [.ref (u_12.1 0), .ref (u_12.1 9), .int 0])), ((u_12.1 0), .inr (3, [.int 0, .int 0, .int 0, .int 0, .int 0, .int 0, .int 0, .int 0, .ref (u_12.1 1), .ref (u_12.1 2), .ref (u_12.1 3), .ref (u_12.1 4), .ref (u_12.1 5), .ref (u_12.1 6), .ref (u_12.1 7), .ref (u_12.1 8)])), ((u_12.1 1), .inl (cA 1, 8, .inl (fun _ => 0))), ((u_12.1 2), .inl (cA 1, 8, .inl (fun _ => 0))), ((u_12.1 3), .inl (cA 1, 8, .inl (fun _ => 0))), ((u_12.1 4), .inl (cA 1, 7, .inl (fun _ => 0))), ((u_12.1 5), .inl (cA 1, 7, .inl (fun _ => 0))), ((u_12.1 6), .inl (cA 1, 7, .inl (fun _ => 0))), ((u_12.1 7), .inl (cA 1, 4, .inl (fun _ => 0))), ((u_12.1 8), .inl (cA 1, 4, .inl (fun _ => 0))), ((u_12.1 9), .inr (2, [.int (-1), .int (-1), .int 0, .int 0, .int 0, .int 0, .int 0, .ref (u_12.1 10), .ref (u_12.1 11), .ref (u_12.1 12)])), ((u_12.1 10), .inl (cA 1, 60, .inl (fun _ => 0))), ((u_12.1 11), .inl (cA 1, 60, .inl (fun _ => 0))), ((u_12.1 12), .inl (cA 1, 60, .inl (fun _ => 0))), (q_14, .inr (4, [.ref (u_15.1 0), .ref (u_15.1 9), .int 0])), ((u_15.1 0), .inr (3, [.int 0, .int 0, .int 0, .int 0, .int 0, .int 0, .int 0, .int 0, .ref (u_15.1 1), .ref (u_15.1 2), .ref (u_15.1 3), .ref (u_15.1 4), .ref (u_15.1 5), .ref (u_15.1 6), .ref (u_15.1 7), .ref (u_15.1 8)])), ((u_15.1 1), .inl (cA 1, 8, .inl (fun _ => 0))), ((u_15.1 2), .inl (cA 1, 8, .inl (fun _ => 0))), ((u_15.1 3), .inl (cA 1, 8, .inl (fun _ => 0))), ((u_15.1 4), .inl (cA 1, 7, .inl (fun _ => 0))), ((u_15.1 5), .inl (cA 1, 7, .inl (fun _ => 0))), ((u_15.1 6), .inl (cA 1, 7, .inl (fun _ => 0))), ((u_15.1 7), .inl (cA 1, 4, .inl (fun _ => 0))), ((u_15.1 8), .inl (cA 1, 4, .inl (fun _ => 0))), ((u_15.1 9), .inr (2, [.int (-1), .int (-1), .int 0, .int 0, .int 0, .int 0, .int 0, .ref (u_15.1 10), .ref (u_15.1 11), .ref (u_15.1 12)])), ((u_15.1 10), .inl (cA 1, 60, .inl (fun _ => 0))), ((u_15.1 11), .inl (cA 1, 60, .inl (fun _ => 0))), ((u_15.1 12), .inl (cA 1, 60, .inl (fun _ => 0))), (q_17, .inr (4, [.ref (u_18.1 0), .ref (u_18.1 9), .int 0])), ((u_18.1 0), .inr (3, [.int 0, .int 0, .int 0, .int 0, .int 0, .int 0, .int 0, .int 0, .ref (u_18.1 1), .ref (u_18.1 2), .ref (u_18.1 3), .ref (u_18.1 4), .ref (u_18.1 5), .ref (u_18.1 6), .ref (u_18.1 7), .ref (u_18.1 8)])), ((u_18.1 1), .inl (cA 1, 8, .inl (fun _ => 0))), ((u_18.1 2), .inl (cA 1, 8, .inl (fun _ => 0))), ((u_18.1 3), .inl (cA 1, 8, .inl (fun _ => 0))), ((u_18.1 4), .inl (cA 1, 7, .inl (fun _ => 0))), ((u_18.1 5), .inl (cA 1, 7, .inl (fun _ => 0))), ((u_18.1 6), .inl (cA 1, 7, .inl (fun _ => 0))), ((u_18.1 7), .inl (cA 1, 4, .inl (fun _ => 0))), ((u_18.1 8), .inl (cA 1, 4, .inl (fun _ => 0))), ((u_18.1 9), .inr (2, [.int (-1), .int (-1), .int 0, .int 0, .int 0, .int 0, .int 0, .ref (u_18.1 10), .ref (u_18.1 11), .ref (u_18.1 12)])), ((u_18.1 10), .inl (cA 1, 60, .inl (fun _ => 0))), ((u_18.1 11), .inl (cA 1, 60, .inl (fun _ => 0))), ((u_18.1 12), .inl (cA 1, 60, .inl (fun _ => 0))), (q_20, .inr (7, [.ref (u_21.1 2), .ref (u_21.1 0), .ref (u_21.1 1)])), ((u_21.1 0), .inl (cA 1, 4, .inl (fun _ => 0))), ((u_21.1 1), .inl (cA 2, 240, .inr (.inl (fun _ => 0)))), ((u_21.1 2), .inl (cA 1, 4, .inl (u_21.2.2.1 0))), (q_22, .inr (1, [.int (-1), .int 1, .ref q_5]))] := hD
  refine lv_aload_n hx hb dX11_init_112 rfl (lv_at hl 1 rfl) ?_
  refine va_new (ci := 5) (fs := [.null, .int 0, .int 0, .null, .int 0, .null]) (C := RX5) (T := TX5) (N := 6) hx hb hts inX5 tyX5 tyX5_ok hown (hts _ tw_371) (hts _ tw_372) (hts _ tw_110) hKN.1 hP hD hS hA rfl dfX5 (Nat.le_of_ble_eq_true rfl) (Nat.le_of_ble_eq_true rfl) dX11_init_113 (fun q_24 H hP hD hS => ?_)
  have hP : va_P D vwCl [(h0, .inr (11, [.ref q_1, .ref q_3, .ref q_5, .ref q_7, .ref q_9, .ref q_20, .ref q_22, .null, .null, .null, .null])), (q_1, .inr (9, [.ref (u_2.1 0), .int 0])), ((u_2.1 0), .inl (cA 0, 800, .inl (fun _ => 0))), (q_3, .inr (6, [.ref (u_4.1 0), .int 0, .int (-1), .ref q_1, .int 0, .int 0, .int 0, .int 0, .int 0, .int 0, .int 0, .int 0, .ref (u_4.1 9)])), ((u_4.1 0), .inr (3, [.int 0, .int 0, .int 0, .int 0, .int 0, .int 0, .int 0, .int 0, .ref (u_4.1 1), .ref (u_4.1 2), .ref (u_4.1 3), .ref (u_4.1 4), .ref (u_4.1 5), .ref (u_4.1 6), .ref (u_4.1 7), .ref (u_4.1 8)])), ((u_4.1 1), .inl (cA 1, 8, .inl (fun _ => 0))), ((u_4.1 2), .inl (cA 1, 8, .inl (fun _ => 0))), ((u_4.1 3), .inl (cA 1, 8, .inl (fun _ => 0))), ((u_4.1 4), .inl (cA 1, 7, .inl (fun _ => 0))), ((u_4.1 5), .inl (cA 1, 7, .inl (fun _ => 0))), ((u_4.1 6), .inl (cA 1, 7, .inl (fun _ => 0))), ((u_4.1 7), .inl (cA 1, 4, .inl (fun _ => 0))), ((u_4.1 8), .inl (cA 1, 4, .inl (fun _ => 0))), ((u_4.1 9), .inl (cA 1, 3, .inl (fun _ => 0))), (q_5, .inr (3, [.int 0, .int 0, .int 0, .int 0, .int 0, .int 0, .int 0, .int 0, .ref (u_6.1 0), .ref (u_6.1 1), .ref (u_6.1 2), .ref (u_6.1 3), .ref (u_6.1 4), .ref (u_6.1 5), .ref (u_6.1 6), .ref (u_6.1 7)])), ((u_6.1 0), .inl (cA 1, 8, .inl (fun _ => 0))), ((u_6.1 1), .inl (cA 1, 8, .inl (fun _ => 0))), ((u_6.1 2), .inl (cA 1, 8, .inl (fun _ => 0))), ((u_6.1 3), .inl (cA 1, 7, .inl (fun _ => 0))), ((u_6.1 4), .inl (cA 1, 7, .inl (fun _ => 0))), ((u_6.1 5), .inl (cA 1, 7, .inl (fun _ => 0))), ((u_6.1 6), .inl (cA 1, 4, .inl (fun _ => 0))), ((u_6.1 7), .inl (cA 1, 4, .inl (fun _ => 0))), (q_7, .inr (2, [.int (-1), .int (-1), .int 0, .int 0, .int 0, .int 0, .int 0, .ref (u_8.1 0), .ref (u_8.1 1), .ref (u_8.1 2)])), ((u_8.1 0), .inl (cA 1, 60, .inl (fun _ => 0))), ((u_8.1 1), .inl (cA 1, 60, .inl (fun _ => 0))), ((u_8.1 2), .inl (cA 1, 60, .inl (fun _ => 0))), (q_9, .inl (cA 4, 3, .inr (.inr (.inr (.inr (va_up (va_up (va_up (fun _ => none) 0 (some q_11)) 1 (some q_14)) 2 (some q_17))))))), (q_11, .inr (4, [.ref (u_12.1 0), .ref (u_12.1 9), .int 0])), ((u_12.1 0), .inr (3, [.int 0, .int 0, .int 0, .int 0, .int 0, .int 0, .int 0, .int 0, .ref (u_12.1 1), .ref (u_12.1 2), .ref (u_12.1 3), .ref (u_12.1 4), .ref (u_12.1 5), .ref (u_12.1 6), .ref (u_12.1 7), .ref (u_12.1 8)])), ((u_12.1 1), .inl (cA 1, 8, .inl (fun _ => 0))), ((u_12.1 2), .inl (cA 1, 8, .inl (fun _ => 0))), ((u_12.1 3), .inl (cA 1, 8, .inl (fun _ => 0))), ((u_12.1 4), .inl (cA 1, 7, .inl (fun _ => 0))), ((u_12.1 5), .inl (cA 1, 7, .inl (fun _ => 0))), ((u_12.1 6), .inl (cA 1, 7, .inl (fun _ => 0))), ((u_12.1 7), .inl (cA 1, 4, .inl (fun _ => 0))), ((u_12.1 8), .inl (cA 1, 4, .inl (fun _ => 0))), ((u_12.1 9), .inr (2, [.int (-1), .int (-1), .int 0, .int 0, .int 0, .int 0, .int 0, .ref (u_12.1 10), .ref (u_12.1 11), .ref (u_12.1 12)])), ((u_12.1 10), .inl (cA 1, 60, .inl (fun _ => 0))), ((u_12.1 11), .inl (cA 1, 60, .inl (fun _ => 0))), ((u_12.1 12), .inl (cA 1, 60, .inl (fun _ => 0))), (q_14, .inr (4, [.ref (u_15.1 0), .ref (u_15.1 9), .int 0])), ((u_15.1 0), .inr (3, [.int 0, .int 0, .int 0, .int 0, .int 0, .int 0, .int 0, .int 0, .ref (u_15.1 1), .ref (u_15.1 2), .ref (u_15.1 3), .ref (u_15.1 4), .ref (u_15.1 5), .ref (u_15.1 6), .ref (u_15.1 7), .ref (u_15.1 8)])), ((u_15.1 1), .inl (cA 1, 8, .inl (fun _ => 0))), ((u_15.1 2), .inl (cA 1, 8, .inl (fun _ => 0))), ((u_15.1 3), .inl (cA 1, 8, .inl (fun _ => 0))), ((u_15.1 4), .inl (cA 1, 7, .inl (fun _ => 0))), ((u_15.1 5), .inl (cA 1, 7, .inl (fun _ => 0))), ((u_15.1 6), .inl (cA 1, 7, .inl (fun _ => 0))), ((u_15.1 7), .inl (cA 1, 4, .inl (fun _ => 0))), ((u_15.1 8), .inl (cA 1, 4, .inl (fun _ => 0))), ((u_15.1 9), .inr (2, [.int (-1), .int (-1), .int 0, .int 0, .int 0, .int 0, .int 0, .ref (u_15.1 10), .ref (u_15.1 11), .ref (u_15.1 12)])), ((u_15.1 10), .inl (cA 1, 60, .inl (fun _ => 0))), ((u_15.1 11), .inl (cA 1, 60, .inl (fun _ => 0))), ((u_15.1 12), .inl (cA 1, 60, .inl (fun _ => 0))), (q_17, .inr (4, [.ref (u_18.1 0), .ref (u_18.1 9), .int 0])), ((u_18.1 0), .inr (3, [.int 0, .int 0, .int 0, .int 0, .int 0, .int 0, .int 0, .int 0, .ref (u_18.1 1), .ref (u_18.1 2), .ref (u_18.1 3), .ref (u_18.1 4), .ref (u_18.1 5), .ref (u_18.1 6), .ref (u_18.1 7), .ref (u_18.1 8)])), ((u_18.1 1), .inl (cA 1, 8, .inl (fun _ => 0))), ((u_18.1 2), .inl (cA 1, 8, .inl (fun _ => 0))), ((u_18.1 3), .inl (cA 1, 8, .inl (fun _ => 0))), ((u_18.1 4), .inl (cA 1, 7, .inl (fun _ => 0))), ((u_18.1 5), .inl (cA 1, 7, .inl (fun _ => 0))), ((u_18.1 6), .inl (cA 1, 7, .inl (fun _ => 0))), ((u_18.1 7), .inl (cA 1, 4, .inl (fun _ => 0))), ((u_18.1 8), .inl (cA 1, 4, .inl (fun _ => 0))), ((u_18.1 9), .inr (2, [.int (-1), .int (-1), .int 0, .int 0, .int 0, .int 0, .int 0, .ref (u_18.1 10), .ref (u_18.1 11), .ref (u_18.1 12)])), ((u_18.1 10), .inl (cA 1, 60, .inl (fun _ => 0))), ((u_18.1 11), .inl (cA 1, 60, .inl (fun _ => 0))), ((u_18.1 12), .inl (cA 1, 60, .inl (fun _ => 0))), (q_20, .inr (7, [.ref (u_21.1 2), .ref (u_21.1 0), .ref (u_21.1 1)])), ((u_21.1 0), .inl (cA 1, 4, .inl (fun _ => 0))), ((u_21.1 1), .inl (cA 2, 240, .inr (.inl (fun _ => 0)))), ((u_21.1 2), .inl (cA 1, 4, .inl (u_21.2.2.1 0))), (q_22, .inr (1, [.int (-1), .int 1, .ref q_5])), (q_24, .inr (5, [.null, .int 0, .int 0, .null, .int 0, .null]))] H := hP
  have hD : va_D A [(h0, .inr (11, [.ref q_1, .ref q_3, .ref q_5, .ref q_7, .ref q_9, .ref q_20, .ref q_22, .null, .null, .null, .null])), (q_1, .inr (9, [.ref (u_2.1 0), .int 0])), ((u_2.1 0), .inl (cA 0, 800, .inl (fun _ => 0))), (q_3, .inr (6, [.ref (u_4.1 0), .int 0, .int (-1), .ref q_1, .int 0, .int 0, .int 0, .int 0, .int 0, .int 0, .int 0, .int 0, .ref (u_4.1 9)])), ((u_4.1 0), .inr (3, [.int 0, .int 0, .int 0, .int 0, .int 0, .int 0, .int 0, .int 0, .ref (u_4.1 1), .ref (u_4.1 2), .ref (u_4.1 3), .ref (u_4.1 4), .ref (u_4.1 5), .ref (u_4.1 6), .ref (u_4.1 7), .ref (u_4.1 8)])), ((u_4.1 1), .inl (cA 1, 8, .inl (fun _ => 0))), ((u_4.1 2), .inl (cA 1, 8, .inl (fun _ => 0))), ((u_4.1 3), .inl (cA 1, 8, .inl (fun _ => 0))), ((u_4.1 4), .inl (cA 1, 7, .inl (fun _ => 0))), ((u_4.1 5), .inl (cA 1, 7, .inl (fun _ => 0))), ((u_4.1 6), .inl (cA 1, 7, .inl (fun _ => 0))), ((u_4.1 7), .inl (cA 1, 4, .inl (fun _ => 0))), ((u_4.1 8), .inl (cA 1, 4, .inl (fun _ => 0))), ((u_4.1 9), .inl (cA 1, 3, .inl (fun _ => 0))), (q_5, .inr (3, [.int 0, .int 0, .int 0, .int 0, .int 0, .int 0, .int 0, .int 0, .ref (u_6.1 0), .ref (u_6.1 1), .ref (u_6.1 2), .ref (u_6.1 3), .ref (u_6.1 4), .ref (u_6.1 5), .ref (u_6.1 6), .ref (u_6.1 7)])), ((u_6.1 0), .inl (cA 1, 8, .inl (fun _ => 0))), ((u_6.1 1), .inl (cA 1, 8, .inl (fun _ => 0))), ((u_6.1 2), .inl (cA 1, 8, .inl (fun _ => 0))), ((u_6.1 3), .inl (cA 1, 7, .inl (fun _ => 0))), ((u_6.1 4), .inl (cA 1, 7, .inl (fun _ => 0))), ((u_6.1 5), .inl (cA 1, 7, .inl (fun _ => 0))), ((u_6.1 6), .inl (cA 1, 4, .inl (fun _ => 0))), ((u_6.1 7), .inl (cA 1, 4, .inl (fun _ => 0))), (q_7, .inr (2, [.int (-1), .int (-1), .int 0, .int 0, .int 0, .int 0, .int 0, .ref (u_8.1 0), .ref (u_8.1 1), .ref (u_8.1 2)])), ((u_8.1 0), .inl (cA 1, 60, .inl (fun _ => 0))), ((u_8.1 1), .inl (cA 1, 60, .inl (fun _ => 0))), ((u_8.1 2), .inl (cA 1, 60, .inl (fun _ => 0))), (q_9, .inl (cA 4, 3, .inr (.inr (.inr (.inr (va_up (va_up (va_up (fun _ => none) 0 (some q_11)) 1 (some q_14)) 2 (some q_17))))))), (q_11, .inr (4, [.ref (u_12.1 0), .ref (u_12.1 9), .int 0])), ((u_12.1 0), .inr (3, [.int 0, .int 0, .int 0, .int 0, .int 0, .int 0, .int 0, .int 0, .ref (u_12.1 1), .ref (u_12.1 2), .ref (u_12.1 3), .ref (u_12.1 4), .ref (u_12.1 5), .ref (u_12.1 6), .ref (u_12.1 7), .ref (u_12.1 8)])), ((u_12.1 1), .inl (cA 1, 8, .inl (fun _ => 0))), ((u_12.1 2), .inl (cA 1, 8, .inl (fun _ => 0))), ((u_12.1 3), .inl (cA 1, 8, .inl (fun _ => 0))), ((u_12.1 4), .inl (cA 1, 7, .inl (fun _ => 0))), ((u_12.1 5), .inl (cA 1, 7, .inl (fun _ => 0))), ((u_12.1 6), .inl (cA 1, 7, .inl (fun _ => 0))), ((u_12.1 7), .inl (cA 1, 4, .inl (fun _ => 0))), ((u_12.1 8), .inl (cA 1, 4, .inl (fun _ => 0))), ((u_12.1 9), .inr (2, [.int (-1), .int (-1), .int 0, .int 0, .int 0, .int 0, .int 0, .ref (u_12.1 10), .ref (u_12.1 11), .ref (u_12.1 12)])), ((u_12.1 10), .inl (cA 1, 60, .inl (fun _ => 0))), ((u_12.1 11), .inl (cA 1, 60, .inl (fun _ => 0))), ((u_12.1 12), .inl (cA 1, 60, .inl (fun _ => 0))), (q_14, .inr (4, [.ref (u_15.1 0), .ref (u_15.1 9), .int 0])), ((u_15.1 0), .inr (3, [.int 0, .int 0, .int 0, .int 0, .int 0, .int 0, .int 0, .int 0, .ref (u_15.1 1), .ref (u_15.1 2), .ref (u_15.1 3), .ref (u_15.1 4), .ref (u_15.1 5), .ref (u_15.1 6), .ref (u_15.1 7), .ref (u_15.1 8)])), ((u_15.1 1), .inl (cA 1, 8, .inl (fun _ => 0))), ((u_15.1 2), .inl (cA 1, 8, .inl (fun _ => 0))), ((u_15.1 3), .inl (cA 1, 8, .inl (fun _ => 0))), ((u_15.1 4), .inl (cA 1, 7, .inl (fun _ => 0))), ((u_15.1 5), .inl (cA 1, 7, .inl (fun _ => 0))), ((u_15.1 6), .inl (cA 1, 7, .inl (fun _ => 0))), ((u_15.1 7), .inl (cA 1, 4, .inl (fun _ => 0))), ((u_15.1 8), .inl (cA 1, 4, .inl (fun _ => 0))), ((u_15.1 9), .inr (2, [.int (-1), .int (-1), .int 0, .int 0, .int 0, .int 0, .int 0, .ref (u_15.1 10), .ref (u_15.1 11), .ref (u_15.1 12)])), ((u_15.1 10), .inl (cA 1, 60, .inl (fun _ => 0))), ((u_15.1 11), .inl (cA 1, 60, .inl (fun _ => 0))), ((u_15.1 12), .inl (cA 1, 60, .inl (fun _ => 0))), (q_17, .inr (4, [.ref (u_18.1 0), .ref (u_18.1 9), .int 0])), ((u_18.1 0), .inr (3, [.int 0, .int 0, .int 0, .int 0, .int 0, .int 0, .int 0, .int 0, .ref (u_18.1 1), .ref (u_18.1 2), .ref (u_18.1 3), .ref (u_18.1 4), .ref (u_18.1 5), .ref (u_18.1 6), .ref (u_18.1 7), .ref (u_18.1 8)])), ((u_18.1 1), .inl (cA 1, 8, .inl (fun _ => 0))), ((u_18.1 2), .inl (cA 1, 8, .inl (fun _ => 0))), ((u_18.1 3), .inl (cA 1, 8, .inl (fun _ => 0))), ((u_18.1 4), .inl (cA 1, 7, .inl (fun _ => 0))), ((u_18.1 5), .inl (cA 1, 7, .inl (fun _ => 0))), ((u_18.1 6), .inl (cA 1, 7, .inl (fun _ => 0))), ((u_18.1 7), .inl (cA 1, 4, .inl (fun _ => 0))), ((u_18.1 8), .inl (cA 1, 4, .inl (fun _ => 0))), ((u_18.1 9), .inr (2, [.int (-1), .int (-1), .int 0, .int 0, .int 0, .int 0, .int 0, .ref (u_18.1 10), .ref (u_18.1 11), .ref (u_18.1 12)])), ((u_18.1 10), .inl (cA 1, 60, .inl (fun _ => 0))), ((u_18.1 11), .inl (cA 1, 60, .inl (fun _ => 0))), ((u_18.1 12), .inl (cA 1, 60, .inl (fun _ => 0))), (q_20, .inr (7, [.ref (u_21.1 2), .ref (u_21.1 0), .ref (u_21.1 1)])), ((u_21.1 0), .inl (cA 1, 4, .inl (fun _ => 0))), ((u_21.1 1), .inl (cA 2, 240, .inr (.inl (fun _ => 0)))), ((u_21.1 2), .inl (cA 1, 4, .inl (u_21.2.2.1 0))), (q_22, .inr (1, [.int (-1), .int 1, .ref q_5])), (q_24, .inr (5, [.null, .int 0, .int 0, .null, .int 0, .null]))] := hD
  refine W.widen (k := 75) (n := 2195) (Nat.le_of_ble_eq_true rfl) (Nat.le_of_ble_eq_true rfl) ?_
  refine lv_dup hx hb dX11_init_116 rfl ?_
  refine lv_aload_n hx hb dX11_init_117 rfl (lv_at hl 1 rfl) ?_
  refine va_get (D := D) (ci := 11) (v := .ref q_5) (C := RX11) (T := TX11) (N := 11) hx hb hts inX11 hown hKN.1 hP 0 rfl rfl 2 (by decide) (hts _ tw_467) (fun _ h9 => h9) rfl dX11_init_118 ?_
  refine cmIv (rest := [.ref q_24, .ref h0]) (wsC := [(q_24, .inr (5, [.null, .int 0, .int 0, .null, .int 0, .null]))]) (wr := [(h0, .inr (11, [.ref q_1, .ref q_3, .ref q_5, .ref q_7, .ref q_9, .ref q_20, .ref q_22, .null, .null, .null, .null])), (q_1, .inr (9, [.ref (u_2.1 0), .int 0])), ((u_2.1 0), .inl (cA 0, 800, .inl (fun _ => 0))), (q_3, .inr (6, [.ref (u_4.1 0), .int 0, .int (-1), .ref q_1, .int 0, .int 0, .int 0, .int 0, .int 0, .int 0, .int 0, .int 0, .ref (u_4.1 9)])), ((u_4.1 0), .inr (3, [.int 0, .int 0, .int 0, .int 0, .int 0, .int 0, .int 0, .int 0, .ref (u_4.1 1), .ref (u_4.1 2), .ref (u_4.1 3), .ref (u_4.1 4), .ref (u_4.1 5), .ref (u_4.1 6), .ref (u_4.1 7), .ref (u_4.1 8)])), ((u_4.1 1), .inl (cA 1, 8, .inl (fun _ => 0))), ((u_4.1 2), .inl (cA 1, 8, .inl (fun _ => 0))), ((u_4.1 3), .inl (cA 1, 8, .inl (fun _ => 0))), ((u_4.1 4), .inl (cA 1, 7, .inl (fun _ => 0))), ((u_4.1 5), .inl (cA 1, 7, .inl (fun _ => 0))), ((u_4.1 6), .inl (cA 1, 7, .inl (fun _ => 0))), ((u_4.1 7), .inl (cA 1, 4, .inl (fun _ => 0))), ((u_4.1 8), .inl (cA 1, 4, .inl (fun _ => 0))), ((u_4.1 9), .inl (cA 1, 3, .inl (fun _ => 0))), (q_5, .inr (3, [.int 0, .int 0, .int 0, .int 0, .int 0, .int 0, .int 0, .int 0, .ref (u_6.1 0), .ref (u_6.1 1), .ref (u_6.1 2), .ref (u_6.1 3), .ref (u_6.1 4), .ref (u_6.1 5), .ref (u_6.1 6), .ref (u_6.1 7)])), ((u_6.1 0), .inl (cA 1, 8, .inl (fun _ => 0))), ((u_6.1 1), .inl (cA 1, 8, .inl (fun _ => 0))), ((u_6.1 2), .inl (cA 1, 8, .inl (fun _ => 0))), ((u_6.1 3), .inl (cA 1, 7, .inl (fun _ => 0))), ((u_6.1 4), .inl (cA 1, 7, .inl (fun _ => 0))), ((u_6.1 5), .inl (cA 1, 7, .inl (fun _ => 0))), ((u_6.1 6), .inl (cA 1, 4, .inl (fun _ => 0))), ((u_6.1 7), .inl (cA 1, 4, .inl (fun _ => 0))), (q_7, .inr (2, [.int (-1), .int (-1), .int 0, .int 0, .int 0, .int 0, .int 0, .ref (u_8.1 0), .ref (u_8.1 1), .ref (u_8.1 2)])), ((u_8.1 0), .inl (cA 1, 60, .inl (fun _ => 0))), ((u_8.1 1), .inl (cA 1, 60, .inl (fun _ => 0))), ((u_8.1 2), .inl (cA 1, 60, .inl (fun _ => 0))), (q_9, .inl (cA 4, 3, .inr (.inr (.inr (.inr (va_up (va_up (va_up (fun _ => none) 0 (some q_11)) 1 (some q_14)) 2 (some q_17))))))), (q_11, .inr (4, [.ref (u_12.1 0), .ref (u_12.1 9), .int 0])), ((u_12.1 0), .inr (3, [.int 0, .int 0, .int 0, .int 0, .int 0, .int 0, .int 0, .int 0, .ref (u_12.1 1), .ref (u_12.1 2), .ref (u_12.1 3), .ref (u_12.1 4), .ref (u_12.1 5), .ref (u_12.1 6), .ref (u_12.1 7), .ref (u_12.1 8)])), ((u_12.1 1), .inl (cA 1, 8, .inl (fun _ => 0))), ((u_12.1 2), .inl (cA 1, 8, .inl (fun _ => 0))), ((u_12.1 3), .inl (cA 1, 8, .inl (fun _ => 0))), ((u_12.1 4), .inl (cA 1, 7, .inl (fun _ => 0))), ((u_12.1 5), .inl (cA 1, 7, .inl (fun _ => 0))), ((u_12.1 6), .inl (cA 1, 7, .inl (fun _ => 0))), ((u_12.1 7), .inl (cA 1, 4, .inl (fun _ => 0))), ((u_12.1 8), .inl (cA 1, 4, .inl (fun _ => 0))), ((u_12.1 9), .inr (2, [.int (-1), .int (-1), .int 0, .int 0, .int 0, .int 0, .int 0, .ref (u_12.1 10), .ref (u_12.1 11), .ref (u_12.1 12)])), ((u_12.1 10), .inl (cA 1, 60, .inl (fun _ => 0))), ((u_12.1 11), .inl (cA 1, 60, .inl (fun _ => 0))), ((u_12.1 12), .inl (cA 1, 60, .inl (fun _ => 0))), (q_14, .inr (4, [.ref (u_15.1 0), .ref (u_15.1 9), .int 0])), ((u_15.1 0), .inr (3, [.int 0, .int 0, .int 0, .int 0, .int 0, .int 0, .int 0, .int 0, .ref (u_15.1 1), .ref (u_15.1 2), .ref (u_15.1 3), .ref (u_15.1 4), .ref (u_15.1 5), .ref (u_15.1 6), .ref (u_15.1 7), .ref (u_15.1 8)])), ((u_15.1 1), .inl (cA 1, 8, .inl (fun _ => 0))), ((u_15.1 2), .inl (cA 1, 8, .inl (fun _ => 0))), ((u_15.1 3), .inl (cA 1, 8, .inl (fun _ => 0))), ((u_15.1 4), .inl (cA 1, 7, .inl (fun _ => 0))), ((u_15.1 5), .inl (cA 1, 7, .inl (fun _ => 0))), ((u_15.1 6), .inl (cA 1, 7, .inl (fun _ => 0))), ((u_15.1 7), .inl (cA 1, 4, .inl (fun _ => 0))), ((u_15.1 8), .inl (cA 1, 4, .inl (fun _ => 0))), ((u_15.1 9), .inr (2, [.int (-1), .int (-1), .int 0, .int 0, .int 0, .int 0, .int 0, .ref (u_15.1 10), .ref (u_15.1 11), .ref (u_15.1 12)])), ((u_15.1 10), .inl (cA 1, 60, .inl (fun _ => 0))), ((u_15.1 11), .inl (cA 1, 60, .inl (fun _ => 0))), ((u_15.1 12), .inl (cA 1, 60, .inl (fun _ => 0))), (q_17, .inr (4, [.ref (u_18.1 0), .ref (u_18.1 9), .int 0])), ((u_18.1 0), .inr (3, [.int 0, .int 0, .int 0, .int 0, .int 0, .int 0, .int 0, .int 0, .ref (u_18.1 1), .ref (u_18.1 2), .ref (u_18.1 3), .ref (u_18.1 4), .ref (u_18.1 5), .ref (u_18.1 6), .ref (u_18.1 7), .ref (u_18.1 8)])), ((u_18.1 1), .inl (cA 1, 8, .inl (fun _ => 0))), ((u_18.1 2), .inl (cA 1, 8, .inl (fun _ => 0))), ((u_18.1 3), .inl (cA 1, 8, .inl (fun _ => 0))), ((u_18.1 4), .inl (cA 1, 7, .inl (fun _ => 0))), ((u_18.1 5), .inl (cA 1, 7, .inl (fun _ => 0))), ((u_18.1 6), .inl (cA 1, 7, .inl (fun _ => 0))), ((u_18.1 7), .inl (cA 1, 4, .inl (fun _ => 0))), ((u_18.1 8), .inl (cA 1, 4, .inl (fun _ => 0))), ((u_18.1 9), .inr (2, [.int (-1), .int (-1), .int 0, .int 0, .int 0, .int 0, .int 0, .ref (u_18.1 10), .ref (u_18.1 11), .ref (u_18.1 12)])), ((u_18.1 10), .inl (cA 1, 60, .inl (fun _ => 0))), ((u_18.1 11), .inl (cA 1, 60, .inl (fun _ => 0))), ((u_18.1 12), .inl (cA 1, 60, .inl (fun _ => 0))), (q_20, .inr (7, [.ref (u_21.1 2), .ref (u_21.1 0), .ref (u_21.1 1)])), ((u_21.1 0), .inl (cA 1, 4, .inl (fun _ => 0))), ((u_21.1 1), .inl (cA 2, 240, .inr (.inl (fun _ => 0)))), ((u_21.1 2), .inl (cA 1, 4, .inl (u_21.2.2.1 0))), (q_22, .inr (1, [.int (-1), .int 1, .ref q_5]))]) ⟨hx, hb, hml, hown, hts⟩ hKN hP hD hS hA [75] [0, 1, 2, 3, 4, 5, 6, 7, 8, 9, 10, 11, 12, 13, 14, 15, 16, 17, 18, 19, 20, 21, 22, 23, 24, 25, 26, 27, 28, 29, 30, 31, 32, 33, 34, 35, 36, 37, 38, 39, 40, 41, 42, 43, 44, 45, 46, 47, 48, 49, 50, 51, 52, 53, 54, 55, 56, 57, 58, 59, 60, 61, 62, 63, 64, 65, 66, 67, 68, 69, 70, 71, 72, 73, 74] rfl rfl (by decide) (by decide) (by decide) (k_X5_init l D cA _ q_24 q_5) ⟨tw_373, tw_374, tw_110, tw_375⟩ hdX5_init ⟨rfl, rfl, Nat.le_of_ble_eq_true rfl, Nat.le_of_ble_eq_true rfl⟩ ⟨Nat.le_of_ble_eq_true rfl, Nat.le_of_ble_eq_true rfl⟩ rfl hl.1 rfl (Nat.le_of_ble_eq_true rfl) dX11_init_121 (fun u_25 H locs hr_25 hP hD hS => ?_)
  have hP : va_P D vwCl [(h0, .inr (11, [.ref q_1, .ref q_3, .ref q_5, .ref q_7, .ref q_9, .ref q_20, .ref q_22, .null, .null, .null, .null])), (q_1, .inr (9, [.ref (u_2.1 0), .int 0])), ((u_2.1 0), .inl (cA 0, 800, .inl (fun _ => 0))), (q_3, .inr (6, [.ref (u_4.1 0), .int 0, .int (-1), .ref q_1, .int 0, .int 0, .int 0, .int 0, .int 0, .int 0, .int 0, .int 0, .ref (u_4.1 9)])), ((u_4.1 0), .inr (3, [.int 0, .int 0, .int 0, .int 0, .int 0, .int 0, .int 0, .int 0, .ref (u_4.1 1), .ref (u_4.1 2), .ref (u_4.1 3), .ref (u_4.1 4), .ref (u_4.1 5), .ref (u_4.1 6), .ref (u_4.1 7), .ref (u_4.1 8)])), ((u_4.1 1), .inl (cA 1, 8, .inl (fun _ => 0))), ((u_4.1 2), .inl (cA 1, 8, .inl (fun _ => 0))), ((u_4.1 3), .inl (cA 1, 8, .inl (fun _ => 0))), ((u_4.1 4), .inl (cA 1, 7, .inl (fun _ => 0))), ((u_4.1 5), .inl (cA 1, 7, .inl (fun _ => 0))), ((u_4.1 6), .inl (cA 1, 7, .inl (fun _ => 0))), ((u_4.1 7), .inl (cA 1, 4, .inl (fun _ => 0))), ((u_4.1 8), .inl (cA 1, 4, .inl (fun _ => 0))), ((u_4.1 9), .inl (cA 1, 3, .inl (fun _ => 0))), (q_5, .inr (3, [.int 0, .int 0, .int 0, .int 0, .int 0, .int 0, .int 0, .int 0, .ref (u_6.1 0), .ref (u_6.1 1), .ref (u_6.1 2), .ref (u_6.1 3), .ref (u_6.1 4), .ref (u_6.1 5), .ref (u_6.1 6), .ref (u_6.1 7)])), ((u_6.1 0), .inl (cA 1, 8, .inl (fun _ => 0))), ((u_6.1 1), .inl (cA 1, 8, .inl (fun _ => 0))), ((u_6.1 2), .inl (cA 1, 8, .inl (fun _ => 0))), ((u_6.1 3), .inl (cA 1, 7, .inl (fun _ => 0))), ((u_6.1 4), .inl (cA 1, 7, .inl (fun _ => 0))), ((u_6.1 5), .inl (cA 1, 7, .inl (fun _ => 0))), ((u_6.1 6), .inl (cA 1, 4, .inl (fun _ => 0))), ((u_6.1 7), .inl (cA 1, 4, .inl (fun _ => 0))), (q_7, .inr (2, [.int (-1), .int (-1), .int 0, .int 0, .int 0, .int 0, .int 0, .ref (u_8.1 0), .ref (u_8.1 1), .ref (u_8.1 2)])), ((u_8.1 0), .inl (cA 1, 60, .inl (fun _ => 0))), ((u_8.1 1), .inl (cA 1, 60, .inl (fun _ => 0))), ((u_8.1 2), .inl (cA 1, 60, .inl (fun _ => 0))), (q_9, .inl (cA 4, 3, .inr (.inr (.inr (.inr (va_up (va_up (va_up (fun _ => none) 0 (some q_11)) 1 (some q_14)) 2 (some q_17))))))), (q_11, .inr (4, [.ref (u_12.1 0), .ref (u_12.1 9), .int 0])), ((u_12.1 0), .inr (3, [.int 0, .int 0, .int 0, .int 0, .int 0, .int 0, .int 0, .int 0, .ref (u_12.1 1), .ref (u_12.1 2), .ref (u_12.1 3), .ref (u_12.1 4), .ref (u_12.1 5), .ref (u_12.1 6), .ref (u_12.1 7), .ref (u_12.1 8)])), ((u_12.1 1), .inl (cA 1, 8, .inl (fun _ => 0))), ((u_12.1 2), .inl (cA 1, 8, .inl (fun _ => 0))), ((u_12.1 3), .inl (cA 1, 8, .inl (fun _ => 0))), ((u_12.1 4), .inl (cA 1, 7, .inl (fun _ => 0))), ((u_12.1 5), .inl (cA 1, 7, .inl (fun _ => 0))), ((u_12.1 6), .inl (cA 1, 7, .inl (fun _ => 0))), ((u_12.1 7), .inl (cA 1, 4, .inl (fun _ => 0))), ((u_12.1 8), .inl (cA 1, 4, .inl (fun _ => 0))), ((u_12.1 9), .inr (2, [.int (-1), .int (-1), .int 0, .int 0, .int 0, .int 0, .int 0, .ref (u_12.1 10), .ref (u_12.1 11), .ref (u_12.1 12)])), ((u_12.1 10), .inl (cA 1, 60, .inl (fun _ => 0))), ((u_12.1 11), .inl (cA 1, 60, .inl (fun _ => 0))), ((u_12.1 12), .inl (cA 1, 60, .inl (fun _ => 0))), (q_14, .inr (4, [.ref (u_15.1 0), .ref (u_15.1 9), .int 0])), ((u_15.1 0), .inr (3, [.int 0, .int 0, .int 0, .int 0, .int 0, .int 0, .int 0, .int 0, .ref (u_15.1 1), .ref (u_15.1 2), .ref (u_15.1 3), .ref (u_15.1 4), .ref (u_15.1 5), .ref (u_15.1 6), .ref (u_15.1 7), .ref (u_15.1 8)])), ((u_15.1 1), .inl (cA 1, 8, .inl (fun _ => 0))), ((u_15.1 2), .inl (cA 1, 8, .inl (fun _ => 0))), ((u_15.1 3), .inl (cA 1, 8, .inl (fun _ => 0))), ((u_15.1 4), .inl (cA 1, 7, .inl (fun _ => 0))), ((u_15.1 5), .inl (cA 1, 7, .inl (fun _ => 0))), ((u_15.1 6), .inl (cA 1, 7, .inl (fun _ => 0))), ((u_15.1 7), .inl (cA 1, 4, .inl (fun _ => 0))), ((u_15.1 8), .inl (cA 1, 4, .inl (fun _ => 0))), ((u_15.1 9), .inr (2, [.int (-1), .int (-1), .int 0, .int 0, .int 0, .int 0, .int 0, .ref (u_15.1 10), .ref (u_15.1 11), .ref (u_15.1 12)])), ((u_15.1 10), .inl (cA 1, 60, .inl (fun _ => 0))), ((u_15.1 11), .inl (cA 1, 60, .inl (fun _ => 0))), ((u_15.1 12), .inl (cA 1, 60, .inl (fun _ => 0))), (q_17, .inr (4, [.ref (u_18.1 0), .ref (u_18.1 9), .int 0])), ((u_18.1 0), .inr (3, [.int 0, .int 0, .int 0, .int 0, .int 0, .int 0, .int 0, .int 0, .ref (u_18.1 1), .ref (u_18.1 2), .ref (u_18.1 3), .ref (u_18.1 4), .ref (u_18.1 5), .ref (u_18.1 6), .ref (u_18.1 7), .ref (u_18.1 8)])), ((u_18.1 1), .inl (cA 1, 8, .inl (fun _ => 0))), ((u_18.1 2), .inl (cA 1, 8, .inl (fun _ => 0))), ((u_18.1 3), .inl (cA 1, 8, .inl (fun _ => 0))), ((u_18.1 4), .inl (cA 1, 7, .inl (fun _ => 0))), ((u_18.1 5), .inl (cA 1, 7, .inl (fun _ => 0))), ((u_18.1 6), .inl (cA 1, 7, .inl (fun _ => 0))), ((u_18.1 7), .inl (cA 1, 4, .inl (fun _ => 0))), ((u_18.1 8), .inl (cA 1, 4, .inl (fun _ => 0))), ((u_18.1 9), .inr (2, [.int (-1), .int (-1), .int 0, .int 0, .int 0, .int 0, .int 0, .ref (u_18.1 10), .ref (u_18.1 11), .ref (u_18.1 12)])), ((u_18.1 10), .inl (cA 1, 60, .inl (fun _ => 0))), ((u_18.1 11), .inl (cA 1, 60, .inl (fun _ => 0))), ((u_18.1 12), .inl (cA 1, 60, .inl (fun _ => 0))), (q_20, .inr (7, [.ref (u_21.1 2), .ref (u_21.1 0), .ref (u_21.1 1)])), ((u_21.1 0), .inl (cA 1, 4, .inl (fun _ => 0))), ((u_21.1 1), .inl (cA 2, 240, .inr (.inl (fun _ => 0)))), ((u_21.1 2), .inl (cA 1, 4, .inl (u_21.2.2.1 0))), (q_22, .inr (1, [.int (-1), .int 1, .ref q_5])), (q_24, .inr (5, [.ref (u_25.1 0), .int 0, .int 0, .ref (u_25.1 1), .int 0, .ref q_5])), ((u_25.1 0), .inl (cA 1, 8, .inl (fun _ => 0))), ((u_25.1 1), .inl (cA 1, 8, .inl (fun _ => 0)))] H := hP
  have hD : va_D A [(h0, .inr (11, [.ref q_1, .ref q_3, .ref q_5, .ref q_7, .ref q_9, .ref q_20, .ref q_22, .null, .null, .null, .null])), (q_1, .inr (9, [.ref (u_2.1 0), .int 0])), ((u_2.1 0), .inl (cA 0, 800, .inl (fun _ => 0))), (q_3, .inr (6, [.ref (u_4.1 0), .int 0, .int (-1), .ref q_1, .int 0, .int 0, .int 0, .int 0, .int 0, .int 0, .int 0, .int 0, .ref (u_4.1 9)])), ((u_4.1 0), .inr (3, [.int 0, .int 0, .int 0, .int 0, .int 0, .int 0, .int 0, .int 0, .ref (u_4.1 1), .ref (u_4.1 2), .ref (u_4.1 3), .ref (u_4.1 4), .ref (u_4.1 5), .ref (u_4.1 6), .ref (u_4.1 7), .ref (u_4.1 8)])), ((u_4.1 1), .inl (cA 1, 8, .inl (fun _ => 0))), ((u_4.1 2), .inl (cA 1, 8, .inl (fun _ => 0))), ((u_4.1 3), .inl (cA 1, 8, .inl (fun _ => 0))), ((u_4.1 4), .inl (cA 1, 7, .inl (fun _ => 0))), ((u_4.1 5), .inl (cA 1, 7, .inl (fun _ => 0))), ((u_4.1 6), .inl (cA 1, 7, .inl (fun _ => 0))), ((u_4.1 7), .inl (cA 1, 4, .inl (fun _ => 0))), ((u_4.1 8), .inl (cA 1, 4, .inl (fun _ => 0))), ((u_4.1 9), .inl (cA 1, 3, .inl (fun _ => 0))), (q_5, .inr (3, [.int 0, .int 0, .int 0, .int 0, .int 0, .int 0, .int 0, .int 0, .ref (u_6.1 0), .ref (u_6.1 1), .ref (u_6.1 2), .ref (u_6.1 3), .ref (u_6.1 4), .ref (u_6.1 5), .ref (u_6.1 6), .ref (u_6.1 7)])), ((u_6.1 0), .inl (cA 1, 8, .inl (fun _ => 0))), ((u_6.1 1), .inl (cA 1, 8, .inl (fun _ => 0))), ((u_6.1 2), .inl (cA 1, 8, .inl (fun _ => 0))), ((u_6.1 3), .inl (cA 1, 7, .inl (fun _ => 0))), ((u_6.1 4), .inl (cA 1, 7, .inl (fun _ => 0))), ((u_6.1 5), .inl (cA 1, 7, .inl (fun _ => 0))), ((u_6.1 6), .inl (cA 1, 4, .inl (fun _ => 0))), ((u_6.1 7), .inl (cA 1, 4, .inl (fun _ => 0))), (q_7, .inr (2, [.int (-1), .int (-1), .int 0, .int 0, .int 0, .int 0, .int 0, .ref (u_8.1 0), .ref (u_8.1 1), .ref (u_8.1 2)])), ((u_8.1 0), .inl (cA 1, 60, .inl (fun _ => 0))), ((u_8.1 1), .inl (cA 1, 60, .inl (fun _ => 0))), ((u_8.1 2), .inl (cA 1, 60, .inl (fun _ => 0))), (q_9, .inl (cA 4, 3, .inr (.inr (.inr (.inr (va_up (va_up (va_up (fun _ => none) 0 (some q_11)) 1 (some q_14)) 2 (some q_17))))))), (q_11, .inr (4, [.ref (u_12.1 0), .ref (u_12.1 9), .int 0])), ((u_12.1 0), .inr (3, [.int 0, .int 0, .int 0, .int 0, .int 0, .int 0, .int 0, .int 0, .ref (u_12.1 1), .ref (u_12.1 2), .ref (u_12.1 3), .ref (u_12.1 4), .ref (u_12.1 5), .ref (u_12.1 6), .ref (u_12.1 7), .ref (u_12.1 8)])), ((u_12.1 1), .inl (cA 1, 8, .inl (fun _ => 0))), ((u_12.1 2), .inl (cA 1, 8, .inl (fun _ => 0))), ((u_12.1 3), .inl (cA 1, 8, .inl (fun _ => 0))), ((u_12.1 4), .inl (cA 1, 7, .inl (fun _ => 0))), ((u_12.1 5), .inl (cA 1, 7, .inl (fun _ => 0))), ((u_12.1 6), .inl (cA 1, 7, .inl (fun _ => 0))), ((u_12.1 7), .inl (cA 1, 4, .inl (fun _ => 0))), ((u_12.1 8), .inl (cA 1, 4, .inl (fun _ => 0))), ((u_12.1 9), .inr (2, [.int (-1), .int (-1), .int 0, .int 0, .int 0, .int 0, .int 0, .ref (u_12.1 10), .ref (u_12.1 11), .ref (u_12.1 12)])), ((u_12.1 10), .inl (cA 1, 60, .inl (fun _ => 0))), ((u_12.1 11), .inl (cA 1, 60, .inl (fun _ => 0))), ((u_12.1 12), .inl (cA 1, 60, .inl (fun _ => 0))), (q_14, .inr (4, [.ref (u_15.1 0), .ref (u_15.1 9), .int 0])), ((u_15.1 0), .inr (3, [.int 0, .int 0, .int 0, .int 0, .int 0, .int 0, .int 0, .int 0, .ref (u_15.1 1), .ref (u_15.1 2), .ref (u_15.1 3), .ref (u_15.1 4), .ref (u_15.1 5), .ref (u_15.1 6), .ref (u_15.1 7), .ref (u_15.1 8)])), ((u_15.1 1), .inl (cA 1, 8, .inl (fun _ => 0))), ((u_15.1 2), .inl (cA 1, 8, .inl (fun _ => 0))), ((u_15.1 3), .inl (cA 1, 8, .inl (fun _ => 0))), ((u_15.1 4), .inl (cA 1, 7, .inl (fun _ => 0))), ((u_15.1 5), .inl (cA 1, 7, .inl (fun _ => 0))), ((u_15.1 6), .inl (cA 1, 7, .inl (fun _ => 0))), ((u_15.1 7), .inl (cA 1, 4, .inl (fun _ => 0))), ((u_15.1 8), .inl (cA 1, 4, .inl (fun _ => 0))), ((u_15.1 9), .inr (2, [.int (-1), .int (-1), .int 0, .int 0, .int 0, .int 0, .int 0, .ref (u_15.1 10), .ref (u_15.1 11), .ref (u_15.1 12)])), ((u_15.1 10), .inl (cA 1, 60, .inl (fun _ => 0))), ((u_15.1 11), .inl (cA 1, 60, .inl (fun _ => 0))), ((u_15.1 12), .inl (cA 1, 60, .inl (fun _ => 0))), (q_17, .inr (4, [.ref (u_18.1 0), .ref (u_18.1 9), .int 0])), ((u_18.1 0), .inr (3, [.int 0, .int 0, .int 0, .int 0, .int 0, .int 0, .int 0, .int 0, .ref (u_18.1 1), .ref (u_18.1 2), .ref (u_18.1 3), .ref (u_18.1 4), .ref (u_18.1 5), .ref (u_18.1 6), .ref (u_18.1 7), .ref (u_18.1 8)])), ((u_18.1 1), .inl (cA 1, 8, .inl (fun _ => 0))), ((u_18.1 2), .inl (cA 1, 8, .inl (fun _ => 0))), ((u_18.1 3), .inl (cA 1, 8, .inl (fun _ => 0))), ((u_18.1 4), .inl (cA 1, 7, .inl (fun _ => 0))), ((u_18.1 5), .inl (cA 1, 7, .inl (fun _ => 0))), ((u_18.1 6), .inl (cA 1, 7, .inl (fun _ => 0))), ((u_18.1 7), .inl (cA 1, 4, .inl (fun _ => 0))), ((u_18.1 8), .inl (cA 1, 4, .inl (fun _ => 0))), ((u_18.1 9), .inr (2, [.int (-1), .int (-1), .int 0, .int 0, .int 0, .int 0, .int 0, .ref (u_18.1 10), .ref (u_18.1 11), .ref (u_18.1 12)])), ((u_18.1 10), .inl (cA 1, 60, .inl (fun _ => 0))), ((u_18.1 11), .inl (cA 1, 60, .inl (fun _ => 0))), ((u_18.1 12), .inl (cA 1, 60, .inl (fun _ => 0))), (q_20, .inr (7, [.ref (u_21.1 2), .ref (u_21.1 0), .ref (u_21.1 1)])), ((u_21.1 0), .inl (cA 1, 4, .inl (fun _ => 0))), ((u_21.1 1), .inl (cA 2, 240, .inr (.inl (fun _ => 0)))), ((u_21.1 2), .inl (cA 1, 4, .inl (u_21.2.2.1 0))), (q_22, .inr (1, [.int (-1), .int 1, .ref q_5])), (q_24, .inr (5, [.ref (u_25.1 0), .int 0, .int 0, .ref (u_25.1 1), .int 0, .ref q_5])), ((u_25.1 0), .inl (cA 1, 8, .inl (fun _ => 0))), ((u_25.1 1), .inl (cA 1, 8, .inl (fun _ => 0)))] := hD
  refine W.widen (k := 77) (n := 2211) (Nat.le_of_ble_eq_true rfl) (Nat.le_of_ble_eq_true rfl) ?_
  refine va_putF (D := D) (ci := 11) (v := .ref q_24) (ty := (.object "WristTreaty$Pairing")) (C := RX11) (T := TX11) (N := 11) hx hb hts inX11 tyX11 tyX11_ok nmX11 hown hKN.1 hP hD hS 0 rfl rfl 7 (by decide) (hts _ tw_472) (fun _ h9 => h9) rfl hin rfl (by decide +kernel) rfl rfl (Nat.le_of_ble_eq_true rfl) dX11_init_124 (fun H locs hP hD hS => ?_)
  have hP : va_P D vwCl [(h0, .inr (11, [.ref q_1, .ref q_3, .ref q_5, .ref q_7, .ref q_9, .ref q_20, .ref q_22, .ref q_24, .null, .null, .null])), (q_1, .inr (9, [.ref (u_2.1 0), .int 0])), ((u_2.1 0), .inl (cA 0, 800, .inl (fun _ => 0))), (q_3, .inr (6, [.ref (u_4.1 0), .int 0, .int (-1), .ref q_1, .int 0, .int 0, .int 0, .int 0, .int 0, .int 0, .int 0, .int 0, .ref (u_4.1 9)])), ((u_4.1 0), .inr (3, [.int 0, .int 0, .int 0, .int 0, .int 0, .int 0, .int 0, .int 0, .ref (u_4.1 1), .ref (u_4.1 2), .ref (u_4.1 3), .ref (u_4.1 4), .ref (u_4.1 5), .ref (u_4.1 6), .ref (u_4.1 7), .ref (u_4.1 8)])), ((u_4.1 1), .inl (cA 1, 8, .inl (fun _ => 0))), ((u_4.1 2), .inl (cA 1, 8, .inl (fun _ => 0))), ((u_4.1 3), .inl (cA 1, 8, .inl (fun _ => 0))), ((u_4.1 4), .inl (cA 1, 7, .inl (fun _ => 0))), ((u_4.1 5), .inl (cA 1, 7, .inl (fun _ => 0))), ((u_4.1 6), .inl (cA 1, 7, .inl (fun _ => 0))), ((u_4.1 7), .inl (cA 1, 4, .inl (fun _ => 0))), ((u_4.1 8), .inl (cA 1, 4, .inl (fun _ => 0))), ((u_4.1 9), .inl (cA 1, 3, .inl (fun _ => 0))), (q_5, .inr (3, [.int 0, .int 0, .int 0, .int 0, .int 0, .int 0, .int 0, .int 0, .ref (u_6.1 0), .ref (u_6.1 1), .ref (u_6.1 2), .ref (u_6.1 3), .ref (u_6.1 4), .ref (u_6.1 5), .ref (u_6.1 6), .ref (u_6.1 7)])), ((u_6.1 0), .inl (cA 1, 8, .inl (fun _ => 0))), ((u_6.1 1), .inl (cA 1, 8, .inl (fun _ => 0))), ((u_6.1 2), .inl (cA 1, 8, .inl (fun _ => 0))), ((u_6.1 3), .inl (cA 1, 7, .inl (fun _ => 0))), ((u_6.1 4), .inl (cA 1, 7, .inl (fun _ => 0))), ((u_6.1 5), .inl (cA 1, 7, .inl (fun _ => 0))), ((u_6.1 6), .inl (cA 1, 4, .inl (fun _ => 0))), ((u_6.1 7), .inl (cA 1, 4, .inl (fun _ => 0))), (q_7, .inr (2, [.int (-1), .int (-1), .int 0, .int 0, .int 0, .int 0, .int 0, .ref (u_8.1 0), .ref (u_8.1 1), .ref (u_8.1 2)])), ((u_8.1 0), .inl (cA 1, 60, .inl (fun _ => 0))), ((u_8.1 1), .inl (cA 1, 60, .inl (fun _ => 0))), ((u_8.1 2), .inl (cA 1, 60, .inl (fun _ => 0))), (q_9, .inl (cA 4, 3, .inr (.inr (.inr (.inr (va_up (va_up (va_up (fun _ => none) 0 (some q_11)) 1 (some q_14)) 2 (some q_17))))))), (q_11, .inr (4, [.ref (u_12.1 0), .ref (u_12.1 9), .int 0])), ((u_12.1 0), .inr (3, [.int 0, .int 0, .int 0, .int 0, .int 0, .int 0, .int 0, .int 0, .ref (u_12.1 1), .ref (u_12.1 2), .ref (u_12.1 3), .ref (u_12.1 4), .ref (u_12.1 5), .ref (u_12.1 6), .ref (u_12.1 7), .ref (u_12.1 8)])), ((u_12.1 1), .inl (cA 1, 8, .inl (fun _ => 0))), ((u_12.1 2), .inl (cA 1, 8, .inl (fun _ => 0))), ((u_12.1 3), .inl (cA 1, 8, .inl (fun _ => 0))), ((u_12.1 4), .inl (cA 1, 7, .inl (fun _ => 0))), ((u_12.1 5), .inl (cA 1, 7, .inl (fun _ => 0))), ((u_12.1 6), .inl (cA 1, 7, .inl (fun _ => 0))), ((u_12.1 7), .inl (cA 1, 4, .inl (fun _ => 0))), ((u_12.1 8), .inl (cA 1, 4, .inl (fun _ => 0))), ((u_12.1 9), .inr (2, [.int (-1), .int (-1), .int 0, .int 0, .int 0, .int 0, .int 0, .ref (u_12.1 10), .ref (u_12.1 11), .ref (u_12.1 12)])), ((u_12.1 10), .inl (cA 1, 60, .inl (fun _ => 0))), ((u_12.1 11), .inl (cA 1, 60, .inl (fun _ => 0))), ((u_12.1 12), .inl (cA 1, 60, .inl (fun _ => 0))), (q_14, .inr (4, [.ref (u_15.1 0), .ref (u_15.1 9), .int 0])), ((u_15.1 0), .inr (3, [.int 0, .int 0, .int 0, .int 0, .int 0, .int 0, .int 0, .int 0, .ref (u_15.1 1), .ref (u_15.1 2), .ref (u_15.1 3), .ref (u_15.1 4), .ref (u_15.1 5), .ref (u_15.1 6), .ref (u_15.1 7), .ref (u_15.1 8)])), ((u_15.1 1), .inl (cA 1, 8, .inl (fun _ => 0))), ((u_15.1 2), .inl (cA 1, 8, .inl (fun _ => 0))), ((u_15.1 3), .inl (cA 1, 8, .inl (fun _ => 0))), ((u_15.1 4), .inl (cA 1, 7, .inl (fun _ => 0))), ((u_15.1 5), .inl (cA 1, 7, .inl (fun _ => 0))), ((u_15.1 6), .inl (cA 1, 7, .inl (fun _ => 0))), ((u_15.1 7), .inl (cA 1, 4, .inl (fun _ => 0))), ((u_15.1 8), .inl (cA 1, 4, .inl (fun _ => 0))), ((u_15.1 9), .inr (2, [.int (-1), .int (-1), .int 0, .int 0, .int 0, .int 0, .int 0, .ref (u_15.1 10), .ref (u_15.1 11), .ref (u_15.1 12)])), ((u_15.1 10), .inl (cA 1, 60, .inl (fun _ => 0))), ((u_15.1 11), .inl (cA 1, 60, .inl (fun _ => 0))), ((u_15.1 12), .inl (cA 1, 60, .inl (fun _ => 0))), (q_17, .inr (4, [.ref (u_18.1 0), .ref (u_18.1 9), .int 0])), ((u_18.1 0), .inr (3, [.int 0, .int 0, .int 0, .int 0, .int 0, .int 0, .int 0, .int 0, .ref (u_18.1 1), .ref (u_18.1 2), .ref (u_18.1 3), .ref (u_18.1 4), .ref (u_18.1 5), .ref (u_18.1 6), .ref (u_18.1 7), .ref (u_18.1 8)])), ((u_18.1 1), .inl (cA 1, 8, .inl (fun _ => 0))), ((u_18.1 2), .inl (cA 1, 8, .inl (fun _ => 0))), ((u_18.1 3), .inl (cA 1, 8, .inl (fun _ => 0))), ((u_18.1 4), .inl (cA 1, 7, .inl (fun _ => 0))), ((u_18.1 5), .inl (cA 1, 7, .inl (fun _ => 0))), ((u_18.1 6), .inl (cA 1, 7, .inl (fun _ => 0))), ((u_18.1 7), .inl (cA 1, 4, .inl (fun _ => 0))), ((u_18.1 8), .inl (cA 1, 4, .inl (fun _ => 0))), ((u_18.1 9), .inr (2, [.int (-1), .int (-1), .int 0, .int 0, .int 0, .int 0, .int 0, .ref (u_18.1 10), .ref (u_18.1 11), .ref (u_18.1 12)])), ((u_18.1 10), .inl (cA 1, 60, .inl (fun _ => 0))), ((u_18.1 11), .inl (cA 1, 60, .inl (fun _ => 0))), ((u_18.1 12), .inl (cA 1, 60, .inl (fun _ => 0))), (q_20, .inr (7, [.ref (u_21.1 2), .ref (u_21.1 0), .ref (u_21.1 1)])), ((u_21.1 0), .inl (cA 1, 4, .inl (fun _ => 0))), ((u_21.1 1), .inl (cA 2, 240, .inr (.inl (fun _ => 0)))), ((u_21.1 2), .inl (cA 1, 4, .inl (u_21.2.2.1 0))), (q_22, .inr (1, [.int (-1), .int 1, .ref q_5])), (q_24, .inr (5, [.ref (u_25.1 0), .int 0, .int 0, .ref (u_25.1 1), .int 0, .ref q_5])), ((u_25.1 0), .inl (cA 1, 8, .inl (fun _ => 0))), ((u_25.1 1), .inl (cA 1, 8, .inl (fun _ => 0)))] H := hP
  have hD : va_D A [(h0, .inr (11, [.ref q_1, .ref q_3, .ref q_5, .ref q_7, .ref q_9, .ref q_20, .ref q_22, .ref q_24, .null, .null, .null])), (q_1, .inr (9, [.ref (u_2.1 0), .int 0])), ((u_2.1 0), .inl (cA 0, 800, .inl (fun _ => 0))), (q_3, .inr (6, [.ref (u_4.1 0), .int 0, .int (-1), .ref q_1, .int 0, .int 0, .int 0, .int 0, .int 0, .int 0, .int 0, .int 0, .ref (u_4.1 9)])), ((u_4.1 0), .inr (3, [.int 0, .int 0, .int 0, .int 0, .int 0, .int 0, .int 0, .int 0, .ref (u_4.1 1), .ref (u_4.1 2), .ref (u_4.1 3), .ref (u_4.1 4), .ref (u_4.1 5), .ref (u_4.1 6), .ref (u_4.1 7), .ref (u_4.1 8)])), ((u_4.1 1), .inl (cA 1, 8, .inl (fun _ => 0))), ((u_4.1 2), .inl (cA 1, 8, .inl (fun _ => 0))), ((u_4.1 3), .inl (cA 1, 8, .inl (fun _ => 0))), ((u_4.1 4), .inl (cA 1, 7, .inl (fun _ => 0))), ((u_4.1 5), .inl (cA 1, 7, .inl (fun _ => 0))), ((u_4.1 6), .inl (cA 1, 7, .inl (fun _ => 0))), ((u_4.1 7), .inl (cA 1, 4, .inl (fun _ => 0))), ((u_4.1 8), .inl (cA 1, 4, .inl (fun _ => 0))), ((u_4.1 9), .inl (cA 1, 3, .inl (fun _ => 0))), (q_5, .inr (3, [.int 0, .int 0, .int 0, .int 0, .int 0, .int 0, .int 0, .int 0, .ref (u_6.1 0), .ref (u_6.1 1), .ref (u_6.1 2), .ref (u_6.1 3), .ref (u_6.1 4), .ref (u_6.1 5), .ref (u_6.1 6), .ref (u_6.1 7)])), ((u_6.1 0), .inl (cA 1, 8, .inl (fun _ => 0))), ((u_6.1 1), .inl (cA 1, 8, .inl (fun _ => 0))), ((u_6.1 2), .inl (cA 1, 8, .inl (fun _ => 0))), ((u_6.1 3), .inl (cA 1, 7, .inl (fun _ => 0))), ((u_6.1 4), .inl (cA 1, 7, .inl (fun _ => 0))), ((u_6.1 5), .inl (cA 1, 7, .inl (fun _ => 0))), ((u_6.1 6), .inl (cA 1, 4, .inl (fun _ => 0))), ((u_6.1 7), .inl (cA 1, 4, .inl (fun _ => 0))), (q_7, .inr (2, [.int (-1), .int (-1), .int 0, .int 0, .int 0, .int 0, .int 0, .ref (u_8.1 0), .ref (u_8.1 1), .ref (u_8.1 2)])), ((u_8.1 0), .inl (cA 1, 60, .inl (fun _ => 0))), ((u_8.1 1), .inl (cA 1, 60, .inl (fun _ => 0))), ((u_8.1 2), .inl (cA 1, 60, .inl (fun _ => 0))), (q_9, .inl (cA 4, 3, .inr (.inr (.inr (.inr (va_up (va_up (va_up (fun _ => none) 0 (some q_11)) 1 (some q_14)) 2 (some q_17))))))), (q_11, .inr (4, [.ref (u_12.1 0), .ref (u_12.1 9), .int 0])), ((u_12.1 0), .inr (3, [.int 0, .int 0, .int 0, .int 0, .int 0, .int 0, .int 0, .int 0, .ref (u_12.1 1), .ref (u_12.1 2), .ref (u_12.1 3), .ref (u_12.1 4), .ref (u_12.1 5), .ref (u_12.1 6), .ref (u_12.1 7), .ref (u_12.1 8)])), ((u_12.1 1), .inl (cA 1, 8, .inl (fun _ => 0))), ((u_12.1 2), .inl (cA 1, 8, .inl (fun _ => 0))), ((u_12.1 3), .inl (cA 1, 8, .inl (fun _ => 0))), ((u_12.1 4), .inl (cA 1, 7, .inl (fun _ => 0))), ((u_12.1 5), .inl (cA 1, 7, .inl (fun _ => 0))), ((u_12.1 6), .inl (cA 1, 7, .inl (fun _ => 0))), ((u_12.1 7), .inl (cA 1, 4, .inl (fun _ => 0))), ((u_12.1 8), .inl (cA 1, 4, .inl (fun _ => 0))), ((u_12.1 9), .inr (2, [.int (-1), .int (-1), .int 0, .int 0, .int 0, .int 0, .int 0, .ref (u_12.1 10), .ref (u_12.1 11), .ref (u_12.1 12)])), ((u_12.1 10), .inl (cA 1, 60, .inl (fun _ => 0))), ((u_12.1 11), .inl (cA 1, 60, .inl (fun _ => 0))), ((u_12.1 12), .inl (cA 1, 60, .inl (fun _ => 0))), (q_14, .inr (4, [.ref (u_15.1 0), .ref (u_15.1 9), .int 0])), ((u_15.1 0), .inr (3, [.int 0, .int 0, .int 0, .int 0, .int 0, .int 0, .int 0, .int 0, .ref (u_15.1 1), .ref (u_15.1 2), .ref (u_15.1 3), .ref (u_15.1 4), .ref (u_15.1 5), .ref (u_15.1 6), .ref (u_15.1 7), .ref (u_15.1 8)])), ((u_15.1 1), .inl (cA 1, 8, .inl (fun _ => 0))), ((u_15.1 2), .inl (cA 1, 8, .inl (fun _ => 0))), ((u_15.1 3), .inl (cA 1, 8, .inl (fun _ => 0))), ((u_15.1 4), .inl (cA 1, 7, .inl (fun _ => 0))), ((u_15.1 5), .inl (cA 1, 7, .inl (fun _ => 0))), ((u_15.1 6), .inl (cA 1, 7, .inl (fun _ => 0))), ((u_15.1 7), .inl (cA 1, 4, .inl (fun _ => 0))), ((u_15.1 8), .inl (cA 1, 4, .inl (fun _ => 0))), ((u_15.1 9), .inr (2, [.int (-1), .int (-1), .int 0, .int 0, .int 0, .int 0, .int 0, .ref (u_15.1 10), .ref (u_15.1 11), .ref (u_15.1 12)])), ((u_15.1 10), .inl (cA 1, 60, .inl (fun _ => 0))), ((u_15.1 11), .inl (cA 1, 60, .inl (fun _ => 0))), ((u_15.1 12), .inl (cA 1, 60, .inl (fun _ => 0))), (q_17, .inr (4, [.ref (u_18.1 0), .ref (u_18.1 9), .int 0])), ((u_18.1 0), .inr (3, [.int 0, .int 0, .int 0, .int 0, .int 0, .int 0, .int 0, .int 0, .ref (u_18.1 1), .ref (u_18.1 2), .ref (u_18.1 3), .ref (u_18.1 4), .ref (u_18.1 5), .ref (u_18.1 6), .ref (u_18.1 7), .ref (u_18.1 8)])), ((u_18.1 1), .inl (cA 1, 8, .inl (fun _ => 0))), ((u_18.1 2), .inl (cA 1, 8, .inl (fun _ => 0))), ((u_18.1 3), .inl (cA 1, 8, .inl (fun _ => 0))), ((u_18.1 4), .inl (cA 1, 7, .inl (fun _ => 0))), ((u_18.1 5), .inl (cA 1, 7, .inl (fun _ => 0))), ((u_18.1 6), .inl (cA 1, 7, .inl (fun _ => 0))), ((u_18.1 7), .inl (cA 1, 4, .inl (fun _ => 0))), ((u_18.1 8), .inl (cA 1, 4, .inl (fun _ => 0))), ((u_18.1 9), .inr (2, [.int (-1), .int (-1), .int 0, .int 0, .int 0, .int 0, .int 0, .ref (u_18.1 10), .ref (u_18.1 11), .ref (u_18.1 12)])), ((u_18.1 10), .inl (cA 1, 60, .inl (fun _ => 0))), ((u_18.1 11), .inl (cA 1, 60, .inl (fun _ => 0))), ((u_18.1 12), .inl (cA 1, 60, .inl (fun _ => 0))), (q_20, .inr (7, [.ref (u_21.1 2), .ref (u_21.1 0), .ref (u_21.1 1)])), ((u_21.1 0), .inl (cA 1, 4, .inl (fun _ => 0))), ((u_21.1 1), .inl (cA 2, 240, .inr (.inl (fun _ => 0)))), ((u_21.1 2), .inl (cA 1, 4, .inl (u_21.2.2.1 0))), (q_22, .inr (1, [.int (-1), .int 1, .ref q_5])), (q_24, .inr (5, [.ref (u_25.1 0), .int 0, .int 0, .ref (u_25.1 1), .int 0, .ref q_5])), ((u_25.1 0), .inl (cA 1, 8, .inl (fun _ => 0))), ((u_25.1 1), .inl (cA 1, 8, .inl (fun _ => 0)))] := hD
  refine lv_aload_n hx hb dX11_init_127 rfl (lv_at hl 1 rfl) ?_
  refine va_new (ci := 8) (fs := [.null, .null]) (C := RX8) (T := TX8) (N := 2) hx hb hts inX8 tyX8 tyX8_ok hown (hts _ tw_398) (hts _ tw_399) (hts _ tw_111) hKN.1 hP hD hS hA rfl dfX8 (Nat.le_of_ble_eq_true rfl) (Nat.le_of_ble_eq_true rfl) dX11_init_128 (fun q_26 H hP hD hS => ?_)
  have hP : va_P D vwCl [(h0, .inr (11, [.ref q_1, .ref q_3, .ref q_5, .ref q_7, .ref q_9, .ref q_20, .ref q_22, .ref q_24, .null, .null, .null])), (q_1, .inr (9, [.ref (u_2.1 0), .int 0])), ((u_2.1 0), .inl (cA 0, 800, .inl (fun _ => 0))), (q_3, .inr (6, [.ref (u_4.1 0), .int 0, .int (-1), .ref q_1, .int 0, .int 0, .int 0, .int 0, .int 0, .int 0, .int 0, .int 0, .ref (u_4.1 9)])), ((u_4.1 0), .inr (3, [.int 0, .int 0, .int 0, .int 0, .int 0, .int 0, .int 0, .int 0, .ref (u_4.1 1), .ref (u_4.1 2), .ref (u_4.1 3), .ref (u_4.1 4), .ref (u_4.1 5), .ref (u_4.1 6), .ref (u_4.1 7), .ref (u_4.1 8)])), ((u_4.1 1), .inl (cA 1, 8, .inl (fun _ => 0))), ((u_4.1 2), .inl (cA 1, 8, .inl (fun _ => 0))), ((u_4.1 3), .inl (cA 1, 8, .inl (fun _ => 0))), ((u_4.1 4), .inl (cA 1, 7, .inl (fun _ => 0))), ((u_4.1 5), .inl (cA 1, 7, .inl (fun _ => 0))), ((u_4.1 6), .inl (cA 1, 7, .inl (fun _ => 0))), ((u_4.1 7), .inl (cA 1, 4, .inl (fun _ => 0))), ((u_4.1 8), .inl (cA 1, 4, .inl (fun _ => 0))), ((u_4.1 9), .inl (cA 1, 3, .inl (fun _ => 0))), (q_5, .inr (3, [.int 0, .int 0, .int 0, .int 0, .int 0, .int 0, .int 0, .int 0, .ref (u_6.1 0), .ref (u_6.1 1), .ref (u_6.1 2), .ref (u_6.1 3), .ref (u_6.1 4), .ref (u_6.1 5), .ref (u_6.1 6), .ref (u_6.1 7)])), ((u_6.1 0), .inl (cA 1, 8, .inl (fun _ => 0))), ((u_6.1 1), .inl (cA 1, 8, .inl (fun _ => 0))), ((u_6.1 2), .inl (cA 1, 8, .inl (fun _ => 0))), ((u_6.1 3), .inl (cA 1, 7, .inl (fun _ => 0))), ((u_6.1 4), .inl (cA 1, 7, .inl (fun _ => 0))), ((u_6.1 5), .inl (cA 1, 7, .inl (fun _ => 0))), ((u_6.1 6), .inl (cA 1, 4, .inl (fun _ => 0))), ((u_6.1 7), .inl (cA 1, 4, .inl (fun _ => 0))), (q_7, .inr (2, [.int (-1), .int (-1), .int 0, .int 0, .int 0, .int 0, .int 0, .ref (u_8.1 0), .ref (u_8.1 1), .ref (u_8.1 2)])), ((u_8.1 0), .inl (cA 1, 60, .inl (fun _ => 0))), ((u_8.1 1), .inl (cA 1, 60, .inl (fun _ => 0))), ((u_8.1 2), .inl (cA 1, 60, .inl (fun _ => 0))), (q_9, .inl (cA 4, 3, .inr (.inr (.inr (.inr (va_up (va_up (va_up (fun _ => none) 0 (some q_11)) 1 (some q_14)) 2 (some q_17))))))), (q_11, .inr (4, [.ref (u_12.1 0), .ref (u_12.1 9), .int 0])), ((u_12.1 0), .inr (3, [.int 0, .int 0, .int 0, .int 0, .int 0, .int 0, .int 0, .int 0, .ref (u_12.1 1), .ref (u_12.1 2), .ref (u_12.1 3), .ref (u_12.1 4), .ref (u_12.1 5), .ref (u_12.1 6), .ref (u_12.1 7), .ref (u_12.1 8)])), ((u_12.1 1), .inl (cA 1, 8, .inl (fun _ => 0))), ((u_12.1 2), .inl (cA 1, 8, .inl (fun _ => 0))), ((u_12.1 3), .inl (cA 1, 8, .inl (fun _ => 0))), ((u_12.1 4), .inl (cA 1, 7, .inl (fun _ => 0))), ((u_12.1 5), .inl (cA 1, 7, .inl (fun _ => 0))), ((u_12.1 6), .inl (cA 1, 7, .inl (fun _ => 0))), ((u_12.1 7), .inl (cA 1, 4, .inl (fun _ => 0))), ((u_12.1 8), .inl (cA 1, 4, .inl (fun _ => 0))), ((u_12.1 9), .inr (2, [.int (-1), .int (-1), .int 0, .int 0, .int 0, .int 0, .int 0, .ref (u_12.1 10), .ref (u_12.1 11), .ref (u_12.1 12)])), ((u_12.1 10), .inl (cA 1, 60, .inl (fun _ => 0))), ((u_12.1 11), .inl (cA 1, 60, .inl (fun _ => 0))), ((u_12.1 12), .inl (cA 1, 60, .inl (fun _ => 0))), (q_14, .inr (4, [.ref (u_15.1 0), .ref (u_15.1 9), .int 0])), ((u_15.1 0), .inr (3, [.int 0, .int 0, .int 0, .int 0, .int 0, .int 0, .int 0, .int 0, .ref (u_15.1 1), .ref (u_15.1 2), .ref (u_15.1 3), .ref (u_15.1 4), .ref (u_15.1 5), .ref (u_15.1 6), .ref (u_15.1 7), .ref (u_15.1 8)])), ((u_15.1 1), .inl (cA 1, 8, .inl (fun _ => 0))), ((u_15.1 2), .inl (cA 1, 8, .inl (fun _ => 0))), ((u_15.1 3), .inl (cA 1, 8, .inl (fun _ => 0))), ((u_15.1 4), .inl (cA 1, 7, .inl (fun _ => 0))), ((u_15.1 5), .inl (cA 1, 7, .inl (fun _ => 0))), ((u_15.1 6), .inl (cA 1, 7, .inl (fun _ => 0))), ((u_15.1 7), .inl (cA 1, 4, .inl (fun _ => 0))), ((u_15.1 8), .inl (cA 1, 4, .inl (fun _ => 0))), ((u_15.1 9), .inr (2, [.int (-1), .int (-1), .int 0, .int 0, .int 0, .int 0, .int 0, .ref (u_15.1 10), .ref (u_15.1 11), .ref (u_15.1 12)])), ((u_15.1 10), .inl (cA 1, 60, .inl (fun _ => 0))), ((u_15.1 11), .inl (cA 1, 60, .inl (fun _ => 0))), ((u_15.1 12), .inl (cA 1, 60, .inl (fun _ => 0))), (q_17, .inr (4, [.ref (u_18.1 0), .ref (u_18.1 9), .int 0])), ((u_18.1 0), .inr (3, [.int 0, .int 0, .int 0, .int 0, .int 0, .int 0, .int 0, .int 0, .ref (u_18.1 1), .ref (u_18.1 2), .ref (u_18.1 3), .ref (u_18.1 4), .ref (u_18.1 5), .ref (u_18.1 6), .ref (u_18.1 7), .ref (u_18.1 8)])), ((u_18.1 1), .inl (cA 1, 8, .inl (fun _ => 0))), ((u_18.1 2), .inl (cA 1, 8, .inl (fun _ => 0))), ((u_18.1 3), .inl (cA 1, 8, .inl (fun _ => 0))), ((u_18.1 4), .inl (cA 1, 7, .inl (fun _ => 0))), ((u_18.1 5), .inl (cA 1, 7, .inl (fun _ => 0))), ((u_18.1 6), .inl (cA 1, 7, .inl (fun _ => 0))), ((u_18.1 7), .inl (cA 1, 4, .inl (fun _ => 0))), ((u_18.1 8), .inl (cA 1, 4, .inl (fun _ => 0))), ((u_18.1 9), .inr (2, [.int (-1), .int (-1), .int 0, .int 0, .int 0, .int 0, .int 0, .ref (u_18.1 10), .ref (u_18.1 11), .ref (u_18.1 12)])), ((u_18.1 10), .inl (cA 1, 60, .inl (fun _ => 0))), ((u_18.1 11), .inl (cA 1, 60, .inl (fun _ => 0))), ((u_18.1 12), .inl (cA 1, 60, .inl (fun _ => 0))), (q_20, .inr (7, [.ref (u_21.1 2), .ref (u_21.1 0), .ref (u_21.1 1)])), ((u_21.1 0), .inl (cA 1, 4, .inl (fun _ => 0))), ((u_21.1 1), .inl (cA 2, 240, .inr (.inl (fun _ => 0)))), ((u_21.1 2), .inl (cA 1, 4, .inl (u_21.2.2.1 0))), (q_22, .inr (1, [.int (-1), .int 1, .ref q_5])), (q_24, .inr (5, [.ref (u_25.1 0), .int 0, .int 0, .ref (u_25.1 1), .int 0, .ref q_5])), ((u_25.1 0), .inl (cA 1, 8, .inl (fun _ => 0))), ((u_25.1 1), .inl (cA 1, 8, .inl (fun _ => 0))), (q_26, .inr (8, [.null, .null]))] H := hP
  have hD : va_D A [(h0, .inr (11, [.ref q_1, .ref q_3, .ref q_5, .ref q_7, .ref q_9, .ref q_20, .ref q_22, .ref q_24, .null, .null, .null])), (q_1, .inr (9, [.ref (u_2.1 0), .int 0])), ((u_2.1 0), .inl (cA 0, 800, .inl (fun _ => 0))), (q_3, .inr (6, [.ref (u_4.1 0), .int 0, .int (-1), .ref q_1, .int 0, .int 0, .int 0, .int 0, .int 0, .int 0, .int 0, .int 0, .ref (u_4.1 9)])), ((u_4.1 0), .inr (3, [.int 0, .int 0, .int 0, .int 0, .int 0, .int 0, .int 0, .int 0, .ref (u_4.1 1), .ref (u_4.1 2), .ref (u_4.1 3), .ref (u_4.1 4), .ref (u_4.1 5), .ref (u_4.1 6), .ref (u_4.1 7), .ref (u_4.1 8)])), ((u_4.1 1), .inl (cA 1, 8, .inl (fun _ => 0))), ((u_4.1 2), .inl (cA 1, 8, .inl (fun _ => 0))), ((u_4.1 3), .inl (cA 1, 8, .inl (fun _ => 0))), ((u_4.1 4), .inl (cA 1, 7, .inl (fun _ => 0))), ((u_4.1 5), .inl (cA 1, 7, .inl (fun _ => 0))), ((u_4.1 6), .inl (cA 1, 7, .inl (fun _ => 0))), ((u_4.1 7), .inl (cA 1, 4, .inl (fun _ => 0))), ((u_4.1 8), .inl (cA 1, 4, .inl (fun _ => 0))), ((u_4.1 9), .inl (cA 1, 3, .inl (fun _ => 0))), (q_5, .inr (3, [.int 0, .int 0, .int 0, .int 0, .int 0, .int 0, .int 0, .int 0, .ref (u_6.1 0), .ref (u_6.1 1), .ref (u_6.1 2), .ref (u_6.1 3), .ref (u_6.1 4), .ref (u_6.1 5), .ref (u_6.1 6), .ref (u_6.1 7)])), ((u_6.1 0), .inl (cA 1, 8, .inl (fun _ => 0))), ((u_6.1 1), .inl (cA 1, 8, .inl (fun _ => 0))), ((u_6.1 2), .inl (cA 1, 8, .inl (fun _ => 0))), ((u_6.1 3), .inl (cA 1, 7, .inl (fun _ => 0))), ((u_6.1 4), .inl (cA 1, 7, .inl (fun _ => 0))), ((u_6.1 5), .inl (cA 1, 7, .inl (fun _ => 0))), ((u_6.1 6), .inl (cA 1, 4, .inl (fun _ => 0))), ((u_6.1 7), .inl (cA 1, 4, .inl (fun _ => 0))), (q_7, .inr (2, [.int (-1), .int (-1), .int 0, .int 0, .int 0, .int 0, .int 0, .ref (u_8.1 0), .ref (u_8.1 1), .ref (u_8.1 2)])), ((u_8.1 0), .inl (cA 1, 60, .inl (fun _ => 0))), ((u_8.1 1), .inl (cA 1, 60, .inl (fun _ => 0))), ((u_8.1 2), .inl (cA 1, 60, .inl (fun _ => 0))), (q_9, .inl (cA 4, 3, .inr (.inr (.inr (.inr (va_up (va_up (va_up (fun _ => none) 0 (some q_11)) 1 (some q_14)) 2 (some q_17))))))), (q_11, .inr (4, [.ref (u_12.1 0), .ref (u_12.1 9), .int 0])), ((u_12.1 0), .inr (3, [.int 0, .int 0, .int 0, .int 0, .int 0, .int 0, .int 0, .int 0, .ref (u_12.1 1), .ref (u_12.1 2), .ref (u_12.1 3), .ref (u_12.1 4), .ref (u_12.1 5), .ref (u_12.1 6), .ref (u_12.1 7), .ref (u_12.1 8)])), ((u_12.1 1), .inl (cA 1, 8, .inl (fun _ => 0))), ((u_12.1 2), .inl (cA 1, 8, .inl (fun _ => 0))), ((u_12.1 3), .inl (cA 1, 8, .inl (fun _ => 0))), ((u_12.1 4), .inl (cA 1, 7, .inl (fun _ => 0))), ((u_12.1 5), .inl (cA 1, 7, .inl (fun _ => 0))), ((u_12.1 6), .inl (cA 1, 7, .inl (fun _ => 0))), ((u_12.1 7), .inl (cA 1, 4, .inl (fun _ => 0))), ((u_12.1 8), .inl (cA 1, 4, .inl (fun _ => 0))), ((u_12.1 9), .inr (2, [.int (-1), .int (-1), .int 0, .int 0, .int 0, .int 0, .int 0, .ref (u_12.1 10), .ref (u_12.1 11), .ref (u_12.1 12)])), ((u_12.1 10), .inl (cA 1, 60, .inl (fun _ => 0))), ((u_12.1 11), .inl (cA 1, 60, .inl (fun _ => 0))), ((u_12.1 12), .inl (cA 1, 60, .inl (fun _ => 0))), (q_14, .inr (4, [.ref (u_15.1 0), .ref (u_15.1 9), .int 0])), ((u_15.1 0), .inr (3, [.int 0, .int 0, .int 0, .int 0, .int 0, .int 0, .int 0, .int 0, .ref (u_15.1 1), .ref (u_15.1 2), .ref (u_15.1 3), .ref (u_15.1 4), .ref (u_15.1 5), .ref (u_15.1 6), .ref (u_15.1 7), .ref (u_15.1 8)])), ((u_15.1 1), .inl (cA 1, 8, .inl (fun _ => 0))), ((u_15.1 2), .inl (cA 1, 8, .inl (fun _ => 0))), ((u_15.1 3), .inl (cA 1, 8, .inl (fun _ => 0))), ((u_15.1 4), .inl (cA 1, 7, .inl (fun _ => 0))), ((u_15.1 5), .inl (cA 1, 7, .inl (fun _ => 0))), ((u_15.1 6), .inl (cA 1, 7, .inl (fun _ => 0))), ((u_15.1 7), .inl (cA 1, 4, .inl (fun _ => 0))), ((u_15.1 8), .inl (cA 1, 4, .inl (fun _ => 0))), ((u_15.1 9), .inr (2, [.int (-1), .int (-1), .int 0, .int 0, .int 0, .int 0, .int 0, .ref (u_15.1 10), .ref (u_15.1 11), .ref (u_15.1 12)])), ((u_15.1 10), .inl (cA 1, 60, .inl (fun _ => 0))), ((u_15.1 11), .inl (cA 1, 60, .inl (fun _ => 0))), ((u_15.1 12), .inl (cA 1, 60, .inl (fun _ => 0))), (q_17, .inr (4, [.ref (u_18.1 0), .ref (u_18.1 9), .int 0])), ((u_18.1 0), .inr (3, [.int 0, .int 0, .int 0, .int 0, .int 0, .int 0, .int 0, .int 0, .ref (u_18.1 1), .ref (u_18.1 2), .ref (u_18.1 3), .ref (u_18.1 4), .ref (u_18.1 5), .ref (u_18.1 6), .ref (u_18.1 7), .ref (u_18.1 8)])), ((u_18.1 1), .inl (cA 1, 8, .inl (fun _ => 0))), ((u_18.1 2), .inl (cA 1, 8, .inl (fun _ => 0))), ((u_18.1 3), .inl (cA 1, 8, .inl (fun _ => 0))), ((u_18.1 4), .inl (cA 1, 7, .inl (fun _ => 0))), ((u_18.1 5), .inl (cA 1, 7, .inl (fun _ => 0))), ((u_18.1 6), .inl (cA 1, 7, .inl (fun _ => 0))), ((u_18.1 7), .inl (cA 1, 4, .inl (fun _ => 0))), ((u_18.1 8), .inl (cA 1, 4, .inl (fun _ => 0))), ((u_18.1 9), .inr (2, [.int (-1), .int (-1), .int 0, .int 0, .int 0, .int 0, .int 0, .ref (u_18.1 10), .ref (u_18.1 11), .ref (u_18.1 12)])), ((u_18.1 10), .inl (cA 1, 60, .inl (fun _ => 0))), ((u_18.1 11), .inl (cA 1, 60, .inl (fun _ => 0))), ((u_18.1 12), .inl (cA 1, 60, .inl (fun _ => 0))), (q_20, .inr (7, [.ref (u_21.1 2), .ref (u_21.1 0), .ref (u_21.1 1)])), ((u_21.1 0), .inl (cA 1, 4, .inl (fun _ => 0))), ((u_21.1 1), .inl (cA 2, 240, .inr (.inl (fun _ => 0)))), ((u_21.1 2), .inl (cA 1, 4, .inl (u_21.2.2.1 0))), (q_22, .inr (1, [.int (-1), .int 1, .ref q_5])), (q_24, .inr (5, [.ref (u_25.1 0), .int 0, .int 0, .ref (u_25.1 1), .int 0, .ref q_5])), ((u_25.1 0), .inl (cA 1, 8, .inl (fun _ => 0))), ((u_25.1 1), .inl (cA 1, 8, .inl (fun _ => 0))), (q_26, .inr (8, [.null, .null]))] := hD
  refine W.widen (k := 78) (n := 2213) (Nat.le_of_ble_eq_true rfl) (Nat.le_of_ble_eq_true rfl) ?_
  refine lv_dup hx hb dX11_init_131 rfl ?_
  refine lv_aload_n hx hb dX11_init_132 rfl (lv_at hl 1 rfl) ?_
  refine va_get (D := D) (ci := 11) (v := .ref q_5) (C := RX11) (T := TX11) (N := 11) hx hb hts inX11 hown hKN.1 hP 0 rfl rfl 2 (by decide) (hts _ tw_467) (fun _ h9 => h9) rfl dX11_init_133 ?_
  refine cmIv (rest := [.ref q_26, .ref h0]) (wsC := [(q_26, .inr (8, [.null, .null]))]) (wr := [(h0, .inr (11, [.ref q_1, .ref q_3, .ref q_5, .ref q_7, .ref q_9, .ref q_20, .ref q_22, .ref q_24, .null, .null, .null])), (q_1, .inr (9, [.ref (u_2.1 0), .int 0])), ((u_2.1 0), .inl (cA 0, 800, .inl (fun _ => 0))), (q_3, .inr (6, [.ref (u_4.1 0), .int 0, .int (-1), .ref q_1, .int 0, .int 0, .int 0, .int 0, .int 0, .int 0, .int 0, .int 0, .ref (u_4.1 9)])), ((u_4.1 0), .inr (3, [.int 0, .int 0, .int 0, .int 0, .int 0, .int 0, .int 0, .int 0, .ref (u_4.1 1), .ref (u_4.1 2), .ref (u_4.1 3), .ref (u_4.1 4), .ref (u_4.1 5), .ref (u_4.1 6), .ref (u_4.1 7), .ref (u_4.1 8)])), ((u_4.1 1), .inl (cA 1, 8, .inl (fun _ => 0))), ((u_4.1 2), .inl (cA 1, 8, .inl (fun _ => 0))), ((u_4.1 3), .inl (cA 1, 8, .inl (fun _ => 0))), ((u_4.1 4), .inl (cA 1, 7, .inl (fun _ => 0))), ((u_4.1 5), .inl (cA 1, 7, .inl (fun _ => 0))), ((u_4.1 6), .inl (cA 1, 7, .inl (fun _ => 0))), ((u_4.1 7), .inl (cA 1, 4, .inl (fun _ => 0))), ((u_4.1 8), .inl (cA 1, 4, .inl (fun _ => 0))), ((u_4.1 9), .inl (cA 1, 3, .inl (fun _ => 0))), (q_5, .inr (3, [.int 0, .int 0, .int 0, .int 0, .int 0, .int 0, .int 0, .int 0, .ref (u_6.1 0), .ref (u_6.1 1), .ref (u_6.1 2), .ref (u_6.1 3), .ref (u_6.1 4), .ref (u_6.1 5), .ref (u_6.1 6), .ref (u_6.1 7)])), ((u_6.1 0), .inl (cA 1, 8, .inl (fun _ => 0))), ((u_6.1 1), .inl (cA 1, 8, .inl (fun _ => 0))), ((u_6.1 2), .inl (cA 1, 8, .inl (fun _ => 0))), ((u_6.1 3), .inl (cA 1, 7, .inl (fun _ => 0))), ((u_6.1 4), .inl (cA 1, 7, .inl (fun _ => 0))), ((u_6.1 5), .inl (cA 1, 7, .inl (fun _ => 0))), ((u_6.1 6), .inl (cA 1, 4, .inl (fun _ => 0))), ((u_6.1 7), .inl (cA 1, 4, .inl (fun _ => 0))), (q_7, .inr (2, [.int (-1), .int (-1), .int 0, .int 0, .int 0, .int 0, .int 0, .ref (u_8.1 0), .ref (u_8.1 1), .ref (u_8.1 2)])), ((u_8.1 0), .inl (cA 1, 60, .inl (fun _ => 0))), ((u_8.1 1), .inl (cA 1, 60, .inl (fun _ => 0))), ((u_8.1 2), .inl (cA 1, 60, .inl (fun _ => 0))), (q_9, .inl (cA 4, 3, .inr (.inr (.inr (.inr (va_up (va_up (va_up (fun _ => none) 0 (some q_11)) 1 (some q_14)) 2 (some q_17))))))), (q_11, .inr (4, [.ref (u_12.1 0), .ref (u_12.1 9), .int 0])), ((u_12.1 0), .inr (3, [.int 0, .int 0, .int 0, .int 0, .int 0, .int 0, .int 0, .int 0, .ref (u_12.1 1), .ref (u_12.1 2), .ref (u_12.1 3), .ref (u_12.1 4), .ref (u_12.1 5), .ref (u_12.1 6), .ref (u_12.1 7), .ref (u_12.1 8)])), ((u_12.1 1), .inl (cA 1, 8, .inl (fun _ => 0))), ((u_12.1 2), .inl (cA 1, 8, .inl (fun _ => 0))), ((u_12.1 3), .inl (cA 1, 8, .inl (fun _ => 0))), ((u_12.1 4), .inl (cA 1, 7, .inl (fun _ => 0))), ((u_12.1 5), .inl (cA 1, 7, .inl (fun _ => 0))), ((u_12.1 6), .inl (cA 1, 7, .inl (fun _ => 0))), ((u_12.1 7), .inl (cA 1, 4, .inl (fun _ => 0))), ((u_12.1 8), .inl (cA 1, 4, .inl (fun _ => 0))), ((u_12.1 9), .inr (2, [.int (-1), .int (-1), .int 0, .int 0, .int 0, .int 0, .int 0, .ref (u_12.1 10), .ref (u_12.1 11), .ref (u_12.1 12)])), ((u_12.1 10), .inl (cA 1, 60, .inl (fun _ => 0))), ((u_12.1 11), .inl (cA 1, 60, .inl (fun _ => 0))), ((u_12.1 12), .inl (cA 1, 60, .inl (fun _ => 0))), (q_14, .inr (4, [.ref (u_15.1 0), .ref (u_15.1 9), .int 0])), ((u_15.1 0), .inr (3, [.int 0, .int 0, .int 0, .int 0, .int 0, .int 0, .int 0, .int 0, .ref (u_15.1 1), .ref (u_15.1 2), .ref (u_15.1 3), .ref (u_15.1 4), .ref (u_15.1 5), .ref (u_15.1 6), .ref (u_15.1 7), .ref (u_15.1 8)])), ((u_15.1 1), .inl (cA 1, 8, .inl (fun _ => 0))), ((u_15.1 2), .inl (cA 1, 8, .inl (fun _ => 0))), ((u_15.1 3), .inl (cA 1, 8, .inl (fun _ => 0))), ((u_15.1 4), .inl (cA 1, 7, .inl (fun _ => 0))), ((u_15.1 5), .inl (cA 1, 7, .inl (fun _ => 0))), ((u_15.1 6), .inl (cA 1, 7, .inl (fun _ => 0))), ((u_15.1 7), .inl (cA 1, 4, .inl (fun _ => 0))), ((u_15.1 8), .inl (cA 1, 4, .inl (fun _ => 0))), ((u_15.1 9), .inr (2, [.int (-1), .int (-1), .int 0, .int 0, .int 0, .int 0, .int 0, .ref (u_15.1 10), .ref (u_15.1 11), .ref (u_15.1 12)])), ((u_15.1 10), .inl (cA 1, 60, .inl (fun _ => 0))), ((u_15.1 11), .inl (cA 1, 60, .inl (fun _ => 0))), ((u_15.1 12), .inl (cA 1, 60, .inl (fun _ => 0))), (q_17, .inr (4, [.ref (u_18.1 0), .ref (u_18.1 9), .int 0])), ((u_18.1 0), .inr (3, [.int 0, .int 0, .int 0, .int 0, .int 0, .int 0, .int 0, .int 0, .ref (u_18.1 1), .ref (u_18.1 2), .ref (u_18.1 3), .ref (u_18.1 4), .ref (u_18.1 5), .ref (u_18.1 6), .ref (u_18.1 7), .ref (u_18.1 8)])), ((u_18.1 1), .inl (cA 1, 8, .inl (fun _ => 0))), ((u_18.1 2), .inl (cA 1, 8, .inl (fun _ => 0))), ((u_18.1 3), .inl (cA 1, 8, .inl (fun _ => 0))), ((u_18.1 4), .inl (cA 1, 7, .inl (fun _ => 0))), ((u_18.1 5), .inl (cA 1, 7, .inl (fun _ => 0))), ((u_18.1 6), .inl (cA 1, 7, .inl (fun _ => 0))), ((u_18.1 7), .inl (cA 1, 4, .inl (fun _ => 0))), ((u_18.1 8), .inl (cA 1, 4, .inl (fun _ => 0))), ((u_18.1 9), .inr (2, [.int (-1), .int (-1), .int 0, .int 0, .int 0, .int 0, .int 0, .ref (u_18.1 10), .ref (u_18.1 11), .ref (u_18.1 12)])), ((u_18.1 10), .inl (cA 1, 60, .inl (fun _ => 0))), ((u_18.1 11), .inl (cA 1, 60, .inl (fun _ => 0))), ((u_18.1 12), .inl (cA 1, 60, .inl (fun _ => 0))), (q_20, .inr (7, [.ref (u_21.1 2), .ref (u_21.1 0), .ref (u_21.1 1)])), ((u_21.1 0), .inl (cA 1, 4, .inl (fun _ => 0))), ((u_21.1 1), .inl (cA 2, 240, .inr (.inl (fun _ => 0)))), ((u_21.1 2), .inl (cA 1, 4, .inl (u_21.2.2.1 0))), (q_22, .inr (1, [.int (-1), .int 1, .ref q_5])), (q_24, .inr (5, [.ref (u_25.1 0), .int 0, .int 0, .ref (u_25.1 1), .int 0, .ref q_5])), ((u_25.1 0), .inl (cA 1, 8, .inl (fun _ => 0))), ((u_25.1 1), .inl (cA 1, 8, .inl (fun _ => 0)))]) ⟨hx, hb, hml, hown, hts⟩ hKN hP hD hS hA [78] [0, 1, 2, 3, 4, 5, 6, 7, 8, 9, 10, 11, 12, 13, 14, 15, 16, 17, 18, 19, 20, 21, 22, 23, 24, 25, 26, 27, 28, 29, 30, 31, 32, 33, 34, 35, 36, 37, 38, 39, 40, 41, 42, 43, 44, 45, 46, 47, 48, 49, 50, 51, 52, 53, 54, 55, 56, 57, 58, 59, 60, 61, 62, 63, 64, 65, 66, 67, 68, 69, 70, 71, 72, 73, 74, 75, 76, 77] rfl rfl (by decide) (by decide) (by decide) (k_X8_init l D cA _ q_26 q_5) ⟨tw_400, tw_401, tw_111, tw_402⟩ hdX8_init ⟨rfl, rfl, Nat.le_of_ble_eq_true rfl, Nat.le_of_ble_eq_true rfl⟩ ⟨Nat.le_of_ble_eq_true rfl, Nat.le_of_ble_eq_true rfl⟩ rfl hl.1 rfl (Nat.le_of_ble_eq_true rfl) dX11_init_136 (fun u_27 H locs hr_27 hP hD hS => ?_)
  have hP : va_P D vwCl [(h0, .inr (11, [.ref q_1, .ref q_3, .ref q_5, .ref q_7, .ref q_9, .ref q_20, .ref q_22, .ref q_24, .null, .null, .null])), (q_1, .inr (9, [.ref (u_2.1 0), .int 0])), ((u_2.1 0), .inl (cA 0, 800, .inl (fun _ => 0))), (q_3, .inr (6, [.ref (u_4.1 0), .int 0, .int (-1), .ref q_1, .int 0, .int 0, .int 0, .int 0, .int 0, .int 0, .int 0, .int 0, .ref (u_4.1 9)])), ((u_4.1 0), .inr (3, [.int 0, .int 0, .int 0, .int 0, .int 0, .int 0, .int 0, .int 0, .ref (u_4.1 1), .ref (u_4.1 2), .ref (u_4.1 3), .ref (u_4.1 4), .ref (u_4.1 5), .ref (u_4.1 6), .ref (u_4.1 7), .ref (u_4.1 8)])), ((u_4.1 1), .inl (cA 1, 8, .inl (fun _ => 0))), ((u_4.1 2), .inl (cA 1, 8, .inl (fun _ => 0))), ((u_4.1 3), .inl (cA 1, 8, .inl (fun _ => 0))), ((u_4.1 4), .inl (cA 1, 7, .inl (fun _ => 0))), ((u_4.1 5), .inl (cA 1, 7, .inl (fun _ => 0))), ((u_4.1 6), .inl (cA 1, 7, .inl (fun _ => 0))), ((u_4.1 7), .inl (cA 1, 4, .inl (fun _ => 0))), ((u_4.1 8), .inl (cA 1, 4, .inl (fun _ => 0))), ((u_4.1 9), .inl (cA 1, 3, .inl (fun _ => 0))), (q_5, .inr (3, [.int 0, .int 0, .int 0, .int 0, .int 0, .int 0, .int 0, .int 0, .ref (u_6.1 0), .ref (u_6.1 1), .ref (u_6.1 2), .ref (u_6.1 3), .ref (u_6.1 4), .ref (u_6.1 5), .ref (u_6.1 6), .ref (u_6.1 7)])), ((u_6.1 0), .inl (cA 1, 8, .inl (fun _ => 0))), ((u_6.1 1), .inl (cA 1, 8, .inl (fun _ => 0))), ((u_6.1 2), .inl (cA 1, 8, .inl (fun _ => 0))), ((u_6.1 3), .inl (cA 1, 7, .inl (fun _ => 0))), ((u_6.1 4), .inl (cA 1, 7, .inl (fun _ => 0))), ((u_6.1 5), .inl (cA 1, 7, .inl (fun _ => 0))), ((u_6.1 6), .inl (cA 1, 4, .inl (fun _ => 0))), ((u_6.1 7), .inl (cA 1, 4, .inl (fun _ => 0))), (q_7, .inr (2, [.int (-1), .int (-1), .int 0, .int 0, .int 0, .int 0, .int 0, .ref (u_8.1 0), .ref (u_8.1 1), .ref (u_8.1 2)])), ((u_8.1 0), .inl (cA 1, 60, .inl (fun _ => 0))), ((u_8.1 1), .inl (cA 1, 60, .inl (fun _ => 0))), ((u_8.1 2), .inl (cA 1, 60, .inl (fun _ => 0))), (q_9, .inl (cA 4, 3, .inr (.inr (.inr (.inr (va_up (va_up (va_up (fun _ => none) 0 (some q_11)) 1 (some q_14)) 2 (some q_17))))))), (q_11, .inr (4, [.ref (u_12.1 0), .ref (u_12.1 9), .int 0])), ((u_12.1 0), .inr (3, [.int 0, .int 0, .int 0, .int 0, .int 0, .int 0, .int 0, .int 0, .ref (u_12.1 1), .ref (u_12.1 2), .ref (u_12.1 3), .ref (u_12.1 4), .ref (u_12.1 5), .ref (u_12.1 6), .ref (u_12.1 7), .ref (u_12.1 8)])), ((u_12.1 1), .inl (cA 1, 8, .inl (fun _ => 0))), ((u_12.1 2), .inl (cA 1, 8, .inl (fun _ => 0))), ((u_12.1 3), .inl (cA 1, 8, .inl (fun _ => 0))), ((u_12.1 4), .inl (cA 1, 7, .inl (fun _ => 0))), ((u_12.1 5), .inl (cA 1, 7, .inl (fun _ => 0))), ((u_12.1 6), .inl (cA 1, 7, .inl (fun _ => 0))), ((u_12.1 7), .inl (cA 1, 4, .inl (fun _ => 0))), ((u_12.1 8), .inl (cA 1, 4, .inl (fun _ => 0))), ((u_12.1 9), .inr (2, [.int (-1), .int (-1), .int 0, .int 0, .int 0, .int 0, .int 0, .ref (u_12.1 10), .ref (u_12.1 11), .ref (u_12.1 12)])), ((u_12.1 10), .inl (cA 1, 60, .inl (fun _ => 0))), ((u_12.1 11), .inl (cA 1, 60, .inl (fun _ => 0))), ((u_12.1 12), .inl (cA 1, 60, .inl (fun _ => 0))), (q_14, .inr (4, [.ref (u_15.1 0), .ref (u_15.1 9), .int 0])), ((u_15.1 0), .inr (3, [.int 0, .int 0, .int 0, .int 0, .int 0, .int 0, .int 0, .int 0, .ref (u_15.1 1), .ref (u_15.1 2), .ref (u_15.1 3), .ref (u_15.1 4), .ref (u_15.1 5), .ref (u_15.1 6), .ref (u_15.1 7), .ref (u_15.1 8)])), ((u_15.1 1), .inl (cA 1, 8, .inl (fun _ => 0))), ((u_15.1 2), .inl (cA 1, 8, .inl (fun _ => 0))), ((u_15.1 3), .inl (cA 1, 8, .inl (fun _ => 0))), ((u_15.1 4), .inl (cA 1, 7, .inl (fun _ => 0))), ((u_15.1 5), .inl (cA 1, 7, .inl (fun _ => 0))), ((u_15.1 6), .inl (cA 1, 7, .inl (fun _ => 0))), ((u_15.1 7), .inl (cA 1, 4, .inl (fun _ => 0))), ((u_15.1 8), .inl (cA 1, 4, .inl (fun _ => 0))), ((u_15.1 9), .inr (2, [.int (-1), .int (-1), .int 0, .int 0, .int 0, .int 0, .int 0, .ref (u_15.1 10), .ref (u_15.1 11), .ref (u_15.1 12)])), ((u_15.1 10), .inl (cA 1, 60, .inl (fun _ => 0))), ((u_15.1 11), .inl (cA 1, 60, .inl (fun _ => 0))), ((u_15.1 12), .inl (cA 1, 60, .inl (fun _ => 0))), (q_17, .inr (4, [.ref (u_18.1 0), .ref (u_18.1 9), .int 0])), ((u_18.1 0), .inr (3, [.int 0, .int 0, .int 0, .int 0, .int 0, .int 0, .int 0, .int 0, .ref (u_18.1 1), .ref (u_18.1 2), .ref (u_18.1 3), .ref (u_18.1 4), .ref (u_18.1 5), .ref (u_18.1 6), .ref (u_18.1 7), .ref (u_18.1 8)])), ((u_18.1 1), .inl (cA 1, 8, .inl (fun _ => 0))), ((u_18.1 2), .inl (cA 1, 8, .inl (fun _ => 0))), ((u_18.1 3), .inl (cA 1, 8, .inl (fun _ => 0))), ((u_18.1 4), .inl (cA 1, 7, .inl (fun _ => 0))), ((u_18.1 5), .inl (cA 1, 7, .inl (fun _ => 0))), ((u_18.1 6), .inl (cA 1, 7, .inl (fun _ => 0))), ((u_18.1 7), .inl (cA 1, 4, .inl (fun _ => 0))), ((u_18.1 8), .inl (cA 1, 4, .inl (fun _ => 0))), ((u_18.1 9), .inr (2, [.int (-1), .int (-1), .int 0, .int 0, .int 0, .int 0, .int 0, .ref (u_18.1 10), .ref (u_18.1 11), .ref (u_18.1 12)])), ((u_18.1 10), .inl (cA 1, 60, .inl (fun _ => 0))), ((u_18.1 11), .inl (cA 1, 60, .inl (fun _ => 0))), ((u_18.1 12), .inl (cA 1, 60, .inl (fun _ => 0))), (q_20, .inr (7, [.ref (u_21.1 2), .ref (u_21.1 0), .ref (u_21.1 1)])), ((u_21.1 0), .inl (cA 1, 4, .inl (fun _ => 0))), ((u_21.1 1), .inl (cA 2, 240, .inr (.inl (fun _ => 0)))), ((u_21.1 2), .inl (cA 1, 4, .inl (u_21.2.2.1 0))), (q_22, .inr (1, [.int (-1), .int 1, .ref q_5])), (q_24, .inr (5, [.ref (u_25.1 0), .int 0, .int 0, .ref (u_25.1 1), .int 0, .ref q_5])), ((u_25.1 0), .inl (cA 1, 8, .inl (fun _ => 0))), ((u_25.1 1), .inl (cA 1, 8, .inl (fun _ => 0))), (q_26, .inr (8, [.ref (u_27.1 0), .ref q_5])), ((u_27.1 0), .inl (cA 1, 128, .inl (fun _ => 0)))] H := hP
  have hD : va_D A [(h0, .inr (11, [.ref q_1, .ref q_3, .ref q_5, .ref q_7, .ref q_9, .ref q_20, .ref q_22, .ref q_24, .null, .null, .null])), (q_1, .inr (9, [.ref (u_2.1 0), .int 0])), ((u_2.1 0), .inl (cA 0, 800, .inl (fun _ => 0))), (q_3, .inr (6, [.ref (u_4.1 0), .int 0, .int (-1), .ref q_1, .int 0, .int 0, .int 0, .int 0, .int 0, .int 0, .int 0, .int 0, .ref (u_4.1 9)])), ((u_4.1 0), .inr (3, [.int 0, .int 0, .int 0, .int 0, .int 0, .int 0, .int 0, .int 0, .ref (u_4.1 1), .ref (u_4.1 2), .ref (u_4.1 3), .ref (u_4.1 4), .ref (u_4.1 5), .ref (u_4.1 6), .ref (u_4.1 7), .ref (u_4.1 8)])), ((u_4.1 1), .inl (cA 1, 8, .inl (fun _ => 0))), ((u_4.1 2), .inl (cA 1, 8, .inl (fun _ => 0))), ((u_4.1 3), .inl (cA 1, 8, .inl (fun _ => 0))), ((u_4.1 4), .inl (cA 1, 7, .inl (fun _ => 0))), ((u_4.1 5), .inl (cA 1, 7, .inl (fun _ => 0))), ((u_4.1 6), .inl (cA 1, 7, .inl (fun _ => 0))), ((u_4.1 7), .inl (cA 1, 4, .inl (fun _ => 0))), ((u_4.1 8), .inl (cA 1, 4, .inl (fun _ => 0))), ((u_4.1 9), .inl (cA 1, 3, .inl (fun _ => 0))), (q_5, .inr (3, [.int 0, .int 0, .int 0, .int 0, .int 0, .int 0, .int 0, .int 0, .ref (u_6.1 0), .ref (u_6.1 1), .ref (u_6.1 2), .ref (u_6.1 3), .ref (u_6.1 4), .ref (u_6.1 5), .ref (u_6.1 6), .ref (u_6.1 7)])), ((u_6.1 0), .inl (cA 1, 8, .inl (fun _ => 0))), ((u_6.1 1), .inl (cA 1, 8, .inl (fun _ => 0))), ((u_6.1 2), .inl (cA 1, 8, .inl (fun _ => 0))), ((u_6.1 3), .inl (cA 1, 7, .inl (fun _ => 0))), ((u_6.1 4), .inl (cA 1, 7, .inl (fun _ => 0))), ((u_6.1 5), .inl (cA 1, 7, .inl (fun _ => 0))), ((u_6.1 6), .inl (cA 1, 4, .inl (fun _ => 0))), ((u_6.1 7), .inl (cA 1, 4, .inl (fun _ => 0))), (q_7, .inr (2, [.int (-1), .int (-1), .int 0, .int 0, .int 0, .int 0, .int 0, .ref (u_8.1 0), .ref (u_8.1 1), .ref (u_8.1 2)])), ((u_8.1 0), .inl (cA 1, 60, .inl (fun _ => 0))), ((u_8.1 1), .inl (cA 1, 60, .inl (fun _ => 0))), ((u_8.1 2), .inl (cA 1, 60, .inl (fun _ => 0))), (q_9, .inl (cA 4, 3, .inr (.inr (.inr (.inr (va_up (va_up (va_up (fun _ => none) 0 (some q_11)) 1 (some q_14)) 2 (some q_17))))))), (q_11, .inr (4, [.ref (u_12.1 0), .ref (u_12.1 9), .int 0])), ((u_12.1 0), .inr (3, [.int 0, .int 0, .int 0, .int 0, .int 0, .int 0, .int 0, .int 0, .ref (u_12.1 1), .ref (u_12.1 2), .ref (u_12.1 3), .ref (u_12.1 4), .ref (u_12.1 5), .ref (u_12.1 6), .ref (u_12.1 7), .ref (u_12.1 8)])), ((u_12.1 1), .inl (cA 1, 8, .inl (fun _ => 0))), ((u_12.1 2), .inl (cA 1, 8, .inl (fun _ => 0))), ((u_12.1 3), .inl (cA 1, 8, .inl (fun _ => 0))), ((u_12.1 4), .inl (cA 1, 7, .inl (fun _ => 0))), ((u_12.1 5), .inl (cA 1, 7, .inl (fun _ => 0))), ((u_12.1 6), .inl (cA 1, 7, .inl (fun _ => 0))), ((u_12.1 7), .inl (cA 1, 4, .inl (fun _ => 0))), ((u_12.1 8), .inl (cA 1, 4, .inl (fun _ => 0))), ((u_12.1 9), .inr (2, [.int (-1), .int (-1), .int 0, .int 0, .int 0, .int 0, .int 0, .ref (u_12.1 10), .ref (u_12.1 11), .ref (u_12.1 12)])), ((u_12.1 10), .inl (cA 1, 60, .inl (fun _ => 0))), ((u_12.1 11), .inl (cA 1, 60, .inl (fun _ => 0))), ((u_12.1 12), .inl (cA 1, 60, .inl (fun _ => 0))), (q_14, .inr (4, [.ref (u_15.1 0), .ref (u_15.1 9), .int 0])), ((u_15.1 0), .inr (3, [.int 0, .int 0, .int 0, .int 0, .int 0, .int 0, .int 0, .int 0, .ref (u_15.1 1), .ref (u_15.1 2), .ref (u_15.1 3), .ref (u_15.1 4), .ref (u_15.1 5), .ref (u_15.1 6), .ref (u_15.1 7), .ref (u_15.1 8)])), ((u_15.1 1), .inl (cA 1, 8, .inl (fun _ => 0))), ((u_15.1 2), .inl (cA 1, 8, .inl (fun _ => 0))), ((u_15.1 3), .inl (cA 1, 8, .inl (fun _ => 0))), ((u_15.1 4), .inl (cA 1, 7, .inl (fun _ => 0))), ((u_15.1 5), .inl (cA 1, 7, .inl (fun _ => 0))), ((u_15.1 6), .inl (cA 1, 7, .inl (fun _ => 0))), ((u_15.1 7), .inl (cA 1, 4, .inl (fun _ => 0))), ((u_15.1 8), .inl (cA 1, 4, .inl (fun _ => 0))), ((u_15.1 9), .inr (2, [.int (-1), .int (-1), .int 0, .int 0, .int 0, .int 0, .int 0, .ref (u_15.1 10), .ref (u_15.1 11), .ref (u_15.1 12)])), ((u_15.1 10), .inl (cA 1, 60, .inl (fun _ => 0))), ((u_15.1 11), .inl (cA 1, 60, .inl (fun _ => 0))), ((u_15.1 12), .inl (cA 1, 60, .inl (fun _ => 0))), (q_17, .inr (4, [.ref (u_18.1 0), .ref (u_18.1 9), .int 0])), ((u_18.1 0), .inr (3, [.int 0, .int 0, .int 0, .int 0, .int 0, .int 0, .int 0, .int 0, .ref (u_18.1 1), .ref (u_18.1 2), .ref (u_18.1 3), .ref (u_18.1 4), .ref (u_18.1 5), .ref (u_18.1 6), .ref (u_18.1 7), .ref (u_18.1 8)])), ((u_18.1 1), .inl (cA 1, 8, .inl (fun _ => 0))), ((u_18.1 2), .inl (cA 1, 8, .inl (fun _ => 0))), ((u_18.1 3), .inl (cA 1, 8, .inl (fun _ => 0))), ((u_18.1 4), .inl (cA 1, 7, .inl (fun _ => 0))), ((u_18.1 5), .inl (cA 1, 7, .inl (fun _ => 0))), ((u_18.1 6), .inl (cA 1, 7, .inl (fun _ => 0))), ((u_18.1 7), .inl (cA 1, 4, .inl (fun _ => 0))), ((u_18.1 8), .inl (cA 1, 4, .inl (fun _ => 0))), ((u_18.1 9), .inr (2, [.int (-1), .int (-1), .int 0, .int 0, .int 0, .int 0, .int 0, .ref (u_18.1 10), .ref (u_18.1 11), .ref (u_18.1 12)])), ((u_18.1 10), .inl (cA 1, 60, .inl (fun _ => 0))), ((u_18.1 11), .inl (cA 1, 60, .inl (fun _ => 0))), ((u_18.1 12), .inl (cA 1, 60, .inl (fun _ => 0))), (q_20, .inr (7, [.ref (u_21.1 2), .ref (u_21.1 0), .ref (u_21.1 1)])), ((u_21.1 0), .inl (cA 1, 4, .inl (fun _ => 0))), ((u_21.1 1), .inl (cA 2, 240, .inr (.inl (fun _ => 0)))), ((u_21.1 2), .inl (cA 1, 4, .inl (u_21.2.2.1 0))), (q_22, .inr (1, [.int (-1), .int 1, .ref q_5])), (q_24, .inr (5, [.ref (u_25.1 0), .int 0, .int 0, .ref (u_25.1 1), .int 0, .ref q_5])), ((u_25.1 0), .inl (cA 1, 8, .inl (fun _ => 0))), ((u_25.1 1), .inl (cA 1, 8, .inl (fun _ => 0))), (q_26, .inr (8, [.ref (u_27.1 0), .ref q_5])), ((u_27.1 0), .inl (cA 1, 128, .inl (fun _ => 0)))] := hD
  refine W.widen (k := 79) (n := 2341) (Nat.le_of_ble_eq_true rfl) (Nat.le_of_ble_eq_true rfl) ?_
  refine va_putF (D := D) (ci := 11) (v := .ref q_26) (ty := (.object "WristTreaty$Speech")) (C := RX11) (T := TX11) (N := 11) hx hb hts inX11 tyX11 tyX11_ok nmX11 hown hKN.1 hP hD hS 0 rfl rfl 8 (by decide) (hts _ tw_473) (fun _ h9 => h9) rfl hin rfl (by decide +kernel) rfl rfl (Nat.le_of_ble_eq_true rfl) dX11_init_139 (fun H locs hP hD hS => ?_)
  have hP : va_P D vwCl [(h0, .inr (11, [.ref q_1, .ref q_3, .ref q_5, .ref q_7, .ref q_9, .ref q_20, .ref q_22, .ref q_24, .ref q_26, .null, .null])), (q_1, .inr (9, [.ref (u_2.1 0), .int 0])), ((u_2.1 0), .inl (cA 0, 800, .inl (fun _ => 0))), (q_3, .inr (6, [.ref (u_4.1 0), .int 0, .int (-1), .ref q_1, .int 0, .int 0, .int 0, .int 0, .int 0, .int 0, .int 0, .int 0, .ref (u_4.1 9)])), ((u_4.1 0), .inr (3, [.int 0, .int 0, .int 0, .int 0, .int 0, .int 0, .int 0, .int 0, .ref (u_4.1 1), .ref (u_4.1 2), .ref (u_4.1 3), .ref (u_4.1 4), .ref (u_4.1 5), .ref (u_4.1 6), .ref (u_4.1 7), .ref (u_4.1 8)])), ((u_4.1 1), .inl (cA 1, 8, .inl (fun _ => 0))), ((u_4.1 2), .inl (cA 1, 8, .inl (fun _ => 0))), ((u_4.1 3), .inl (cA 1, 8, .inl (fun _ => 0))), ((u_4.1 4), .inl (cA 1, 7, .inl (fun _ => 0))), ((u_4.1 5), .inl (cA 1, 7, .inl (fun _ => 0))), ((u_4.1 6), .inl (cA 1, 7, .inl (fun _ => 0))), ((u_4.1 7), .inl (cA 1, 4, .inl (fun _ => 0))), ((u_4.1 8), .inl (cA 1, 4, .inl (fun _ => 0))), ((u_4.1 9), .inl (cA 1, 3, .inl (fun _ => 0))), (q_5, .inr (3, [.int 0, .int 0, .int 0, .int 0, .int 0, .int 0, .int 0, .int 0, .ref (u_6.1 0), .ref (u_6.1 1), .ref (u_6.1 2), .ref (u_6.1 3), .ref (u_6.1 4), .ref (u_6.1 5), .ref (u_6.1 6), .ref (u_6.1 7)])), ((u_6.1 0), .inl (cA 1, 8, .inl (fun _ => 0))), ((u_6.1 1), .inl (cA 1, 8, .inl (fun _ => 0))), ((u_6.1 2), .inl (cA 1, 8, .inl (fun _ => 0))), ((u_6.1 3), .inl (cA 1, 7, .inl (fun _ => 0))), ((u_6.1 4), .inl (cA 1, 7, .inl (fun _ => 0))), ((u_6.1 5), .inl (cA 1, 7, .inl (fun _ => 0))), ((u_6.1 6), .inl (cA 1, 4, .inl (fun _ => 0))), ((u_6.1 7), .inl (cA 1, 4, .inl (fun _ => 0))), (q_7, .inr (2, [.int (-1), .int (-1), .int 0, .int 0, .int 0, .int 0, .int 0, .ref (u_8.1 0), .ref (u_8.1 1), .ref (u_8.1 2)])), ((u_8.1 0), .inl (cA 1, 60, .inl (fun _ => 0))), ((u_8.1 1), .inl (cA 1, 60, .inl (fun _ => 0))), ((u_8.1 2), .inl (cA 1, 60, .inl (fun _ => 0))), (q_9, .inl (cA 4, 3, .inr (.inr (.inr (.inr (va_up (va_up (va_up (fun _ => none) 0 (some q_11)) 1 (some q_14)) 2 (some q_17))))))), (q_11, .inr (4, [.ref (u_12.1 0), .ref (u_12.1 9), .int 0])), ((u_12.1 0), .inr (3, [.int 0, .int 0, .int 0, .int 0, .int 0, .int 0, .int 0, .int 0, .ref (u_12.1 1), .ref (u_12.1 2), .ref (u_12.1 3), .ref (u_12.1 4), .ref (u_12.1 5), .ref (u_12.1 6), .ref (u_12.1 7), .ref (u_12.1 8)])), ((u_12.1 1), .inl (cA 1, 8, .inl (fun _ => 0))), ((u_12.1 2), .inl (cA 1, 8, .inl (fun _ => 0))), ((u_12.1 3), .inl (cA 1, 8, .inl (fun _ => 0))), ((u_12.1 4), .inl (cA 1, 7, .inl (fun _ => 0))), ((u_12.1 5), .inl (cA 1, 7, .inl (fun _ => 0))), ((u_12.1 6), .inl (cA 1, 7, .inl (fun _ => 0))), ((u_12.1 7), .inl (cA 1, 4, .inl (fun _ => 0))), ((u_12.1 8), .inl (cA 1, 4, .inl (fun _ => 0))), ((u_12.1 9), .inr (2, [.int (-1), .int (-1), .int 0, .int 0, .int 0, .int 0, .int 0, .ref (u_12.1 10), .ref (u_12.1 11), .ref (u_12.1 12)])), ((u_12.1 10), .inl (cA 1, 60, .inl (fun _ => 0))), ((u_12.1 11), .inl (cA 1, 60, .inl (fun _ => 0))), ((u_12.1 12), .inl (cA 1, 60, .inl (fun _ => 0))), (q_14, .inr (4, [.ref (u_15.1 0), .ref (u_15.1 9), .int 0])), ((u_15.1 0), .inr (3, [.int 0, .int 0, .int 0, .int 0, .int 0, .int 0, .int 0, .int 0, .ref (u_15.1 1), .ref (u_15.1 2), .ref (u_15.1 3), .ref (u_15.1 4), .ref (u_15.1 5), .ref (u_15.1 6), .ref (u_15.1 7), .ref (u_15.1 8)])), ((u_15.1 1), .inl (cA 1, 8, .inl (fun _ => 0))), ((u_15.1 2), .inl (cA 1, 8, .inl (fun _ => 0))), ((u_15.1 3), .inl (cA 1, 8, .inl (fun _ => 0))), ((u_15.1 4), .inl (cA 1, 7, .inl (fun _ => 0))), ((u_15.1 5), .inl (cA 1, 7, .inl (fun _ => 0))), ((u_15.1 6), .inl (cA 1, 7, .inl (fun _ => 0))), ((u_15.1 7), .inl (cA 1, 4, .inl (fun _ => 0))), ((u_15.1 8), .inl (cA 1, 4, .inl (fun _ => 0))), ((u_15.1 9), .inr (2, [.int (-1), .int (-1), .int 0, .int 0, .int 0, .int 0, .int 0, .ref (u_15.1 10), .ref (u_15.1 11), .ref (u_15.1 12)])), ((u_15.1 10), .inl (cA 1, 60, .inl (fun _ => 0))), ((u_15.1 11), .inl (cA 1, 60, .inl (fun _ => 0))), ((u_15.1 12), .inl (cA 1, 60, .inl (fun _ => 0))), (q_17, .inr (4, [.ref (u_18.1 0), .ref (u_18.1 9), .int 0])), ((u_18.1 0), .inr (3, [.int 0, .int 0, .int 0, .int 0, .int 0, .int 0, .int 0, .int 0, .ref (u_18.1 1), .ref (u_18.1 2), .ref (u_18.1 3), .ref (u_18.1 4), .ref (u_18.1 5), .ref (u_18.1 6), .ref (u_18.1 7), .ref (u_18.1 8)])), ((u_18.1 1), .inl (cA 1, 8, .inl (fun _ => 0))), ((u_18.1 2), .inl (cA 1, 8, .inl (fun _ => 0))), ((u_18.1 3), .inl (cA 1, 8, .inl (fun _ => 0))), ((u_18.1 4), .inl (cA 1, 7, .inl (fun _ => 0))), ((u_18.1 5), .inl (cA 1, 7, .inl (fun _ => 0))), ((u_18.1 6), .inl (cA 1, 7, .inl (fun _ => 0))), ((u_18.1 7), .inl (cA 1, 4, .inl (fun _ => 0))), ((u_18.1 8), .inl (cA 1, 4, .inl (fun _ => 0))), ((u_18.1 9), .inr (2, [.int (-1), .int (-1), .int 0, .int 0, .int 0, .int 0, .int 0, .ref (u_18.1 10), .ref (u_18.1 11), .ref (u_18.1 12)])), ((u_18.1 10), .inl (cA 1, 60, .inl (fun _ => 0))), ((u_18.1 11), .inl (cA 1, 60, .inl (fun _ => 0))), ((u_18.1 12), .inl (cA 1, 60, .inl (fun _ => 0))), (q_20, .inr (7, [.ref (u_21.1 2), .ref (u_21.1 0), .ref (u_21.1 1)])), ((u_21.1 0), .inl (cA 1, 4, .inl (fun _ => 0))), ((u_21.1 1), .inl (cA 2, 240, .inr (.inl (fun _ => 0)))), ((u_21.1 2), .inl (cA 1, 4, .inl (u_21.2.2.1 0))), (q_22, .inr (1, [.int (-1), .int 1, .ref q_5])), (q_24, .inr (5, [.ref (u_25.1 0), .int 0, .int 0, .ref (u_25.1 1), .int 0, .ref q_5])), ((u_25.1 0), .inl (cA 1, 8, .inl (fun _ => 0))), ((u_25.1 1), .inl (cA 1, 8, .inl (fun _ => 0))), (q_26, .inr (8, [.ref (u_27.1 0), .ref q_5])), ((u_27.1 0), .inl (cA 1, 128, .inl (fun _ => 0)))] H := hP
  have hD : va_D A [(h0, .inr (11, [.ref q_1, .ref q_3, .ref q_5, .ref q_7, .ref q_9, .ref q_20, .ref q_22, .ref q_24, .ref q_26, .null, .null])), (q_1, .inr (9, [.ref (u_2.1 0), .int 0])), ((u_2.1 0), .inl (cA 0, 800, .inl (fun _ => 0))), (q_3, .inr (6, [.ref (u_4.1 0), .int 0, .int (-1), .ref q_1, .int 0, .int 0, .int 0, .int 0, .int 0, .int 0, .int 0, .int 0, .ref (u_4.1 9)])), ((u_4.1 0), .inr (3, [.int 0, .int 0, .int 0, .int 0, .int 0, .int 0, .int 0, .int 0, .ref (u_4.1 1), .ref (u_4.1 2), .ref (u_4.1 3), .ref (u_4.1 4), .ref (u_4.1 5), .ref (u_4.1 6), .ref (u_4.1 7), .ref (u_4.1 8)])), ((u_4.1 1), .inl (cA 1, 8, .inl (fun _ => 0))), ((u_4.1 2), .inl (cA 1, 8, .inl (fun _ => 0))), ((u_4.1 3), .inl (cA 1, 8, .inl (fun _ => 0))), ((u_4.1 4), .inl (cA 1, 7, .inl (fun _ => 0))), ((u_4.1 5), .inl (cA 1, 7, .inl (fun _ => 0))), ((u_4.1 6), .inl (cA 1, 7, .inl (fun _ => 0))), ((u_4.1 7), .inl (cA 1, 4, .inl (fun _ => 0))), ((u_4.1 8), .inl (cA 1, 4, .inl (fun _ => 0))), ((u_4.1 9), .inl (cA 1, 3, .inl (fun _ => 0))), (q_5, .inr (3, [.int 0, .int 0, .int 0, .int 0, .int 0, .int 0, .int 0, .int 0, .ref (u_6.1 0), .ref (u_6.1 1), .ref (u_6.1 2), .ref (u_6.1 3), .ref (u_6.1 4), .ref (u_6.1 5), .ref (u_6.1 6), .ref (u_6.1 7)])), ((u_6.1 0), .inl (cA 1, 8, .inl (fun _ => 0))), ((u_6.1 1), .inl (cA 1, 8, .inl (fun _ => 0))), ((u_6.1 2), .inl (cA 1, 8, .inl (fun _ => 0))), ((u_6.1 3), .inl (cA 1, 7, .inl (fun _ => 0))), ((u_6.1 4), .inl (cA 1, 7, .inl (fun _ => 0))), ((u_6.1 5), .inl (cA 1, 7, .inl (fun _ => 0))), ((u_6.1 6), .inl (cA 1, 4, .inl (fun _ => 0))), ((u_6.1 7), .inl (cA 1, 4, .inl (fun _ => 0))), (q_7, .inr (2, [.int (-1), .int (-1), .int 0, .int 0, .int 0, .int 0, .int 0, .ref (u_8.1 0), .ref (u_8.1 1), .ref (u_8.1 2)])), ((u_8.1 0), .inl (cA 1, 60, .inl (fun _ => 0))), ((u_8.1 1), .inl (cA 1, 60, .inl (fun _ => 0))), ((u_8.1 2), .inl (cA 1, 60, .inl (fun _ => 0))), (q_9, .inl (cA 4, 3, .inr (.inr (.inr (.inr (va_up (va_up (va_up (fun _ => none) 0 (some q_11)) 1 (some q_14)) 2 (some q_17))))))), (q_11, .inr (4, [.ref (u_12.1 0), .ref (u_12.1 9), .int 0])), ((u_12.1 0), .inr (3, [.int 0, .int 0, .int 0, .int 0, .int 0, .int 0, .int 0, .int 0, .ref (u_12.1 1), .ref (u_12.1 2), .ref (u_12.1 3), .ref (u_12.1 4), .ref (u_12.1 5), .ref (u_12.1 6), .ref (u_12.1 7), .ref (u_12.1 8)])), ((u_12.1 1), .inl (cA 1, 8, .inl (fun _ => 0))), ((u_12.1 2), .inl (cA 1, 8, .inl (fun _ => 0))), ((u_12.1 3), .inl (cA 1, 8, .inl (fun _ => 0))), ((u_12.1 4), .inl (cA 1, 7, .inl (fun _ => 0))), ((u_12.1 5), .inl (cA 1, 7, .inl (fun _ => 0))), ((u_12.1 6), .inl (cA 1, 7, .inl (fun _ => 0))), ((u_12.1 7), .inl (cA 1, 4, .inl (fun _ => 0))), ((u_12.1 8), .inl (cA 1, 4, .inl (fun _ => 0))), ((u_12.1 9), .inr (2, [.int (-1), .int (-1), .int 0, .int 0, .int 0, .int 0, .int 0, .ref (u_12.1 10), .ref (u_12.1 11), .ref (u_12.1 12)])), ((u_12.1 10), .inl (cA 1, 60, .inl (fun _ => 0))), ((u_12.1 11), .inl (cA 1, 60, .inl (fun _ => 0))), ((u_12.1 12), .inl (cA 1, 60, .inl (fun _ => 0))), (q_14, .inr (4, [.ref (u_15.1 0), .ref (u_15.1 9), .int 0])), ((u_15.1 0), .inr (3, [.int 0, .int 0, .int 0, .int 0, .int 0, .int 0, .int 0, .int 0, .ref (u_15.1 1), .ref (u_15.1 2), .ref (u_15.1 3), .ref (u_15.1 4), .ref (u_15.1 5), .ref (u_15.1 6), .ref (u_15.1 7), .ref (u_15.1 8)])), ((u_15.1 1), .inl (cA 1, 8, .inl (fun _ => 0))), ((u_15.1 2), .inl (cA 1, 8, .inl (fun _ => 0))), ((u_15.1 3), .inl (cA 1, 8, .inl (fun _ => 0))), ((u_15.1 4), .inl (cA 1, 7, .inl (fun _ => 0))), ((u_15.1 5), .inl (cA 1, 7, .inl (fun _ => 0))), ((u_15.1 6), .inl (cA 1, 7, .inl (fun _ => 0))), ((u_15.1 7), .inl (cA 1, 4, .inl (fun _ => 0))), ((u_15.1 8), .inl (cA 1, 4, .inl (fun _ => 0))), ((u_15.1 9), .inr (2, [.int (-1), .int (-1), .int 0, .int 0, .int 0, .int 0, .int 0, .ref (u_15.1 10), .ref (u_15.1 11), .ref (u_15.1 12)])), ((u_15.1 10), .inl (cA 1, 60, .inl (fun _ => 0))), ((u_15.1 11), .inl (cA 1, 60, .inl (fun _ => 0))), ((u_15.1 12), .inl (cA 1, 60, .inl (fun _ => 0))), (q_17, .inr (4, [.ref (u_18.1 0), .ref (u_18.1 9), .int 0])), ((u_18.1 0), .inr (3, [.int 0, .int 0, .int 0, .int 0, .int 0, .int 0, .int 0, .int 0, .ref (u_18.1 1), .ref (u_18.1 2), .ref (u_18.1 3), .ref (u_18.1 4), .ref (u_18.1 5), .ref (u_18.1 6), .ref (u_18.1 7), .ref (u_18.1 8)])), ((u_18.1 1), .inl (cA 1, 8, .inl (fun _ => 0))), ((u_18.1 2), .inl (cA 1, 8, .inl (fun _ => 0))), ((u_18.1 3), .inl (cA 1, 8, .inl (fun _ => 0))), ((u_18.1 4), .inl (cA 1, 7, .inl (fun _ => 0))), ((u_18.1 5), .inl (cA 1, 7, .inl (fun _ => 0))), ((u_18.1 6), .inl (cA 1, 7, .inl (fun _ => 0))), ((u_18.1 7), .inl (cA 1, 4, .inl (fun _ => 0))), ((u_18.1 8), .inl (cA 1, 4, .inl (fun _ => 0))), ((u_18.1 9), .inr (2, [.int (-1), .int (-1), .int 0, .int 0, .int 0, .int 0, .int 0, .ref (u_18.1 10), .ref (u_18.1 11), .ref (u_18.1 12)])), ((u_18.1 10), .inl (cA 1, 60, .inl (fun _ => 0))), ((u_18.1 11), .inl (cA 1, 60, .inl (fun _ => 0))), ((u_18.1 12), .inl (cA 1, 60, .inl (fun _ => 0))), (q_20, .inr (7, [.ref (u_21.1 2), .ref (u_21.1 0), .ref (u_21.1 1)])), ((u_21.1 0), .inl (cA 1, 4, .inl (fun _ => 0))), ((u_21.1 1), .inl (cA 2, 240, .inr (.inl (fun _ => 0)))), ((u_21.1 2), .inl (cA 1, 4, .inl (u_21.2.2.1 0))), (q_22, .inr (1, [.int (-1), .int 1, .ref q_5])), (q_24, .inr (5, [.ref (u_25.1 0), .int 0, .int 0, .ref (u_25.1 1), .int 0, .ref q_5])), ((u_25.1 0), .inl (cA 1, 8, .inl (fun _ => 0))), ((u_25.1 1), .inl (cA 1, 8, .inl (fun _ => 0))), (q_26, .inr (8, [.ref (u_27.1 0), .ref q_5])), ((u_27.1 0), .inl (cA 1, 128, .inl (fun _ => 0)))] := hD
  refine lv_aload_n hx hb dX11_init_142 rfl (lv_at hl 1 rfl) ?_
  refine va_new (ci := 0) (fs := [.int 0, .int 0, .int 0, .null, .null, .null, .null]) (C := RX0) (T := TX0) (N := 7) hx hb hts inX0 tyX0 tyX0_ok hown (hts _ tw_411) (hts _ tw_412) (hts _ tw_112) hKN.1 hP hD hS hA rfl dfX0 (Nat.le_of_ble_eq_true rfl) (Nat.le_of_ble_eq_true rfl) dX11_init_143 (fun q_28 H hP hD hS => ?_)
  have hP : va_P D vwCl [(h0, .inr (11, [.ref q_1, .ref q_3, .ref q_5, .ref q_7, .ref q_9, .ref q_20, .ref q_22, .ref q_24, .ref q_26, .null, .null])), (q_1, .inr (9, [.ref (u_2.1 0), .int 0])), ((u_2.1 0), .inl (cA 0, 800, .inl (fun _ => 0))), (q_3, .inr (6, [.ref (u_4.1 0), .int 0, .int (-1), .ref q_1, .int 0, .int 0, .int 0, .int 0, .int 0, .int 0, .int 0, .int 0, .ref (u_4.1 9)])), ((u_4.1 0), .inr (3, [.int 0, .int 0, .int 0, .int 0, .int 0, .int 0, .int 0, .int 0, .ref (u_4.1 1), .ref (u_4.1 2), .ref (u_4.1 3), .ref (u_4.1 4), .ref (u_4.1 5), .ref (u_4.1 6), .ref (u_4.1 7), .ref (u_4.1 8)])), ((u_4.1 1), .inl (cA 1, 8, .inl (fun _ => 0))), ((u_4.1 2), .inl (cA 1, 8, .inl (fun _ => 0))), ((u_4.1 3), .inl (cA 1, 8, .inl (fun _ => 0))), ((u_4.1 4), .inl (cA 1, 7, .inl (fun _ => 0))), ((u_4.1 5), .inl (cA 1, 7, .inl (fun _ => 0))), ((u_4.1 6), .inl (cA 1, 7, .inl (fun _ => 0))), ((u_4.1 7), .inl (cA 1, 4, .inl (fun _ => 0))), ((u_4.1 8), .inl (cA 1, 4, .inl (fun _ => 0))), ((u_4.1 9), .inl (cA 1, 3, .inl (fun _ => 0))), (q_5, .inr (3, [.int 0, .int 0, .int 0, .int 0, .int 0, .int 0, .int 0, .int 0, .ref (u_6.1 0), .ref (u_6.1 1), .ref (u_6.1 2), .ref (u_6.1 3), .ref (u_6.1 4), .ref (u_6.1 5), .ref (u_6.1 6), .ref (u_6.1 7)])), ((u_6.1 0), .inl (cA 1, 8, .inl (fun _ => 0))), ((u_6.1 1), .inl (cA 1, 8, .inl (fun _ => 0))), ((u_6.1 2), .inl (cA 1, 8, .inl (fun _ => 0))), ((u_6.1 3), .inl (cA 1, 7, .inl (fun _ => 0))), ((u_6.1 4), .inl (cA 1, 7, .inl (fun _ => 0))), ((u_6.1 5), .inl (cA 1, 7, .inl (fun _ => 0))), ((u_6.1 6), .inl (cA 1, 4, .inl (fun _ => 0))), ((u_6.1 7), .inl (cA 1, 4, .inl (fun _ => 0))), (q_7, .inr (2, [.int (-1), .int (-1), .int 0, .int 0, .int 0, .int 0, .int 0, .ref (u_8.1 0), .ref (u_8.1 1), .ref (u_8.1 2)])), ((u_8.1 0), .inl (cA 1, 60, .inl (fun _ => 0))), ((u_8.1 1), .inl (cA 1, 60, .inl (fun _ => 0))), ((u_8.1 2), .inl (cA 1, 60, .inl (fun _ => 0))), (q_9, .inl (cA 4, 3, .inr (.inr (.inr (.inr (va_up (va_up (va_up (fun _ => none) 0 (some q_11)) 1 (some q_14)) 2 (some q_17))))))), (q_11, .inr (4, [.ref (u_12.1 0), .ref (u_12.1 9), .int 0])), ((u_12.1 0), .inr (3, [.int 0, .int 0, .int 0, .int 0, .int 0, .int 0, .int 0, .int 0, .ref (u_12.1 1), .ref (u_12.1 2), .ref (u_12.1 3), .ref (u_12.1 4), .ref (u_12.1 5), .ref (u_12.1 6), .ref (u_12.1 7), .ref (u_12.1 8)])), ((u_12.1 1), .inl (cA 1, 8, .inl (fun _ => 0))), ((u_12.1 2), .inl (cA 1, 8, .inl (fun _ => 0))), ((u_12.1 3), .inl (cA 1, 8, .inl (fun _ => 0))), ((u_12.1 4), .inl (cA 1, 7, .inl (fun _ => 0))), ((u_12.1 5), .inl (cA 1, 7, .inl (fun _ => 0))), ((u_12.1 6), .inl (cA 1, 7, .inl (fun _ => 0))), ((u_12.1 7), .inl (cA 1, 4, .inl (fun _ => 0))), ((u_12.1 8), .inl (cA 1, 4, .inl (fun _ => 0))), ((u_12.1 9), .inr (2, [.int (-1), .int (-1), .int 0, .int 0, .int 0, .int 0, .int 0, .ref (u_12.1 10), .ref (u_12.1 11), .ref (u_12.1 12)])), ((u_12.1 10), .inl (cA 1, 60, .inl (fun _ => 0))), ((u_12.1 11), .inl (cA 1, 60, .inl (fun _ => 0))), ((u_12.1 12), .inl (cA 1, 60, .inl (fun _ => 0))), (q_14, .inr (4, [.ref (u_15.1 0), .ref (u_15.1 9), .int 0])), ((u_15.1 0), .inr (3, [.int 0, .int 0, .int 0, .int 0, .int 0, .int 0, .int 0, .int 0, .ref (u_15.1 1), .ref (u_15.1 2), .ref (u_15.1 3), .ref (u_15.1 4), .ref (u_15.1 5), .ref (u_15.1 6), .ref (u_15.1 7), .ref (u_15.1 8)])), ((u_15.1 1), .inl (cA 1, 8, .inl (fun _ => 0))), ((u_15.1 2), .inl (cA 1, 8, .inl (fun _ => 0))), ((u_15.1 3), .inl (cA 1, 8, .inl (fun _ => 0))), ((u_15.1 4), .inl (cA 1, 7, .inl (fun _ => 0))), ((u_15.1 5), .inl (cA 1, 7, .inl (fun _ => 0))), ((u_15.1 6), .inl (cA 1, 7, .inl (fun _ => 0))), ((u_15.1 7), .inl (cA 1, 4, .inl (fun _ => 0))), ((u_15.1 8), .inl (cA 1, 4, .inl (fun _ => 0))), ((u_15.1 9), .inr (2, [.int (-1), .int (-1), .int 0, .int 0, .int 0, .int 0, .int 0, .ref (u_15.1 10), .ref (u_15.1 11), .ref (u_15.1 12)])), ((u_15.1 10), .inl (cA 1, 60, .inl (fun _ => 0))), ((u_15.1 11), .inl (cA 1, 60, .inl (fun _ => 0))), ((u_15.1 12), .inl (cA 1, 60, .inl (fun _ => 0))), (q_17, .inr (4, [.ref (u_18.1 0), .ref (u_18.1 9), .int 0])), ((u_18.1 0), .inr (3, [.int 0, .int 0, .int 0, .int 0, .int 0, .int 0, .int 0, .int 0, .ref (u_18.1 1), .ref (u_18.1 2), .ref (u_18.1 3), .ref (u_18.1 4), .ref (u_18.1 5), .ref (u_18.1 6), .ref (u_18.1 7), .ref (u_18.1 8)])), ((u_18.1 1), .inl (cA 1, 8, .inl (fun _ => 0))), ((u_18.1 2), .inl (cA 1, 8, .inl (fun _ => 0))), ((u_18.1 3), .inl (cA 1, 8, .inl (fun _ => 0))), ((u_18.1 4), .inl (cA 1, 7, .inl (fun _ => 0))), ((u_18.1 5), .inl (cA 1, 7, .inl (fun _ => 0))), ((u_18.1 6), .inl (cA 1, 7, .inl (fun _ => 0))), ((u_18.1 7), .inl (cA 1, 4, .inl (fun _ => 0))), ((u_18.1 8), .inl (cA 1, 4, .inl (fun _ => 0))), ((u_18.1 9), .inr (2, [.int (-1), .int (-1), .int 0, .int 0, .int 0, .int 0, .int 0, .ref (u_18.1 10), .ref (u_18.1 11), .ref (u_18.1 12)])), ((u_18.1 10), .inl (cA 1, 60, .inl (fun _ => 0))), ((u_18.1 11), .inl (cA 1, 60, .inl (fun _ => 0))), ((u_18.1 12), .inl (cA 1, 60, .inl (fun _ => 0))), (q_20, .inr (7, [.ref (u_21.1 2), .ref (u_21.1 0), .ref (u_21.1 1)])), ((u_21.1 0), .inl (cA 1, 4, .inl (fun _ => 0))), ((u_21.1 1), .inl (cA 2, 240, .inr (.inl (fun _ => 0)))), ((u_21.1 2), .inl (cA 1, 4, .inl (u_21.2.2.1 0))), (q_22, .inr (1, [.int (-1), .int 1, .ref q_5])), (q_24, .inr (5, [.ref (u_25.1 0), .int 0, .int 0, .ref (u_25.1 1), .int 0, .ref q_5])), ((u_25.1 0), .inl (cA 1, 8, .inl (fun _ => 0))), ((u_25.1 1), .inl (cA 1, 8, .inl (fun _ => 0))), (q_26, .inr (8, [.ref (u_27.1 0), .ref q_5])), ((u_27.1 0), .inl (cA 1, 128, .inl (fun _ => 0))), (q_28, .inr (0, [.int 0, .int 0, .int 0, .null, .null, .null, .null]))] H := hP
  have hD : va_D A [(h0, .inr (11, [.ref q_1, .ref q_3, .ref q_5, .ref q_7, .ref q_9, .ref q_20, .ref q_22, .ref q_24, .ref q_26, .null, .null])), (q_1, .inr (9, [.ref (u_2.1 0), .int 0])), ((u_2.1 0), .inl (cA 0, 800, .inl (fun _ => 0))), (q_3, .inr (6, [.ref (u_4.1 0), .int 0, .int (-1), .ref q_1, .int 0, .int 0, .int 0, .int 0, .int 0, .int 0, .int 0, .int 0, .ref (u_4.1 9)])), ((u_4.1 0), .inr (3, [.int 0, .int 0, .int 0, .int 0, .int 0, .int 0, .int 0, .int 0, .ref (u_4.1 1), .ref (u_4.1 2), .ref (u_4.1 3), .ref (u_4.1 4), .ref (u_4.1 5), .ref (u_4.1 6), .ref (u_4.1 7), .ref (u_4.1 8)])), ((u_4.1 1), .inl (cA 1, 8, .inl (fun _ => 0))), ((u_4.1 2), .inl (cA 1, 8, .inl (fun _ => 0))), ((u_4.1 3), .inl (cA 1, 8, .inl (fun _ => 0))), ((u_4.1 4), .inl (cA 1, 7, .inl (fun _ => 0))), ((u_4.1 5), .inl (cA 1, 7, .inl (fun _ => 0))), ((u_4.1 6), .inl (cA 1, 7, .inl (fun _ => 0))), ((u_4.1 7), .inl (cA 1, 4, .inl (fun _ => 0))), ((u_4.1 8), .inl (cA 1, 4, .inl (fun _ => 0))), ((u_4.1 9), .inl (cA 1, 3, .inl (fun _ => 0))), (q_5, .inr (3, [.int 0, .int 0, .int 0, .int 0, .int 0, .int 0, .int 0, .int 0, .ref (u_6.1 0), .ref (u_6.1 1), .ref (u_6.1 2), .ref (u_6.1 3), .ref (u_6.1 4), .ref (u_6.1 5), .ref (u_6.1 6), .ref (u_6.1 7)])), ((u_6.1 0), .inl (cA 1, 8, .inl (fun _ => 0))), ((u_6.1 1), .inl (cA 1, 8, .inl (fun _ => 0))), ((u_6.1 2), .inl (cA 1, 8, .inl (fun _ => 0))), ((u_6.1 3), .inl (cA 1, 7, .inl (fun _ => 0))), ((u_6.1 4), .inl (cA 1, 7, .inl (fun _ => 0))), ((u_6.1 5), .inl (cA 1, 7, .inl (fun _ => 0))), ((u_6.1 6), .inl (cA 1, 4, .inl (fun _ => 0))), ((u_6.1 7), .inl (cA 1, 4, .inl (fun _ => 0))), (q_7, .inr (2, [.int (-1), .int (-1), .int 0, .int 0, .int 0, .int 0, .int 0, .ref (u_8.1 0), .ref (u_8.1 1), .ref (u_8.1 2)])), ((u_8.1 0), .inl (cA 1, 60, .inl (fun _ => 0))), ((u_8.1 1), .inl (cA 1, 60, .inl (fun _ => 0))), ((u_8.1 2), .inl (cA 1, 60, .inl (fun _ => 0))), (q_9, .inl (cA 4, 3, .inr (.inr (.inr (.inr (va_up (va_up (va_up (fun _ => none) 0 (some q_11)) 1 (some q_14)) 2 (some q_17))))))), (q_11, .inr (4, [.ref (u_12.1 0), .ref (u_12.1 9), .int 0])), ((u_12.1 0), .inr (3, [.int 0, .int 0, .int 0, .int 0, .int 0, .int 0, .int 0, .int 0, .ref (u_12.1 1), .ref (u_12.1 2), .ref (u_12.1 3), .ref (u_12.1 4), .ref (u_12.1 5), .ref (u_12.1 6), .ref (u_12.1 7), .ref (u_12.1 8)])), ((u_12.1 1), .inl (cA 1, 8, .inl (fun _ => 0))), ((u_12.1 2), .inl (cA 1, 8, .inl (fun _ => 0))), ((u_12.1 3), .inl (cA 1, 8, .inl (fun _ => 0))), ((u_12.1 4), .inl (cA 1, 7, .inl (fun _ => 0))), ((u_12.1 5), .inl (cA 1, 7, .inl (fun _ => 0))), ((u_12.1 6), .inl (cA 1, 7, .inl (fun _ => 0))), ((u_12.1 7), .inl (cA 1, 4, .inl (fun _ => 0))), ((u_12.1 8), .inl (cA 1, 4, .inl (fun _ => 0))), ((u_12.1 9), .inr (2, [.int (-1), .int (-1), .int 0, .int 0, .int 0, .int 0, .int 0, .ref (u_12.1 10), .ref (u_12.1 11), .ref (u_12.1 12)])), ((u_12.1 10), .inl (cA 1, 60, .inl (fun _ => 0))), ((u_12.1 11), .inl (cA 1, 60, .inl (fun _ => 0))), ((u_12.1 12), .inl (cA 1, 60, .inl (fun _ => 0))), (q_14, .inr (4, [.ref (u_15.1 0), .ref (u_15.1 9), .int 0])), ((u_15.1 0), .inr (3, [.int 0, .int 0, .int 0, .int 0, .int 0, .int 0, .int 0, .int 0, .ref (u_15.1 1), .ref (u_15.1 2), .ref (u_15.1 3), .ref (u_15.1 4), .ref (u_15.1 5), .ref (u_15.1 6), .ref (u_15.1 7), .ref (u_15.1 8)])), ((u_15.1 1), .inl (cA 1, 8, .inl (fun _ => 0))), ((u_15.1 2), .inl (cA 1, 8, .inl (fun _ => 0))), ((u_15.1 3), .inl (cA 1, 8, .inl (fun _ => 0))), ((u_15.1 4), .inl (cA 1, 7, .inl (fun _ => 0))), ((u_15.1 5), .inl (cA 1, 7, .inl (fun _ => 0))), ((u_15.1 6), .inl (cA 1, 7, .inl (fun _ => 0))), ((u_15.1 7), .inl (cA 1, 4, .inl (fun _ => 0))), ((u_15.1 8), .inl (cA 1, 4, .inl (fun _ => 0))), ((u_15.1 9), .inr (2, [.int (-1), .int (-1), .int 0, .int 0, .int 0, .int 0, .int 0, .ref (u_15.1 10), .ref (u_15.1 11), .ref (u_15.1 12)])), ((u_15.1 10), .inl (cA 1, 60, .inl (fun _ => 0))), ((u_15.1 11), .inl (cA 1, 60, .inl (fun _ => 0))), ((u_15.1 12), .inl (cA 1, 60, .inl (fun _ => 0))), (q_17, .inr (4, [.ref (u_18.1 0), .ref (u_18.1 9), .int 0])), ((u_18.1 0), .inr (3, [.int 0, .int 0, .int 0, .int 0, .int 0, .int 0, .int 0, .int 0, .ref (u_18.1 1), .ref (u_18.1 2), .ref (u_18.1 3), .ref (u_18.1 4), .ref (u_18.1 5), .ref (u_18.1 6), .ref (u_18.1 7), .ref (u_18.1 8)])), ((u_18.1 1), .inl (cA 1, 8, .inl (fun _ => 0))), ((u_18.1 2), .inl (cA 1, 8, .inl (fun _ => 0))), ((u_18.1 3), .inl (cA 1, 8, .inl (fun _ => 0))), ((u_18.1 4), .inl (cA 1, 7, .inl (fun _ => 0))), ((u_18.1 5), .inl (cA 1, 7, .inl (fun _ => 0))), ((u_18.1 6), .inl (cA 1, 7, .inl (fun _ => 0))), ((u_18.1 7), .inl (cA 1, 4, .inl (fun _ => 0))), ((u_18.1 8), .inl (cA 1, 4, .inl (fun _ => 0))), ((u_18.1 9), .inr (2, [.int (-1), .int (-1), .int 0, .int 0, .int 0, .int 0, .int 0, .ref (u_18.1 10), .ref (u_18.1 11), .ref (u_18.1 12)])), ((u_18.1 10), .inl (cA 1, 60, .inl (fun _ => 0))), ((u_18.1 11), .inl (cA 1, 60, .inl (fun _ => 0))), ((u_18.1 12), .inl (cA 1, 60, .inl (fun _ => 0))), (q_20, .inr (7, [.ref (u_21.1 2), .ref (u_21.1 0), .ref (u_21.1 1)])), ((u_21.1 0), .inl (cA 1, 4, .inl (fun _ => 0))), ((u_21.1 1), .inl (cA 2, 240, .inr (.inl (fun _ => 0)))), ((u_21.1 2), .inl (cA 1, 4, .inl (u_21.2.2.1 0))), (q_22, .inr (1, [.int (-1), .int 1, .ref q_5])), (q_24, .inr (5, [.ref (u_25.1 0), .int 0, .int 0, .ref (u_25.1 1), .int 0, .ref q_5])), ((u_25.1 0), .inl (cA 1, 8, .inl (fun _ => 0))), ((u_25.1 1), .inl (cA 1, 8, .inl (fun _ => 0))), (q_26, .inr (8, [.ref (u_27.1 0), .ref q_5])), ((u_27.1 0), .inl (cA 1, 128, .inl (fun _ => 0))), (q_28, .inr (0, [.int 0, .int 0, .int 0, .null, .null, .null, .null]))] := hD
  refine W.widen (k := 80) (n := 2348) (Nat.le_of_ble_eq_true rfl) (Nat.le_of_ble_eq_true rfl) ?_
  refine lv_dup hx hb dX11_init_146 rfl ?_
  refine lv_aload_n hx hb dX11_init_147 rfl (lv_at hl 1 rfl) ?_
  refine va_get (D := D) (ci := 11) (v := .ref q_5) (C := RX11) (T := TX11) (N := 11) hx hb hts inX11 hown hKN.1 hP 0 rfl rfl 2 (by decide) (hts _ tw_467) (fun _ h9 => h9) rfl dX11_init_148 ?_
  refine cmIv (rest := [.ref q_28, .ref h0]) (wsC := [(q_28, .inr (0, [.int 0, .int 0, .int 0, .null, .null, .null, .null]))]) (wr := [(h0, .inr (11, [.ref q_1, .ref q_3, .ref q_5, .ref q_7, .ref q_9, .ref q_20, .ref q_22, .ref q_24, .ref q_26, .null, .null])), (q_1, .inr (9, [.ref (u_2.1 0), .int 0])), ((u_2.1 0), .inl (cA 0, 800, .inl (fun _ => 0))), (q_3, .inr (6, [.ref (u_4.1 0), .int 0, .int (-1), .ref q_1, .int 0, .int 0, .int 0, .int 0, .int 0, .int 0, .int 0, .int 0, .ref (u_4.1 9)])), ((u_4.1 0), .inr (3, [.int 0, .int 0, .int 0, .int 0, .int 0, .int 0, .int 0, .int 0, .ref (u_4.1 1), .ref (u_4.1 2), .ref (u_4.1 3), .ref (u_4.1 4), .ref (u_4.1 5), .ref (u_4.1 6), .ref (u_4.1 7), .ref (u_4.1 8)])), ((u_4.1 1), .inl (cA 1, 8, .inl (fun _ => 0))), ((u_4.1 2), .inl (cA 1, 8, .inl (fun _ => 0))), ((u_4.1 3), .inl (cA 1, 8, .inl (fun _ => 0))), ((u_4.1 4), .inl (cA 1, 7, .inl (fun _ => 0))), ((u_4.1 5), .inl (cA 1, 7, .inl (fun _ => 0))), ((u_4.1 6), .inl (cA 1, 7, .inl (fun _ => 0))), ((u_4.1 7), .inl (cA 1, 4, .inl (fun _ => 0))), ((u_4.1 8), .inl (cA 1, 4, .inl (fun _ => 0))), ((u_4.1 9), .inl (cA 1, 3, .inl (fun _ => 0))), (q_5, .inr (3, [.int 0, .int 0, .int 0, .int 0, .int 0, .int 0, .int 0, .int 0, .ref (u_6.1 0), .ref (u_6.1 1), .ref (u_6.1 2), .ref (u_6.1 3), .ref (u_6.1 4), .ref (u_6.1 5), .ref (u_6.1 6), .ref (u_6.1 7)])), ((u_6.1 0), .inl (cA 1, 8, .inl (fun _ => 0))), ((u_6.1 1), .inl (cA 1, 8, .inl (fun _ => 0))), ((u_6.1 2), .inl (cA 1, 8, .inl (fun _ => 0))), ((u_6.1 3), .inl (cA 1, 7, .inl (fun _ => 0))), ((u_6.1 4), .inl (cA 1, 7, .inl (fun _ => 0))), ((u_6.1 5), .inl (cA 1, 7, .inl (fun _ => 0))), ((u_6.1 6), .inl (cA 1, 4, .inl (fun _ => 0))), ((u_6.1 7), .inl (cA 1, 4, .inl (fun _ => 0))), (q_7, .inr (2, [.int (-1), .int (-1), .int 0, .int 0, .int 0, .int 0, .int 0, .ref (u_8.1 0), .ref (u_8.1 1), .ref (u_8.1 2)])), ((u_8.1 0), .inl (cA 1, 60, .inl (fun _ => 0))), ((u_8.1 1), .inl (cA 1, 60, .inl (fun _ => 0))), ((u_8.1 2), .inl (cA 1, 60, .inl (fun _ => 0))), (q_9, .inl (cA 4, 3, .inr (.inr (.inr (.inr (va_up (va_up (va_up (fun _ => none) 0 (some q_11)) 1 (some q_14)) 2 (some q_17))))))), (q_11, .inr (4, [.ref (u_12.1 0), .ref (u_12.1 9), .int 0])), ((u_12.1 0), .inr (3, [.int 0, .int 0, .int 0, .int 0, .int 0, .int 0, .int 0, .int 0, .ref (u_12.1 1), .ref (u_12.1 2), .ref (u_12.1 3), .ref (u_12.1 4), .ref (u_12.1 5), .ref (u_12.1 6), .ref (u_12.1 7), .ref (u_12.1 8)])), ((u_12.1 1), .inl (cA 1, 8, .inl (fun _ => 0))), ((u_12.1 2), .inl (cA 1, 8, .inl (fun _ => 0))), ((u_12.1 3), .inl (cA 1, 8, .inl (fun _ => 0))), ((u_12.1 4), .inl (cA 1, 7, .inl (fun _ => 0))), ((u_12.1 5), .inl (cA 1, 7, .inl (fun _ => 0))), ((u_12.1 6), .inl (cA 1, 7, .inl (fun _ => 0))), ((u_12.1 7), .inl (cA 1, 4, .inl (fun _ => 0))), ((u_12.1 8), .inl (cA 1, 4, .inl (fun _ => 0))), ((u_12.1 9), .inr (2, [.int (-1), .int (-1), .int 0, .int 0, .int 0, .int 0, .int 0, .ref (u_12.1 10), .ref (u_12.1 11), .ref (u_12.1 12)])), ((u_12.1 10), .inl (cA 1, 60, .inl (fun _ => 0))), ((u_12.1 11), .inl (cA 1, 60, .inl (fun _ => 0))), ((u_12.1 12), .inl (cA 1, 60, .inl (fun _ => 0))), (q_14, .inr (4, [.ref (u_15.1 0), .ref (u_15.1 9), .int 0])), ((u_15.1 0), .inr (3, [.int 0, .int 0, .int 0, .int 0, .int 0, .int 0, .int 0, .int 0, .ref (u_15.1 1), .ref (u_15.1 2), .ref (u_15.1 3), .ref (u_15.1 4), .ref (u_15.1 5), .ref (u_15.1 6), .ref (u_15.1 7), .ref (u_15.1 8)])), ((u_15.1 1), .inl (cA 1, 8, .inl (fun _ => 0))), ((u_15.1 2), .inl (cA 1, 8, .inl (fun _ => 0))), ((u_15.1 3), .inl (cA 1, 8, .inl (fun _ => 0))), ((u_15.1 4), .inl (cA 1, 7, .inl (fun _ => 0))), ((u_15.1 5), .inl (cA 1, 7, .inl (fun _ => 0))), ((u_15.1 6), .inl (cA 1, 7, .inl (fun _ => 0))), ((u_15.1 7), .inl (cA 1, 4, .inl (fun _ => 0))), ((u_15.1 8), .inl (cA 1, 4, .inl (fun _ => 0))), ((u_15.1 9), .inr (2, [.int (-1), .int (-1), .int 0, .int 0, .int 0, .int 0, .int 0, .ref (u_15.1 10), .ref (u_15.1 11), .ref (u_15.1 12)])), ((u_15.1 10), .inl (cA 1, 60, .inl (fun _ => 0))), ((u_15.1 11), .inl (cA 1, 60, .inl (fun _ => 0))), ((u_15.1 12), .inl (cA 1, 60, .inl (fun _ => 0))), (q_17, .inr (4, [.ref (u_18.1 0), .ref (u_18.1 9), .int 0])), ((u_18.1 0), .inr (3, [.int 0, .int 0, .int 0, .int 0, .int 0, .int 0, .int 0, .int 0, .ref (u_18.1 1), .ref (u_18.1 2), .ref (u_18.1 3), .ref (u_18.1 4), .ref (u_18.1 5), .ref (u_18.1 6), .ref (u_18.1 7), .ref (u_18.1 8)])), ((u_18.1 1), .inl (cA 1, 8, .inl (fun _ => 0))), ((u_18.1 2), .inl (cA 1, 8, .inl (fun _ => 0))), ((u_18.1 3), .inl (cA 1, 8, .inl (fun _ => 0))), ((u_18.1 4), .inl (cA 1, 7, .inl (fun _ => 0))), ((u_18.1 5), .inl (cA 1, 7, .inl (fun _ => 0))), ((u_18.1 6), .inl (cA 1, 7, .inl (fun _ => 0))), ((u_18.1 7), .inl (cA 1, 4, .inl (fun _ => 0))), ((u_18.1 8), .inl (cA 1, 4, .inl (fun _ => 0))), ((u_18.1 9), .inr (2, [.int (-1), .int (-1), .int 0, .int 0, .int 0, .int 0, .int 0, .ref (u_18.1 10), .ref (u_18.1 11), .ref (u_18.1 12)])), ((u_18.1 10), .inl (cA 1, 60, .inl (fun _ => 0))), ((u_18.1 11), .inl (cA 1, 60, .inl (fun _ => 0))), ((u_18.1 12), .inl (cA 1, 60, .inl (fun _ => 0))), (q_20, .inr (7, [.ref (u_21.1 2), .ref (u_21.1 0), .ref (u_21.1 1)])), ((u_21.1 0), .inl (cA 1, 4, .inl (fun _ => 0))), ((u_21.1 1), .inl (cA 2, 240, .inr (.inl (fun _ => 0)))), ((u_21.1 2), .inl (cA 1, 4, .inl (u_21.2.2.1 0))), (q_22, .inr (1, [.int (-1), .int 1, .ref q_5])), (q_24, .inr (5, [.ref (u_25.1 0), .int 0, .int 0, .ref (u_25.1 1), .int 0, .ref q_5])), ((u_25.1 0), .inl (cA 1, 8, .inl (fun _ => 0))), ((u_25.1 1), .inl (cA 1, 8, .inl (fun _ => 0))), (q_26, .inr (8, [.ref (u_27.1 0), .ref q_5])), ((u_27.1 0), .inl (cA 1, 128, .inl (fun _ => 0)))]) ⟨hx, hb, hml, hown, hts⟩ hKN hP hD hS hA [80] [0, 1, 2, 3, 4, 5, 6, 7, 8, 9, 10, 11, 12, 13, 14, 15, 16, 17, 18, 19, 20, 21, 22, 23, 24, 25, 26, 27, 28, 29, 30, 31, 32, 33, 34, 35, 36, 37, 38, 39, 40, 41, 42, 43, 44, 45, 46, 47, 48, 49, 50, 51, 52, 53, 54, 55, 56, 57, 58, 59, 60, 61, 62, 63, 64, 65, 66, 67, 68, 69, 70, 71, 72, 73, 74, 75, 76, 77, 78, 79] rfl rfl (by decide) (by decide) (by decide) (k_X0_init l D cA _ q_28 q_5) ⟨tw_413, tw_414, tw_112, tw_415⟩ hdX0_init ⟨rfl, rfl, Nat.le_of_ble_eq_true rfl, Nat.le_of_ble_eq_true rfl⟩ ⟨Nat.le_of_ble_eq_true rfl, Nat.le_of_ble_eq_true rfl⟩ rfl hl.1 rfl (Nat.le_of_ble_eq_true rfl) dX11_init_151 (fun u_29 H locs hr_29 hP hD hS => ?_)
  have hP : va_P D vwCl [(h0, .inr (11, [.ref q_1, .ref q_3, .ref q_5, .ref q_7, .ref q_9, .ref q_20, .ref q_22, .ref q_24, .ref q_26, .null, .null])), (q_1, .inr (9, [.ref (u_2.1 0), .int 0])), ((u_2.1 0), .inl (cA 0, 800, .inl (fun _ => 0))), (q_3, .inr (6, [.ref (u_4.1 0), .int 0, .int (-1), .ref q_1, .int 0, .int 0, .int 0, .int 0, .int 0, .int 0, .int 0, .int 0, .ref (u_4.1 9)])), ((u_4.1 0), .inr (3, [.int 0, .int 0, .int 0, .int 0, .int 0, .int 0, .int 0, .int 0, .ref (u_4.1 1), .ref (u_4.1 2), .ref (u_4.1 3), .ref (u_4.1 4), .ref (u_4.1 5), .ref (u_4.1 6), .ref (u_4.1 7), .ref (u_4.1 8)])), ((u_4.1 1), .inl (cA 1, 8, .inl (fun _ => 0))), ((u_4.1 2), .inl (cA 1, 8, .inl (fun _ => 0))), ((u_4.1 3), .inl (cA 1, 8, .inl (fun _ => 0))), ((u_4.1 4), .inl (cA 1, 7, .inl (fun _ => 0))), ((u_4.1 5), .inl (cA 1, 7, .inl (fun _ => 0))), ((u_4.1 6), .inl (cA 1, 7, .inl (fun _ => 0))), ((u_4.1 7), .inl (cA 1, 4, .inl (fun _ => 0))), ((u_4.1 8), .inl (cA 1, 4, .inl (fun _ => 0))), ((u_4.1 9), .inl (cA 1, 3, .inl (fun _ => 0))), (q_5, .inr (3, [.int 0, .int 0, .int 0, .int 0, .int 0, .int 0, .int 0, .int 0, .ref (u_6.1 0), .ref (u_6.1 1), .ref (u_6.1 2), .ref (u_6.1 3), .ref (u_6.1 4), .ref (u_6.1 5), .ref (u_6.1 6), .ref (u_6.1 7)])), ((u_6.1 0), .inl (cA 1, 8, .inl (fun _ => 0))), ((u_6.1 1), .inl (cA 1, 8, .inl (fun _ => 0))), ((u_6.1 2), .inl (cA 1, 8, .inl (fun _ => 0))), ((u_6.1 3), .inl (cA 1, 7, .inl (fun _ => 0))), ((u_6.1 4), .inl (cA 1, 7, .inl (fun _ => 0))), ((u_6.1 5), .inl (cA 1, 7, .inl (fun _ => 0))), ((u_6.1 6), .inl (cA 1, 4, .inl (fun _ => 0))), ((u_6.1 7), .inl (cA 1, 4, .inl (fun _ => 0))), (q_7, .inr (2, [.int (-1), .int (-1), .int 0, .int 0, .int 0, .int 0, .int 0, .ref (u_8.1 0), .ref (u_8.1 1), .ref (u_8.1 2)])), ((u_8.1 0), .inl (cA 1, 60, .inl (fun _ => 0))), ((u_8.1 1), .inl (cA 1, 60, .inl (fun _ => 0))), ((u_8.1 2), .inl (cA 1, 60, .inl (fun _ => 0))), (q_9, .inl (cA 4, 3, .inr (.inr (.inr (.inr (va_up (va_up (va_up (fun _ => none) 0 (some q_11)) 1 (some q_14)) 2 (some q_17))))))), (q_11, .inr (4, [.ref (u_12.1 0), .ref (u_12.1 9), .int 0])), ((u_12.1 0), .inr (3, [.int 0, .int 0, .int 0, .int 0, .int 0, .int 0, .int 0, .int 0, .ref (u_12.1 1), .ref (u_12.1 2), .ref (u_12.1 3), .ref (u_12.1 4), .ref (u_12.1 5), .ref (u_12.1 6), .ref (u_12.1 7), .ref (u_12.1 8)])), ((u_12.1 1), .inl (cA 1, 8, .inl (fun _ => 0))), ((u_12.1 2), .inl (cA 1, 8, .inl (fun _ => 0))), ((u_12.1 3), .inl (cA 1, 8, .inl (fun _ => 0))), ((u_12.1 4), .inl (cA 1, 7, .inl (fun _ => 0))), ((u_12.1 5), .inl (cA 1, 7, .inl (fun _ => 0))), ((u_12.1 6), .inl (cA 1, 7, .inl (fun _ => 0))), ((u_12.1 7), .inl (cA 1, 4, .inl (fun _ => 0))), ((u_12.1 8), .inl (cA 1, 4, .inl (fun _ => 0))), ((u_12.1 9), .inr (2, [.int (-1), .int (-1), .int 0, .int 0, .int 0, .int 0, .int 0, .ref (u_12.1 10), .ref (u_12.1 11), .ref (u_12.1 12)])), ((u_12.1 10), .inl (cA 1, 60, .inl (fun _ => 0))), ((u_12.1 11), .inl (cA 1, 60, .inl (fun _ => 0))), ((u_12.1 12), .inl (cA 1, 60, .inl (fun _ => 0))), (q_14, .inr (4, [.ref (u_15.1 0), .ref (u_15.1 9), .int 0])), ((u_15.1 0), .inr (3, [.int 0, .int 0, .int 0, .int 0, .int 0, .int 0, .int 0, .int 0, .ref (u_15.1 1), .ref (u_15.1 2), .ref (u_15.1 3), .ref (u_15.1 4), .ref (u_15.1 5), .ref (u_15.1 6), .ref (u_15.1 7), .ref (u_15.1 8)])), ((u_15.1 1), .inl (cA 1, 8, .inl (fun _ => 0))), ((u_15.1 2), .inl (cA 1, 8, .inl (fun _ => 0))), ((u_15.1 3), .inl (cA 1, 8, .inl (fun _ => 0))), ((u_15.1 4), .inl (cA 1, 7, .inl (fun _ => 0))), ((u_15.1 5), .inl (cA 1, 7, .inl (fun _ => 0))), ((u_15.1 6), .inl (cA 1, 7, .inl (fun _ => 0))), ((u_15.1 7), .inl (cA 1, 4, .inl (fun _ => 0))), ((u_15.1 8), .inl (cA 1, 4, .inl (fun _ => 0))), ((u_15.1 9), .inr (2, [.int (-1), .int (-1), .int 0, .int 0, .int 0, .int 0, .int 0, .ref (u_15.1 10), .ref (u_15.1 11), .ref (u_15.1 12)])), ((u_15.1 10), .inl (cA 1, 60, .inl (fun _ => 0))), ((u_15.1 11), .inl (cA 1, 60, .inl (fun _ => 0))), ((u_15.1 12), .inl (cA 1, 60, .inl (fun _ => 0))), (q_17, .inr (4, [.ref (u_18.1 0), .ref (u_18.1 9), .int 0])), ((u_18.1 0), .inr (3, [.int 0, .int 0, .int 0, .int 0, .int 0, .int 0, .int 0, .int 0, .ref (u_18.1 1), .ref (u_18.1 2), .ref (u_18.1 3), .ref (u_18.1 4), .ref (u_18.1 5), .ref (u_18.1 6), .ref (u_18.1 7), .ref (u_18.1 8)])), ((u_18.1 1), .inl (cA 1, 8, .inl (fun _ => 0))), ((u_18.1 2), .inl (cA 1, 8, .inl (fun _ => 0))), ((u_18.1 3), .inl (cA 1, 8, .inl (fun _ => 0))), ((u_18.1 4), .inl (cA 1, 7, .inl (fun _ => 0))), ((u_18.1 5), .inl (cA 1, 7, .inl (fun _ => 0))), ((u_18.1 6), .inl (cA 1, 7, .inl (fun _ => 0))), ((u_18.1 7), .inl (cA 1, 4, .inl (fun _ => 0))), ((u_18.1 8), .inl (cA 1, 4, .inl (fun _ => 0))), ((u_18.1 9), .inr (2, [.int (-1), .int (-1), .int 0, .int 0, .int 0, .int 0, .int 0, .ref (u_18.1 10), .ref (u_18.1 11), .ref (u_18.1 12)])), ((u_18.1 10), .inl (cA 1, 60, .inl (fun _ => 0))), ((u_18.1 11), .inl (cA 1, 60, .inl (fun _ => 0))), ((u_18.1 12), .inl (cA 1, 60, .inl (fun _ => 0))), (q_20, .inr (7, [.ref (u_21.1 2), .ref (u_21.1 0), .ref (u_21.1 1)])), ((u_21.1 0), .inl (cA 1, 4, .inl (fun _ => 0))), ((u_21.1 1), .inl (cA 2, 240, .inr (.inl (fun _ => 0)))), ((u_21.1 2), .inl (cA 1, 4, .inl (u_21.2.2.1 0))), (q_22, .inr (1, [.int (-1), .int 1, .ref q_5])), (q_24, .inr (5, [.ref (u_25.1 0), .int 0, .int 0, .ref (u_25.1 1), .int 0, .ref q_5])), ((u_25.1 0), .inl (cA 1, 8, .inl (fun _ => 0))), ((u_25.1 1), .inl (cA 1, 8, .inl (fun _ => 0))), (q_26, .inr (8, [.ref (u_27.1 0), .ref q_5])), ((u_27.1 0), .inl (cA 1, 128, .inl (fun _ => 0))), (q_28, .inr (0, [.int 0, .int (-1), .int 0, .ref (u_29.1 0), .ref (u_29.1 1), .ref (u_29.1 2), .ref q_5])), ((u_29.1 0), .inl (cA 1, 128, .inl (fun _ => 0))), ((u_29.1 1), .inl (cA 1, 128, .inl (fun _ => 0))), ((u_29.1 2), .inl (cA 1, 128, .inl (fun _ => 0)))] H := hP
  have hD : va_D A [(h0, .inr (11, [.ref q_1, .ref q_3, .ref q_5, .ref q_7, .ref q_9, .ref q_20, .ref q_22, .ref q_24, .ref q_26, .null, .null])), (q_1, .inr (9, [.ref (u_2.1 0), .int 0])), ((u_2.1 0), .inl (cA 0, 800, .inl (fun _ => 0))), (q_3, .inr (6, [.ref (u_4.1 0), .int 0, .int (-1), .ref q_1, .int 0, .int 0, .int 0, .int 0, .int 0, .int 0, .int 0, .int 0, .ref (u_4.1 9)])), ((u_4.1 0), .inr (3, [.int 0, .int 0, .int 0, .int 0, .int 0, .int 0, .int 0, .int 0, .ref (u_4.1 1), .ref (u_4.1 2), .ref (u_4.1 3), .ref (u_4.1 4), .ref (u_4.1 5), .ref (u_4.1 6), .ref (u_4.1 7), .ref (u_4.1 8)])), ((u_4.1 1), .inl (cA 1, 8, .inl (fun _ => 0))), ((u_4.1 2), .inl (cA 1, 8, .inl (fun _ => 0))), ((u_4.1 3), .inl (cA 1, 8, .inl (fun _ => 0))), ((u_4.1 4), .inl (cA 1, 7, .inl (fun _ => 0))), ((u_4.1 5), .inl (cA 1, 7, .inl (fun _ => 0))), ((u_4.1 6), .inl (cA 1, 7, .inl (fun _ => 0))), ((u_4.1 7), .inl (cA 1, 4, .inl (fun _ => 0))), ((u_4.1 8), .inl (cA 1, 4, .inl (fun _ => 0))), ((u_4.1 9), .inl (cA 1, 3, .inl (fun _ => 0))), (q_5, .inr (3, [.int 0, .int 0, .int 0, .int 0, .int 0, .int 0, .int 0, .int 0, .ref (u_6.1 0), .ref (u_6.1 1), .ref (u_6.1 2), .ref (u_6.1 3), .ref (u_6.1 4), .ref (u_6.1 5), .ref (u_6.1 6), .ref (u_6.1 7)])), ((u_6.1 0), .inl (cA 1, 8, .inl (fun _ => 0))), ((u_6.1 1), .inl (cA 1, 8, .inl (fun _ => 0))), ((u_6.1 2), .inl (cA 1, 8, .inl (fun _ => 0))), ((u_6.1 3), .inl (cA 1, 7, .inl (fun _ => 0))), ((u_6.1 4), .inl (cA 1, 7, .inl (fun _ => 0))), ((u_6.1 5), .inl (cA 1, 7, .inl (fun _ => 0))), ((u_6.1 6), .inl (cA 1, 4, .inl (fun _ => 0))), ((u_6.1 7), .inl (cA 1, 4, .inl (fun _ => 0))), (q_7, .inr (2, [.int (-1), .int (-1), .int 0, .int 0, .int 0, .int 0, .int 0, .ref (u_8.1 0), .ref (u_8.1 1), .ref (u_8.1 2)])), ((u_8.1 0), .inl (cA 1, 60, .inl (fun _ => 0))), ((u_8.1 1), .inl (cA 1, 60, .inl (fun _ => 0))), ((u_8.1 2), .inl (cA 1, 60, .inl (fun _ => 0))), (q_9, .inl (cA 4, 3, .inr (.inr (.inr (.inr (va_up (va_up (va_up (fun _ => none) 0 (some q_11)) 1 (some q_14)) 2 (some q_17))))))), (q_11, .inr (4, [.ref (u_12.1 0), .ref (u_12.1 9), .int 0])), ((u_12.1 0), .inr (3, [.int 0, .int 0, .int 0, .int 0, .int 0, .int 0, .int 0, .int 0, .ref (u_12.1 1), .ref (u_12.1 2), .ref (u_12.1 3), .ref (u_12.1 4), .ref (u_12.1 5), .ref (u_12.1 6), .ref (u_12.1 7), .ref (u_12.1 8)])), ((u_12.1 1), .inl (cA 1, 8, .inl (fun _ => 0))), ((u_12.1 2), .inl (cA 1, 8, .inl (fun _ => 0))), ((u_12.1 3), .inl (cA 1, 8, .inl (fun _ => 0))), ((u_12.1 4), .inl (cA 1, 7, .inl (fun _ => 0))), ((u_12.1 5), .inl (cA 1, 7, .inl (fun _ => 0))), ((u_12.1 6), .inl (cA 1, 7, .inl (fun _ => 0))), ((u_12.1 7), .inl (cA 1, 4, .inl (fun _ => 0))), ((u_12.1 8), .inl (cA 1, 4, .inl (fun _ => 0))), ((u_12.1 9), .inr (2, [.int (-1), .int (-1), .int 0, .int 0, .int 0, .int 0, .int 0, .ref (u_12.1 10), .ref (u_12.1 11), .ref (u_12.1 12)])), ((u_12.1 10), .inl (cA 1, 60, .inl (fun _ => 0))), ((u_12.1 11), .inl (cA 1, 60, .inl (fun _ => 0))), ((u_12.1 12), .inl (cA 1, 60, .inl (fun _ => 0))), (q_14, .inr (4, [.ref (u_15.1 0), .ref (u_15.1 9), .int 0])), ((u_15.1 0), .inr (3, [.int 0, .int 0, .int 0, .int 0, .int 0, .int 0, .int 0, .int 0, .ref (u_15.1 1), .ref (u_15.1 2), .ref (u_15.1 3), .ref (u_15.1 4), .ref (u_15.1 5), .ref (u_15.1 6), .ref (u_15.1 7), .ref (u_15.1 8)])), ((u_15.1 1), .inl (cA 1, 8, .inl (fun _ => 0))), ((u_15.1 2), .inl (cA 1, 8, .inl (fun _ => 0))), ((u_15.1 3), .inl (cA 1, 8, .inl (fun _ => 0))), ((u_15.1 4), .inl (cA 1, 7, .inl (fun _ => 0))), ((u_15.1 5), .inl (cA 1, 7, .inl (fun _ => 0))), ((u_15.1 6), .inl (cA 1, 7, .inl (fun _ => 0))), ((u_15.1 7), .inl (cA 1, 4, .inl (fun _ => 0))), ((u_15.1 8), .inl (cA 1, 4, .inl (fun _ => 0))), ((u_15.1 9), .inr (2, [.int (-1), .int (-1), .int 0, .int 0, .int 0, .int 0, .int 0, .ref (u_15.1 10), .ref (u_15.1 11), .ref (u_15.1 12)])), ((u_15.1 10), .inl (cA 1, 60, .inl (fun _ => 0))), ((u_15.1 11), .inl (cA 1, 60, .inl (fun _ => 0))), ((u_15.1 12), .inl (cA 1, 60, .inl (fun _ => 0))), (q_17, .inr (4, [.ref (u_18.1 0), .ref (u_18.1 9), .int 0])), ((u_18.1 0), .inr (3, [.int 0, .int 0, .int 0, .int 0, .int 0, .int 0, .int 0, .int 0, .ref (u_18.1 1), .ref (u_18.1 2), .ref (u_18.1 3), .ref (u_18.1 4), .ref (u_18.1 5), .ref (u_18.1 6), .ref (u_18.1 7), .ref (u_18.1 8)])), ((u_18.1 1), .inl (cA 1, 8, .inl (fun _ => 0))), ((u_18.1 2), .inl (cA 1, 8, .inl (fun _ => 0))), ((u_18.1 3), .inl (cA 1, 8, .inl (fun _ => 0))), ((u_18.1 4), .inl (cA 1, 7, .inl (fun _ => 0))), ((u_18.1 5), .inl (cA 1, 7, .inl (fun _ => 0))), ((u_18.1 6), .inl (cA 1, 7, .inl (fun _ => 0))), ((u_18.1 7), .inl (cA 1, 4, .inl (fun _ => 0))), ((u_18.1 8), .inl (cA 1, 4, .inl (fun _ => 0))), ((u_18.1 9), .inr (2, [.int (-1), .int (-1), .int 0, .int 0, .int 0, .int 0, .int 0, .ref (u_18.1 10), .ref (u_18.1 11), .ref (u_18.1 12)])), ((u_18.1 10), .inl (cA 1, 60, .inl (fun _ => 0))), ((u_18.1 11), .inl (cA 1, 60, .inl (fun _ => 0))), ((u_18.1 12), .inl (cA 1, 60, .inl (fun _ => 0))), (q_20, .inr (7, [.ref (u_21.1 2), .ref (u_21.1 0), .ref (u_21.1 1)])), ((u_21.1 0), .inl (cA 1, 4, .inl (fun _ => 0))), ((u_21.1 1), .inl (cA 2, 240, .inr (.inl (fun _ => 0)))), ((u_21.1 2), .inl (cA 1, 4, .inl (u_21.2.2.1 0))), (q_22, .inr (1, [.int (-1), .int 1, .ref q_5])), (q_24, .inr (5, [.ref (u_25.1 0), .int 0, .int 0, .ref (u_25.1 1), .int 0, .ref q_5])), ((u_25.1 0), .inl (cA 1, 8, .inl (fun _ => 0))), ((u_25.1 1), .inl (cA 1, 8, .inl (fun _ => 0))), (q_26, .inr (8, [.ref (u_27.1 0), .ref q_5])), ((u_27.1 0), .inl (cA 1, 128, .inl (fun _ => 0))), (q_28, .inr (0, [.int 0, .int (-1), .int 0, .ref (u_29.1 0), .ref (u_29.1 1), .ref (u_29.1 2), .ref q_5])), ((u_29.1 0), .inl (cA 1, 128, .inl (fun _ => 0))), ((u_29.1 1), .inl (cA 1, 128, .inl (fun _ => 0))), ((u_29.1 2), .inl (cA 1, 128, .inl (fun _ => 0)))] := hD
  refine W.widen (k := 83) (n := 2732) (Nat.le_of_ble_eq_true rfl) (Nat.le_of_ble_eq_true rfl) ?_
  refine va_putF (D := D) (ci := 11) (v := .ref q_28) (ty := (.object "WristTreaty$Bargain")) (C := RX11) (T := TX11) (N := 11) hx hb hts inX11 tyX11 tyX11_ok nmX11 hown hKN.1 hP hD hS 0 rfl rfl 9 (by decide) (hts _ tw_474) (fun _ h9 => h9) rfl hin rfl (by decide +kernel) rfl rfl (Nat.le_of_ble_eq_true rfl) dX11_init_154 (fun H locs hP hD hS => ?_)
  have hP : va_P D vwCl [(h0, .inr (11, [.ref q_1, .ref q_3, .ref q_5, .ref q_7, .ref q_9, .ref q_20, .ref q_22, .ref q_24, .ref q_26, .ref q_28, .null])), (q_1, .inr (9, [.ref (u_2.1 0), .int 0])), ((u_2.1 0), .inl (cA 0, 800, .inl (fun _ => 0))), (q_3, .inr (6, [.ref (u_4.1 0), .int 0, .int (-1), .ref q_1, .int 0, .int 0, .int 0, .int 0, .int 0, .int 0, .int 0, .int 0, .ref (u_4.1 9)])), ((u_4.1 0), .inr (3, [.int 0, .int 0, .int 0, .int 0, .int 0, .int 0, .int 0, .int 0, .ref (u_4.1 1), .ref (u_4.1 2), .ref (u_4.1 3), .ref (u_4.1 4), .ref (u_4.1 5), .ref (u_4.1 6), .ref (u_4.1 7), .ref (u_4.1 8)])), ((u_4.1 1), .inl (cA 1, 8, .inl (fun _ => 0))), ((u_4.1 2), .inl (cA 1, 8, .inl (fun _ => 0))), ((u_4.1 3), .inl (cA 1, 8, .inl (fun _ => 0))), ((u_4.1 4), .inl (cA 1, 7, .inl (fun _ => 0))), ((u_4.1 5), .inl (cA 1, 7, .inl (fun _ => 0))), ((u_4.1 6), .inl (cA 1, 7, .inl (fun _ => 0))), ((u_4.1 7), .inl (cA 1, 4, .inl (fun _ => 0))), ((u_4.1 8), .inl (cA 1, 4, .inl (fun _ => 0))), ((u_4.1 9), .inl (cA 1, 3, .inl (fun _ => 0))), (q_5, .inr (3, [.int 0, .int 0, .int 0, .int 0, .int 0, .int 0, .int 0, .int 0, .ref (u_6.1 0), .ref (u_6.1 1), .ref (u_6.1 2), .ref (u_6.1 3), .ref (u_6.1 4), .ref (u_6.1 5), .ref (u_6.1 6), .ref (u_6.1 7)])), ((u_6.1 0), .inl (cA 1, 8, .inl (fun _ => 0))), ((u_6.1 1), .inl (cA 1, 8, .inl (fun _ => 0))), ((u_6.1 2), .inl (cA 1, 8, .inl (fun _ => 0))), ((u_6.1 3), .inl (cA 1, 7, .inl (fun _ => 0))), ((u_6.1 4), .inl (cA 1, 7, .inl (fun _ => 0))), ((u_6.1 5), .inl (cA 1, 7, .inl (fun _ => 0))), ((u_6.1 6), .inl (cA 1, 4, .inl (fun _ => 0))), ((u_6.1 7), .inl (cA 1, 4, .inl (fun _ => 0))), (q_7, .inr (2, [.int (-1), .int (-1), .int 0, .int 0, .int 0, .int 0, .int 0, .ref (u_8.1 0), .ref (u_8.1 1), .ref (u_8.1 2)])), ((u_8.1 0), .inl (cA 1, 60, .inl (fun _ => 0))), ((u_8.1 1), .inl (cA 1, 60, .inl (fun _ => 0))), ((u_8.1 2), .inl (cA 1, 60, .inl (fun _ => 0))), (q_9, .inl (cA 4, 3, .inr (.inr (.inr (.inr (va_up (va_up (va_up (fun _ => none) 0 (some q_11)) 1 (some q_14)) 2 (some q_17))))))), (q_11, .inr (4, [.ref (u_12.1 0), .ref (u_12.1 9), .int 0])), ((u_12.1 0), .inr (3, [.int 0, .int 0, .int 0, .int 0, .int 0, .int 0, .int 0, .int 0, .ref (u_12.1 1), .ref (u_12.1 2), .ref (u_12.1 3), .ref (u_12.1 4), .ref (u_12.1 5), .ref (u_12.1 6), .ref (u_12.1 7), .ref (u_12.1 8)])), ((u_12.1 1), .inl (cA 1, 8, .inl (fun _ => 0))), ((u_12.1 2), .inl (cA 1, 8, .inl (fun _ => 0))), ((u_12.1 3), .inl (cA 1, 8, .inl (fun _ => 0))), ((u_12.1 4), .inl (cA 1, 7, .inl (fun _ => 0))), ((u_12.1 5), .inl (cA 1, 7, .inl (fun _ => 0))), ((u_12.1 6), .inl (cA 1, 7, .inl (fun _ => 0))), ((u_12.1 7), .inl (cA 1, 4, .inl (fun _ => 0))), ((u_12.1 8), .inl (cA 1, 4, .inl (fun _ => 0))), ((u_12.1 9), .inr (2, [.int (-1), .int (-1), .int 0, .int 0, .int 0, .int 0, .int 0, .ref (u_12.1 10), .ref (u_12.1 11), .ref (u_12.1 12)])), ((u_12.1 10), .inl (cA 1, 60, .inl (fun _ => 0))), ((u_12.1 11), .inl (cA 1, 60, .inl (fun _ => 0))), ((u_12.1 12), .inl (cA 1, 60, .inl (fun _ => 0))), (q_14, .inr (4, [.ref (u_15.1 0), .ref (u_15.1 9), .int 0])), ((u_15.1 0), .inr (3, [.int 0, .int 0, .int 0, .int 0, .int 0, .int 0, .int 0, .int 0, .ref (u_15.1 1), .ref (u_15.1 2), .ref (u_15.1 3), .ref (u_15.1 4), .ref (u_15.1 5), .ref (u_15.1 6), .ref (u_15.1 7), .ref (u_15.1 8)])), ((u_15.1 1), .inl (cA 1, 8, .inl (fun _ => 0))), ((u_15.1 2), .inl (cA 1, 8, .inl (fun _ => 0))), ((u_15.1 3), .inl (cA 1, 8, .inl (fun _ => 0))), ((u_15.1 4), .inl (cA 1, 7, .inl (fun _ => 0))), ((u_15.1 5), .inl (cA 1, 7, .inl (fun _ => 0))), ((u_15.1 6), .inl (cA 1, 7, .inl (fun _ => 0))), ((u_15.1 7), .inl (cA 1, 4, .inl (fun _ => 0))), ((u_15.1 8), .inl (cA 1, 4, .inl (fun _ => 0))), ((u_15.1 9), .inr (2, [.int (-1), .int (-1), .int 0, .int 0, .int 0, .int 0, .int 0, .ref (u_15.1 10), .ref (u_15.1 11), .ref (u_15.1 12)])), ((u_15.1 10), .inl (cA 1, 60, .inl (fun _ => 0))), ((u_15.1 11), .inl (cA 1, 60, .inl (fun _ => 0))), ((u_15.1 12), .inl (cA 1, 60, .inl (fun _ => 0))), (q_17, .inr (4, [.ref (u_18.1 0), .ref (u_18.1 9), .int 0])), ((u_18.1 0), .inr (3, [.int 0, .int 0, .int 0, .int 0, .int 0, .int 0, .int 0, .int 0, .ref (u_18.1 1), .ref (u_18.1 2), .ref (u_18.1 3), .ref (u_18.1 4), .ref (u_18.1 5), .ref (u_18.1 6), .ref (u_18.1 7), .ref (u_18.1 8)])), ((u_18.1 1), .inl (cA 1, 8, .inl (fun _ => 0))), ((u_18.1 2), .inl (cA 1, 8, .inl (fun _ => 0))), ((u_18.1 3), .inl (cA 1, 8, .inl (fun _ => 0))), ((u_18.1 4), .inl (cA 1, 7, .inl (fun _ => 0))), ((u_18.1 5), .inl (cA 1, 7, .inl (fun _ => 0))), ((u_18.1 6), .inl (cA 1, 7, .inl (fun _ => 0))), ((u_18.1 7), .inl (cA 1, 4, .inl (fun _ => 0))), ((u_18.1 8), .inl (cA 1, 4, .inl (fun _ => 0))), ((u_18.1 9), .inr (2, [.int (-1), .int (-1), .int 0, .int 0, .int 0, .int 0, .int 0, .ref (u_18.1 10), .ref (u_18.1 11), .ref (u_18.1 12)])), ((u_18.1 10), .inl (cA 1, 60, .inl (fun _ => 0))), ((u_18.1 11), .inl (cA 1, 60, .inl (fun _ => 0))), ((u_18.1 12), .inl (cA 1, 60, .inl (fun _ => 0))), (q_20, .inr (7, [.ref (u_21.1 2), .ref (u_21.1 0), .ref (u_21.1 1)])), ((u_21.1 0), .inl (cA 1, 4, .inl (fun _ => 0))), ((u_21.1 1), .inl (cA 2, 240, .inr (.inl (fun _ => 0)))), ((u_21.1 2), .inl (cA 1, 4, .inl (u_21.2.2.1 0))), (q_22, .inr (1, [.int (-1), .int 1, .ref q_5])), (q_24, .inr (5, [.ref (u_25.1 0), .int 0, .int 0, .ref (u_25.1 1), .int 0, .ref q_5])), ((u_25.1 0), .inl (cA 1, 8, .inl (fun _ => 0))), ((u_25.1 1), .inl (cA 1, 8, .inl (fun _ => 0))), (q_26, .inr (8, [.ref (u_27.1 0), .ref q_5])), ((u_27.1 0), .inl (cA 1, 128, .inl (fun _ => 0))), (q_28, .inr (0, [.int 0, .int (-1), .int 0, .ref (u_29.1 0), .ref (u_29.1 1), .ref (u_29.1 2), .ref q_5])), ((u_29.1 0), .inl (cA 1, 128, .inl (fun _ => 0))), ((u_29.1 1), .inl (cA 1, 128, .inl (fun _ => 0))), ((u_29.1 2), .inl (cA 1, 128, .inl (fun _ => 0)))] H := hP
  have hD : va_D A [(h0, .inr (11, [.ref q_1, .ref q_3, .ref q_5, .ref q_7, .ref q_9, .ref q_20, .ref q_22, .ref q_24, .ref q_26, .ref q_28, .null])), (q_1, .inr (9, [.ref (u_2.1 0), .int 0])), ((u_2.1 0), .inl (cA 0, 800, .inl (fun _ => 0))), (q_3, .inr (6, [.ref (u_4.1 0), .int 0, .int (-1), .ref q_1, .int 0, .int 0, .int 0, .int 0, .int 0, .int 0, .int 0, .int 0, .ref (u_4.1 9)])), ((u_4.1 0), .inr (3, [.int 0, .int 0, .int 0, .int 0, .int 0, .int 0, .int 0, .int 0, .ref (u_4.1 1), .ref (u_4.1 2), .ref (u_4.1 3), .ref (u_4.1 4), .ref (u_4.1 5), .ref (u_4.1 6), .ref (u_4.1 7), .ref (u_4.1 8)])), ((u_4.1 1), .inl (cA 1, 8, .inl (fun _ => 0))), ((u_4.1 2), .inl (cA 1, 8, .inl (fun _ => 0))), ((u_4.1 3), .inl (cA 1, 8, .inl (fun _ => 0))), ((u_4.1 4), .inl (cA 1, 7, .inl (fun _ => 0))), ((u_4.1 5), .inl (cA 1, 7, .inl (fun _ => 0))), ((u_4.1 6), .inl (cA 1, 7, .inl (fun _ => 0))), ((u_4.1 7), .inl (cA 1, 4, .inl (fun _ => 0))), ((u_4.1 8), .inl (cA 1, 4, .inl (fun _ => 0))), ((u_4.1 9), .inl (cA 1, 3, .inl (fun _ => 0))), (q_5, .inr (3, [.int 0, .int 0, .int 0, .int 0, .int 0, .int 0, .int 0, .int 0, .ref (u_6.1 0), .ref (u_6.1 1), .ref (u_6.1 2), .ref (u_6.1 3), .ref (u_6.1 4), .ref (u_6.1 5), .ref (u_6.1 6), .ref (u_6.1 7)])), ((u_6.1 0), .inl (cA 1, 8, .inl (fun _ => 0))), ((u_6.1 1), .inl (cA 1, 8, .inl (fun _ => 0))), ((u_6.1 2), .inl (cA 1, 8, .inl (fun _ => 0))), ((u_6.1 3), .inl (cA 1, 7, .inl (fun _ => 0))), ((u_6.1 4), .inl (cA 1, 7, .inl (fun _ => 0))), ((u_6.1 5), .inl (cA 1, 7, .inl (fun _ => 0))), ((u_6.1 6), .inl (cA 1, 4, .inl (fun _ => 0))), ((u_6.1 7), .inl (cA 1, 4, .inl (fun _ => 0))), (q_7, .inr (2, [.int (-1), .int (-1), .int 0, .int 0, .int 0, .int 0, .int 0, .ref (u_8.1 0), .ref (u_8.1 1), .ref (u_8.1 2)])), ((u_8.1 0), .inl (cA 1, 60, .inl (fun _ => 0))), ((u_8.1 1), .inl (cA 1, 60, .inl (fun _ => 0))), ((u_8.1 2), .inl (cA 1, 60, .inl (fun _ => 0))), (q_9, .inl (cA 4, 3, .inr (.inr (.inr (.inr (va_up (va_up (va_up (fun _ => none) 0 (some q_11)) 1 (some q_14)) 2 (some q_17))))))), (q_11, .inr (4, [.ref (u_12.1 0), .ref (u_12.1 9), .int 0])), ((u_12.1 0), .inr (3, [.int 0, .int 0, .int 0, .int 0, .int 0, .int 0, .int 0, .int 0, .ref (u_12.1 1), .ref (u_12.1 2), .ref (u_12.1 3), .ref (u_12.1 4), .ref (u_12.1 5), .ref (u_12.1 6), .ref (u_12.1 7), .ref (u_12.1 8)])), ((u_12.1 1), .inl (cA 1, 8, .inl (fun _ => 0))), ((u_12.1 2), .inl (cA 1, 8, .inl (fun _ => 0))), ((u_12.1 3), .inl (cA 1, 8, .inl (fun _ => 0))), ((u_12.1 4), .inl (cA 1, 7, .inl (fun _ => 0))), ((u_12.1 5), .inl (cA 1, 7, .inl (fun _ => 0))), ((u_12.1 6), .inl (cA 1, 7, .inl (fun _ => 0))), ((u_12.1 7), .inl (cA 1, 4, .inl (fun _ => 0))), ((u_12.1 8), .inl (cA 1, 4, .inl (fun _ => 0))), ((u_12.1 9), .inr (2, [.int (-1), .int (-1), .int 0, .int 0, .int 0, .int 0, .int 0, .ref (u_12.1 10), .ref (u_12.1 11), .ref (u_12.1 12)])), ((u_12.1 10), .inl (cA 1, 60, .inl (fun _ => 0))), ((u_12.1 11), .inl (cA 1, 60, .inl (fun _ => 0))), ((u_12.1 12), .inl (cA 1, 60, .inl (fun _ => 0))), (q_14, .inr (4, [.ref (u_15.1 0), .ref (u_15.1 9), .int 0])), ((u_15.1 0), .inr (3, [.int 0, .int 0, .int 0, .int 0, .int 0, .int 0, .int 0, .int 0, .ref (u_15.1 1), .ref (u_15.1 2), .ref (u_15.1 3), .ref (u_15.1 4), .ref (u_15.1 5), .ref (u_15.1 6), .ref (u_15.1 7), .ref (u_15.1 8)])), ((u_15.1 1), .inl (cA 1, 8, .inl (fun _ => 0))), ((u_15.1 2), .inl (cA 1, 8, .inl (fun _ => 0))), ((u_15.1 3), .inl (cA 1, 8, .inl (fun _ => 0))), ((u_15.1 4), .inl (cA 1, 7, .inl (fun _ => 0))), ((u_15.1 5), .inl (cA 1, 7, .inl (fun _ => 0))), ((u_15.1 6), .inl (cA 1, 7, .inl (fun _ => 0))), ((u_15.1 7), .inl (cA 1, 4, .inl (fun _ => 0))), ((u_15.1 8), .inl (cA 1, 4, .inl (fun _ => 0))), ((u_15.1 9), .inr (2, [.int (-1), .int (-1), .int 0, .int 0, .int 0, .int 0, .int 0, .ref (u_15.1 10), .ref (u_15.1 11), .ref (u_15.1 12)])), ((u_15.1 10), .inl (cA 1, 60, .inl (fun _ => 0))), ((u_15.1 11), .inl (cA 1, 60, .inl (fun _ => 0))), ((u_15.1 12), .inl (cA 1, 60, .inl (fun _ => 0))), (q_17, .inr (4, [.ref (u_18.1 0), .ref (u_18.1 9), .int 0])), ((u_18.1 0), .inr (3, [.int 0, .int 0, .int 0, .int 0, .int 0, .int 0, .int 0, .int 0, .ref (u_18.1 1), .ref (u_18.1 2), .ref (u_18.1 3), .ref (u_18.1 4), .ref (u_18.1 5), .ref (u_18.1 6), .ref (u_18.1 7), .ref (u_18.1 8)])), ((u_18.1 1), .inl (cA 1, 8, .inl (fun _ => 0))), ((u_18.1 2), .inl (cA 1, 8, .inl (fun _ => 0))), ((u_18.1 3), .inl (cA 1, 8, .inl (fun _ => 0))), ((u_18.1 4), .inl (cA 1, 7, .inl (fun _ => 0))), ((u_18.1 5), .inl (cA 1, 7, .inl (fun _ => 0))), ((u_18.1 6), .inl (cA 1, 7, .inl (fun _ => 0))), ((u_18.1 7), .inl (cA 1, 4, .inl (fun _ => 0))), ((u_18.1 8), .inl (cA 1, 4, .inl (fun _ => 0))), ((u_18.1 9), .inr (2, [.int (-1), .int (-1), .int 0, .int 0, .int 0, .int 0, .int 0, .ref (u_18.1 10), .ref (u_18.1 11), .ref (u_18.1 12)])), ((u_18.1 10), .inl (cA 1, 60, .inl (fun _ => 0))), ((u_18.1 11), .inl (cA 1, 60, .inl (fun _ => 0))), ((u_18.1 12), .inl (cA 1, 60, .inl (fun _ => 0))), (q_20, .inr (7, [.ref (u_21.1 2), .ref (u_21.1 0), .ref (u_21.1 1)])), ((u_21.1 0), .inl (cA 1, 4, .inl (fun _ => 0))), ((u_21.1 1), .inl (cA 2, 240, .inr (.inl (fun _ => 0)))), ((u_21.1 2), .inl (cA 1, 4, .inl (u_21.2.2.1 0))), (q_22, .inr (1, [.int (-1), .int 1, .ref q_5])), (q_24, .inr (5, [.ref (u_25.1 0), .int 0, .int 0, .ref (u_25.1 1), .int 0, .ref q_5])), ((u_25.1 0), .inl (cA 1, 8, .inl (fun _ => 0))), ((u_25.1 1), .inl (cA 1, 8, .inl (fun _ => 0))), (q_26, .inr (8, [.ref (u_27.1 0), .ref q_5])), ((u_27.1 0), .inl (cA 1, 128, .inl (fun _ => 0))), (q_28, .inr (0, [.int 0, .int (-1), .int 0, .ref (u_29.1 0), .ref (u_29.1 1), .ref (u_29.1 2), .ref q_5])), ((u_29.1 0), .inl (cA 1, 128, .inl (fun _ => 0))), ((u_29.1 1), .inl (cA 1, 128, .inl (fun _ => 0))), ((u_29.1 2), .inl (cA 1, 128, .inl (fun _ => 0)))] := hD
  refine lv_aload_n hx hb dX11_init_157 rfl (lv_at hl 1 rfl) ?_
  refine va_new (ci := 10) (fs := [.int 0, .null, .null, .null, .null]) (C := RX10) (T := TX10) (N := 5) hx hb hts inX10 tyX10 tyX10_ok hown (hts _ tw_441) (hts _ tw_442) (hts _ tw_113) hKN.1 hP hD hS hA rfl dfX10 (Nat.le_of_ble_eq_true rfl) (Nat.le_of_ble_eq_true rfl) dX11_init_158 (fun q_30 H hP hD hS => ?_)
  have hP : va_P D vwCl [(h0, .inr (11, [.ref q_1, .ref q_3, .ref q_5, .ref q_7, .ref q_9, .ref q_20, .ref q_22, .ref q_24, .ref q_26, .ref q_28, .null])), (q_1, .inr (9, [.ref (u_2.1 0), .int 0])), ((u_2.1 0), .inl (cA 0, 800, .inl (fun _ => 0))), (q_3, .inr (6, [.ref (u_4.1 0), .int 0, .int (-1), .ref q_1, .int 0, .int 0, .int 0, .int 0, .int 0, .int 0, .int 0, .int 0, .ref (u_4.1 9)])), ((u_4.1 0), .inr (3, [.int 0, .int 0, .int 0, .int 0, .int 0, .int 0, .int 0, .int 0, .ref (u_4.1 1), .ref (u_4.1 2), .ref (u_4.1 3), .ref (u_4.1 4), .ref (u_4.1 5), .ref (u_4.1 6), .ref (u_4.1 7), .ref (u_4.1 8)])), ((u_4.1 1), .inl (cA 1, 8, .inl (fun _ => 0))), ((u_4.1 2), .inl (cA 1, 8, .inl (fun _ => 0))), ((u_4.1 3), .inl (cA 1, 8, .inl (fun _ => 0))), ((u_4.1 4), .inl (cA 1, 7, .inl (fun _ => 0))), ((u_4.1 5), .inl (cA 1, 7, .inl (fun _ => 0))), ((u_4.1 6), .inl (cA 1, 7, .inl (fun _ => 0))), ((u_4.1 7), .inl (cA 1, 4, .inl (fun _ => 0))), ((u_4.1 8), .inl (cA 1, 4, .inl (fun _ => 0))), ((u_4.1 9), .inl (cA 1, 3, .inl (fun _ => 0))), (q_5, .inr (3, [.int 0, .int 0, .int 0, .int 0, .int 0, .int 0, .int 0, .int 0, .ref (u_6.1 0), .ref (u_6.1 1), .ref (u_6.1 2), .ref (u_6.1 3), .ref (u_6.1 4), .ref (u_6.1 5), .ref (u_6.1 6), .ref (u_6.1 7)])), ((u_6.1 0), .inl (cA 1, 8, .inl (fun _ => 0))), ((u_6.1 1), .inl (cA 1, 8, .inl (fun _ => 0))), ((u_6.1 2), .inl (cA 1, 8, .inl (fun _ => 0))), ((u_6.1 3), .inl (cA 1, 7, .inl (fun _ => 0))), ((u_6.1 4), .inl (cA 1, 7, .inl (fun _ => 0))), ((u_6.1 5), .inl (cA 1, 7, .inl (fun _ => 0))), ((u_6.1 6), .inl (cA 1, 4, .inl (fun _ => 0))), ((u_6.1 7), .inl (cA 1, 4, .inl (fun _ => 0))), (q_7, .inr (2, [.int (-1), .int (-1), .int 0, .int 0, .int 0, .int 0, .int 0, .ref (u_8.1 0), .ref (u_8.1 1), .ref (u_8.1 2)])), ((u_8.1 0), .inl (cA 1, 60, .inl (fun _ => 0))), ((u_8.1 1), .inl (cA 1, 60, .inl (fun _ => 0))), ((u_8.1 2), .inl (cA 1, 60, .inl (fun _ => 0))), (q_9, .inl (cA 4, 3, .inr (.inr (.inr (.inr (va_up (va_up (va_up (fun _ => none) 0 (some q_11)) 1 (some q_14)) 2 (some q_17))))))), (q_11, .inr (4, [.ref (u_12.1 0), .ref (u_12.1 9), .int 0])), ((u_12.1 0), .inr (3, [.int 0, .int 0, .int 0, .int 0, .int 0, .int 0, .int 0, .int 0, .ref (u_12.1 1), .ref (u_12.1 2), .ref (u_12.1 3), .ref (u_12.1 4), .ref (u_12.1 5), .ref (u_12.1 6), .ref (u_12.1 7), .ref (u_12.1 8)])), ((u_12.1 1), .inl (cA 1, 8, .inl (fun _ => 0))), ((u_12.1 2), .inl (cA 1, 8, .inl (fun _ => 0))), ((u_12.1 3), .inl (cA 1, 8, .inl (fun _ => 0))), ((u_12.1 4), .inl (cA 1, 7, .inl (fun _ => 0))), ((u_12.1 5), .inl (cA 1, 7, .inl (fun _ => 0))), ((u_12.1 6), .inl (cA 1, 7, .inl (fun _ => 0))), ((u_12.1 7), .inl (cA 1, 4, .inl (fun _ => 0))), ((u_12.1 8), .inl (cA 1, 4, .inl (fun _ => 0))), ((u_12.1 9), .inr (2, [.int (-1), .int (-1), .int 0, .int 0, .int 0, .int 0, .int 0, .ref (u_12.1 10), .ref (u_12.1 11), .ref (u_12.1 12)])), ((u_12.1 10), .inl (cA 1, 60, .inl (fun _ => 0))), ((u_12.1 11), .inl (cA 1, 60, .inl (fun _ => 0))), ((u_12.1 12), .inl (cA 1, 60, .inl (fun _ => 0))), (q_14, .inr (4, [.ref (u_15.1 0), .ref (u_15.1 9), .int 0])), ((u_15.1 0), .inr (3, [.int 0, .int 0, .int 0, .int 0, .int 0, .int 0, .int 0, .int 0, .ref (u_15.1 1), .ref (u_15.1 2), .ref (u_15.1 3), .ref (u_15.1 4), .ref (u_15.1 5), .ref (u_15.1 6), .ref (u_15.1 7), .ref (u_15.1 8)])), ((u_15.1 1), .inl (cA 1, 8, .inl (fun _ => 0))), ((u_15.1 2), .inl (cA 1, 8, .inl (fun _ => 0))), ((u_15.1 3), .inl (cA 1, 8, .inl (fun _ => 0))), ((u_15.1 4), .inl (cA 1, 7, .inl (fun _ => 0))), ((u_15.1 5), .inl (cA 1, 7, .inl (fun _ => 0))), ((u_15.1 6), .inl (cA 1, 7, .inl (fun _ => 0))), ((u_15.1 7), .inl (cA 1, 4, .inl (fun _ => 0))), ((u_15.1 8), .inl (cA 1, 4, .inl (fun _ => 0))), ((u_15.1 9), .inr (2, [.int (-1), .int (-1), .int 0, .int 0, .int 0, .int 0, .int 0, .ref (u_15.1 10), .ref (u_15.1 11), .ref (u_15.1 12)])), ((u_15.1 10), .inl (cA 1, 60, .inl (fun _ => 0))), ((u_15.1 11), .inl (cA 1, 60, .inl (fun _ => 0))), ((u_15.1 12), .inl (cA 1, 60, .inl (fun _ => 0))), (q_17, .inr (4, [.ref (u_18.1 0), .ref (u_18.1 9), .int 0])), ((u_18.1 0), .inr (3, [.int 0, .int 0, .int 0, .int 0, .int 0, .int 0, .int 0, .int 0, .ref (u_18.1 1), .ref (u_18.1 2), .ref (u_18.1 3), .ref (u_18.1 4), .ref (u_18.1 5), .ref (u_18.1 6), .ref (u_18.1 7), .ref (u_18.1 8)])), ((u_18.1 1), .inl (cA 1, 8, .inl (fun _ => 0))), ((u_18.1 2), .inl (cA 1, 8, .inl (fun _ => 0))), ((u_18.1 3), .inl (cA 1, 8, .inl (fun _ => 0))), ((u_18.1 4), .inl (cA 1, 7, .inl (fun _ => 0))), ((u_18.1 5), .inl (cA 1, 7, .inl (fun _ => 0))), ((u_18.1 6), .inl (cA 1, 7, .inl (fun _ => 0))), ((u_18.1 7), .inl (cA 1, 4, .inl (fun _ => 0))), ((u_18.1 8), .inl (cA 1, 4, .inl (fun _ => 0))), ((u_18.1 9), .inr (2, [.int (-1), .int (-1), .int 0, .int 0, .int 0, .int 0, .int 0, .ref (u_18.1 10), .ref (u_18.1 11), .ref (u_18.1 12)])), ((u_18.1 10), .inl (cA 1, 60, .inl (fun _ => 0))), ((u_18.1 11), .inl (cA 1, 60, .inl (fun _ => 0))), ((u_18.1 12), .inl (cA 1, 60, .inl (fun _ => 0))), (q_20, .inr (7, [.ref (u_21.1 2), .ref (u_21.1 0), .ref (u_21.1 1)])), ((u_21.1 0), .inl (cA 1, 4, .inl (fun _ => 0))), ((u_21.1 1), .inl (cA 2, 240, .inr (.inl (fun _ => 0)))), ((u_21.1 2), .inl (cA 1, 4, .inl (u_21.2.2.1 0))), (q_22, .inr (1, [.int (-1), .int 1, .ref q_5])), (q_24, .inr (5, [.ref (u_25.1 0), .int 0, .int 0, .ref (u_25.1 1), .int 0, .ref q_5])), ((u_25.1 0), .inl (cA 1, 8, .inl (fun _ => 0))), ((u_25.1 1), .inl (cA 1, 8, .inl (fun _ => 0))), (q_26, .inr (8, [.ref (u_27.1 0), .ref q_5])), ((u_27.1 0), .inl (cA 1, 128, .inl (fun _ => 0))), (q_28, .inr (0, [.int 0, .int (-1), .int 0, .ref (u_29.1 0), .ref (u_29.1 1), .ref (u_29.1 2), .ref q_5])), ((u_29.1 0), .inl (cA 1, 128, .inl (fun _ => 0))), ((u_29.1 1), .inl (cA 1, 128, .inl (fun _ => 0))), ((u_29.1 2), .inl (cA 1, 128, .inl (fun _ => 0))), (q_30, .inr (10, [.int 0, .null, .null, .null, .null]))] H := hP
  have hD : va_D A [(h0, .inr (11, [.ref q_1, .ref q_3, .ref q_5, .ref q_7, .ref q_9, .ref q_20, .ref q_22, .ref q_24, .ref q_26, .ref q_28, .null])), (q_1, .inr (9, [.ref (u_2.1 0), .int 0])), ((u_2.1 0), .inl (cA 0, 800, .inl (fun _ => 0))), (q_3, .inr (6, [.ref (u_4.1 0), .int 0, .int (-1), .ref q_1, .int 0, .int 0, .int 0, .int 0, .int 0, .int 0, .int 0, .int 0, .ref (u_4.1 9)])), ((u_4.1 0), .inr (3, [.int 0, .int 0, .int 0, .int 0, .int 0, .int 0, .int 0, .int 0, .ref (u_4.1 1), .ref (u_4.1 2), .ref (u_4.1 3), .ref (u_4.1 4), .ref (u_4.1 5), .ref (u_4.1 6), .ref (u_4.1 7), .ref (u_4.1 8)])), ((u_4.1 1), .inl (cA 1, 8, .inl (fun _ => 0))), ((u_4.1 2), .inl (cA 1, 8, .inl (fun _ => 0))), ((u_4.1 3), .inl (cA 1, 8, .inl (fun _ => 0))), ((u_4.1 4), .inl (cA 1, 7, .inl (fun _ => 0))), ((u_4.1 5), .inl (cA 1, 7, .inl (fun _ => 0))), ((u_4.1 6), .inl (cA 1, 7, .inl (fun _ => 0))), ((u_4.1 7), .inl (cA 1, 4, .inl (fun _ => 0))), ((u_4.1 8), .inl (cA 1, 4, .inl (fun _ => 0))), ((u_4.1 9), .inl (cA 1, 3, .inl (fun _ => 0))), (q_5, .inr (3, [.int 0, .int 0, .int 0, .int 0, .int 0, .int 0, .int 0, .int 0, .ref (u_6.1 0), .ref (u_6.1 1), .ref (u_6.1 2), .ref (u_6.1 3), .ref (u_6.1 4), .ref (u_6.1 5), .ref (u_6.1 6), .ref (u_6.1 7)])), ((u_6.1 0), .inl (cA 1, 8, .inl (fun _ => 0))), ((u_6.1 1), .inl (cA 1, 8, .inl (fun _ => 0))), ((u_6.1 2), .inl (cA 1, 8, .inl (fun _ => 0))), ((u_6.1 3), .inl (cA 1, 7, .inl (fun _ => 0))), ((u_6.1 4), .inl (cA 1, 7, .inl (fun _ => 0))), ((u_6.1 5), .inl (cA 1, 7, .inl (fun _ => 0))), ((u_6.1 6), .inl (cA 1, 4, .inl (fun _ => 0))), ((u_6.1 7), .inl (cA 1, 4, .inl (fun _ => 0))), (q_7, .inr (2, [.int (-1), .int (-1), .int 0, .int 0, .int 0, .int 0, .int 0, .ref (u_8.1 0), .ref (u_8.1 1), .ref (u_8.1 2)])), ((u_8.1 0), .inl (cA 1, 60, .inl (fun _ => 0))), ((u_8.1 1), .inl (cA 1, 60, .inl (fun _ => 0))), ((u_8.1 2), .inl (cA 1, 60, .inl (fun _ => 0))), (q_9, .inl (cA 4, 3, .inr (.inr (.inr (.inr (va_up (va_up (va_up (fun _ => none) 0 (some q_11)) 1 (some q_14)) 2 (some q_17))))))), (q_11, .inr (4, [.ref (u_12.1 0), .ref (u_12.1 9), .int 0])), ((u_12.1 0), .inr (3, [.int 0, .int 0, .int 0, .int 0, .int 0, .int 0, .int 0, .int 0, .ref (u_12.1 1), .ref (u_12.1 2), .ref (u_12.1 3), .ref (u_12.1 4), .ref (u_12.1 5), .ref (u_12.1 6), .ref (u_12.1 7), .ref (u_12.1 8)])), ((u_12.1 1), .inl (cA 1, 8, .inl (fun _ => 0))), ((u_12.1 2), .inl (cA 1, 8, .inl (fun _ => 0))), ((u_12.1 3), .inl (cA 1, 8, .inl (fun _ => 0))), ((u_12.1 4), .inl (cA 1, 7, .inl (fun _ => 0))), ((u_12.1 5), .inl (cA 1, 7, .inl (fun _ => 0))), ((u_12.1 6), .inl (cA 1, 7, .inl (fun _ => 0))), ((u_12.1 7), .inl (cA 1, 4, .inl (fun _ => 0))), ((u_12.1 8), .inl (cA 1, 4, .inl (fun _ => 0))), ((u_12.1 9), .inr (2, [.int (-1), .int (-1), .int 0, .int 0, .int 0, .int 0, .int 0, .ref (u_12.1 10), .ref (u_12.1 11), .ref (u_12.1 12)])), ((u_12.1 10), .inl (cA 1, 60, .inl (fun _ => 0))), ((u_12.1 11), .inl (cA 1, 60, .inl (fun _ => 0))), ((u_12.1 12), .inl (cA 1, 60, .inl (fun _ => 0))), (q_14, .inr (4, [.ref (u_15.1 0), .ref (u_15.1 9), .int 0])), ((u_15.1 0), .inr (3, [.int 0, .int 0, .int 0, .int 0, .int 0, .int 0, .int 0, .int 0, .ref (u_15.1 1), .ref (u_15.1 2), .ref (u_15.1 3), .ref (u_15.1 4), .ref (u_15.1 5), .ref (u_15.1 6), .ref (u_15.1 7), .ref (u_15.1 8)])), ((u_15.1 1), .inl (cA 1, 8, .inl (fun _ => 0))), ((u_15.1 2), .inl (cA 1, 8, .inl (fun _ => 0))), ((u_15.1 3), .inl (cA 1, 8, .inl (fun _ => 0))), ((u_15.1 4), .inl (cA 1, 7, .inl (fun _ => 0))), ((u_15.1 5), .inl (cA 1, 7, .inl (fun _ => 0))), ((u_15.1 6), .inl (cA 1, 7, .inl (fun _ => 0))), ((u_15.1 7), .inl (cA 1, 4, .inl (fun _ => 0))), ((u_15.1 8), .inl (cA 1, 4, .inl (fun _ => 0))), ((u_15.1 9), .inr (2, [.int (-1), .int (-1), .int 0, .int 0, .int 0, .int 0, .int 0, .ref (u_15.1 10), .ref (u_15.1 11), .ref (u_15.1 12)])), ((u_15.1 10), .inl (cA 1, 60, .inl (fun _ => 0))), ((u_15.1 11), .inl (cA 1, 60, .inl (fun _ => 0))), ((u_15.1 12), .inl (cA 1, 60, .inl (fun _ => 0))), (q_17, .inr (4, [.ref (u_18.1 0), .ref (u_18.1 9), .int 0])), ((u_18.1 0), .inr (3, [.int 0, .int 0, .int 0, .int 0, .int 0, .int 0, .int 0, .int 0, .ref (u_18.1 1), .ref (u_18.1 2), .ref (u_18.1 3), .ref (u_18.1 4), .ref (u_18.1 5), .ref (u_18.1 6), .ref (u_18.1 7), .ref (u_18.1 8)])), ((u_18.1 1), .inl (cA 1, 8, .inl (fun _ => 0))), ((u_18.1 2), .inl (cA 1, 8, .inl (fun _ => 0))), ((u_18.1 3), .inl (cA 1, 8, .inl (fun _ => 0))), ((u_18.1 4), .inl (cA 1, 7, .inl (fun _ => 0))), ((u_18.1 5), .inl (cA 1, 7, .inl (fun _ => 0))), ((u_18.1 6), .inl (cA 1, 7, .inl (fun _ => 0))), ((u_18.1 7), .inl (cA 1, 4, .inl (fun _ => 0))), ((u_18.1 8), .inl (cA 1, 4, .inl (fun _ => 0))), ((u_18.1 9), .inr (2, [.int (-1), .int (-1), .int 0, .int 0, .int 0, .int 0, .int 0, .ref (u_18.1 10), .ref (u_18.1 11), .ref (u_18.1 12)])), ((u_18.1 10), .inl (cA 1, 60, .inl (fun _ => 0))), ((u_18.1 11), .inl (cA 1, 60, .inl (fun _ => 0))), ((u_18.1 12), .inl (cA 1, 60, .inl (fun _ => 0))), (q_20, .inr (7, [.ref (u_21.1 2), .ref (u_21.1 0), .ref (u_21.1 1)])), ((u_21.1 0), .inl (cA 1, 4, .inl (fun _ => 0))), ((u_21.1 1), .inl (cA 2, 240, .inr (.inl (fun _ => 0)))), ((u_21.1 2), .inl (cA 1, 4, .inl (u_21.2.2.1 0))), (q_22, .inr (1, [.int (-1), .int 1, .ref q_5])), (q_24, .inr (5, [.ref (u_25.1 0), .int 0, .int 0, .ref (u_25.1 1), .int 0, .ref q_5])), ((u_25.1 0), .inl (cA 1, 8, .inl (fun _ => 0))), ((u_25.1 1), .inl (cA 1, 8, .inl (fun _ => 0))), (q_26, .inr (8, [.ref (u_27.1 0), .ref q_5])), ((u_27.1 0), .inl (cA 1, 128, .inl (fun _ => 0))), (q_28, .inr (0, [.int 0, .int (-1), .int 0, .ref (u_29.1 0), .ref (u_29.1 1), .ref (u_29.1 2), .ref q_5])), ((u_29.1 0), .inl (cA 1, 128, .inl (fun _ => 0))), ((u_29.1 1), .inl (cA 1, 128, .inl (fun _ => 0))), ((u_29.1 2), .inl (cA 1, 128, .inl (fun _ => 0))), (q_30, .inr (10, [.int 0, .null, .null, .null, .null]))] := hD
  refine W.widen (k := 84) (n := 2737) (Nat.le_of_ble_eq_true rfl) (Nat.le_of_ble_eq_true rfl) ?_
  refine lv_dup hx hb dX11_init_161 rfl ?_
  refine lv_aload_n hx hb dX11_init_162 rfl (lv_at hl 1 rfl) ?_
  refine va_get (D := D) (ci := 11) (v := .ref q_5) (C := RX11) (T := TX11) (N := 11) hx hb hts inX11 hown hKN.1 hP 0 rfl rfl 2 (by decide) (hts _ tw_467) (fun _ h9 => h9) rfl dX11_init_163 ?_
  refine lv_aload_n hx hb dX11_init_166 rfl (lv_at hl 1 rfl) ?_
  refine va_get (D := D) (ci := 11) (v := .ref q_20) (C := RX11) (T := TX11) (N := 11) hx hb hts inX11 hown hKN.1 hP 0 rfl rfl 5 (by decide) (hts _ tw_470) (fun _ h9 => h9) rfl dX11_init_167 ?_
  refine cmIv (rest := [.ref q_30, .ref h0]) (wsC := [(q_30, .inr (10, [.int 0, .null, .null, .null, .null]))]) (wr := [(h0, .inr (11, [.ref q_1, .ref q_3, .ref q_5, .ref q_7, .ref q_9, .ref q_20, .ref q_22, .ref q_24, .ref q_26, .ref q_28, .null])), (q_1, .inr (9, [.ref (u_2.1 0), .int 0])), ((u_2.1 0), .inl (cA 0, 800, .inl (fun _ => 0))), (q_3, .inr (6, [.ref (u_4.1 0), .int 0, .int (-1), .ref q_1, .int 0, .int 0, .int 0, .int 0, .int 0, .int 0, .int 0, .int 0, .ref (u_4.1 9)])), ((u_4.1 0), .inr (3, [.int 0, .int 0, .int 0, .int 0, .int 0, .int 0, .int 0, .int 0, .ref (u_4.1 1), .ref (u_4.1 2), .ref (u_4.1 3), .ref (u_4.1 4), .ref (u_4.1 5), .ref (u_4.1 6), .ref (u_4.1 7), .ref (u_4.1 8)])), ((u_4.1 1), .inl (cA 1, 8, .inl (fun _ => 0))), ((u_4.1 2), .inl (cA 1, 8, .inl (fun _ => 0))), ((u_4.1 3), .inl (cA 1, 8, .inl (fun _ => 0))), ((u_4.1 4), .inl (cA 1, 7, .inl (fun _ => 0))), ((u_4.1 5), .inl (cA 1, 7, .inl (fun _ => 0))), ((u_4.1 6), .inl (cA 1, 7, .inl (fun _ => 0))), ((u_4.1 7), .inl (cA 1, 4, .inl (fun _ => 0))), ((u_4.1 8), .inl (cA 1, 4, .inl (fun _ => 0))), ((u_4.1 9), .inl (cA 1, 3, .inl (fun _ => 0))), (q_5, .inr (3, [.int 0, .int 0, .int 0, .int 0, .int 0, .int 0, .int 0, .int 0, .ref (u_6.1 0), .ref (u_6.1 1), .ref (u_6.1 2), .ref (u_6.1 3), .ref (u_6.1 4), .ref (u_6.1 5), .ref (u_6.1 6), .ref (u_6.1 7)])), ((u_6.1 0), .inl (cA 1, 8, .inl (fun _ => 0))), ((u_6.1 1), .inl (cA 1, 8, .inl (fun _ => 0))), ((u_6.1 2), .inl (cA 1, 8, .inl (fun _ => 0))), ((u_6.1 3), .inl (cA 1, 7, .inl (fun _ => 0))), ((u_6.1 4), .inl (cA 1, 7, .inl (fun _ => 0))), ((u_6.1 5), .inl (cA 1, 7, .inl (fun _ => 0))), ((u_6.1 6), .inl (cA 1, 4, .inl (fun _ => 0))), ((u_6.1 7), .inl (cA 1, 4, .inl (fun _ => 0))), (q_7, .inr (2, [.int (-1), .int (-1), .int 0, .int 0, .int 0, .int 0, .int 0, .ref (u_8.1 0), .ref (u_8.1 1), .ref (u_8.1 2)])), ((u_8.1 0), .inl (cA 1, 60, .inl (fun _ => 0))), ((u_8.1 1), .inl (cA 1, 60, .inl (fun _ => 0))), ((u_8.1 2), .inl (cA 1, 60, .inl (fun _ => 0))), (q_9, .inl (cA 4, 3, .inr (.inr (.inr (.inr (va_up (va_up (va_up (fun _ => none) 0 (some q_11)) 1 (some q_14)) 2 (some q_17))))))), (q_11, .inr (4, [.ref (u_12.1 0), .ref (u_12.1 9), .int 0])), ((u_12.1 0), .inr (3, [.int 0, .int 0, .int 0, .int 0, .int 0, .int 0, .int 0, .int 0, .ref (u_12.1 1), .ref (u_12.1 2), .ref (u_12.1 3), .ref (u_12.1 4), .ref (u_12.1 5), .ref (u_12.1 6), .ref (u_12.1 7), .ref (u_12.1 8)])), ((u_12.1 1), .inl (cA 1, 8, .inl (fun _ => 0))), ((u_12.1 2), .inl (cA 1, 8, .inl (fun _ => 0))), ((u_12.1 3), .inl (cA 1, 8, .inl (fun _ => 0))), ((u_12.1 4), .inl (cA 1, 7, .inl (fun _ => 0))), ((u_12.1 5), .inl (cA 1, 7, .inl (fun _ => 0))), ((u_12.1 6), .inl (cA 1, 7, .inl (fun _ => 0))), ((u_12.1 7), .inl (cA 1, 4, .inl (fun _ => 0))), ((u_12.1 8), .inl (cA 1, 4, .inl (fun _ => 0))), ((u_12.1 9), .inr (2, [.int (-1), .int (-1), .int 0, .int 0, .int 0, .int 0, .int 0, .ref (u_12.1 10), .ref (u_12.1 11), .ref (u_12.1 12)])), ((u_12.1 10), .inl (cA 1, 60, .inl (fun _ => 0))), ((u_12.1 11), .inl (cA 1, 60, .inl (fun _ => 0))), ((u_12.1 12), .inl (cA 1, 60, .inl (fun _ => 0))), (q_14, .inr (4, [.ref (u_15.1 0), .ref (u_15.1 9), .int 0])), ((u_15.1 0), .inr (3, [.int 0, .int 0, .int 0, .int 0, .int 0, .int 0, .int 0, .int 0, .ref (u_15.1 1), .ref (u_15.1 2), .ref (u_15.1 3), .ref (u_15.1 4), .ref (u_15.1 5), .ref (u_15.1 6), .ref (u_15.1 7), .ref (u_15.1 8)])), ((u_15.1 1), .inl (cA 1, 8, .inl (fun _ => 0))), ((u_15.1 2), .inl (cA 1, 8, .inl (fun _ => 0))), ((u_15.1 3), .inl (cA 1, 8, .inl (fun _ => 0))), ((u_15.1 4), .inl (cA 1, 7, .inl (fun _ => 0))), ((u_15.1 5), .inl (cA 1, 7, .inl (fun _ => 0))), ((u_15.1 6), .inl (cA 1, 7, .inl (fun _ => 0))), ((u_15.1 7), .inl (cA 1, 4, .inl (fun _ => 0))), ((u_15.1 8), .inl (cA 1, 4, .inl (fun _ => 0))), ((u_15.1 9), .inr (2, [.int (-1), .int (-1), .int 0, .int 0, .int 0, .int 0, .int 0, .ref (u_15.1 10), .ref (u_15.1 11), .ref (u_15.1 12)])), ((u_15.1 10), .inl (cA 1, 60, .inl (fun _ => 0))), ((u_15.1 11), .inl (cA 1, 60, .inl (fun _ => 0))), ((u_15.1 12), .inl (cA 1, 60, .inl (fun _ => 0))), (q_17, .inr (4, [.ref (u_18.1 0), .ref (u_18.1 9), .int 0])), ((u_18.1 0), .inr (3, [.int 0, .int 0, .int 0, .int 0, .int 0, .int 0, .int 0, .int 0, .ref (u_18.1 1), .ref (u_18.1 2), .ref (u_18.1 3), .ref (u_18.1 4), .ref (u_18.1 5), .ref (u_18.1 6), .ref (u_18.1 7), .ref (u_18.1 8)])), ((u_18.1 1), .inl (cA 1, 8, .inl (fun _ => 0))), ((u_18.1 2), .inl (cA 1, 8, .inl (fun _ => 0))), ((u_18.1 3), .inl (cA 1, 8, .inl (fun _ => 0))), ((u_18.1 4), .inl (cA 1, 7, .inl (fun _ => 0))), ((u_18.1 5), .inl (cA 1, 7, .inl (fun _ => 0))), ((u_18.1 6), .inl (cA 1, 7, .inl (fun _ => 0))), ((u_18.1 7), .inl (cA 1, 4, .inl (fun _ => 0))), ((u_18.1 8), .inl (cA 1, 4, .inl (fun _ => 0))), ((u_18.1 9), .inr (2, [.int (-1), .int (-1), .int 0, .int 0, .int 0, .int 0, .int 0, .ref (u_18.1 10), .ref (u_18.1 11), .ref (u_18.1 12)])), ((u_18.1 10), .inl (cA 1, 60, .inl (fun _ => 0))), ((u_18.1 11), .inl (cA 1, 60, .inl (fun _ => 0))), ((u_18.1 12), .inl (cA 1, 60, .inl (fun _ => 0))), (q_20, .inr (7, [.ref (u_21.1 2), .ref (u_21.1 0), .ref (u_21.1 1)])), ((u_21.1 0), .inl (cA 1, 4, .inl (fun _ => 0))), ((u_21.1 1), .inl (cA 2, 240, .inr (.inl (fun _ => 0)))), ((u_21.1 2), .inl (cA 1, 4, .inl (u_21.2.2.1 0))), (q_22, .inr (1, [.int (-1), .int 1, .ref q_5])), (q_24, .inr (5, [.ref (u_25.1 0), .int 0, .int 0, .ref (u_25.1 1), .int 0, .ref q_5])), ((u_25.1 0), .inl (cA 1, 8, .inl (fun _ => 0))), ((u_25.1 1), .inl (cA 1, 8, .inl (fun _ => 0))), (q_26, .inr (8, [.ref (u_27.1 0), .ref q_5])), ((u_27.1 0), .inl (cA 1, 128, .inl (fun _ => 0))), (q_28, .inr (0, [.int 0, .int (-1), .int 0, .ref (u_29.1 0), .ref (u_29.1 1), .ref (u_29.1 2), .ref q_5])), ((u_29.1 0), .inl (cA 1, 128, .inl (fun _ => 0))), ((u_29.1 1), .inl (cA 1, 128, .inl (fun _ => 0))), ((u_29.1 2), .inl (cA 1, 128, .inl (fun _ => 0)))]) ⟨hx, hb, hml, hown, hts⟩ hKN hP hD hS hA [84] [0, 1, 2, 3, 4, 5, 6, 7, 8, 9, 10, 11, 12, 13, 14, 15, 16, 17, 18, 19, 20, 21, 22, 23, 24, 25, 26, 27, 28, 29, 30, 31, 32, 33, 34, 35, 36, 37, 38, 39, 40, 41, 42, 43, 44, 45, 46, 47, 48, 49, 50, 51, 52, 53, 54, 55, 56, 57, 58, 59, 60, 61, 62, 63, 64, 65, 66, 67, 68, 69, 70, 71, 72, 73, 74, 75, 76, 77, 78, 79, 80, 81, 82, 83] rfl rfl (by decide) (by decide) (by decide) (k_X10_init l D cA _ q_30 q_5 q_20) ⟨tw_443, tw_444, tw_113, tw_445⟩ hdX10_init ⟨rfl, rfl, Nat.le_of_ble_eq_true rfl, Nat.le_of_ble_eq_true rfl⟩ ⟨Nat.le_of_ble_eq_true rfl, Nat.le_of_ble_eq_true rfl⟩ rfl hl.1 rfl (Nat.le_of_ble_eq_true rfl) dX11_init_170 (fun u_31 H locs hr_31 hP hD hS => ?_)
  have hP : va_P D vwCl [(h0, .inr (11, [.ref q_1, .ref q_3, .ref q_5, .ref q_7, .ref q_9, .ref q_20, .ref q_22, .ref q_24, .ref q_26, .ref q_28, .null])), (q_1, .inr (9, [.ref (u_2.1 0), .int 0])), ((u_2.1 0), .inl (cA 0, 800, .inl (fun _ => 0))), (q_3, .inr (6, [.ref (u_4.1 0), .int 0, .int (-1), .ref q_1, .int 0, .int 0, .int 0, .int 0, .int 0, .int 0, .int 0, .int 0, .ref (u_4.1 9)])), ((u_4.1 0), .inr (3, [.int 0, .int 0, .int 0, .int 0, .int 0, .int 0, .int 0, .int 0, .ref (u_4.1 1), .ref (u_4.1 2), .ref (u_4.1 3), .ref (u_4.1 4), .ref (u_4.1 5), .ref (u_4.1 6), .ref (u_4.1 7), .ref (u_4.1 8)])), ((u_4.1 1), .inl (cA 1, 8, .inl (fun _ => 0))), ((u_4.1 2), .inl (cA 1, 8, .inl (fun _ => 0))), ((u_4.1 3), .inl (cA 1, 8, .inl (fun _ => 0))), ((u_4.1 4), .inl (cA 1, 7, .inl (fun _ => 0))), ((u_4.1 5), .inl (cA 1, 7, .inl (fun _ => 0))), ((u_4.1 6), .inl (cA 1, 7, .inl (fun _ => 0))), ((u_4.1 7), .inl (cA 1, 4, .inl (fun _ => 0))), ((u_4.1 8), .inl (cA 1, 4, .inl (fun _ => 0))), ((u_4.1 9), .inl (cA 1, 3, .inl (fun _ => 0))), (q_5, .inr (3, [.int 0, .int 0, .int 0, .int 0, .int 0, .int 0, .int 0, .int 0, .ref (u_6.1 0), .ref (u_6.1 1), .ref (u_6.1 2), .ref (u_6.1 3), .ref (u_6.1 4), .ref (u_6.1 5), .ref (u_6.1 6), .ref (u_6.1 7)])), ((u_6.1 0), .inl (cA 1, 8, .inl (fun _ => 0))), ((u_6.1 1), .inl (cA 1, 8, .inl (fun _ => 0))), ((u_6.1 2), .inl (cA 1, 8, .inl (fun _ => 0))), ((u_6.1 3), .inl (cA 1, 7, .inl (fun _ => 0))), ((u_6.1 4), .inl (cA 1, 7, .inl (fun _ => 0))), ((u_6.1 5), .inl (cA 1, 7, .inl (fun _ => 0))), ((u_6.1 6), .inl (cA 1, 4, .inl (fun _ => 0))), ((u_6.1 7), .inl (cA 1, 4, .inl (fun _ => 0))), (q_7, .inr (2, [.int (-1), .int (-1), .int 0, .int 0, .int 0, .int 0, .int 0, .ref (u_8.1 0), .ref (u_8.1 1), .ref (u_8.1 2)])), ((u_8.1 0), .inl (cA 1, 60, .inl (fun _ => 0))), ((u_8.1 1), .inl (cA 1, 60, .inl (fun _ => 0))), ((u_8.1 2), .inl (cA 1, 60, .inl (fun _ => 0))), (q_9, .inl (cA 4, 3, .inr (.inr (.inr (.inr (va_up (va_up (va_up (fun _ => none) 0 (some q_11)) 1 (some q_14)) 2 (some q_17))))))), (q_11, .inr (4, [.ref (u_12.1 0), .ref (u_12.1 9), .int 0])), ((u_12.1 0), .inr (3, [.int 0, .int 0, .int 0, .int 0, .int 0, .int 0, .int 0, .int 0, .ref (u_12.1 1), .ref (u_12.1 2), .ref (u_12.1 3), .ref (u_12.1 4), .ref (u_12.1 5), .ref (u_12.1 6), .ref (u_12.1 7), .ref (u_12.1 8)])), ((u_12.1 1), .inl (cA 1, 8, .inl (fun _ => 0))), ((u_12.1 2), .inl (cA 1, 8, .inl (fun _ => 0))), ((u_12.1 3), .inl (cA 1, 8, .inl (fun _ => 0))), ((u_12.1 4), .inl (cA 1, 7, .inl (fun _ => 0))), ((u_12.1 5), .inl (cA 1, 7, .inl (fun _ => 0))), ((u_12.1 6), .inl (cA 1, 7, .inl (fun _ => 0))), ((u_12.1 7), .inl (cA 1, 4, .inl (fun _ => 0))), ((u_12.1 8), .inl (cA 1, 4, .inl (fun _ => 0))), ((u_12.1 9), .inr (2, [.int (-1), .int (-1), .int 0, .int 0, .int 0, .int 0, .int 0, .ref (u_12.1 10), .ref (u_12.1 11), .ref (u_12.1 12)])), ((u_12.1 10), .inl (cA 1, 60, .inl (fun _ => 0))), ((u_12.1 11), .inl (cA 1, 60, .inl (fun _ => 0))), ((u_12.1 12), .inl (cA 1, 60, .inl (fun _ => 0))), (q_14, .inr (4, [.ref (u_15.1 0), .ref (u_15.1 9), .int 0])), ((u_15.1 0), .inr (3, [.int 0, .int 0, .int 0, .int 0, .int 0, .int 0, .int 0, .int 0, .ref (u_15.1 1), .ref (u_15.1 2), .ref (u_15.1 3), .ref (u_15.1 4), .ref (u_15.1 5), .ref (u_15.1 6), .ref (u_15.1 7), .ref (u_15.1 8)])), ((u_15.1 1), .inl (cA 1, 8, .inl (fun _ => 0))), ((u_15.1 2), .inl (cA 1, 8, .inl (fun _ => 0))), ((u_15.1 3), .inl (cA 1, 8, .inl (fun _ => 0))), ((u_15.1 4), .inl (cA 1, 7, .inl (fun _ => 0))), ((u_15.1 5), .inl (cA 1, 7, .inl (fun _ => 0))), ((u_15.1 6), .inl (cA 1, 7, .inl (fun _ => 0))), ((u_15.1 7), .inl (cA 1, 4, .inl (fun _ => 0))), ((u_15.1 8), .inl (cA 1, 4, .inl (fun _ => 0))), ((u_15.1 9), .inr (2, [.int (-1), .int (-1), .int 0, .int 0, .int 0, .int 0, .int 0, .ref (u_15.1 10), .ref (u_15.1 11), .ref (u_15.1 12)])), ((u_15.1 10), .inl (cA 1, 60, .inl (fun _ => 0))), ((u_15.1 11), .inl (cA 1, 60, .inl (fun _ => 0))), ((u_15.1 12), .inl (cA 1, 60, .inl (fun _ => 0))), (q_17, .inr (4, [.ref (u_18.1 0), .ref (u_18.1 9), .int 0])), ((u_18.1 0), .inr (3, [.int 0, .int 0, .int 0, .int 0, .int 0, .int 0, .int 0, .int 0, .ref (u_18.1 1), .ref (u_18.1 2), .ref (u_18.1 3), .ref (u_18.1 4), .ref (u_18.1 5), .ref (u_18.1 6), .ref (u_18.1 7), .ref (u_18.1 8)])), ((u_18.1 1), .inl (cA 1, 8, .inl (fun _ => 0))), ((u_18.1 2), .inl (cA 1, 8, .inl (fun _ => 0))), ((u_18.1 3), .inl (cA 1, 8, .inl (fun _ => 0))), ((u_18.1 4), .inl (cA 1, 7, .inl (fun _ => 0))), ((u_18.1 5), .inl (cA 1, 7, .inl (fun _ => 0))), ((u_18.1 6), .inl (cA 1, 7, .inl (fun _ => 0))), ((u_18.1 7), .inl (cA 1, 4, .inl (fun _ => 0))), ((u_18.1 8), .inl (cA 1, 4, .inl (fun _ => 0))), ((u_18.1 9), .inr (2, [.int (-1), .int (-1), .int 0, .int 0, .int 0, .int 0, .int 0, .ref (u_18.1 10), .ref (u_18.1 11), .ref (u_18.1 12)])), ((u_18.1 10), .inl (cA 1, 60, .inl (fun _ => 0))), ((u_18.1 11), .inl (cA 1, 60, .inl (fun _ => 0))), ((u_18.1 12), .inl (cA 1, 60, .inl (fun _ => 0))), (q_20, .inr (7, [.ref (u_21.1 2), .ref (u_21.1 0), .ref (u_21.1 1)])), ((u_21.1 0), .inl (cA 1, 4, .inl (fun _ => 0))), ((u_21.1 1), .inl (cA 2, 240, .inr (.inl (fun _ => 0)))), ((u_21.1 2), .inl (cA 1, 4, .inl (u_21.2.2.1 0))), (q_22, .inr (1, [.int (-1), .int 1, .ref q_5])), (q_24, .inr (5, [.ref (u_25.1 0), .int 0, .int 0, .ref (u_25.1 1), .int 0, .ref q_5])), ((u_25.1 0), .inl (cA 1, 8, .inl (fun _ => 0))), ((u_25.1 1), .inl (cA 1, 8, .inl (fun _ => 0))), (q_26, .inr (8, [.ref (u_27.1 0), .ref q_5])), ((u_27.1 0), .inl (cA 1, 128, .inl (fun _ => 0))), (q_28, .inr (0, [.int 0, .int (-1), .int 0, .ref (u_29.1 0), .ref (u_29.1 1), .ref (u_29.1 2), .ref q_5])), ((u_29.1 0), .inl (cA 1, 128, .inl (fun _ => 0))), ((u_29.1 1), .inl (cA 1, 128, .inl (fun _ => 0))), ((u_29.1 2), .inl (cA 1, 128, .inl (fun _ => 0))), (q_30, .inr (10, [.int 0, .ref (u_31.1 0), .ref (u_31.1 1), .ref q_5, .ref q_20])), ((u_31.1 0), .inl (cA 3, 240, .inl (fun _ => 0))), ((u_31.1 1), .inl (cA 1, 40, .inl (fun _ => 0)))] H := hP
  have hD : va_D A [(h0, .inr (11, [.ref q_1, .ref q_3, .ref q_5, .ref q_7, .ref q_9, .ref q_20, .ref q_22, .ref q_24, .ref q_26, .ref q_28, .null])), (q_1, .inr (9, [.ref (u_2.1 0), .int 0])), ((u_2.1 0), .inl (cA 0, 800, .inl (fun _ => 0))), (q_3, .inr (6, [.ref (u_4.1 0), .int 0, .int (-1), .ref q_1, .int 0, .int 0, .int 0, .int 0, .int 0, .int 0, .int 0, .int 0, .ref (u_4.1 9)])), ((u_4.1 0), .inr (3, [.int 0, .int 0, .int 0, .int 0, .int 0, .int 0, .int 0, .int 0, .ref (u_4.1 1), .ref (u_4.1 2), .ref (u_4.1 3), .ref (u_4.1 4), .ref (u_4.1 5), .ref (u_4.1 6), .ref (u_4.1 7), .ref (u_4.1 8)])), ((u_4.1 1), .inl (cA 1, 8, .inl (fun _ => 0))), ((u_4.1 2), .inl (cA 1, 8, .inl (fun _ => 0))), ((u_4.1 3), .inl (cA 1, 8, .inl (fun _ => 0))), ((u_4.1 4), .inl (cA 1, 7, .inl (fun _ => 0))), ((u_4.1 5), .inl (cA 1, 7, .inl (fun _ => 0))), ((u_4.1 6), .inl (cA 1, 7, .inl (fun _ => 0))), ((u_4.1 7), .inl (cA 1, 4, .inl (fun _ => 0))), ((u_4.1 8), .inl (cA 1, 4, .inl (fun _ => 0))), ((u_4.1 9), .inl (cA 1, 3, .inl (fun _ => 0))), (q_5, .inr (3, [.int 0, .int 0, .int 0, .int 0, .int 0, .int 0, .int 0, .int 0, .ref (u_6.1 0), .ref (u_6.1 1), .ref (u_6.1 2), .ref (u_6.1 3), .ref (u_6.1 4), .ref (u_6.1 5), .ref (u_6.1 6), .ref (u_6.1 7)])), ((u_6.1 0), .inl (cA 1, 8, .inl (fun _ => 0))), ((u_6.1 1), .inl (cA 1, 8, .inl (fun _ => 0))), ((u_6.1 2), .inl (cA 1, 8, .inl (fun _ => 0))), ((u_6.1 3), .inl (cA 1, 7, .inl (fun _ => 0))), ((u_6.1 4), .inl (cA 1, 7, .inl (fun _ => 0))), ((u_6.1 5), .inl (cA 1, 7, .inl (fun _ => 0))), ((u_6.1 6), .inl (cA 1, 4, .inl (fun _ => 0))), ((u_6.1 7), .inl (cA 1, 4, .inl (fun _ => 0))), (q_7, .inr (2, [.int (-1), .int (-1), .int 0, .int 0, .int 0, .int 0, .int 0, .ref (u_8.1 0), .ref (u_8.1 1), .ref (u_8.1 2)])), ((u_8.1 0), .inl (cA 1, 60, .inl (fun _ => 0))), ((u_8.1 1), .inl (cA 1, 60, .inl (fun _ => 0))), ((u_8.1 2), .inl (cA 1, 60, .inl (fun _ => 0))), (q_9, .inl (cA 4, 3, .inr (.inr (.inr (.inr (va_up (va_up (va_up (fun _ => none) 0 (some q_11)) 1 (some q_14)) 2 (some q_17))))))), (q_11, .inr (4, [.ref (u_12.1 0), .ref (u_12.1 9), .int 0])), ((u_12.1 0), .inr (3, [.int 0, .int 0, .int 0, .int 0, .int 0, .int 0, .int 0, .int 0, .ref (u_12.1 1), .ref (u_12.1 2), .ref (u_12.1 3), .ref (u_12.1 4), .ref (u_12.1 5), .ref (u_12.1 6), .ref (u_12.1 7), .ref (u_12.1 8)])), ((u_12.1 1), .inl (cA 1, 8, .inl (fun _ => 0))), ((u_12.1 2), .inl (cA 1, 8, .inl (fun _ => 0))), ((u_12.1 3), .inl (cA 1, 8, .inl (fun _ => 0))), ((u_12.1 4), .inl (cA 1, 7, .inl (fun _ => 0))), ((u_12.1 5), .inl (cA 1, 7, .inl (fun _ => 0))), ((u_12.1 6), .inl (cA 1, 7, .inl (fun _ => 0))), ((u_12.1 7), .inl (cA 1, 4, .inl (fun _ => 0))), ((u_12.1 8), .inl (cA 1, 4, .inl (fun _ => 0))), ((u_12.1 9), .inr (2, [.int (-1), .int (-1), .int 0, .int 0, .int 0, .int 0, .int 0, .ref (u_12.1 10), .ref (u_12.1 11), .ref (u_12.1 12)])), ((u_12.1 10), .inl (cA 1, 60, .inl (fun _ => 0))), ((u_12.1 11), .inl (cA 1, 60, .inl (fun _ => 0))), ((u_12.1 12), .inl (cA 1, 60, .inl (fun _ => 0))), (q_14, .inr (4, [.ref (u_15.1 0), .ref (u_15.1 9), .int 0])), ((u_15.1 0), .inr (3, [.int 0, .int 0, .int 0, .int 0, .int 0, .int 0, .int 0, .int 0, .ref (u_15.1 1), .ref (u_15.1 2), .ref (u_15.1 3), .ref (u_15.1 4), .ref (u_15.1 5), .ref (u_15.1 6), .ref (u_15.1 7), .ref (u_15.1 8)])), ((u_15.1 1), .inl (cA 1, 8, .inl (fun _ => 0))), ((u_15.1 2), .inl (cA 1, 8, .inl (fun _ => 0))), ((u_15.1 3), .inl (cA 1, 8, .inl (fun _ => 0))), ((u_15.1 4), .inl (cA 1, 7, .inl (fun _ => 0))), ((u_15.1 5), .inl (cA 1, 7, .inl (fun _ => 0))), ((u_15.1 6), .inl (cA 1, 7, .inl (fun _ => 0))), ((u_15.1 7), .inl (cA 1, 4, .inl (fun _ => 0))), ((u_15.1 8), .inl (cA 1, 4, .inl (fun _ => 0))), ((u_15.1 9), .inr (2, [.int (-1), .int (-1), .int 0, .int 0, .int 0, .int 0, .int 0, .ref (u_15.1 10), .ref (u_15.1 11), .ref (u_15.1 12)])), ((u_15.1 10), .inl (cA 1, 60, .inl (fun _ => 0))), ((u_15.1 11), .inl (cA 1, 60, .inl (fun _ => 0))), ((u_15.1 12), .inl (cA 1, 60, .inl (fun _ => 0))), (q_17, .inr (4, [.ref (u_18.1 0), .ref (u_18.1 9), .int 0])), ((u_18.1 0), .inr (3, [.int 0, .int 0, .int 0, .int 0, .int 0, .int 0, .int 0, .int 0, .ref (u_18.1 1), .ref (u_18.1 2), .ref (u_18.1 3), .ref (u_18.1 4), .ref (u_18.1 5), .ref (u_18.1 6), .ref (u_18.1 7), .ref (u_18.1 8)])), ((u_18.1 1), .inl (cA 1, 8, .inl (fun _ => 0))), ((u_18.1 2), .inl (cA 1, 8, .inl (fun _ => 0))), ((u_18.1 3), .inl (cA 1, 8, .inl (fun _ => 0))), ((u_18.1 4), .inl (cA 1, 7, .inl (fun _ => 0))), ((u_18.1 5), .inl (cA 1, 7, .inl (fun _ => 0))), ((u_18.1 6), .inl (cA 1, 7, .inl (fun _ => 0))), ((u_18.1 7), .inl (cA 1, 4, .inl (fun _ => 0))), ((u_18.1 8), .inl (cA 1, 4, .inl (fun _ => 0))), ((u_18.1 9), .inr (2, [.int (-1), .int (-1), .int 0, .int 0, .int 0, .int 0, .int 0, .ref (u_18.1 10), .ref (u_18.1 11), .ref (u_18.1 12)])), ((u_18.1 10), .inl (cA 1, 60, .inl (fun _ => 0))), ((u_18.1 11), .inl (cA 1, 60, .inl (fun _ => 0))), ((u_18.1 12), .inl (cA 1, 60, .inl (fun _ => 0))), (q_20, .inr (7, [.ref (u_21.1 2), .ref (u_21.1 0), .ref (u_21.1 1)])), ((u_21.1 0), .inl (cA 1, 4, .inl (fun _ => 0))), ((u_21.1 1), .inl (cA 2, 240, .inr (.inl (fun _ => 0)))), ((u_21.1 2), .inl (cA 1, 4, .inl (u_21.2.2.1 0))), (q_22, .inr (1, [.int (-1), .int 1, .ref q_5])), (q_24, .inr (5, [.ref (u_25.1 0), .int 0, .int 0, .ref (u_25.1 1), .int 0, .ref q_5])), ((u_25.1 0), .inl (cA 1, 8, .inl (fun _ => 0))), ((u_25.1 1), .inl (cA 1, 8, .inl (fun _ => 0))), (q_26, .inr (8, [.ref (u_27.1 0), .ref q_5])), ((u_27.1 0), .inl (cA 1, 128, .inl (fun _ => 0))), (q_28, .inr (0, [.int 0, .int (-1), .int 0, .ref (u_29.1 0), .ref (u_29.1 1), .ref (u_29.1 2), .ref q_5])), ((u_29.1 0), .inl (cA 1, 128, .inl (fun _ => 0))), ((u_29.1 1), .inl (cA 1, 128, .inl (fun _ => 0))), ((u_29.1 2), .inl (cA 1, 128, .inl (fun _ => 0))), (q_30, .inr (10, [.int 0, .ref (u_31.1 0), .ref (u_31.1 1), .ref q_5, .ref q_20])), ((u_31.1 0), .inl (cA 3, 240, .inl (fun _ => 0))), ((u_31.1 1), .inl (cA 1, 40, .inl (fun _ => 0)))] := hD
  refine W.widen (k := 86) (n := 3017) (Nat.le_of_ble_eq_true rfl) (Nat.le_of_ble_eq_true rfl) ?_
  refine va_putF (D := D) (ci := 11) (v := .ref q_30) (ty := (.object "WristTreaty$Weary")) (C := RX11) (T := TX11) (N := 11) hx hb hts inX11 tyX11 tyX11_ok nmX11 hown hKN.1 hP hD hS 0 rfl rfl 10 (by decide) (hts _ tw_475) (fun _ h9 => h9) rfl hin rfl (by decide +kernel) rfl rfl (Nat.le_of_ble_eq_true rfl) dX11_init_173 (fun H locs hP hD hS => ?_)
  have hP : va_P D vwCl [(h0, .inr (11, [.ref q_1, .ref q_3, .ref q_5, .ref q_7, .ref q_9, .ref q_20, .ref q_22, .ref q_24, .ref q_26, .ref q_28, .ref q_30])), (q_1, .inr (9, [.ref (u_2.1 0), .int 0])), ((u_2.1 0), .inl (cA 0, 800, .inl (fun _ => 0))), (q_3, .inr (6, [.ref (u_4.1 0), .int 0, .int (-1), .ref q_1, .int 0, .int 0, .int 0, .int 0, .int 0, .int 0, .int 0, .int 0, .ref (u_4.1 9)])), ((u_4.1 0), .inr (3, [.int 0, .int 0, .int 0, .int 0, .int 0, .int 0, .int 0, .int 0, .ref (u_4.1 1), .ref (u_4.1 2), .ref (u_4.1 3), .ref (u_4.1 4), .ref (u_4.1 5), .ref (u_4.1 6), .ref (u_4.1 7), .ref (u_4.1 8)])), ((u_4.1 1), .inl (cA 1, 8, .inl (fun _ => 0))), ((u_4.1 2), .inl (cA 1, 8, .inl (fun _ => 0))), ((u_4.1 3), .inl (cA 1, 8, .inl (fun _ => 0))), ((u_4.1 4), .inl (cA 1, 7, .inl (fun _ => 0))), ((u_4.1 5), .inl (cA 1, 7, .inl (fun _ => 0))), ((u_4.1 6), .inl (cA 1, 7, .inl (fun _ => 0))), ((u_4.1 7), .inl (cA 1, 4, .inl (fun _ => 0))), ((u_4.1 8), .inl (cA 1, 4, .inl (fun _ => 0))), ((u_4.1 9), .inl (cA 1, 3, .inl (fun _ => 0))), (q_5, .inr (3, [.int 0, .int 0, .int 0, .int 0, .int 0, .int 0, .int 0, .int 0, .ref (u_6.1 0), .ref (u_6.1 1), .ref (u_6.1 2), .ref (u_6.1 3), .ref (u_6.1 4), .ref (u_6.1 5), .ref (u_6.1 6), .ref (u_6.1 7)])), ((u_6.1 0), .inl (cA 1, 8, .inl (fun _ => 0))), ((u_6.1 1), .inl (cA 1, 8, .inl (fun _ => 0))), ((u_6.1 2), .inl (cA 1, 8, .inl (fun _ => 0))), ((u_6.1 3), .inl (cA 1, 7, .inl (fun _ => 0))), ((u_6.1 4), .inl (cA 1, 7, .inl (fun _ => 0))), ((u_6.1 5), .inl (cA 1, 7, .inl (fun _ => 0))), ((u_6.1 6), .inl (cA 1, 4, .inl (fun _ => 0))), ((u_6.1 7), .inl (cA 1, 4, .inl (fun _ => 0))), (q_7, .inr (2, [.int (-1), .int (-1), .int 0, .int 0, .int 0, .int 0, .int 0, .ref (u_8.1 0), .ref (u_8.1 1), .ref (u_8.1 2)])), ((u_8.1 0), .inl (cA 1, 60, .inl (fun _ => 0))), ((u_8.1 1), .inl (cA 1, 60, .inl (fun _ => 0))), ((u_8.1 2), .inl (cA 1, 60, .inl (fun _ => 0))), (q_9, .inl (cA 4, 3, .inr (.inr (.inr (.inr (va_up (va_up (va_up (fun _ => none) 0 (some q_11)) 1 (some q_14)) 2 (some q_17))))))), (q_11, .inr (4, [.ref (u_12.1 0), .ref (u_12.1 9), .int 0])), ((u_12.1 0), .inr (3, [.int 0, .int 0, .int 0, .int 0, .int 0, .int 0, .int 0, .int 0, .ref (u_12.1 1), .ref (u_12.1 2), .ref (u_12.1 3), .ref (u_12.1 4), .ref (u_12.1 5), .ref (u_12.1 6), .ref (u_12.1 7), .ref (u_12.1 8)])), ((u_12.1 1), .inl (cA 1, 8, .inl (fun _ => 0))), ((u_12.1 2), .inl (cA 1, 8, .inl (fun _ => 0))), ((u_12.1 3), .inl (cA 1, 8, .inl (fun _ => 0))), ((u_12.1 4), .inl (cA 1, 7, .inl (fun _ => 0))), ((u_12.1 5), .inl (cA 1, 7, .inl (fun _ => 0))), ((u_12.1 6), .inl (cA 1, 7, .inl (fun _ => 0))), ((u_12.1 7), .inl (cA 1, 4, .inl (fun _ => 0))), ((u_12.1 8), .inl (cA 1, 4, .inl (fun _ => 0))), ((u_12.1 9), .inr (2, [.int (-1), .int (-1), .int 0, .int 0, .int 0, .int 0, .int 0, .ref (u_12.1 10), .ref (u_12.1 11), .ref (u_12.1 12)])), ((u_12.1 10), .inl (cA 1, 60, .inl (fun _ => 0))), ((u_12.1 11), .inl (cA 1, 60, .inl (fun _ => 0))), ((u_12.1 12), .inl (cA 1, 60, .inl (fun _ => 0))), (q_14, .inr (4, [.ref (u_15.1 0), .ref (u_15.1 9), .int 0])), ((u_15.1 0), .inr (3, [.int 0, .int 0, .int 0, .int 0, .int 0, .int 0, .int 0, .int 0, .ref (u_15.1 1), .ref (u_15.1 2), .ref (u_15.1 3), .ref (u_15.1 4), .ref (u_15.1 5), .ref (u_15.1 6), .ref (u_15.1 7), .ref (u_15.1 8)])), ((u_15.1 1), .inl (cA 1, 8, .inl (fun _ => 0))), ((u_15.1 2), .inl (cA 1, 8, .inl (fun _ => 0))), ((u_15.1 3), .inl (cA 1, 8, .inl (fun _ => 0))), ((u_15.1 4), .inl (cA 1, 7, .inl (fun _ => 0))), ((u_15.1 5), .inl (cA 1, 7, .inl (fun _ => 0))), ((u_15.1 6), .inl (cA 1, 7, .inl (fun _ => 0))), ((u_15.1 7), .inl (cA 1, 4, .inl (fun _ => 0))), ((u_15.1 8), .inl (cA 1, 4, .inl (fun _ => 0))), ((u_15.1 9), .inr (2, [.int (-1), .int (-1), .int 0, .int 0, .int 0, .int 0, .int 0, .ref (u_15.1 10), .ref (u_15.1 11), .ref (u_15.1 12)])), ((u_15.1 10), .inl (cA 1, 60, .inl (fun _ => 0))), ((u_15.1 11), .inl (cA 1, 60, .inl (fun _ => 0))), ((u_15.1 12), .inl (cA 1, 60, .inl (fun _ => 0))), (q_17, .inr (4, [.ref (u_18.1 0), .ref (u_18.1 9), .int 0])), ((u_18.1 0), .inr (3, [.int 0, .int 0, .int 0, .int 0, .int 0, .int 0, .int 0, .int 0, .ref (u_18.1 1), .ref (u_18.1 2), .ref (u_18.1 3), .ref (u_18.1 4), .ref (u_18.1 5), .ref (u_18.1 6), .ref (u_18.1 7), .ref (u_18.1 8)])), ((u_18.1 1), .inl (cA 1, 8, .inl (fun _ => 0))), ((u_18.1 2), .inl (cA 1, 8, .inl (fun _ => 0))), ((u_18.1 3), .inl (cA 1, 8, .inl (fun _ => 0))), ((u_18.1 4), .inl (cA 1, 7, .inl (fun _ => 0))), ((u_18.1 5), .inl (cA 1, 7, .inl (fun _ => 0))), ((u_18.1 6), .inl (cA 1, 7, .inl (fun _ => 0))), ((u_18.1 7), .inl (cA 1, 4, .inl (fun _ => 0))), ((u_18.1 8), .inl (cA 1, 4, .inl (fun _ => 0))), ((u_18.1 9), .inr (2, [.int (-1), .int (-1), .int 0, .int 0, .int 0, .int 0, .int 0, .ref (u_18.1 10), .ref (u_18.1 11), .ref (u_18.1 12)])), ((u_18.1 10), .inl (cA 1, 60, .inl (fun _ => 0))), ((u_18.1 11), .inl (cA 1, 60, .inl (fun _ => 0))), ((u_18.1 12), .inl (cA 1, 60, .inl (fun _ => 0))), (q_20, .inr (7, [.ref (u_21.1 2), .ref (u_21.1 0), .ref (u_21.1 1)])), ((u_21.1 0), .inl (cA 1, 4, .inl (fun _ => 0))), ((u_21.1 1), .inl (cA 2, 240, .inr (.inl (fun _ => 0)))), ((u_21.1 2), .inl (cA 1, 4, .inl (u_21.2.2.1 0))), (q_22, .inr (1, [.int (-1), .int 1, .ref q_5])), (q_24, .inr (5, [.ref (u_25.1 0), .int 0, .int 0, .ref (u_25.1 1), .int 0, .ref q_5])), ((u_25.1 0), .inl (cA 1, 8, .inl (fun _ => 0))), ((u_25.1 1), .inl (cA 1, 8, .inl (fun _ => 0))), (q_26, .inr (8, [.ref (u_27.1 0), .ref q_5])), ((u_27.1 0), .inl (cA 1, 128, .inl (fun _ => 0))), (q_28, .inr (0, [.int 0, .int (-1), .int 0, .ref (u_29.1 0), .ref (u_29.1 1), .ref (u_29.1 2), .ref q_5])), ((u_29.1 0), .inl (cA 1, 128, .inl (fun _ => 0))), ((u_29.1 1), .inl (cA 1, 128, .inl (fun _ => 0))), ((u_29.1 2), .inl (cA 1, 128, .inl (fun _ => 0))), (q_30, .inr (10, [.int 0, .ref (u_31.1 0), .ref (u_31.1 1), .ref q_5, .ref q_20])), ((u_31.1 0), .inl (cA 3, 240, .inl (fun _ => 0))), ((u_31.1 1), .inl (cA 1, 40, .inl (fun _ => 0)))] H := hP
  have hD : va_D A [(h0, .inr (11, [.ref q_1, .ref q_3, .ref q_5, .ref q_7, .ref q_9, .ref q_20, .ref q_22, .ref q_24, .ref q_26, .ref q_28, .ref q_30])), (q_1, .inr (9, [.ref (u_2.1 0), .int 0])), ((u_2.1 0), .inl (cA 0, 800, .inl (fun _ => 0))), (q_3, .inr (6, [.ref (u_4.1 0), .int 0, .int (-1), .ref q_1, .int 0, .int 0, .int 0, .int 0, .int 0, .int 0, .int 0, .int 0, .ref (u_4.1 9)])), ((u_4.1 0), .inr (3, [.int 0, .int 0, .int 0, .int 0, .int 0, .int 0, .int 0, .int 0, .ref (u_4.1 1), .ref (u_4.1 2), .ref (u_4.1 3), .ref (u_4.1 4), .ref (u_4.1 5), .ref (u_4.1 6), .ref (u_4.1 7), .ref (u_4.1 8)])), ((u_4.1 1), .inl (cA 1, 8, .inl (fun _ => 0))), ((u_4.1 2), .inl (cA 1, 8, .inl (fun _ => 0))), ((u_4.1 3), .inl (cA 1, 8, .inl (fun _ => 0))), ((u_4.1 4), .inl (cA 1, 7, .inl (fun _ => 0))), ((u_4.1 5), .inl (cA 1, 7, .inl (fun _ => 0))), ((u_4.1 6), .inl (cA 1, 7, .inl (fun _ => 0))), ((u_4.1 7), .inl (cA 1, 4, .inl (fun _ => 0))), ((u_4.1 8), .inl (cA 1, 4, .inl (fun _ => 0))), ((u_4.1 9), .inl (cA 1, 3, .inl (fun _ => 0))), (q_5, .inr (3, [.int 0, .int 0, .int 0, .int 0, .int 0, .int 0, .int 0, .int 0, .ref (u_6.1 0), .ref (u_6.1 1), .ref (u_6.1 2), .ref (u_6.1 3), .ref (u_6.1 4), .ref (u_6.1 5), .ref (u_6.1 6), .ref (u_6.1 7)])), ((u_6.1 0), .inl (cA 1, 8, .inl (fun _ => 0))), ((u_6.1 1), .inl (cA 1, 8, .inl (fun _ => 0))), ((u_6.1 2), .inl (cA 1, 8, .inl (fun _ => 0))), ((u_6.1 3), .inl (cA 1, 7, .inl (fun _ => 0))), ((u_6.1 4), .inl (cA 1, 7, .inl (fun _ => 0))), ((u_6.1 5), .inl (cA 1, 7, .inl (fun _ => 0))), ((u_6.1 6), .inl (cA 1, 4, .inl (fun _ => 0))), ((u_6.1 7), .inl (cA 1, 4, .inl (fun _ => 0))), (q_7, .inr (2, [.int (-1), .int (-1), .int 0, .int 0, .int 0, .int 0, .int 0, .ref (u_8.1 0), .ref (u_8.1 1), .ref (u_8.1 2)])), ((u_8.1 0), .inl (cA 1, 60, .inl (fun _ => 0))), ((u_8.1 1), .inl (cA 1, 60, .inl (fun _ => 0))), ((u_8.1 2), .inl (cA 1, 60, .inl (fun _ => 0))), (q_9, .inl (cA 4, 3, .inr (.inr (.inr (.inr (va_up (va_up (va_up (fun _ => none) 0 (some q_11)) 1 (some q_14)) 2 (some q_17))))))), (q_11, .inr (4, [.ref (u_12.1 0), .ref (u_12.1 9), .int 0])), ((u_12.1 0), .inr (3, [.int 0, .int 0, .int 0, .int 0, .int 0, .int 0, .int 0, .int 0, .ref (u_12.1 1), .ref (u_12.1 2), .ref (u_12.1 3), .ref (u_12.1 4), .ref (u_12.1 5), .ref (u_12.1 6), .ref (u_12.1 7), .ref (u_12.1 8)])), ((u_12.1 1), .inl (cA 1, 8, .inl (fun _ => 0))), ((u_12.1 2), .inl (cA 1, 8, .inl (fun _ => 0))), ((u_12.1 3), .inl (cA 1, 8, .inl (fun _ => 0))), ((u_12.1 4), .inl (cA 1, 7, .inl (fun _ => 0))), ((u_12.1 5), .inl (cA 1, 7, .inl (fun _ => 0))), ((u_12.1 6), .inl (cA 1, 7, .inl (fun _ => 0))), ((u_12.1 7), .inl (cA 1, 4, .inl (fun _ => 0))), ((u_12.1 8), .inl (cA 1, 4, .inl (fun _ => 0))), ((u_12.1 9), .inr (2, [.int (-1), .int (-1), .int 0, .int 0, .int 0, .int 0, .int 0, .ref (u_12.1 10), .ref (u_12.1 11), .ref (u_12.1 12)])), ((u_12.1 10), .inl (cA 1, 60, .inl (fun _ => 0))), ((u_12.1 11), .inl (cA 1, 60, .inl (fun _ => 0))), ((u_12.1 12), .inl (cA 1, 60, .inl (fun _ => 0))), (q_14, .inr (4, [.ref (u_15.1 0), .ref (u_15.1 9), .int 0])), ((u_15.1 0), .inr (3, [.int 0, .int 0, .int 0, .int 0, .int 0, .int 0, .int 0, .int 0, .ref (u_15.1 1), .ref (u_15.1 2), .ref (u_15.1 3), .ref (u_15.1 4), .ref (u_15.1 5), .ref (u_15.1 6), .ref (u_15.1 7), .ref (u_15.1 8)])), ((u_15.1 1), .inl (cA 1, 8, .inl (fun _ => 0))), ((u_15.1 2), .inl (cA 1, 8, .inl (fun _ => 0))), ((u_15.1 3), .inl (cA 1, 8, .inl (fun _ => 0))), ((u_15.1 4), .inl (cA 1, 7, .inl (fun _ => 0))), ((u_15.1 5), .inl (cA 1, 7, .inl (fun _ => 0))), ((u_15.1 6), .inl (cA 1, 7, .inl (fun _ => 0))), ((u_15.1 7), .inl (cA 1, 4, .inl (fun _ => 0))), ((u_15.1 8), .inl (cA 1, 4, .inl (fun _ => 0))), ((u_15.1 9), .inr (2, [.int (-1), .int (-1), .int 0, .int 0, .int 0, .int 0, .int 0, .ref (u_15.1 10), .ref (u_15.1 11), .ref (u_15.1 12)])), ((u_15.1 10), .inl (cA 1, 60, .inl (fun _ => 0))), ((u_15.1 11), .inl (cA 1, 60, .inl (fun _ => 0))), ((u_15.1 12), .inl (cA 1, 60, .inl (fun _ => 0))), (q_17, .inr (4, [.ref (u_18.1 0), .ref (u_18.1 9), .int 0])), ((u_18.1 0), .inr (3, [.int 0, .int 0, .int 0, .int 0, .int 0, .int 0, .int 0, .int 0, .ref (u_18.1 1), .ref (u_18.1 2), .ref (u_18.1 3), .ref (u_18.1 4), .ref (u_18.1 5), .ref (u_18.1 6), .ref (u_18.1 7), .ref (u_18.1 8)])), ((u_18.1 1), .inl (cA 1, 8, .inl (fun _ => 0))), ((u_18.1 2), .inl (cA 1, 8, .inl (fun _ => 0))), ((u_18.1 3), .inl (cA 1, 8, .inl (fun _ => 0))), ((u_18.1 4), .inl (cA 1, 7, .inl (fun _ => 0))), ((u_18.1 5), .inl (cA 1, 7, .inl (fun _ => 0))), ((u_18.1 6), .inl (cA 1, 7, .inl (fun _ => 0))), ((u_18.1 7), .inl (cA 1, 4, .inl (fun _ => 0))), ((u_18.1 8), .inl (cA 1, 4, .inl (fun _ => 0))), ((u_18.1 9), .inr (2, [.int (-1), .int (-1), .int 0, .int 0, .int 0, .int 0, .int 0, .ref (u_18.1 10), .ref (u_18.1 11), .ref (u_18.1 12)])), ((u_18.1 10), .inl (cA 1, 60, .inl (fun _ => 0))), ((u_18.1 11), .inl (cA 1, 60, .inl (fun _ => 0))), ((u_18.1 12), .inl (cA 1, 60, .inl (fun _ => 0))), (q_20, .inr (7, [.ref (u_21.1 2), .ref (u_21.1 0), .ref (u_21.1 1)])), ((u_21.1 0), .inl (cA 1, 4, .inl (fun _ => 0))), ((u_21.1 1), .inl (cA 2, 240, .inr (.inl (fun _ => 0)))), ((u_21.1 2), .inl (cA 1, 4, .inl (u_21.2.2.1 0))), (q_22, .inr (1, [.int (-1), .int 1, .ref q_5])), (q_24, .inr (5, [.ref (u_25.1 0), .int 0, .int 0, .ref (u_25.1 1), .int 0, .ref q_5])), ((u_25.1 0), .inl (cA 1, 8, .inl (fun _ => 0))), ((u_25.1 1), .inl (cA 1, 8, .inl (fun _ => 0))), (q_26, .inr (8, [.ref (u_27.1 0), .ref q_5])), ((u_27.1 0), .inl (cA 1, 128, .inl (fun _ => 0))), (q_28, .inr (0, [.int 0, .int (-1), .int 0, .ref (u_29.1 0), .ref (u_29.1 1), .ref (u_29.1 2), .ref q_5])), ((u_29.1 0), .inl (cA 1, 128, .inl (fun _ => 0))), ((u_29.1 1), .inl (cA 1, 128, .inl (fun _ => 0))), ((u_29.1 2), .inl (cA 1, 128, .inl (fun _ => 0))), (q_30, .inr (10, [.int 0, .ref (u_31.1 0), .ref (u_31.1 1), .ref q_5, .ref q_20])), ((u_31.1 0), .inl (cA 3, 240, .inl (fun _ => 0))), ((u_31.1 1), .inl (cA 1, 40, .inl (fun _ => 0)))] := hD
  have hP := recellQ (i := 27) (g := (selO [q_11, q_14, q_17])) hP rfl (fun j hj => by rcases (by omega : j = 0 ∨ j = 1 ∨ j = 2) with rfl | rfl | rfl <;> rfl)
  have hD := hD.set (p := 27) (e := .inl (cA 4, 3, .inr (.inr (.inr (.inr (selO [q_11, q_14, q_17])))))) rfl
  have hP : va_P D vwCl [(h0, .inr (11, [.ref q_1, .ref q_3, .ref q_5, .ref q_7, .ref q_9, .ref q_20, .ref q_22, .ref q_24, .ref q_26, .ref q_28, .ref q_30])), (q_1, .inr (9, [.ref (u_2.1 0), .int 0])), ((u_2.1 0), .inl (cA 0, 800, .inl (fun _ => 0))), (q_3, .inr (6, [.ref (u_4.1 0), .int 0, .int (-1), .ref q_1, .int 0, .int 0, .int 0, .int 0, .int 0, .int 0, .int 0, .int 0, .ref (u_4.1 9)])), ((u_4.1 0), .inr (3, [.int 0, .int 0, .int 0, .int 0, .int 0, .int 0, .int 0, .int 0, .ref (u_4.1 1), .ref (u_4.1 2), .ref (u_4.1 3), .ref (u_4.1 4), .ref (u_4.1 5), .ref (u_4.1 6), .ref (u_4.1 7), .ref (u_4.1 8)])), ((u_4.1 1), .inl (cA 1, 8, .inl (fun _ => 0))), ((u_4.1 2), .inl (cA 1, 8, .inl (fun _ => 0))), ((u_4.1 3), .inl (cA 1, 8, .inl (fun _ => 0))), ((u_4.1 4), .inl (cA 1, 7, .inl (fun _ => 0))), ((u_4.1 5), .inl (cA 1, 7, .inl (fun _ => 0))), ((u_4.1 6), .inl (cA 1, 7, .inl (fun _ => 0))), ((u_4.1 7), .inl (cA 1, 4, .inl (fun _ => 0))), ((u_4.1 8), .inl (cA 1, 4, .inl (fun _ => 0))), ((u_4.1 9), .inl (cA 1, 3, .inl (fun _ => 0))), (q_5, .inr (3, [.int 0, .int 0, .int 0, .int 0, .int 0, .int 0, .int 0, .int 0, .ref (u_6.1 0), .ref (u_6.1 1), .ref (u_6.1 2), .ref (u_6.1 3), .ref (u_6.1 4), .ref (u_6.1 5), .ref (u_6.1 6), .ref (u_6.1 7)])), ((u_6.1 0), .inl (cA 1, 8, .inl (fun _ => 0))), ((u_6.1 1), .inl (cA 1, 8, .inl (fun _ => 0))), ((u_6.1 2), .inl (cA 1, 8, .inl (fun _ => 0))), ((u_6.1 3), .inl (cA 1, 7, .inl (fun _ => 0))), ((u_6.1 4), .inl (cA 1, 7, .inl (fun _ => 0))), ((u_6.1 5), .inl (cA 1, 7, .inl (fun _ => 0))), ((u_6.1 6), .inl (cA 1, 4, .inl (fun _ => 0))), ((u_6.1 7), .inl (cA 1, 4, .inl (fun _ => 0))), (q_7, .inr (2, [.int (-1), .int (-1), .int 0, .int 0, .int 0, .int 0, .int 0, .ref (u_8.1 0), .ref (u_8.1 1), .ref (u_8.1 2)])), ((u_8.1 0), .inl (cA 1, 60, .inl (fun _ => 0))), ((u_8.1 1), .inl (cA 1, 60, .inl (fun _ => 0))), ((u_8.1 2), .inl (cA 1, 60, .inl (fun _ => 0))), (q_9, .inl (cA 4, 3, .inr (.inr (.inr (.inr (selO [q_11, q_14, q_17])))))), (q_11, .inr (4, [.ref (u_12.1 0), .ref (u_12.1 9), .int 0])), ((u_12.1 0), .inr (3, [.int 0, .int 0, .int 0, .int 0, .int 0, .int 0, .int 0, .int 0, .ref (u_12.1 1), .ref (u_12.1 2), .ref (u_12.1 3), .ref (u_12.1 4), .ref (u_12.1 5), .ref (u_12.1 6), .ref (u_12.1 7), .ref (u_12.1 8)])), ((u_12.1 1), .inl (cA 1, 8, .inl (fun _ => 0))), ((u_12.1 2), .inl (cA 1, 8, .inl (fun _ => 0))), ((u_12.1 3), .inl (cA 1, 8, .inl (fun _ => 0))), ((u_12.1 4), .inl (cA 1, 7, .inl (fun _ => 0))), ((u_12.1 5), .inl (cA 1, 7, .inl (fun _ => 0))), ((u_12.1 6), .inl (cA 1, 7, .inl (fun _ => 0))), ((u_12.1 7), .inl (cA 1, 4, .inl (fun _ => 0))), ((u_12.1 8), .inl (cA 1, 4, .inl (fun _ => 0))), ((u_12.1 9), .inr (2, [.int (-1), .int (-1), .int 0, .int 0, .int 0, .int 0, .int 0, .ref (u_12.1 10), .ref (u_12.1 11), .ref (u_12.1 12)])), ((u_12.1 10), .inl (cA 1, 60, .inl (fun _ => 0))), ((u_12.1 11), .inl (cA 1, 60, .inl (fun _ => 0))), ((u_12.1 12), .inl (cA 1, 60, .inl (fun _ => 0))), (q_14, .inr (4, [.ref (u_15.1 0), .ref (u_15.1 9), .int 0])), ((u_15.1 0), .inr (3, [.int 0, .int 0, .int 0, .int 0, .int 0, .int 0, .int 0, .int 0, .ref (u_15.1 1), .ref (u_15.1 2), .ref (u_15.1 3), .ref (u_15.1 4), .ref (u_15.1 5), .ref (u_15.1 6), .ref (u_15.1 7), .ref (u_15.1 8)])), ((u_15.1 1), .inl (cA 1, 8, .inl (fun _ => 0))), ((u_15.1 2), .inl (cA 1, 8, .inl (fun _ => 0))), ((u_15.1 3), .inl (cA 1, 8, .inl (fun _ => 0))), ((u_15.1 4), .inl (cA 1, 7, .inl (fun _ => 0))), ((u_15.1 5), .inl (cA 1, 7, .inl (fun _ => 0))), ((u_15.1 6), .inl (cA 1, 7, .inl (fun _ => 0))), ((u_15.1 7), .inl (cA 1, 4, .inl (fun _ => 0))), ((u_15.1 8), .inl (cA 1, 4, .inl (fun _ => 0))), ((u_15.1 9), .inr (2, [.int (-1), .int (-1), .int 0, .int 0, .int 0, .int 0, .int 0, .ref (u_15.1 10), .ref (u_15.1 11), .ref (u_15.1 12)])), ((u_15.1 10), .inl (cA 1, 60, .inl (fun _ => 0))), ((u_15.1 11), .inl (cA 1, 60, .inl (fun _ => 0))), ((u_15.1 12), .inl (cA 1, 60, .inl (fun _ => 0))), (q_17, .inr (4, [.ref (u_18.1 0), .ref (u_18.1 9), .int 0])), ((u_18.1 0), .inr (3, [.int 0, .int 0, .int 0, .int 0, .int 0, .int 0, .int 0, .int 0, .ref (u_18.1 1), .ref (u_18.1 2), .ref (u_18.1 3), .ref (u_18.1 4), .ref (u_18.1 5), .ref (u_18.1 6), .ref (u_18.1 7), .ref (u_18.1 8)])), ((u_18.1 1), .inl (cA 1, 8, .inl (fun _ => 0))), ((u_18.1 2), .inl (cA 1, 8, .inl (fun _ => 0))), ((u_18.1 3), .inl (cA 1, 8, .inl (fun _ => 0))), ((u_18.1 4), .inl (cA 1, 7, .inl (fun _ => 0))), ((u_18.1 5), .inl (cA 1, 7, .inl (fun _ => 0))), ((u_18.1 6), .inl (cA 1, 7, .inl (fun _ => 0))), ((u_18.1 7), .inl (cA 1, 4, .inl (fun _ => 0))), ((u_18.1 8), .inl (cA 1, 4, .inl (fun _ => 0))), ((u_18.1 9), .inr (2, [.int (-1), .int (-1), .int 0, .int 0, .int 0, .int 0, .int 0, .ref (u_18.1 10), .ref (u_18.1 11), .ref (u_18.1 12)])), ((u_18.1 10), .inl (cA 1, 60, .inl (fun _ => 0))), ((u_18.1 11), .inl (cA 1, 60, .inl (fun _ => 0))), ((u_18.1 12), .inl (cA 1, 60, .inl (fun _ => 0))), (q_20, .inr (7, [.ref (u_21.1 2), .ref (u_21.1 0), .ref (u_21.1 1)])), ((u_21.1 0), .inl (cA 1, 4, .inl (fun _ => 0))), ((u_21.1 1), .inl (cA 2, 240, .inr (.inl (fun _ => 0)))), ((u_21.1 2), .inl (cA 1, 4, .inl (u_21.2.2.1 0))), (q_22, .inr (1, [.int (-1), .int 1, .ref q_5])), (q_24, .inr (5, [.ref (u_25.1 0), .int 0, .int 0, .ref (u_25.1 1), .int 0, .ref q_5])), ((u_25.1 0), .inl (cA 1, 8, .inl (fun _ => 0))), ((u_25.1 1), .inl (cA 1, 8, .inl (fun _ => 0))), (q_26, .inr (8, [.ref (u_27.1 0), .ref q_5])), ((u_27.1 0), .inl (cA 1, 128, .inl (fun _ => 0))), (q_28, .inr (0, [.int 0, .int (-1), .int 0, .ref (u_29.1 0), .ref (u_29.1 1), .ref (u_29.1 2), .ref q_5])), ((u_29.1 0), .inl (cA 1, 128, .inl (fun _ => 0))), ((u_29.1 1), .inl (cA 1, 128, .inl (fun _ => 0))), ((u_29.1 2), .inl (cA 1, 128, .inl (fun _ => 0))), (q_30, .inr (10, [.int 0, .ref (u_31.1 0), .ref (u_31.1 1), .ref q_5, .ref q_20])), ((u_31.1 0), .inl (cA 3, 240, .inl (fun _ => 0))), ((u_31.1 1), .inl (cA 1, 40, .inl (fun _ => 0)))] H := hP
  have hD : va_D A [(h0, .inr (11, [.ref q_1, .ref q_3, .ref q_5, .ref q_7, .ref q_9, .ref q_20, .ref q_22, .ref q_24, .ref q_26, .ref q_28, .ref q_30])), (q_1, .inr (9, [.ref (u_2.1 0), .int 0])), ((u_2.1 0), .inl (cA 0, 800, .inl (fun _ => 0))), (q_3, .inr (6, [.ref (u_4.1 0), .int 0, .int (-1), .ref q_1, .int 0, .int 0, .int 0, .int 0, .int 0, .int 0, .int 0, .int 0, .ref (u_4.1 9)])), ((u_4.1 0), .inr (3, [.int 0, .int 0, .int 0, .int 0, .int 0, .int 0, .int 0, .int 0, .ref (u_4.1 1), .ref (u_4.1 2), .ref (u_4.1 3), .ref (u_4.1 4), .ref (u_4.1 5), .ref (u_4.1 6), .ref (u_4.1 7), .ref (u_4.1 8)])), ((u_4.1 1), .inl (cA 1, 8, .inl (fun _ => 0))), ((u_4.1 2), .inl (cA 1, 8, .inl (fun _ => 0))), ((u_4.1 3), .inl (cA 1, 8, .inl (fun _ => 0))), ((u_4.1 4), .inl (cA 1, 7, .inl (fun _ => 0))), ((u_4.1 5), .inl (cA 1, 7, .inl (fun _ => 0))), ((u_4.1 6), .inl (cA 1, 7, .inl (fun _ => 0))), ((u_4.1 7), .inl (cA 1, 4, .inl (fun _ => 0))), ((u_4.1 8), .inl (cA 1, 4, .inl (fun _ => 0))), ((u_4.1 9), .inl (cA 1, 3, .inl (fun _ => 0))), (q_5, .inr (3, [.int 0, .int 0, .int 0, .int 0, .int 0, .int 0, .int 0, .int 0, .ref (u_6.1 0), .ref (u_6.1 1), .ref (u_6.1 2), .ref (u_6.1 3), .ref (u_6.1 4), .ref (u_6.1 5), .ref (u_6.1 6), .ref (u_6.1 7)])), ((u_6.1 0), .inl (cA 1, 8, .inl (fun _ => 0))), ((u_6.1 1), .inl (cA 1, 8, .inl (fun _ => 0))), ((u_6.1 2), .inl (cA 1, 8, .inl (fun _ => 0))), ((u_6.1 3), .inl (cA 1, 7, .inl (fun _ => 0))), ((u_6.1 4), .inl (cA 1, 7, .inl (fun _ => 0))), ((u_6.1 5), .inl (cA 1, 7, .inl (fun _ => 0))), ((u_6.1 6), .inl (cA 1, 4, .inl (fun _ => 0))), ((u_6.1 7), .inl (cA 1, 4, .inl (fun _ => 0))), (q_7, .inr (2, [.int (-1), .int (-1), .int 0, .int 0, .int 0, .int 0, .int 0, .ref (u_8.1 0), .ref (u_8.1 1), .ref (u_8.1 2)])), ((u_8.1 0), .inl (cA 1, 60, .inl (fun _ => 0))), ((u_8.1 1), .inl (cA 1, 60, .inl (fun _ => 0))), ((u_8.1 2), .inl (cA 1, 60, .inl (fun _ => 0))), (q_9, .inl (cA 4, 3, .inr (.inr (.inr (.inr (selO [q_11, q_14, q_17])))))), (q_11, .inr (4, [.ref (u_12.1 0), .ref (u_12.1 9), .int 0])), ((u_12.1 0), .inr (3, [.int 0, .int 0, .int 0, .int 0, .int 0, .int 0, .int 0, .int 0, .ref (u_12.1 1), .ref (u_12.1 2), .ref (u_12.1 3), .ref (u_12.1 4), .ref (u_12.1 5), .ref (u_12.1 6), .ref (u_12.1 7), .ref (u_12.1 8)])), ((u_12.1 1), .inl (cA 1, 8, .inl (fun _ => 0))), ((u_12.1 2), .inl (cA 1, 8, .inl (fun _ => 0))), ((u_12.1 3), .inl (cA 1, 8, .inl (fun _ => 0))), ((u_12.1 4), .inl (cA 1, 7, .inl (fun _ => 0))), ((u_12.1 5), .inl (cA 1, 7, .inl (fun _ => 0))), ((u_12.1 6), .inl (cA 1, 7, .inl (fun _ => 0))), ((u_12.1 7), .inl (cA 1, 4, .inl (fun _ => 0))), ((u_12.1 8), .inl (cA 1, 4, .inl (fun _ => 0))), ((u_12.1 9), .inr (2, [.int (-1), .int (-1), .int 0, .int 0, .int 0, .int 0, .int 0, .ref (u_12.1 10), .ref (u_12.1 11), .ref (u_12.1 12)])), ((u_12.1 10), .inl (cA 1, 60, .inl (fun _ => 0))), ((u_12.1 11), .inl (cA 1, 60, .inl (fun _ => 0))), ((u_12.1 12), .inl (cA 1, 60, .inl (fun _ => 0))), (q_14, .inr (4, [.ref (u_15.1 0), .ref (u_15.1 9), .int 0])), ((u_15.1 0), .inr (3, [.int 0, .int 0, .int 0, .int 0, .int 0, .int 0, .int 0, .int 0, .ref (u_15.1 1), .ref (u_15.1 2), .ref (u_15.1 3), .ref (u_15.1 4), .ref (u_15.1 5), .ref (u_15.1 6), .ref (u_15.1 7), .ref (u_15.1 8)])), ((u_15.1 1), .inl (cA 1, 8, .inl (fun _ => 0))), ((u_15.1 2), .inl (cA 1, 8, .inl (fun _ => 0))), ((u_15.1 3), .inl (cA 1, 8, .inl (fun _ => 0))), ((u_15.1 4), .inl (cA 1, 7, .inl (fun _ => 0))), ((u_15.1 5), .inl (cA 1, 7, .inl (fun _ => 0))), ((u_15.1 6), .inl (cA 1, 7, .inl (fun _ => 0))), ((u_15.1 7), .inl (cA 1, 4, .inl (fun _ => 0))), ((u_15.1 8), .inl (cA 1, 4, .inl (fun _ => 0))), ((u_15.1 9), .inr (2, [.int (-1), .int (-1), .int 0, .int 0, .int 0, .int 0, .int 0, .ref (u_15.1 10), .ref (u_15.1 11), .ref (u_15.1 12)])), ((u_15.1 10), .inl (cA 1, 60, .inl (fun _ => 0))), ((u_15.1 11), .inl (cA 1, 60, .inl (fun _ => 0))), ((u_15.1 12), .inl (cA 1, 60, .inl (fun _ => 0))), (q_17, .inr (4, [.ref (u_18.1 0), .ref (u_18.1 9), .int 0])), ((u_18.1 0), .inr (3, [.int 0, .int 0, .int 0, .int 0, .int 0, .int 0, .int 0, .int 0, .ref (u_18.1 1), .ref (u_18.1 2), .ref (u_18.1 3), .ref (u_18.1 4), .ref (u_18.1 5), .ref (u_18.1 6), .ref (u_18.1 7), .ref (u_18.1 8)])), ((u_18.1 1), .inl (cA 1, 8, .inl (fun _ => 0))), ((u_18.1 2), .inl (cA 1, 8, .inl (fun _ => 0))), ((u_18.1 3), .inl (cA 1, 8, .inl (fun _ => 0))), ((u_18.1 4), .inl (cA 1, 7, .inl (fun _ => 0))), ((u_18.1 5), .inl (cA 1, 7, .inl (fun _ => 0))), ((u_18.1 6), .inl (cA 1, 7, .inl (fun _ => 0))), ((u_18.1 7), .inl (cA 1, 4, .inl (fun _ => 0))), ((u_18.1 8), .inl (cA 1, 4, .inl (fun _ => 0))), ((u_18.1 9), .inr (2, [.int (-1), .int (-1), .int 0, .int 0, .int 0, .int 0, .int 0, .ref (u_18.1 10), .ref (u_18.1 11), .ref (u_18.1 12)])), ((u_18.1 10), .inl (cA 1, 60, .inl (fun _ => 0))), ((u_18.1 11), .inl (cA 1, 60, .inl (fun _ => 0))), ((u_18.1 12), .inl (cA 1, 60, .inl (fun _ => 0))), (q_20, .inr (7, [.ref (u_21.1 2), .ref (u_21.1 0), .ref (u_21.1 1)])), ((u_21.1 0), .inl (cA 1, 4, .inl (fun _ => 0))), ((u_21.1 1), .inl (cA 2, 240, .inr (.inl (fun _ => 0)))), ((u_21.1 2), .inl (cA 1, 4, .inl (u_21.2.2.1 0))), (q_22, .inr (1, [.int (-1), .int 1, .ref q_5])), (q_24, .inr (5, [.ref (u_25.1 0), .int 0, .int 0, .ref (u_25.1 1), .int 0, .ref q_5])), ((u_25.1 0), .inl (cA 1, 8, .inl (fun _ => 0))), ((u_25.1 1), .inl (cA 1, 8, .inl (fun _ => 0))), (q_26, .inr (8, [.ref (u_27.1 0), .ref q_5])), ((u_27.1 0), .inl (cA 1, 128, .inl (fun _ => 0))), (q_28, .inr (0, [.int 0, .int (-1), .int 0, .ref (u_29.1 0), .ref (u_29.1 1), .ref (u_29.1 2), .ref q_5])), ((u_29.1 0), .inl (cA 1, 128, .inl (fun _ => 0))), ((u_29.1 1), .inl (cA 1, 128, .inl (fun _ => 0))), ((u_29.1 2), .inl (cA 1, 128, .inl (fun _ => 0))), (q_30, .inr (10, [.int 0, .ref (u_31.1 0), .ref (u_31.1 1), .ref q_5, .ref q_20])), ((u_31.1 0), .inl (cA 3, 240, .inl (fun _ => 0))), ((u_31.1 1), .inl (cA 1, 40, .inl (fun _ => 0)))] := hD
  have hP9 := hP.sub (ws' := [(h0, .inr (11, [.ref q_1, .ref q_3, .ref q_5, .ref q_7, .ref q_9, .ref q_20, .ref q_22, .ref q_24, .ref q_26, .ref q_28, .ref q_30])), (q_1, .inr (9, [.ref (u_2.1 0), .int 0])), ((u_2.1 0), .inl (cA 0, 800, .inl (fun _ => 0))), (q_3, .inr (6, [.ref (u_4.1 0), .int 0, .int (-1), .ref q_1, .int 0, .int 0, .int 0, .int 0, .int 0, .int 0, .int 0, .int 0, .ref (u_4.1 9)])), ((u_4.1 0), .inr (3, [.int 0, .int 0, .int 0, .int 0, .int 0, .int 0, .int 0, .int 0, .ref (u_4.1 1), .ref (u_4.1 2), .ref (u_4.1 3), .ref (u_4.1 4), .ref (u_4.1 5), .ref (u_4.1 6), .ref (u_4.1 7), .ref (u_4.1 8)])), ((u_4.1 1), .inl (cA 1, 8, .inl (fun _ => 0))), ((u_4.1 2), .inl (cA 1, 8, .inl (fun _ => 0))), ((u_4.1 3), .inl (cA 1, 8, .inl (fun _ => 0))), ((u_4.1 4), .inl (cA 1, 7, .inl (fun _ => 0))), ((u_4.1 5), .inl (cA 1, 7, .inl (fun _ => 0))), ((u_4.1 6), .inl (cA 1, 7, .inl (fun _ => 0))), ((u_4.1 7), .inl (cA 1, 4, .inl (fun _ => 0))), ((u_4.1 8), .inl (cA 1, 4, .inl (fun _ => 0))), ((u_4.1 9), .inl (cA 1, 3, .inl (fun _ => 0))), (q_5, .inr (3, [.int 0, .int 0, .int 0, .int 0, .int 0, .int 0, .int 0, .int 0, .ref (u_6.1 0), .ref (u_6.1 1), .ref (u_6.1 2), .ref (u_6.1 3), .ref (u_6.1 4), .ref (u_6.1 5), .ref (u_6.1 6), .ref (u_6.1 7)])), ((u_6.1 0), .inl (cA 1, 8, .inl (fun _ => 0))), ((u_6.1 1), .inl (cA 1, 8, .inl (fun _ => 0))), ((u_6.1 2), .inl (cA 1, 8, .inl (fun _ => 0))), ((u_6.1 3), .inl (cA 1, 7, .inl (fun _ => 0))), ((u_6.1 4), .inl (cA 1, 7, .inl (fun _ => 0))), ((u_6.1 5), .inl (cA 1, 7, .inl (fun _ => 0))), ((u_6.1 6), .inl (cA 1, 4, .inl (fun _ => 0))), ((u_6.1 7), .inl (cA 1, 4, .inl (fun _ => 0))), (q_7, .inr (2, [.int (-1), .int (-1), .int 0, .int 0, .int 0, .int 0, .int 0, .ref (u_8.1 0), .ref (u_8.1 1), .ref (u_8.1 2)])), ((u_8.1 0), .inl (cA 1, 60, .inl (fun _ => 0))), ((u_8.1 1), .inl (cA 1, 60, .inl (fun _ => 0))), ((u_8.1 2), .inl (cA 1, 60, .inl (fun _ => 0))), (q_9, .inl (cA 4, 3, .inr (.inr (.inr (.inr (selO [q_11, q_14, q_17])))))), (q_11, .inr (4, [.ref (u_12.1 0), .ref (u_12.1 9), .int 0])), ((u_12.1 0), .inr (3, [.int 0, .int 0, .int 0, .int 0, .int 0, .int 0, .int 0, .int 0, .ref (u_12.1 1), .ref (u_12.1 2), .ref (u_12.1 3), .ref (u_12.1 4), .ref (u_12.1 5), .ref (u_12.1 6), .ref (u_12.1 7), .ref (u_12.1 8)])), ((u_12.1 1), .inl (cA 1, 8, .inl (fun _ => 0))), ((u_12.1 2), .inl (cA 1, 8, .inl (fun _ => 0))), ((u_12.1 3), .inl (cA 1, 8, .inl (fun _ => 0))), ((u_12.1 4), .inl (cA 1, 7, .inl (fun _ => 0))), ((u_12.1 5), .inl (cA 1, 7, .inl (fun _ => 0))), ((u_12.1 6), .inl (cA 1, 7, .inl (fun _ => 0))), ((u_12.1 7), .inl (cA 1, 4, .inl (fun _ => 0))), ((u_12.1 8), .inl (cA 1, 4, .inl (fun _ => 0))), ((u_12.1 9), .inr (2, [.int (-1), .int (-1), .int 0, .int 0, .int 0, .int 0, .int 0, .ref (u_12.1 10), .ref (u_12.1 11), .ref (u_12.1 12)])), ((u_12.1 10), .inl (cA 1, 60, .inl (fun _ => 0))), ((u_12.1 11), .inl (cA 1, 60, .inl (fun _ => 0))), ((u_12.1 12), .inl (cA 1, 60, .inl (fun _ => 0))), (q_14, .inr (4, [.ref (u_15.1 0), .ref (u_15.1 9), .int 0])), ((u_15.1 0), .inr (3, [.int 0, .int 0, .int 0, .int 0, .int 0, .int 0, .int 0, .int 0, .ref (u_15.1 1), .ref (u_15.1 2), .ref (u_15.1 3), .ref (u_15.1 4), .ref (u_15.1 5), .ref (u_15.1 6), .ref (u_15.1 7), .ref (u_15.1 8)])), ((u_15.1 1), .inl (cA 1, 8, .inl (fun _ => 0))), ((u_15.1 2), .inl (cA 1, 8, .inl (fun _ => 0))), ((u_15.1 3), .inl (cA 1, 8, .inl (fun _ => 0))), ((u_15.1 4), .inl (cA 1, 7, .inl (fun _ => 0))), ((u_15.1 5), .inl (cA 1, 7, .inl (fun _ => 0))), ((u_15.1 6), .inl (cA 1, 7, .inl (fun _ => 0))), ((u_15.1 7), .inl (cA 1, 4, .inl (fun _ => 0))), ((u_15.1 8), .inl (cA 1, 4, .inl (fun _ => 0))), ((u_15.1 9), .inr (2, [.int (-1), .int (-1), .int 0, .int 0, .int 0, .int 0, .int 0, .ref (u_15.1 10), .ref (u_15.1 11), .ref (u_15.1 12)])), ((u_15.1 10), .inl (cA 1, 60, .inl (fun _ => 0))), ((u_15.1 11), .inl (cA 1, 60, .inl (fun _ => 0))), ((u_15.1 12), .inl (cA 1, 60, .inl (fun _ => 0))), (q_17, .inr (4, [.ref (u_18.1 0), .ref (u_18.1 9), .int 0])), ((u_18.1 0), .inr (3, [.int 0, .int 0, .int 0, .int 0, .int 0, .int 0, .int 0, .int 0, .ref (u_18.1 1), .ref (u_18.1 2), .ref (u_18.1 3), .ref (u_18.1 4), .ref (u_18.1 5), .ref (u_18.1 6), .ref (u_18.1 7), .ref (u_18.1 8)])), ((u_18.1 1), .inl (cA 1, 8, .inl (fun _ => 0))), ((u_18.1 2), .inl (cA 1, 8, .inl (fun _ => 0))), ((u_18.1 3), .inl (cA 1, 8, .inl (fun _ => 0))), ((u_18.1 4), .inl (cA 1, 7, .inl (fun _ => 0))), ((u_18.1 5), .inl (cA 1, 7, .inl (fun _ => 0))), ((u_18.1 6), .inl (cA 1, 7, .inl (fun _ => 0))), ((u_18.1 7), .inl (cA 1, 4, .inl (fun _ => 0))), ((u_18.1 8), .inl (cA 1, 4, .inl (fun _ => 0))), ((u_18.1 9), .inr (2, [.int (-1), .int (-1), .int 0, .int 0, .int 0, .int 0, .int 0, .ref (u_18.1 10), .ref (u_18.1 11), .ref (u_18.1 12)])), ((u_18.1 10), .inl (cA 1, 60, .inl (fun _ => 0))), ((u_18.1 11), .inl (cA 1, 60, .inl (fun _ => 0))), ((u_18.1 12), .inl (cA 1, 60, .inl (fun _ => 0))), (q_20, .inr (7, [.ref (u_21.1 2), .ref (u_21.1 0), .ref (u_21.1 1)])), ((u_21.1 0), .inl (cA 1, 4, .inl (fun _ => 0))), ((u_21.1 1), .inl (cA 2, 240, .inr (.inl (fun _ => 0)))), ((u_21.1 2), .inl (cA 1, 4, .inl (u_21.2.2.1 0))), (q_22, .inr (1, [.int (-1), .int 1, .ref q_5])), (q_24, .inr (5, [.ref (u_25.1 0), .int 0, .int 0, .ref (u_25.1 1), .int 0, .ref q_5])), ((u_25.1 0), .inl (cA 1, 8, .inl (fun _ => 0))), ((u_25.1 1), .inl (cA 1, 8, .inl (fun _ => 0))), (q_26, .inr (8, [.ref (u_27.1 0), .ref q_5])), ((u_27.1 0), .inl (cA 1, 128, .inl (fun _ => 0))), (q_28, .inr (0, [.int 0, .int (-1), .int 0, .ref (u_29.1 0), .ref (u_29.1 1), .ref (u_29.1 2), .ref q_5])), ((u_29.1 0), .inl (cA 1, 128, .inl (fun _ => 0))), ((u_29.1 1), .inl (cA 1, 128, .inl (fun _ => 0))), ((u_29.1 2), .inl (cA 1, 128, .inl (fun _ => 0))), (q_30, .inr (10, [.int 0, .ref (u_31.1 0), .ref (u_31.1 1), .ref q_5, .ref q_20])), ((u_31.1 0), .inl (cA 3, 240, .inl (fun _ => 0))), ((u_31.1 1), .inl (cA 1, 40, .inl (fun _ => 0)))]) [0, 1, 2, 3, 4, 5, 6, 7, 8, 9, 10, 11, 12, 13, 14, 15, 16, 17, 18, 19, 20, 21, 22, 23, 24, 25, 26, 27, 28, 29, 30, 31, 32, 33, 34, 35, 36, 37, 38, 39, 40, 41, 42, 43, 44, 45, 46, 47, 48, 49, 50, 51, 52, 53, 54, 55, 56, 57, 58, 59, 60, 61, 62, 63, 64, 65, 66, 67, 68, 69, 70, 71, 72, 73, 74, 75, 76, 77, 78, 79, 80, 81, 82, 83, 84, 85, 86] rfl
  have hD9 := hD.sub (ws' := [(h0, .inr (11, [.ref q_1, .ref q_3, .ref q_5, .ref q_7, .ref q_9, .ref q_20, .ref q_22, .ref q_24, .ref q_26, .ref q_28, .ref q_30])), (q_1, .inr (9, [.ref (u_2.1 0), .int 0])), ((u_2.1 0), .inl (cA 0, 800, .inl (fun _ => 0))), (q_3, .inr (6, [.ref (u_4.1 0), .int 0, .int (-1), .ref q_1, .int 0, .int 0, .int 0, .int 0, .int 0, .int 0, .int 0, .int 0, .ref (u_4.1 9)])), ((u_4.1 0), .inr (3, [.int 0, .int 0, .int 0, .int 0, .int 0, .int 0, .int 0, .int 0, .ref (u_4.1 1), .ref (u_4.1 2), .ref (u_4.1 3), .ref (u_4.1 4), .ref (u_4.1 5), .ref (u_4.1 6), .ref (u_4.1 7), .ref (u_4.1 8)])), ((u_4.1 1), .inl (cA 1, 8, .inl (fun _ => 0))), ((u_4.1 2), .inl (cA 1, 8, .inl (fun _ => 0))), ((u_4.1 3), .inl (cA 1, 8, .inl (fun _ => 0))), ((u_4.1 4), .inl (cA 1, 7, .inl (fun _ => 0))), ((u_4.1 5), .inl (cA 1, 7, .inl (fun _ => 0))), ((u_4.1 6), .inl (cA 1, 7, .inl (fun _ => 0))), ((u_4.1 7), .inl (cA 1, 4, .inl (fun _ => 0))), ((u_4.1 8), .inl (cA 1, 4, .inl (fun _ => 0))), ((u_4.1 9), .inl (cA 1, 3, .inl (fun _ => 0))), (q_5, .inr (3, [.int 0, .int 0, .int 0, .int 0, .int 0, .int 0, .int 0, .int 0, .ref (u_6.1 0), .ref (u_6.1 1), .ref (u_6.1 2), .ref (u_6.1 3), .ref (u_6.1 4), .ref (u_6.1 5), .ref (u_6.1 6), .ref (u_6.1 7)])), ((u_6.1 0), .inl (cA 1, 8, .inl (fun _ => 0))), ((u_6.1 1), .inl (cA 1, 8, .inl (fun _ => 0))), ((u_6.1 2), .inl (cA 1, 8, .inl (fun _ => 0))), ((u_6.1 3), .inl (cA 1, 7, .inl (fun _ => 0))), ((u_6.1 4), .inl (cA 1, 7, .inl (fun _ => 0))), ((u_6.1 5), .inl (cA 1, 7, .inl (fun _ => 0))), ((u_6.1 6), .inl (cA 1, 4, .inl (fun _ => 0))), ((u_6.1 7), .inl (cA 1, 4, .inl (fun _ => 0))), (q_7, .inr (2, [.int (-1), .int (-1), .int 0, .int 0, .int 0, .int 0, .int 0, .ref (u_8.1 0), .ref (u_8.1 1), .ref (u_8.1 2)])), ((u_8.1 0), .inl (cA 1, 60, .inl (fun _ => 0))), ((u_8.1 1), .inl (cA 1, 60, .inl (fun _ => 0))), ((u_8.1 2), .inl (cA 1, 60, .inl (fun _ => 0))), (q_9, .inl (cA 4, 3, .inr (.inr (.inr (.inr (selO [q_11, q_14, q_17])))))), (q_11, .inr (4, [.ref (u_12.1 0), .ref (u_12.1 9), .int 0])), ((u_12.1 0), .inr (3, [.int 0, .int 0, .int 0, .int 0, .int 0, .int 0, .int 0, .int 0, .ref (u_12.1 1), .ref (u_12.1 2), .ref (u_12.1 3), .ref (u_12.1 4), .ref (u_12.1 5), .ref (u_12.1 6), .ref (u_12.1 7), .ref (u_12.1 8)])), ((u_12.1 1), .inl (cA 1, 8, .inl (fun _ => 0))), ((u_12.1 2), .inl (cA 1, 8, .inl (fun _ => 0))), ((u_12.1 3), .inl (cA 1, 8, .inl (fun _ => 0))), ((u_12.1 4), .inl (cA 1, 7, .inl (fun _ => 0))), ((u_12.1 5), .inl (cA 1, 7, .inl (fun _ => 0))), ((u_12.1 6), .inl (cA 1, 7, .inl (fun _ => 0))), ((u_12.1 7), .inl (cA 1, 4, .inl (fun _ => 0))), ((u_12.1 8), .inl (cA 1, 4, .inl (fun _ => 0))), ((u_12.1 9), .inr (2, [.int (-1), .int (-1), .int 0, .int 0, .int 0, .int 0, .int 0, .ref (u_12.1 10), .ref (u_12.1 11), .ref (u_12.1 12)])), ((u_12.1 10), .inl (cA 1, 60, .inl (fun _ => 0))), ((u_12.1 11), .inl (cA 1, 60, .inl (fun _ => 0))), ((u_12.1 12), .inl (cA 1, 60, .inl (fun _ => 0))), (q_14, .inr (4, [.ref (u_15.1 0), .ref (u_15.1 9), .int 0])), ((u_15.1 0), .inr (3, [.int 0, .int 0, .int 0, .int 0, .int 0, .int 0, .int 0, .int 0, .ref (u_15.1 1), .ref (u_15.1 2), .ref (u_15.1 3), .ref (u_15.1 4), .ref (u_15.1 5), .ref (u_15.1 6), .ref (u_15.1 7), .ref (u_15.1 8)])), ((u_15.1 1), .inl (cA 1, 8, .inl (fun _ => 0))), ((u_15.1 2), .inl (cA 1, 8, .inl (fun _ => 0))), ((u_15.1 3), .inl (cA 1, 8, .inl (fun _ => 0))), ((u_15.1 4), .inl (cA 1, 7, .inl (fun _ => 0))), ((u_15.1 5), .inl (cA 1, 7, .inl (fun _ => 0))), ((u_15.1 6), .inl (cA 1, 7, .inl (fun _ => 0))), ((u_15.1 7), .inl (cA 1, 4, .inl (fun _ => 0))), ((u_15.1 8), .inl (cA 1, 4, .inl (fun _ => 0))), ((u_15.1 9), .inr (2, [.int (-1), .int (-1), .int 0, .int 0, .int 0, .int 0, .int 0, .ref (u_15.1 10), .ref (u_15.1 11), .ref (u_15.1 12)])), ((u_15.1 10), .inl (cA 1, 60, .inl (fun _ => 0))), ((u_15.1 11), .inl (cA 1, 60, .inl (fun _ => 0))), ((u_15.1 12), .inl (cA 1, 60, .inl (fun _ => 0))), (q_17, .inr (4, [.ref (u_18.1 0), .ref (u_18.1 9), .int 0])), ((u_18.1 0), .inr (3, [.int 0, .int 0, .int 0, .int 0, .int 0, .int 0, .int 0, .int 0, .ref (u_18.1 1), .ref (u_18.1 2), .ref (u_18.1 3), .ref (u_18.1 4), .ref (u_18.1 5), .ref (u_18.1 6), .ref (u_18.1 7), .ref (u_18.1 8)])), ((u_18.1 1), .inl (cA 1, 8, .inl (fun _ => 0))), ((u_18.1 2), .inl (cA 1, 8, .inl (fun _ => 0))), ((u_18.1 3), .inl (cA 1, 8, .inl (fun _ => 0))), ((u_18.1 4), .inl (cA 1, 7, .inl (fun _ => 0))), ((u_18.1 5), .inl (cA 1, 7, .inl (fun _ => 0))), ((u_18.1 6), .inl (cA 1, 7, .inl (fun _ => 0))), ((u_18.1 7), .inl (cA 1, 4, .inl (fun _ => 0))), ((u_18.1 8), .inl (cA 1, 4, .inl (fun _ => 0))), ((u_18.1 9), .inr (2, [.int (-1), .int (-1), .int 0, .int 0, .int 0, .int 0, .int 0, .ref (u_18.1 10), .ref (u_18.1 11), .ref (u_18.1 12)])), ((u_18.1 10), .inl (cA 1, 60, .inl (fun _ => 0))), ((u_18.1 11), .inl (cA 1, 60, .inl (fun _ => 0))), ((u_18.1 12), .inl (cA 1, 60, .inl (fun _ => 0))), (q_20, .inr (7, [.ref (u_21.1 2), .ref (u_21.1 0), .ref (u_21.1 1)])), ((u_21.1 0), .inl (cA 1, 4, .inl (fun _ => 0))), ((u_21.1 1), .inl (cA 2, 240, .inr (.inl (fun _ => 0)))), ((u_21.1 2), .inl (cA 1, 4, .inl (u_21.2.2.1 0))), (q_22, .inr (1, [.int (-1), .int 1, .ref q_5])), (q_24, .inr (5, [.ref (u_25.1 0), .int 0, .int 0, .ref (u_25.1 1), .int 0, .ref q_5])), ((u_25.1 0), .inl (cA 1, 8, .inl (fun _ => 0))), ((u_25.1 1), .inl (cA 1, 8, .inl (fun _ => 0))), (q_26, .inr (8, [.ref (u_27.1 0), .ref q_5])), ((u_27.1 0), .inl (cA 1, 128, .inl (fun _ => 0))), (q_28, .inr (0, [.int 0, .int (-1), .int 0, .ref (u_29.1 0), .ref (u_29.1 1), .ref (u_29.1 2), .ref q_5])), ((u_29.1 0), .inl (cA 1, 128, .inl (fun _ => 0))), ((u_29.1 1), .inl (cA 1, 128, .inl (fun _ => 0))), ((u_29.1 2), .inl (cA 1, 128, .inl (fun _ => 0))), (q_30, .inr (10, [.int 0, .ref (u_31.1 0), .ref (u_31.1 1), .ref q_5, .ref q_20])), ((u_31.1 0), .inl (cA 3, 240, .inl (fun _ => 0))), ((u_31.1 1), .inl (cA 1, 40, .inl (fun _ => 0)))]) [0, 1, 2, 3, 4, 5, 6, 7, 8, 9, 10, 11, 12, 13, 14, 15, 16, 17, 18, 19, 20, 21, 22, 23, 24, 25, 26, 27, 28, 29, 30, 31, 32, 33, 34, 35, 36, 37, 38, 39, 40, 41, 42, 43, 44, 45, 46, 47, 48, 49, 50, 51, 52, 53, 54, 55, 56, 57, 58, 59, 60, 61, 62, 63, 64, 65, 66, 67, 68, 69, 70, 71, 72, 73, 74, 75, 76, 77, 78, 79, 80, 81, 82, 83, 84, 85, 86] (by decide) rfl
  exact W.vret hx hb hr (fun t ht hW => ⟨⟨((selN [q_1, (u_2.1 0), q_3, (u_4.1 0), (u_4.1 1), (u_4.1 2), (u_4.1 3), (u_4.1 4), (u_4.1 5), (u_4.1 6), (u_4.1 7), (u_4.1 8), (u_4.1 9), q_5, (u_6.1 0), (u_6.1 1), (u_6.1 2), (u_6.1 3), (u_6.1 4), (u_6.1 5), (u_6.1 6), (u_6.1 7), q_7, (u_8.1 0), (u_8.1 1), (u_8.1 2), q_9, q_11, (u_12.1 0), (u_12.1 1), (u_12.1 2), (u_12.1 3), (u_12.1 4), (u_12.1 5), (u_12.1 6), (u_12.1 7), (u_12.1 8), (u_12.1 9), (u_12.1 10), (u_12.1 11), (u_12.1 12), q_14, (u_15.1 0), (u_15.1 1), (u_15.1 2), (u_15.1 3), (u_15.1 4), (u_15.1 5), (u_15.1 6), (u_15.1 7), (u_15.1 8), (u_15.1 9), (u_15.1 10), (u_15.1 11), (u_15.1 12), q_17, (u_18.1 0), (u_18.1 1), (u_18.1 2), (u_18.1 3), (u_18.1 4), (u_18.1 5), (u_18.1 6), (u_18.1 7), (u_18.1 8), (u_18.1 9), (u_18.1 10), (u_18.1 11), (u_18.1 12), q_20, (u_21.1 0), (u_21.1 1), (u_21.1 2), q_22, q_24, (u_25.1 0), (u_25.1 1), q_26, (u_27.1 0), q_28, (u_29.1 0), (u_29.1 1), (u_29.1 2), q_30, (u_31.1 0), (u_31.1 1)]), (fun _ => 0), (selF [(u_21.2.2.1 0)]), (fun _ _ => 0)), rfl, trivial, by rw [ht]; exact hP9, hD9⟩, hS.F ht⟩) hS.2.2 dX11_init_176
end
