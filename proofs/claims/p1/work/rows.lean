section
-- ===== PART A: goes FIRST, ahead of the names: the tables' words, and 'selects' of the private methods out of them =====
/-- a private method of a class that the tables say can be made, by its rows of tables_1 -/
def lw_okq (q : MethodName × Nat) : Prop := (q.1.cls ≠ "java/lang/invoke/MethodHandle" ∧ q.1.cls ≠ "java/lang/invoke/VarHandle") ∧ Cond.instantiable q.1.cls q.2 ∈ tables_1 ∧ Cond.privateMethod q.1 ∈ tables_1 ∧ Cond.instanceMethod q.1 ∈ tables_1
theorem lw_p0 : lw_okq (⟨"ForgetSchool$ArtReader", "steps", "(I)Z"⟩, 5) := ⟨⟨by decide +kernel, by decide +kernel⟩, List.mem_of_getElem? (i := 175) (by decide +kernel), List.mem_of_getElem? (i := 443) (by decide +kernel), List.mem_of_getElem? (i := 444) (by decide +kernel)⟩
theorem lw_p1 : lw_okq (⟨"ForgetSchool$ArtReader", "item", "(I)Z"⟩, 5) := ⟨⟨by decide +kernel, by decide +kernel⟩, List.mem_of_getElem? (i := 175) (by decide +kernel), List.mem_of_getElem? (i := 447) (by decide +kernel), List.mem_of_getElem? (i := 448) (by decide +kernel)⟩
theorem lw_p2 : lw_okq (⟨"ForgetSchool$ArtReader", "sign", "()I"⟩, 5) := ⟨⟨by decide +kernel, by decide +kernel⟩, List.mem_of_getElem? (i := 175) (by decide +kernel), List.mem_of_getElem? (i := 451) (by decide +kernel), List.mem_of_getElem? (i := 452) (by decide +kernel)⟩
theorem lw_p3 : lw_okq (⟨"ForgetSchool$ArtReader", "wrong", "(II)Z"⟩, 5) := ⟨⟨by decide +kernel, by decide +kernel⟩, List.mem_of_getElem? (i := 175) (by decide +kernel), List.mem_of_getElem? (i := 456) (by decide +kernel), List.mem_of_getElem? (i := 457) (by decide +kernel)⟩
theorem lw_p4 : lw_okq (⟨"ForgetSchool$ArtReader", "step", "(I)Z"⟩, 5) := ⟨⟨by decide +kernel, by decide +kernel⟩, List.mem_of_getElem? (i := 175) (by decide +kernel), List.mem_of_getElem? (i := 460) (by decide +kernel), List.mem_of_getElem? (i := 461) (by decide +kernel)⟩
theorem lw_p5 : lw_okq (⟨"ForgetSchool$ArtReader", "wayOf", "(I)I"⟩, 5) := ⟨⟨by decide +kernel, by decide +kernel⟩, List.mem_of_getElem? (i := 175) (by decide +kernel), List.mem_of_getElem? (i := 464) (by decide +kernel), List.mem_of_getElem? (i := 465) (by decide +kernel)⟩
theorem lw_p6 : lw_okq (⟨"ForgetSchool$LawReader", "clause", "(I)Z"⟩, 5) := ⟨⟨by decide +kernel, by decide +kernel⟩, List.mem_of_getElem? (i := 197) (by decide +kernel), List.mem_of_getElem? (i := 489) (by decide +kernel), List.mem_of_getElem? (i := 490) (by decide +kernel)⟩
theorem lw_p7 : lw_okq (⟨"ForgetSchool$LawReader", "sign", "()I"⟩, 5) := ⟨⟨by decide +kernel, by decide +kernel⟩, List.mem_of_getElem? (i := 197) (by decide +kernel), List.mem_of_getElem? (i := 493) (by decide +kernel), List.mem_of_getElem? (i := 494) (by decide +kernel)⟩
theorem lw_p8 : lw_okq (⟨"ForgetSchool$LawReader", "wrong", "(I)Z"⟩, 5) := ⟨⟨by decide +kernel, by decide +kernel⟩, List.mem_of_getElem? (i := 197) (by decide +kernel), List.mem_of_getElem? (i := 585) (by decide +kernel), List.mem_of_getElem? (i := 586) (by decide +kernel)⟩
theorem lw_p9 : lw_okq (⟨"ForgetSchool$LawReader", "expression", "(I)Z"⟩, 5) := ⟨⟨by decide +kernel, by decide +kernel⟩, List.mem_of_getElem? (i := 197) (by decide +kernel), List.mem_of_getElem? (i := 589) (by decide +kernel), List.mem_of_getElem? (i := 590) (by decide +kernel)⟩
theorem lw_p10 : lw_okq (⟨"ForgetSchool$LawReader", "factor", "(I)Z"⟩, 5) := ⟨⟨by decide +kernel, by decide +kernel⟩, List.mem_of_getElem? (i := 197) (by decide +kernel), List.mem_of_getElem? (i := 593) (by decide +kernel), List.mem_of_getElem? (i := 594) (by decide +kernel)⟩
theorem lw_p11 : lw_okq (⟨"ForgetSchool$LawReader", "passes", "(I)Z"⟩, 5) := ⟨⟨by decide +kernel, by decide +kernel⟩, List.mem_of_getElem? (i := 197) (by decide +kernel), List.mem_of_getElem? (i := 597) (by decide +kernel), List.mem_of_getElem? (i := 598) (by decide +kernel)⟩
theorem lw_p12 : lw_okq (⟨"ForgetSchool$LawReader", "number", "()I"⟩, 5) := ⟨⟨by decide +kernel, by decide +kernel⟩, List.mem_of_getElem? (i := 197) (by decide +kernel), List.mem_of_getElem? (i := 602) (by decide +kernel), List.mem_of_getElem? (i := 603) (by decide +kernel)⟩
theorem lw_p13 : lw_okq (⟨"ForgetSchool$LawReader", "condition", "(I)Z"⟩, 5) := ⟨⟨by decide +kernel, by decide +kernel⟩, List.mem_of_getElem? (i := 197) (by decide +kernel), List.mem_of_getElem? (i := 611) (by decide +kernel), List.mem_of_getElem? (i := 612) (by decide +kernel)⟩
theorem lw_p14 : lw_okq (⟨"ForgetSchool$LawReader", "test", "(I)Z"⟩, 5) := ⟨⟨by decide +kernel, by decide +kernel⟩, List.mem_of_getElem? (i := 197) (by decide +kernel), List.mem_of_getElem? (i := 615) (by decide +kernel), List.mem_of_getElem? (i := 616) (by decide +kernel)⟩
theorem lw_p15 : lw_okq (⟨"ForgetSchool$Course", "goThrough", "(I)V"⟩, 11) := ⟨⟨by decide +kernel, by decide +kernel⟩, List.mem_of_getElem? (i := 219) (by decide +kernel), List.mem_of_getElem? (i := 645) (by decide +kernel), List.mem_of_getElem? (i := 646) (by decide +kernel)⟩
def lw_privs_1 : List (MethodName × Nat) := [(⟨"ForgetSchool$ArtReader", "steps", "(I)Z"⟩, 5), (⟨"ForgetSchool$ArtReader", "item", "(I)Z"⟩, 5), (⟨"ForgetSchool$ArtReader", "sign", "()I"⟩, 5), (⟨"ForgetSchool$ArtReader", "wrong", "(II)Z"⟩, 5), (⟨"ForgetSchool$ArtReader", "step", "(I)Z"⟩, 5), (⟨"ForgetSchool$ArtReader", "wayOf", "(I)I"⟩, 5), (⟨"ForgetSchool$LawReader", "clause", "(I)Z"⟩, 5), (⟨"ForgetSchool$LawReader", "sign", "()I"⟩, 5), (⟨"ForgetSchool$LawReader", "wrong", "(I)Z"⟩, 5), (⟨"ForgetSchool$LawReader", "expression", "(I)Z"⟩, 5), (⟨"ForgetSchool$LawReader", "factor", "(I)Z"⟩, 5), (⟨"ForgetSchool$LawReader", "passes", "(I)Z"⟩, 5), (⟨"ForgetSchool$LawReader", "number", "()I"⟩, 5), (⟨"ForgetSchool$LawReader", "condition", "(I)Z"⟩, 5), (⟨"ForgetSchool$LawReader", "test", "(I)Z"⟩, 5), (⟨"ForgetSchool$Course", "goThrough", "(I)V"⟩, 11)]
theorem lw_r1 : ∀ q ∈ lw_privs_1, lw_okq q := List.forall_mem_cons.mpr ⟨lw_p0, List.forall_mem_cons.mpr ⟨lw_p1, List.forall_mem_cons.mpr ⟨lw_p2, List.forall_mem_cons.mpr ⟨lw_p3, List.forall_mem_cons.mpr ⟨lw_p4, List.forall_mem_cons.mpr ⟨lw_p5, List.forall_mem_cons.mpr ⟨lw_p6, List.forall_mem_cons.mpr ⟨lw_p7, List.forall_mem_cons.mpr ⟨lw_p8, List.forall_mem_cons.mpr ⟨lw_p9, List.forall_mem_cons.mpr ⟨lw_p10, List.forall_mem_cons.mpr ⟨lw_p11, List.forall_mem_cons.mpr ⟨lw_p12, List.forall_mem_cons.mpr ⟨lw_p13, List.forall_mem_cons.mpr ⟨lw_p14, List.forall_mem_cons.mpr ⟨lw_p15, fun _ h => absurd h List.not_mem_nil⟩⟩⟩⟩⟩⟩⟩⟩⟩⟩⟩⟩⟩⟩⟩⟩
theorem lw_p16 : lw_okq (⟨"ForgetSchool$Course", "rest", "(I)V"⟩, 11) := ⟨⟨by decide +kernel, by decide +kernel⟩, List.mem_of_getElem? (i := 219) (by decide +kernel), List.mem_of_getElem? (i := 649) (by decide +kernel), List.mem_of_getElem? (i := 650) (by decide +kernel)⟩
theorem lw_p17 : lw_okq (⟨"ForgetSchool$Course", "about", "(II)[I"⟩, 11) := ⟨⟨by decide +kernel, by decide +kernel⟩, List.mem_of_getElem? (i := 219) (by decide +kernel), List.mem_of_getElem? (i := 653) (by decide +kernel), List.mem_of_getElem? (i := 654) (by decide +kernel)⟩
theorem lw_p18 : lw_okq (⟨"ForgetSchool$Law", "run", "(I[I)I"⟩, 8) := ⟨⟨by decide +kernel, by decide +kernel⟩, List.mem_of_getElem? (i := 117) (by decide +kernel), List.mem_of_getElem? (i := 671) (by decide +kernel), List.mem_of_getElem? (i := 672) (by decide +kernel)⟩
theorem lw_p19 : lw_okq (⟨"ForgetSchool$Course", "concerns", "(III)Z"⟩, 11) := ⟨⟨by decide +kernel, by decide +kernel⟩, List.mem_of_getElem? (i := 219) (by decide +kernel), List.mem_of_getElem? (i := 685) (by decide +kernel), List.mem_of_getElem? (i := 686) (by decide +kernel)⟩
theorem lw_p20 : lw_okq (⟨"ForgetSchool$Course", "change", "(III)V"⟩, 11) := ⟨⟨by decide +kernel, by decide +kernel⟩, List.mem_of_getElem? (i := 219) (by decide +kernel), List.mem_of_getElem? (i := 689) (by decide +kernel), List.mem_of_getElem? (i := 690) (by decide +kernel)⟩
theorem lw_p21 : lw_okq (⟨"ForgetSchool$Course", "examine", "(I)V"⟩, 11) := ⟨⟨by decide +kernel, by decide +kernel⟩, List.mem_of_getElem? (i := 219) (by decide +kernel), List.mem_of_getElem? (i := 706) (by decide +kernel), List.mem_of_getElem? (i := 707) (by decide +kernel)⟩
theorem lw_p22 : lw_okq (⟨"ForgetSchool", "canBeTried", "(II)Z"⟩, 16) := ⟨⟨by decide +kernel, by decide +kernel⟩, List.mem_of_getElem? (i := 22) (by decide +kernel), List.mem_of_getElem? (i := 722) (by decide +kernel), List.mem_of_getElem? (i := 723) (by decide +kernel)⟩
theorem lw_p23 : lw_okq (⟨"ForgetSchool", "beginTrial", "(LForgetSchool$Law;)V"⟩, 16) := ⟨⟨by decide +kernel, by decide +kernel⟩, List.mem_of_getElem? (i := 22) (by decide +kernel), List.mem_of_getElem? (i := 726) (by decide +kernel), List.mem_of_getElem? (i := 727) (by decide +kernel)⟩
theorem lw_p24 : lw_okq (⟨"ForgetSchool", "trialTells", "(I)I"⟩, 16) := ⟨⟨by decide +kernel, by decide +kernel⟩, List.mem_of_getElem? (i := 22) (by decide +kernel), List.mem_of_getElem? (i := 734) (by decide +kernel), List.mem_of_getElem? (i := 735) (by decide +kernel)⟩
theorem lw_p25 : lw_okq (⟨"ForgetSchool$Search", "add", "([III)V"⟩, 7) := ⟨⟨by decide +kernel, by decide +kernel⟩, List.mem_of_getElem? (i := 298) (by decide +kernel), List.mem_of_getElem? (i := 803) (by decide +kernel), List.mem_of_getElem? (i := 804) (by decide +kernel)⟩
theorem lw_p26 : lw_okq (⟨"ForgetSchool$Search", "unpack", "(I[I)V"⟩, 7) := ⟨⟨by decide +kernel, by decide +kernel⟩, List.mem_of_getElem? (i := 298) (by decide +kernel), List.mem_of_getElem? (i := 811) (by decide +kernel), List.mem_of_getElem? (i := 812) (by decide +kernel)⟩
theorem lw_p27 : lw_okq (⟨"ForgetSchool$Search", "write", "(II)I"⟩, 7) := ⟨⟨by decide +kernel, by decide +kernel⟩, List.mem_of_getElem? (i := 298) (by decide +kernel), List.mem_of_getElem? (i := 820) (by decide +kernel), List.mem_of_getElem? (i := 821) (by decide +kernel)⟩
theorem lw_p28 : lw_okq (⟨"ForgetSchool", "areSome", "(I)Z"⟩, 16) := ⟨⟨by decide +kernel, by decide +kernel⟩, List.mem_of_getElem? (i := 22) (by decide +kernel), List.mem_of_getElem? (i := 883) (by decide +kernel), List.mem_of_getElem? (i := 884) (by decide +kernel)⟩
theorem lw_p29 : lw_okq (⟨"ForgetSchool", "fewestQuestions", "(I)I"⟩, 16) := ⟨⟨by decide +kernel, by decide +kernel⟩, List.mem_of_getElem? (i := 22) (by decide +kernel), List.mem_of_getElem? (i := 892) (by decide +kernel), List.mem_of_getElem? (i := 893) (by decide +kernel)⟩
theorem lw_p30 : lw_okq (⟨"ForgetSchool$Staff", "skillOf", "(IIII)I"⟩, 5) := ⟨⟨by decide +kernel, by decide +kernel⟩, List.mem_of_getElem? (i := 271) (by decide +kernel), List.mem_of_getElem? (i := 933) (by decide +kernel), List.mem_of_getElem? (i := 934) (by decide +kernel)⟩
theorem lw_p31 : lw_okq (⟨"ForgetSchool$Odds", "shortenBy", "(I)V"⟩, 4) := ⟨⟨by decide +kernel, by decide +kernel⟩, List.mem_of_getElem? (i := 328) (by decide +kernel), List.mem_of_getElem? (i := 970) (by decide +kernel), List.mem_of_getElem? (i := 971) (by decide +kernel)⟩
def lw_privs_2 : List (MethodName × Nat) := [(⟨"ForgetSchool$Course", "rest", "(I)V"⟩, 11), (⟨"ForgetSchool$Course", "about", "(II)[I"⟩, 11), (⟨"ForgetSchool$Law", "run", "(I[I)I"⟩, 8), (⟨"ForgetSchool$Course", "concerns", "(III)Z"⟩, 11), (⟨"ForgetSchool$Course", "change", "(III)V"⟩, 11), (⟨"ForgetSchool$Course", "examine", "(I)V"⟩, 11), (⟨"ForgetSchool", "canBeTried", "(II)Z"⟩, 16), (⟨"ForgetSchool", "beginTrial", "(LForgetSchool$Law;)V"⟩, 16), (⟨"ForgetSchool", "trialTells", "(I)I"⟩, 16), (⟨"ForgetSchool$Search", "add", "([III)V"⟩, 7), (⟨"ForgetSchool$Search", "unpack", "(I[I)V"⟩, 7), (⟨"ForgetSchool$Search", "write", "(II)I"⟩, 7), (⟨"ForgetSchool", "areSome", "(I)Z"⟩, 16), (⟨"ForgetSchool", "fewestQuestions", "(I)I"⟩, 16), (⟨"ForgetSchool$Staff", "skillOf", "(IIII)I"⟩, 5), (⟨"ForgetSchool$Odds", "shortenBy", "(I)V"⟩, 4)]
theorem lw_r2 : ∀ q ∈ lw_privs_2, lw_okq q := List.forall_mem_cons.mpr ⟨lw_p16, List.forall_mem_cons.mpr ⟨lw_p17, List.forall_mem_cons.mpr ⟨lw_p18, List.forall_mem_cons.mpr ⟨lw_p19, List.forall_mem_cons.mpr ⟨lw_p20, List.forall_mem_cons.mpr ⟨lw_p21, List.forall_mem_cons.mpr ⟨lw_p22, List.forall_mem_cons.mpr ⟨lw_p23, List.forall_mem_cons.mpr ⟨lw_p24, List.forall_mem_cons.mpr ⟨lw_p25, List.forall_mem_cons.mpr ⟨lw_p26, List.forall_mem_cons.mpr ⟨lw_p27, List.forall_mem_cons.mpr ⟨lw_p28, List.forall_mem_cons.mpr ⟨lw_p29, List.forall_mem_cons.mpr ⟨lw_p30, List.forall_mem_cons.mpr ⟨lw_p31, fun _ h => absurd h List.not_mem_nil⟩⟩⟩⟩⟩⟩⟩⟩⟩⟩⟩⟩⟩⟩⟩⟩
theorem lw_p32 : lw_okq (⟨"ForgetSchoolModel", "push", "(I)V"⟩, 86) := ⟨⟨by decide +kernel, by decide +kernel⟩, List.mem_of_getElem? (i := 1000) (by decide +kernel), List.mem_of_getElem? (i := 1270) (by decide +kernel), List.mem_of_getElem? (i := 1271) (by decide +kernel)⟩
theorem lw_p33 : lw_okq (⟨"ForgetSchoolModel", "isTold", "(I)Z"⟩, 86) := ⟨⟨by decide +kernel, by decide +kernel⟩, List.mem_of_getElem? (i := 1000) (by decide +kernel), List.mem_of_getElem? (i := 1287) (by decide +kernel), List.mem_of_getElem? (i := 1288) (by decide +kernel)⟩
theorem lw_p34 : lw_okq (⟨"ForgetSchoolModel", "reachOf", "(II)I"⟩, 86) := ⟨⟨by decide +kernel, by decide +kernel⟩, List.mem_of_getElem? (i := 1000) (by decide +kernel), List.mem_of_getElem? (i := 1296) (by decide +kernel), List.mem_of_getElem? (i := 1297) (by decide +kernel)⟩
theorem lw_p35 : lw_okq (⟨"ForgetSchoolModel", "comesTo", "(II)I"⟩, 86) := ⟨⟨by decide +kernel, by decide +kernel⟩, List.mem_of_getElem? (i := 1000) (by decide +kernel), List.mem_of_getElem? (i := 1300) (by decide +kernel), List.mem_of_getElem? (i := 1301) (by decide +kernel)⟩
theorem lw_p36 : lw_okq (⟨"ForgetSchoolModel", "kinOf", "(I)I"⟩, 86) := ⟨⟨by decide +kernel, by decide +kernel⟩, List.mem_of_getElem? (i := 1000) (by decide +kernel), List.mem_of_getElem? (i := 1318) (by decide +kernel), List.mem_of_getElem? (i := 1319) (by decide +kernel)⟩
theorem lw_p37 : lw_okq (⟨"ForgetSchoolModel", "toldFacts", "()I"⟩, 86) := ⟨⟨by decide +kernel, by decide +kernel⟩, List.mem_of_getElem? (i := 1000) (by decide +kernel), List.mem_of_getElem? (i := 1326) (by decide +kernel), List.mem_of_getElem? (i := 1327) (by decide +kernel)⟩
theorem lw_p38 : lw_okq (⟨"ForgetSchoolModel", "begins", "(I)V"⟩, 86) := ⟨⟨by decide +kernel, by decide +kernel⟩, List.mem_of_getElem? (i := 1000) (by decide +kernel), List.mem_of_getElem? (i := 1336) (by decide +kernel), List.mem_of_getElem? (i := 1337) (by decide +kernel)⟩
theorem lw_p39 : lw_okq (⟨"ForgetSchoolModel", "isGood", "()Z"⟩, 86) := ⟨⟨by decide +kernel, by decide +kernel⟩, List.mem_of_getElem? (i := 1000) (by decide +kernel), List.mem_of_getElem? (i := 1340) (by decide +kernel), List.mem_of_getElem? (i := 1341) (by decide +kernel)⟩
theorem lw_p40 : lw_okq (⟨"ForgetSchoolModel", "stepTold", "()V"⟩, 86) := ⟨⟨by decide +kernel, by decide +kernel⟩, List.mem_of_getElem? (i := 1000) (by decide +kernel), List.mem_of_getElem? (i := 1344) (by decide +kernel), List.mem_of_getElem? (i := 1345) (by decide +kernel)⟩
theorem lw_p41 : lw_okq (⟨"ForgetSchoolModel", "here", "()I"⟩, 86) := ⟨⟨by decide +kernel, by decide +kernel⟩, List.mem_of_getElem? (i := 1000) (by decide +kernel), List.mem_of_getElem? (i := 1348) (by decide +kernel), List.mem_of_getElem? (i := 1349) (by decide +kernel)⟩
theorem lw_p42 : lw_okq (⟨"ForgetSchoolModel", "repeats", "(III)V"⟩, 86) := ⟨⟨by decide +kernel, by decide +kernel⟩, List.mem_of_getElem? (i := 1000) (by decide +kernel), List.mem_of_getElem? (i := 1352) (by decide +kernel), List.mem_of_getElem? (i := 1353) (by decide +kernel)⟩
theorem lw_p43 : lw_okq (⟨"ForgetSchoolModel", "wrongs", "(II)V"⟩, 86) := ⟨⟨by decide +kernel, by decide +kernel⟩, List.mem_of_getElem? (i := 1000) (by decide +kernel), List.mem_of_getElem? (i := 1356) (by decide +kernel), List.mem_of_getElem? (i := 1357) (by decide +kernel)⟩
theorem lw_p44 : lw_okq (⟨"ForgetSchoolModel", "timesTold", "()I"⟩, 86) := ⟨⟨by decide +kernel, by decide +kernel⟩, List.mem_of_getElem? (i := 1000) (by decide +kernel), List.mem_of_getElem? (i := 1360) (by decide +kernel), List.mem_of_getElem? (i := 1361) (by decide +kernel)⟩
theorem lw_p45 : lw_okq (⟨"ForgetSchoolModel", "stepHere", "()I"⟩, 86) := ⟨⟨by decide +kernel, by decide +kernel⟩, List.mem_of_getElem? (i := 1000) (by decide +kernel), List.mem_of_getElem? (i := 1366) (by decide +kernel), List.mem_of_getElem? (i := 1367) (by decide +kernel)⟩
theorem lw_p46 : lw_okq (⟨"ForgetSchoolModel", "seesFact", "()Z"⟩, 86) := ⟨⟨by decide +kernel, by decide +kernel⟩, List.mem_of_getElem? (i := 1000) (by decide +kernel), List.mem_of_getElem? (i := 1370) (by decide +kernel), List.mem_of_getElem? (i := 1371) (by decide +kernel)⟩
theorem lw_p47 : lw_okq (⟨"ForgetSchoolModel", "clause", "()V"⟩, 86) := ⟨⟨by decide +kernel, by decide +kernel⟩, List.mem_of_getElem? (i := 1000) (by decide +kernel), List.mem_of_getElem? (i := 1388) (by decide +kernel), List.mem_of_getElem? (i := 1389) (by decide +kernel)⟩
def lw_privs_3 : List (MethodName × Nat) := [(⟨"ForgetSchoolModel", "push", "(I)V"⟩, 86), (⟨"ForgetSchoolModel", "isTold", "(I)Z"⟩, 86), (⟨"ForgetSchoolModel", "reachOf", "(II)I"⟩, 86), (⟨"ForgetSchoolModel", "comesTo", "(II)I"⟩, 86), (⟨"ForgetSchoolModel", "kinOf", "(I)I"⟩, 86), (⟨"ForgetSchoolModel", "toldFacts", "()I"⟩, 86), (⟨"ForgetSchoolModel", "begins", "(I)V"⟩, 86), (⟨"ForgetSchoolModel", "isGood", "()Z"⟩, 86), (⟨"ForgetSchoolModel", "stepTold", "()V"⟩, 86), (⟨"ForgetSchoolModel", "here", "()I"⟩, 86), (⟨"ForgetSchoolModel", "repeats", "(III)V"⟩, 86), (⟨"ForgetSchoolModel", "wrongs", "(II)V"⟩, 86), (⟨"ForgetSchoolModel", "timesTold", "()I"⟩, 86), (⟨"ForgetSchoolModel", "stepHere", "()I"⟩, 86), (⟨"ForgetSchoolModel", "seesFact", "()Z"⟩, 86), (⟨"ForgetSchoolModel", "clause", "()V"⟩, 86)]
theorem lw_r3 : ∀ q ∈ lw_privs_3, lw_okq q := List.forall_mem_cons.mpr ⟨lw_p32, List.forall_mem_cons.mpr ⟨lw_p33, List.forall_mem_cons.mpr ⟨lw_p34, List.forall_mem_cons.mpr ⟨lw_p35, List.forall_mem_cons.mpr ⟨lw_p36, List.forall_mem_cons.mpr ⟨lw_p37, List.forall_mem_cons.mpr ⟨lw_p38, List.forall_mem_cons.mpr ⟨lw_p39, List.forall_mem_cons.mpr ⟨lw_p40, List.forall_mem_cons.mpr ⟨lw_p41, List.forall_mem_cons.mpr ⟨lw_p42, List.forall_mem_cons.mpr ⟨lw_p43, List.forall_mem_cons.mpr ⟨lw_p44, List.forall_mem_cons.mpr ⟨lw_p45, List.forall_mem_cons.mpr ⟨lw_p46, List.forall_mem_cons.mpr ⟨lw_p47, fun _ h => absurd h List.not_mem_nil⟩⟩⟩⟩⟩⟩⟩⟩⟩⟩⟩⟩⟩⟩⟩⟩
theorem lw_p48 : lw_okq (⟨"ForgetSchoolModel", "value", "()V"⟩, 86) := ⟨⟨by decide +kernel, by decide +kernel⟩, List.mem_of_getElem? (i := 1000) (by decide +kernel), List.mem_of_getElem? (i := 1395) (by decide +kernel), List.mem_of_getElem? (i := 1396) (by decide +kernel)⟩
theorem lw_p49 : lw_okq (⟨"ForgetSchoolModel", "factor", "()V"⟩, 86) := ⟨⟨by decide +kernel, by decide +kernel⟩, List.mem_of_getElem? (i := 1000) (by decide +kernel), List.mem_of_getElem? (i := 1399) (by decide +kernel), List.mem_of_getElem? (i := 1400) (by decide +kernel)⟩
theorem lw_p50 : lw_okq (⟨"ForgetSchoolModel", "opens", "()V"⟩, 86) := ⟨⟨by decide +kernel, by decide +kernel⟩, List.mem_of_getElem? (i := 1000) (by decide +kernel), List.mem_of_getElem? (i := 1403) (by decide +kernel), List.mem_of_getElem? (i := 1404) (by decide +kernel)⟩
theorem lw_p51 : lw_okq (⟨"ForgetSchoolModel", "puts", "(I)V"⟩, 86) := ⟨⟨by decide +kernel, by decide +kernel⟩, List.mem_of_getElem? (i := 1000) (by decide +kernel), List.mem_of_getElem? (i := 1407) (by decide +kernel), List.mem_of_getElem? (i := 1408) (by decide +kernel)⟩
theorem lw_p52 : lw_okq (⟨"ForgetSchoolModel", "seesDigit", "()Z"⟩, 86) := ⟨⟨by decide +kernel, by decide +kernel⟩, List.mem_of_getElem? (i := 1000) (by decide +kernel), List.mem_of_getElem? (i := 1411) (by decide +kernel), List.mem_of_getElem? (i := 1412) (by decide +kernel)⟩
theorem lw_p53 : lw_okq (⟨"ForgetSchoolModel", "reads", "()I"⟩, 86) := ⟨⟨by decide +kernel, by decide +kernel⟩, List.mem_of_getElem? (i := 1000) (by decide +kernel), List.mem_of_getElem? (i := 1416) (by decide +kernel), List.mem_of_getElem? (i := 1417) (by decide +kernel)⟩
theorem lw_p54 : lw_okq (⟨"ForgetSchoolModel", "emit", "(II)V"⟩, 86) := ⟨⟨by decide +kernel, by decide +kernel⟩, List.mem_of_getElem? (i := 1000) (by decide +kernel), List.mem_of_getElem? (i := 1420) (by decide +kernel), List.mem_of_getElem? (i := 1421) (by decide +kernel)⟩
theorem lw_p55 : lw_okq (⟨"ForgetSchoolModel", "stays", "()Z"⟩, 86) := ⟨⟨by decide +kernel, by decide +kernel⟩, List.mem_of_getElem? (i := 1000) (by decide +kernel), List.mem_of_getElem? (i := 1427) (by decide +kernel), List.mem_of_getElem? (i := 1428) (by decide +kernel)⟩
theorem lw_p56 : lw_okq (⟨"ForgetSchoolModel", "sums", "(Z)V"⟩, 86) := ⟨⟨by decide +kernel, by decide +kernel⟩, List.mem_of_getElem? (i := 1000) (by decide +kernel), List.mem_of_getElem? (i := 1437) (by decide +kernel), List.mem_of_getElem? (i := 1438) (by decide +kernel)⟩
theorem lw_p57 : lw_okq (⟨"ForgetSchoolModel", "top", "()I"⟩, 86) := ⟨⟨by decide +kernel, by decide +kernel⟩, List.mem_of_getElem? (i := 1000) (by decide +kernel), List.mem_of_getElem? (i := 1441) (by decide +kernel), List.mem_of_getElem? (i := 1442) (by decide +kernel)⟩
theorem lw_p58 : lw_okq (⟨"ForgetSchoolModel", "condition", "()V"⟩, 86) := ⟨⟨by decide +kernel, by decide +kernel⟩, List.mem_of_getElem? (i := 1000) (by decide +kernel), List.mem_of_getElem? (i := 1445) (by decide +kernel), List.mem_of_getElem? (i := 1446) (by decide +kernel)⟩
theorem lw_p59 : lw_okq (⟨"ForgetSchoolModel", "pieceOfC", "()V"⟩, 86) := ⟨⟨by decide +kernel, by decide +kernel⟩, List.mem_of_getElem? (i := 1000) (by decide +kernel), List.mem_of_getElem? (i := 1449) (by decide +kernel), List.mem_of_getElem? (i := 1450) (by decide +kernel)⟩
theorem lw_p60 : lw_okq (⟨"ForgetSchoolModel", "ends", "()V"⟩, 86) := ⟨⟨by decide +kernel, by decide +kernel⟩, List.mem_of_getElem? (i := 1000) (by decide +kernel), List.mem_of_getElem? (i := 1456) (by decide +kernel), List.mem_of_getElem? (i := 1457) (by decide +kernel)⟩
theorem lw_p61 : lw_okq (⟨"ForgetSchoolModel", "goesBehind", "()Z"⟩, 86) := ⟨⟨by decide +kernel, by decide +kernel⟩, List.mem_of_getElem? (i := 1000) (by decide +kernel), List.mem_of_getElem? (i := 1460) (by decide +kernel), List.mem_of_getElem? (i := 1461) (by decide +kernel)⟩
theorem lw_p62 : lw_okq (⟨"ForgetSchoolModel", "joins", "(Z)V"⟩, 86) := ⟨⟨by decide +kernel, by decide +kernel⟩, List.mem_of_getElem? (i := 1000) (by decide +kernel), List.mem_of_getElem? (i := 1464) (by decide +kernel), List.mem_of_getElem? (i := 1465) (by decide +kernel)⟩
theorem lw_p63 : lw_okq (⟨"ForgetSchoolModel", "isThat", "(I)Z"⟩, 86) := ⟨⟨by decide +kernel, by decide +kernel⟩, List.mem_of_getElem? (i := 1000) (by decide +kernel), List.mem_of_getElem? (i := 1482) (by decide +kernel), List.mem_of_getElem? (i := 1483) (by decide +kernel)⟩
def lw_privs_4 : List (MethodName × Nat) := [(⟨"ForgetSchoolModel", "value", "()V"⟩, 86), (⟨"ForgetSchoolModel", "factor", "()V"⟩, 86), (⟨"ForgetSchoolModel", "opens", "()V"⟩, 86), (⟨"ForgetSchoolModel", "puts", "(I)V"⟩, 86), (⟨"ForgetSchoolModel", "seesDigit", "()Z"⟩, 86), (⟨"ForgetSchoolModel", "reads", "()I"⟩, 86), (⟨"ForgetSchoolModel", "emit", "(II)V"⟩, 86), (⟨"ForgetSchoolModel", "stays", "()Z"⟩, 86), (⟨"ForgetSchoolModel", "sums", "(Z)V"⟩, 86), (⟨"ForgetSchoolModel", "top", "()I"⟩, 86), (⟨"ForgetSchoolModel", "condition", "()V"⟩, 86), (⟨"ForgetSchoolModel", "pieceOfC", "()V"⟩, 86), (⟨"ForgetSchoolModel", "ends", "()V"⟩, 86), (⟨"ForgetSchoolModel", "goesBehind", "()Z"⟩, 86), (⟨"ForgetSchoolModel", "joins", "(Z)V"⟩, 86), (⟨"ForgetSchoolModel", "isThat", "(I)Z"⟩, 86)]
theorem lw_r4 : ∀ q ∈ lw_privs_4, lw_okq q := List.forall_mem_cons.mpr ⟨lw_p48, List.forall_mem_cons.mpr ⟨lw_p49, List.forall_mem_cons.mpr ⟨lw_p50, List.forall_mem_cons.mpr ⟨lw_p51, List.forall_mem_cons.mpr ⟨lw_p52, List.forall_mem_cons.mpr ⟨lw_p53, List.forall_mem_cons.mpr ⟨lw_p54, List.forall_mem_cons.mpr ⟨lw_p55, List.forall_mem_cons.mpr ⟨lw_p56, List.forall_mem_cons.mpr ⟨lw_p57, List.forall_mem_cons.mpr ⟨lw_p58, List.forall_mem_cons.mpr ⟨lw_p59, List.forall_mem_cons.mpr ⟨lw_p60, List.forall_mem_cons.mpr ⟨lw_p61, List.forall_mem_cons.mpr ⟨lw_p62, List.forall_mem_cons.mpr ⟨lw_p63, fun _ h => absurd h List.not_mem_nil⟩⟩⟩⟩⟩⟩⟩⟩⟩⟩⟩⟩⟩⟩⟩⟩
theorem lw_p64 : lw_okq (⟨"ForgetSchoolModel", "isThere", "(I)Z"⟩, 86) := ⟨⟨by decide +kernel, by decide +kernel⟩, List.mem_of_getElem? (i := 1000) (by decide +kernel), List.mem_of_getElem? (i := 1496) (by decide +kernel), List.mem_of_getElem? (i := 1497) (by decide +kernel)⟩
theorem lw_p65 : lw_okq (⟨"ForgetSchoolModel", "doesArt", "(II)V"⟩, 86) := ⟨⟨by decide +kernel, by decide +kernel⟩, List.mem_of_getElem? (i := 1000) (by decide +kernel), List.mem_of_getElem? (i := 1500) (by decide +kernel), List.mem_of_getElem? (i := 1501) (by decide +kernel)⟩
theorem lw_p66 : lw_okq (⟨"ForgetSchoolModel", "doesStep", "(II)V"⟩, 86) := ⟨⟨by decide +kernel, by decide +kernel⟩, List.mem_of_getElem? (i := 1000) (by decide +kernel), List.mem_of_getElem? (i := 1504) (by decide +kernel), List.mem_of_getElem? (i := 1505) (by decide +kernel)⟩
theorem lw_p67 : lw_okq (⟨"ForgetSchoolModel", "weakens", "(III)V"⟩, 86) := ⟨⟨by decide +kernel, by decide +kernel⟩, List.mem_of_getElem? (i := 1000) (by decide +kernel), List.mem_of_getElem? (i := 1508) (by decide +kernel), List.mem_of_getElem? (i := 1509) (by decide +kernel)⟩
theorem lw_p68 : lw_okq (⟨"ForgetSchoolModel", "standsReady", "(II)V"⟩, 86) := ⟨⟨by decide +kernel, by decide +kernel⟩, List.mem_of_getElem? (i := 1000) (by decide +kernel), List.mem_of_getElem? (i := 1512) (by decide +kernel), List.mem_of_getElem? (i := 1513) (by decide +kernel)⟩
theorem lw_p69 : lw_okq (⟨"ForgetSchoolModel", "knownBy", "(I)I"⟩, 86) := ⟨⟨by decide +kernel, by decide +kernel⟩, List.mem_of_getElem? (i := 1000) (by decide +kernel), List.mem_of_getElem? (i := 1516) (by decide +kernel), List.mem_of_getElem? (i := 1517) (by decide +kernel)⟩
theorem lw_p70 : lw_okq (⟨"ForgetSchoolModel", "says", "()Z"⟩, 86) := ⟨⟨by decide +kernel, by decide +kernel⟩, List.mem_of_getElem? (i := 1000) (by decide +kernel), List.mem_of_getElem? (i := 1520) (by decide +kernel), List.mem_of_getElem? (i := 1521) (by decide +kernel)⟩
theorem lw_p71 : lw_okq (⟨"ForgetSchoolModel", "isSo", "(I)Z"⟩, 86) := ⟨⟨by decide +kernel, by decide +kernel⟩, List.mem_of_getElem? (i := 1000) (by decide +kernel), List.mem_of_getElem? (i := 1524) (by decide +kernel), List.mem_of_getElem? (i := 1525) (by decide +kernel)⟩
theorem lw_p72 : lw_okq (⟨"ForgetSchoolModel", "works", "(II)V"⟩, 86) := ⟨⟨by decide +kernel, by decide +kernel⟩, List.mem_of_getElem? (i := 1000) (by decide +kernel), List.mem_of_getElem? (i := 1528) (by decide +kernel), List.mem_of_getElem? (i := 1529) (by decide +kernel)⟩
theorem lw_p73 : lw_okq (⟨"ForgetSchoolModel", "workAt", "(II)V"⟩, 86) := ⟨⟨by decide +kernel, by decide +kernel⟩, List.mem_of_getElem? (i := 1000) (by decide +kernel), List.mem_of_getElem? (i := 1532) (by decide +kernel), List.mem_of_getElem? (i := 1533) (by decide +kernel)⟩
theorem lw_p74 : lw_okq (⟨"ForgetSchoolModel", "valueOf", "(I)I"⟩, 86) := ⟨⟨by decide +kernel, by decide +kernel⟩, List.mem_of_getElem? (i := 1000) (by decide +kernel), List.mem_of_getElem? (i := 1539) (by decide +kernel), List.mem_of_getElem? (i := 1540) (by decide +kernel)⟩
theorem lw_p75 : lw_okq (⟨"ForgetSchoolModel", "tells", "(II)I"⟩, 86) := ⟨⟨by decide +kernel, by decide +kernel⟩, List.mem_of_getElem? (i := 1000) (by decide +kernel), List.mem_of_getElem? (i := 1543) (by decide +kernel), List.mem_of_getElem? (i := 1544) (by decide +kernel)⟩
theorem lw_p76 : lw_okq (⟨"ForgetSchoolModel", "strengthens", "(II)V"⟩, 86) := ⟨⟨by decide +kernel, by decide +kernel⟩, List.mem_of_getElem? (i := 1000) (by decide +kernel), List.mem_of_getElem? (i := 1550) (by decide +kernel), List.mem_of_getElem? (i := 1551) (by decide +kernel)⟩
theorem lw_p77 : lw_okq (⟨"ForgetSchoolModel", "heardOf", "(II)I"⟩, 86) := ⟨⟨by decide +kernel, by decide +kernel⟩, List.mem_of_getElem? (i := 1000) (by decide +kernel), List.mem_of_getElem? (i := 1558) (by decide +kernel), List.mem_of_getElem? (i := 1559) (by decide +kernel)⟩
theorem lw_p78 : lw_okq (⟨"ForgetSchoolModel", "go", "(II)V"⟩, 86) := ⟨⟨by decide +kernel, by decide +kernel⟩, List.mem_of_getElem? (i := 1000) (by decide +kernel), List.mem_of_getElem? (i := 1566) (by decide +kernel), List.mem_of_getElem? (i := 1567) (by decide +kernel)⟩
theorem lw_p79 : lw_okq (⟨"ForgetSchoolModel", "weekOf", "(I)V"⟩, 86) := ⟨⟨by decide +kernel, by decide +kernel⟩, List.mem_of_getElem? (i := 1000) (by decide +kernel), List.mem_of_getElem? (i := 1570) (by decide +kernel), List.mem_of_getElem? (i := 1571) (by decide +kernel)⟩
def lw_privs_5 : List (MethodName × Nat) := [(⟨"ForgetSchoolModel", "isThere", "(I)Z"⟩, 86), (⟨"ForgetSchoolModel", "doesArt", "(II)V"⟩, 86), (⟨"ForgetSchoolModel", "doesStep", "(II)V"⟩, 86), (⟨"ForgetSchoolModel", "weakens", "(III)V"⟩, 86), (⟨"ForgetSchoolModel", "standsReady", "(II)V"⟩, 86), (⟨"ForgetSchoolModel", "knownBy", "(I)I"⟩, 86), (⟨"ForgetSchoolModel", "says", "()Z"⟩, 86), (⟨"ForgetSchoolModel", "isSo", "(I)Z"⟩, 86), (⟨"ForgetSchoolModel", "works", "(II)V"⟩, 86), (⟨"ForgetSchoolModel", "workAt", "(II)V"⟩, 86), (⟨"ForgetSchoolModel", "valueOf", "(I)I"⟩, 86), (⟨"ForgetSchoolModel", "tells", "(II)I"⟩, 86), (⟨"ForgetSchoolModel", "strengthens", "(II)V"⟩, 86), (⟨"ForgetSchoolModel", "heardOf", "(II)I"⟩, 86), (⟨"ForgetSchoolModel", "go", "(II)V"⟩, 86), (⟨"ForgetSchoolModel", "weekOf", "(I)V"⟩, 86)]
theorem lw_r5 : ∀ q ∈ lw_privs_5, lw_okq q := List.forall_mem_cons.mpr ⟨lw_p64, List.forall_mem_cons.mpr ⟨lw_p65, List.forall_mem_cons.mpr ⟨lw_p66, List.forall_mem_cons.mpr ⟨lw_p67, List.forall_mem_cons.mpr ⟨lw_p68, List.forall_mem_cons.mpr ⟨lw_p69, List.forall_mem_cons.mpr ⟨lw_p70, List.forall_mem_cons.mpr ⟨lw_p71, List.forall_mem_cons.mpr ⟨lw_p72, List.forall_mem_cons.mpr ⟨lw_p73, List.forall_mem_cons.mpr ⟨lw_p74, List.forall_mem_cons.mpr ⟨lw_p75, List.forall_mem_cons.mpr ⟨lw_p76, List.forall_mem_cons.mpr ⟨lw_p77, List.forall_mem_cons.mpr ⟨lw_p78, List.forall_mem_cons.mpr ⟨lw_p79, fun _ h => absurd h List.not_mem_nil⟩⟩⟩⟩⟩⟩⟩⟩⟩⟩⟩⟩⟩⟩⟩⟩
theorem lw_p80 : lw_okq (⟨"ForgetSchoolModel", "rests", "(I)V"⟩, 86) := ⟨⟨by decide +kernel, by decide +kernel⟩, List.mem_of_getElem? (i := 1000) (by decide +kernel), List.mem_of_getElem? (i := 1574) (by decide +kernel), List.mem_of_getElem? (i := 1575) (by decide +kernel)⟩
theorem lw_p81 : lw_okq (⟨"ForgetSchoolModel", "recallsAll", "(I)I"⟩, 86) := ⟨⟨by decide +kernel, by decide +kernel⟩, List.mem_of_getElem? (i := 1000) (by decide +kernel), List.mem_of_getElem? (i := 1578) (by decide +kernel), List.mem_of_getElem? (i := 1579) (by decide +kernel)⟩
theorem lw_p82 : lw_okq (⟨"ForgetSchoolModel", "isExamined", "(I)V"⟩, 86) := ⟨⟨by decide +kernel, by decide +kernel⟩, List.mem_of_getElem? (i := 1000) (by decide +kernel), List.mem_of_getElem? (i := 1582) (by decide +kernel), List.mem_of_getElem? (i := 1583) (by decide +kernel)⟩
theorem lw_p83 : lw_okq (⟨"ForgetSchoolModel", "draw", "()I"⟩, 86) := ⟨⟨by decide +kernel, by decide +kernel⟩, List.mem_of_getElem? (i := 1000) (by decide +kernel), List.mem_of_getElem? (i := 1586) (by decide +kernel), List.mem_of_getElem? (i := 1587) (by decide +kernel)⟩
theorem lw_p84 : lw_okq (⟨"ForgetSchoolModel", "triedBy", "(III)I"⟩, 86) := ⟨⟨by decide +kernel, by decide +kernel⟩, List.mem_of_getElem? (i := 1000) (by decide +kernel), List.mem_of_getElem? (i := 1598) (by decide +kernel), List.mem_of_getElem? (i := 1599) (by decide +kernel)⟩
theorem lw_p85 : lw_okq (⟨"ForgetSchoolModel", "laysAside", "(I)V"⟩, 86) := ⟨⟨by decide +kernel, by decide +kernel⟩, List.mem_of_getElem? (i := 1000) (by decide +kernel), List.mem_of_getElem? (i := 1603) (by decide +kernel), List.mem_of_getElem? (i := 1604) (by decide +kernel)⟩
theorem lw_p86 : lw_okq (⟨"ForgetSchoolModel", "whoKnows", "(I)I"⟩, 86) := ⟨⟨by decide +kernel, by decide +kernel⟩, List.mem_of_getElem? (i := 1000) (by decide +kernel), List.mem_of_getElem? (i := 1607) (by decide +kernel), List.mem_of_getElem? (i := 1608) (by decide +kernel)⟩
theorem lw_p87 : lw_okq (⟨"ForgetSchoolModel", "bringsBack", "(I)V"⟩, 86) := ⟨⟨by decide +kernel, by decide +kernel⟩, List.mem_of_getElem? (i := 1000) (by decide +kernel), List.mem_of_getElem? (i := 1611) (by decide +kernel), List.mem_of_getElem? (i := 1612) (by decide +kernel)⟩
theorem lw_p88 : lw_okq (⟨"ForgetSchoolModel", "strongestOf", "(I)I"⟩, 86) := ⟨⟨by decide +kernel, by decide +kernel⟩, List.mem_of_getElem? (i := 1000) (by decide +kernel), List.mem_of_getElem? (i := 1627) (by decide +kernel), List.mem_of_getElem? (i := 1628) (by decide +kernel)⟩
theorem lw_p89 : lw_okq (⟨"ForgetSchoolModel", "togetherOf", "(I)I"⟩, 86) := ⟨⟨by decide +kernel, by decide +kernel⟩, List.mem_of_getElem? (i := 1000) (by decide +kernel), List.mem_of_getElem? (i := 1631) (by decide +kernel), List.mem_of_getElem? (i := 1632) (by decide +kernel)⟩
theorem lw_p90 : lw_okq (⟨"ForgetSchoolModel", "areArts", "(I)Z"⟩, 86) := ⟨⟨by decide +kernel, by decide +kernel⟩, List.mem_of_getElem? (i := 1000) (by decide +kernel), List.mem_of_getElem? (i := 1643) (by decide +kernel), List.mem_of_getElem? (i := 1644) (by decide +kernel)⟩
theorem lw_p91 : lw_okq (⟨"ForgetSchoolModel", "areFacts", "(I)Z"⟩, 86) := ⟨⟨by decide +kernel, by decide +kernel⟩, List.mem_of_getElem? (i := 1000) (by decide +kernel), List.mem_of_getElem? (i := 1648) (by decide +kernel), List.mem_of_getElem? (i := 1649) (by decide +kernel)⟩
theorem lw_p92 : lw_okq (⟨"ForgetSchoolModel", "takesSome", "(I)I"⟩, 86) := ⟨⟨by decide +kernel, by decide +kernel⟩, List.mem_of_getElem? (i := 1000) (by decide +kernel), List.mem_of_getElem? (i := 1652) (by decide +kernel), List.mem_of_getElem? (i := 1653) (by decide +kernel)⟩
theorem lw_p93 : lw_okq (⟨"ForgetSchoolModel", "timesTill", "(IIII)I"⟩, 86) := ⟨⟨by decide +kernel, by decide +kernel⟩, List.mem_of_getElem? (i := 1000) (by decide +kernel), List.mem_of_getElem? (i := 1656) (by decide +kernel), List.mem_of_getElem? (i := 1657) (by decide +kernel)⟩
theorem lw_p94 : lw_okq (⟨"ForgetSchoolModel", "keepsOwn", "(I)V"⟩, 86) := ⟨⟨by decide +kernel, by decide +kernel⟩, List.mem_of_getElem? (i := 1000) (by decide +kernel), List.mem_of_getElem? (i := 1660) (by decide +kernel), List.mem_of_getElem? (i := 1661) (by decide +kernel)⟩
theorem lw_p95 : lw_okq (⟨"ForgetSchoolModel", "opensRow", "(III)V"⟩, 86) := ⟨⟨by decide +kernel, by decide +kernel⟩, List.mem_of_getElem? (i := 1000) (by decide +kernel), List.mem_of_getElem? (i := 1667) (by decide +kernel), List.mem_of_getElem? (i := 1668) (by decide +kernel)⟩
def lw_privs_6 : List (MethodName × Nat) := [(⟨"ForgetSchoolModel", "rests", "(I)V"⟩, 86), (⟨"ForgetSchoolModel", "recallsAll", "(I)I"⟩, 86), (⟨"ForgetSchoolModel", "isExamined", "(I)V"⟩, 86), (⟨"ForgetSchoolModel", "draw", "()I"⟩, 86), (⟨"ForgetSchoolModel", "triedBy", "(III)I"⟩, 86), (⟨"ForgetSchoolModel", "laysAside", "(I)V"⟩, 86), (⟨"ForgetSchoolModel", "whoKnows", "(I)I"⟩, 86), (⟨"ForgetSchoolModel", "bringsBack", "(I)V"⟩, 86), (⟨"ForgetSchoolModel", "strongestOf", "(I)I"⟩, 86), (⟨"ForgetSchoolModel", "togetherOf", "(I)I"⟩, 86), (⟨"ForgetSchoolModel", "areArts", "(I)Z"⟩, 86), (⟨"ForgetSchoolModel", "areFacts", "(I)Z"⟩, 86), (⟨"ForgetSchoolModel", "takesSome", "(I)I"⟩, 86), (⟨"ForgetSchoolModel", "timesTill", "(IIII)I"⟩, 86), (⟨"ForgetSchoolModel", "keepsOwn", "(I)V"⟩, 86), (⟨"ForgetSchoolModel", "opensRow", "(III)V"⟩, 86)]
theorem lw_r6 : ∀ q ∈ lw_privs_6, lw_okq q := List.forall_mem_cons.mpr ⟨lw_p80, List.forall_mem_cons.mpr ⟨lw_p81, List.forall_mem_cons.mpr ⟨lw_p82, List.forall_mem_cons.mpr ⟨lw_p83, List.forall_mem_cons.mpr ⟨lw_p84, List.forall_mem_cons.mpr ⟨lw_p85, List.forall_mem_cons.mpr ⟨lw_p86, List.forall_mem_cons.mpr ⟨lw_p87, List.forall_mem_cons.mpr ⟨lw_p88, List.forall_mem_cons.mpr ⟨lw_p89, List.forall_mem_cons.mpr ⟨lw_p90, List.forall_mem_cons.mpr ⟨lw_p91, List.forall_mem_cons.mpr ⟨lw_p92, List.forall_mem_cons.mpr ⟨lw_p93, List.forall_mem_cons.mpr ⟨lw_p94, List.forall_mem_cons.mpr ⟨lw_p95, fun _ h => absurd h List.not_mem_nil⟩⟩⟩⟩⟩⟩⟩⟩⟩⟩⟩⟩⟩⟩⟩⟩
theorem lw_p96 : lw_okq (⟨"ForgetSchoolModel", "isBy", "(IIII)Z"⟩, 86) := ⟨⟨by decide +kernel, by decide +kernel⟩, List.mem_of_getElem? (i := 1000) (by decide +kernel), List.mem_of_getElem? (i := 1671) (by decide +kernel), List.mem_of_getElem? (i := 1672) (by decide +kernel)⟩
theorem lw_p97 : lw_okq (⟨"ForgetSchoolModel", "givesBack", "(I)V"⟩, 86) := ⟨⟨by decide +kernel, by decide +kernel⟩, List.mem_of_getElem? (i := 1000) (by decide +kernel), List.mem_of_getElem? (i := 1675) (by decide +kernel), List.mem_of_getElem? (i := 1676) (by decide +kernel)⟩
theorem lw_p98 : lw_okq (⟨"ForgetSchoolModel", "changes", "(II)Z"⟩, 86) := ⟨⟨by decide +kernel, by decide +kernel⟩, List.mem_of_getElem? (i := 1000) (by decide +kernel), List.mem_of_getElem? (i := 1683) (by decide +kernel), List.mem_of_getElem? (i := 1684) (by decide +kernel)⟩
theorem lw_p99 : lw_okq (⟨"ForgetSchoolModel", "arePupils", "(I)Z"⟩, 86) := ⟨⟨by decide +kernel, by decide +kernel⟩, List.mem_of_getElem? (i := 1000) (by decide +kernel), List.mem_of_getElem? (i := 1691) (by decide +kernel), List.mem_of_getElem? (i := 1692) (by decide +kernel)⟩
theorem lw_p100 : lw_okq (⟨"ForgetSchoolModel", "areTold", "(II)Z"⟩, 86) := ⟨⟨by decide +kernel, by decide +kernel⟩, List.mem_of_getElem? (i := 1000) (by decide +kernel), List.mem_of_getElem? (i := 1696) (by decide +kernel), List.mem_of_getElem? (i := 1697) (by decide +kernel)⟩
theorem lw_p101 : lw_okq (⟨"ForgetSchoolModel", "remindedIn", "(I)I"⟩, 86) := ⟨⟨by decide +kernel, by decide +kernel⟩, List.mem_of_getElem? (i := 1000) (by decide +kernel), List.mem_of_getElem? (i := 1709) (by decide +kernel), List.mem_of_getElem? (i := 1710) (by decide +kernel)⟩
theorem lw_p102 : lw_okq (⟨"ForgetSchoolModel", "toldMasters", "()I"⟩, 86) := ⟨⟨by decide +kernel, by decide +kernel⟩, List.mem_of_getElem? (i := 1000) (by decide +kernel), List.mem_of_getElem? (i := 1723) (by decide +kernel), List.mem_of_getElem? (i := 1724) (by decide +kernel)⟩
theorem lw_p103 : lw_okq (⟨"ForgetSchoolModel", "isOrder", "(I)Z"⟩, 86) := ⟨⟨by decide +kernel, by decide +kernel⟩, List.mem_of_getElem? (i := 1000) (by decide +kernel), List.mem_of_getElem? (i := 1727) (by decide +kernel), List.mem_of_getElem? (i := 1728) (by decide +kernel)⟩
theorem lw_p104 : lw_okq (⟨"ForgetSchoolModel", "byteAt", "(I)I"⟩, 86) := ⟨⟨by decide +kernel, by decide +kernel⟩, List.mem_of_getElem? (i := 1000) (by decide +kernel), List.mem_of_getElem? (i := 1736) (by decide +kernel), List.mem_of_getElem? (i := 1737) (by decide +kernel)⟩
theorem lw_p105 : lw_okq (⟨"ForgetSchoolModel", "between", "(III)I"⟩, 86) := ⟨⟨by decide +kernel, by decide +kernel⟩, List.mem_of_getElem? (i := 1000) (by decide +kernel), List.mem_of_getElem? (i := 1740) (by decide +kernel), List.mem_of_getElem? (i := 1741) (by decide +kernel)⟩
theorem lw_p106 : lw_okq (⟨"ForgetSchoolModel", "isLinked", "(III)Z"⟩, 86) := ⟨⟨by decide +kernel, by decide +kernel⟩, List.mem_of_getElem? (i := 1000) (by decide +kernel), List.mem_of_getElem? (i := 1744) (by decide +kernel), List.mem_of_getElem? (i := 1745) (by decide +kernel)⟩
theorem lw_p107 : lw_okq (⟨"ForgetSchoolModel", "recalledBy", "(II)I"⟩, 86) := ⟨⟨by decide +kernel, by decide +kernel⟩, List.mem_of_getElem? (i := 1000) (by decide +kernel), List.mem_of_getElem? (i := 1759) (by decide +kernel), List.mem_of_getElem? (i := 1760) (by decide +kernel)⟩
theorem lw_p108 : lw_okq (⟨"ForgetSchoolModel", "toldPupils", "()I"⟩, 86) := ⟨⟨by decide +kernel, by decide +kernel⟩, List.mem_of_getElem? (i := 1000) (by decide +kernel), List.mem_of_getElem? (i := 1784) (by decide +kernel), List.mem_of_getElem? (i := 1785) (by decide +kernel)⟩
theorem lw_p109 : lw_okq (⟨"ForgetSchoolModel", "toldArts", "()I"⟩, 86) := ⟨⟨by decide +kernel, by decide +kernel⟩, List.mem_of_getElem? (i := 1000) (by decide +kernel), List.mem_of_getElem? (i := 1788) (by decide +kernel), List.mem_of_getElem? (i := 1789) (by decide +kernel)⟩
def lw_privs_7 : List (MethodName × Nat) := [(⟨"ForgetSchoolModel", "isBy", "(IIII)Z"⟩, 86), (⟨"ForgetSchoolModel", "givesBack", "(I)V"⟩, 86), (⟨"ForgetSchoolModel", "changes", "(II)Z"⟩, 86), (⟨"ForgetSchoolModel", "arePupils", "(I)Z"⟩, 86), (⟨"ForgetSchoolModel", "areTold", "(II)Z"⟩, 86), (⟨"ForgetSchoolModel", "remindedIn", "(I)I"⟩, 86), (⟨"ForgetSchoolModel", "toldMasters", "()I"⟩, 86), (⟨"ForgetSchoolModel", "isOrder", "(I)Z"⟩, 86), (⟨"ForgetSchoolModel", "byteAt", "(I)I"⟩, 86), (⟨"ForgetSchoolModel", "between", "(III)I"⟩, 86), (⟨"ForgetSchoolModel", "isLinked", "(III)Z"⟩, 86), (⟨"ForgetSchoolModel", "recalledBy", "(II)I"⟩, 86), (⟨"ForgetSchoolModel", "toldPupils", "()I"⟩, 86), (⟨"ForgetSchoolModel", "toldArts", "()I"⟩, 86)]
theorem lw_r7 : ∀ q ∈ lw_privs_7, lw_okq q := List.forall_mem_cons.mpr ⟨lw_p96, List.forall_mem_cons.mpr ⟨lw_p97, List.forall_mem_cons.mpr ⟨lw_p98, List.forall_mem_cons.mpr ⟨lw_p99, List.forall_mem_cons.mpr ⟨lw_p100, List.forall_mem_cons.mpr ⟨lw_p101, List.forall_mem_cons.mpr ⟨lw_p102, List.forall_mem_cons.mpr ⟨lw_p103, List.forall_mem_cons.mpr ⟨lw_p104, List.forall_mem_cons.mpr ⟨lw_p105, List.forall_mem_cons.mpr ⟨lw_p106, List.forall_mem_cons.mpr ⟨lw_p107, List.forall_mem_cons.mpr ⟨lw_p108, List.forall_mem_cons.mpr ⟨lw_p109, fun _ h => absurd h List.not_mem_nil⟩⟩⟩⟩⟩⟩⟩⟩⟩⟩⟩⟩⟩⟩
def lw_privs : List (MethodName × Nat) := lw_privs_1 ++ (lw_privs_2 ++ (lw_privs_3 ++ (lw_privs_4 ++ (lw_privs_5 ++ (lw_privs_6 ++ (lw_privs_7))))))
def lw_tbl : List Cond := k2_sels lw_privs ++ tables_1
theorem lw_privs_ok : ∀ q ∈ lw_privs, lw_okq q := by
  show ∀ q ∈ lw_privs_1 ++ (lw_privs_2 ++ (lw_privs_3 ++ (lw_privs_4 ++ (lw_privs_5 ++ (lw_privs_6 ++ (lw_privs_7)))))), lw_okq q
  exact List.forall_mem_append.mpr ⟨lw_r1, List.forall_mem_append.mpr ⟨lw_r2, List.forall_mem_append.mpr ⟨lw_r3, List.forall_mem_append.mpr ⟨lw_r4, List.forall_mem_append.mpr ⟨lw_r5, List.forall_mem_append.mpr ⟨lw_r6, lw_r7⟩⟩⟩⟩⟩⟩
end
section
def RX0 : String := "ForgetSchool$Art"
def TX0 : u_T := fun k => match k with
  | 0 => ("ForgetSchool$Art", "way", "[I", true)
  | 1 => ("ForgetSchool$Art", "which", "[I", true)
  | _ => ("ForgetSchool$Art", "count", "I", false)
def tyX0 : Nat → FieldType := fun k => match k with
  | 0 => .array .int
  | 1 => .array .int
  | _ => .int
abbrev wsX00 : List Cond := u_ws RX0 TX0 3
theorem nmX0 : ∀ a, a < 3 → ∀ b, b < 3 → a ≠ b → (TX0 a).2.1 ≠ (TX0 b).2.1 := by decide +kernel
theorem tyX0_ok : ∀ k, k < 3 → parseFieldDescriptor (TX0 k).2.2.1 = some (tyX0 k) := by decide +kernel
abbrev cX0_init : ByteArray := prog_2_method_1_code
def yX0_init : MethodName := ⟨RX0, "<init>", "()V"⟩
abbrev cX0_become : ByteArray := prog_2_method_2_code
def yX0_become : MethodName := ⟨RX0, "become", "(LForgetSchool$Art;)V"⟩
abbrev cX0_add : ByteArray := prog_2_method_3_code
def yX0_add : MethodName := ⟨RX0, "add", "(II)Z"⟩
abbrev cX0_multiply : ByteArray := prog_2_method_4_code
def yX0_multiply : MethodName := ⟨RX0, "multiply", "(II)Z"⟩
def RX1 : String := "ForgetSchool$ArtReader"
def TX1 : u_T := fun k => match k with
  | 0 => ("ForgetSchool$ArtReader", "text", "[I", true)
  | 1 => ("ForgetSchool$ArtReader", "end", "I", false)
  | 2 => ("ForgetSchool$ArtReader", "at", "I", false)
  | 3 => ("ForgetSchool$ArtReader", "fault", "I", false)
  | _ => ("ForgetSchool$ArtReader", "art", "LForgetSchool$Art;", false)
def tyX1 : Nat → FieldType := fun k => match k with
  | 0 => .array .int
  | 1 => .int
  | 2 => .int
  | 3 => .int
  | _ => .object "ForgetSchool$Art"
abbrev wsX10 : List Cond := u_ws RX1 TX1 5
theorem nmX1 : ∀ a, a < 5 → ∀ b, b < 5 → a ≠ b → (TX1 a).2.1 ≠ (TX1 b).2.1 := by decide +kernel
theorem tyX1_ok : ∀ k, k < 5 → parseFieldDescriptor (TX1 k).2.2.1 = some (tyX1 k) := by decide +kernel
abbrev cX1_init : ByteArray := prog_3_method_1_code
def yX1_init : MethodName := ⟨RX1, "<init>", "([ILForgetSchool$Art;)V"⟩
abbrev cX1_read : ByteArray := prog_3_method_2_code
def yX1_read : MethodName := ⟨RX1, "read", "(ILForgetSchool$Art;)I"⟩
abbrev cX1_wrong : ByteArray := prog_3_method_3_code
def yX1_wrong : MethodName := ⟨RX1, "wrong", "(II)Z"⟩
abbrev cX1_sign : ByteArray := prog_3_method_4_code
def yX1_sign : MethodName := ⟨RX1, "sign", "()I"⟩
abbrev cX1_steps : ByteArray := prog_3_method_5_code
def yX1_steps : MethodName := ⟨RX1, "steps", "(I)Z"⟩
abbrev cX1_item : ByteArray := prog_3_method_6_code
def yX1_item : MethodName := ⟨RX1, "item", "(I)Z"⟩
abbrev cX1_step : ByteArray := prog_3_method_7_code
def yX1_step : MethodName := ⟨RX1, "step", "(I)Z"⟩
abbrev cX1_wayOf : ByteArray := prog_3_method_8_code
def yX1_wayOf : MethodName := ⟨RX1, "wayOf", "(I)I"⟩
def RX2 : String := "ForgetSchool$Course"
def TX2 : u_T := fun k => match k with
  | 0 => ("ForgetSchool$Course", "net", "LForgetSchool$Net;", true)
  | 1 => ("ForgetSchool$Course", "arts", "[LForgetSchool$Art;", true)
  | 2 => ("ForgetSchool$Course", "artOfClass", "[I", true)
  | 3 => ("ForgetSchool$Course", "row", "[I", true)
  | 4 => ("ForgetSchool$Course", "toldArts", "I", false)
  | 5 => ("ForgetSchool$Course", "asked", "I", false)
  | 6 => ("ForgetSchool$Course", "limit", "I", false)
  | 7 => ("ForgetSchool$Course", "cameOut", "I", false)
  | 8 => ("ForgetSchool$Course", "remembered", "I", false)
  | 9 => ("ForgetSchool$Course", "law", "LForgetSchool$Law;", false)
  | _ => ("ForgetSchool$Course", "pupils", "LForgetSchool$Pupils;", false)
def tyX2 : Nat → FieldType := fun k => match k with
  | 0 => .object "ForgetSchool$Net"
  | 1 => .array (.object "ForgetSchool$Art")
  | 2 => .array .int
  | 3 => .array .int
  | 4 => .int
  | 5 => .int
  | 6 => .int
  | 7 => .int
  | 8 => .int
  | 9 => .object "ForgetSchool$Law"
  | _ => .object "ForgetSchool$Pupils"
abbrev wsX20 : List Cond := u_ws RX2 TX2 11
theorem nmX2 : ∀ a, a < 11 → ∀ b, b < 11 → a ≠ b → (TX2 a).2.1 ≠ (TX2 b).2.1 := by decide +kernel
theorem tyX2_ok : ∀ k, k < 11 → parseFieldDescriptor (TX2 k).2.2.1 = some (tyX2 k) := by decide +kernel
abbrev cX2_init : ByteArray := prog_4_method_1_code
def yX2_init : MethodName := ⟨RX2, "<init>", "(LForgetSchool$Net;LForgetSchool$Law;LForgetSchool$Pupils;)V"⟩
abbrev cX2_begin : ByteArray := prog_4_method_2_code
def yX2_begin : MethodName := ⟨RX2, "begin", "(LForgetSchool$Law;LForgetSchool$Pupils;)V"⟩
abbrev cX2_go : ByteArray := prog_4_method_3_code
def yX2_go : MethodName := ⟨RX2, "go", "(I)V"⟩
abbrev cX2_goThrough : ByteArray := prog_4_method_4_code
def yX2_goThrough : MethodName := ⟨RX2, "goThrough", "(I)V"⟩
abbrev cX2_rest : ByteArray := prog_4_method_5_code
def yX2_rest : MethodName := ⟨RX2, "rest", "(I)V"⟩
abbrev cX2_doArt : ByteArray := prog_4_method_6_code
def yX2_doArt : MethodName := ⟨RX2, "doArt", "(ILForgetSchool$Art;)V"⟩
abbrev cX2_concerns : ByteArray := prog_4_method_7_code
def yX2_concerns : MethodName := ⟨RX2, "concerns", "(III)Z"⟩
abbrev cX2_change : ByteArray := prog_4_method_8_code
def yX2_change : MethodName := ⟨RX2, "change", "(III)V"⟩
abbrev cX2_recall : ByteArray := prog_4_method_9_code
def yX2_recall : MethodName := ⟨RX2, "recall", "(I)I"⟩
abbrev cX2_examine : ByteArray := prog_4_method_10_code
def yX2_examine : MethodName := ⟨RX2, "examine", "(I)V"⟩
abbrev cX2_turn : ByteArray := prog_4_method_11_code
def yX2_turn : MethodName := ⟨RX2, "turn", "(ILForgetSchool$Art;)V"⟩
abbrev cX2_timesTillRest : ByteArray := prog_4_method_12_code
def yX2_timesTillRest : MethodName := ⟨RX2, "timesTillRest", "(ILForgetSchool$Art;)I"⟩
abbrev cX2_about : ByteArray := prog_4_method_13_code
def yX2_about : MethodName := ⟨RX2, "about", "(II)[I"⟩
def RX3 : String := "ForgetSchool$Law"
def TX3 : u_T := fun k => match k with
  | 0 => ("ForgetSchool$Law", "letter", "[I", true)
  | 1 => ("ForgetSchool$Law", "amountAt", "[I", true)
  | 2 => ("ForgetSchool$Law", "holdsAt", "[I", true)
  | 3 => ("ForgetSchool$Law", "order", "[I", true)
  | 4 => ("ForgetSchool$Law", "with", "[I", true)
  | 5 => ("ForgetSchool$Law", "pile", "[I", true)
  | 6 => ("ForgetSchool$Law", "clauses", "I", false)
  | _ => ("ForgetSchool$Law", "size", "I", false)
def tyX3 : Nat → FieldType := fun k => match k with
  | 0 => .array .int
  | 1 => .array .int
  | 2 => .array .int
  | 3 => .array .int
  | 4 => .array .int
  | 5 => .array .int
  | 6 => .int
  | _ => .int
abbrev wsX30 : List Cond := u_ws RX3 TX3 8
theorem nmX3 : ∀ a, a < 8 → ∀ b, b < 8 → a ≠ b → (TX3 a).2.1 ≠ (TX3 b).2.1 := by decide +kernel
theorem tyX3_ok : ∀ k, k < 8 → parseFieldDescriptor (TX3 k).2.2.1 = some (tyX3 k) := by decide +kernel
abbrev cX3_init : ByteArray := prog_5_method_1_code
def yX3_init : MethodName := ⟨RX3, "<init>", "()V"⟩
abbrev cX3_become : ByteArray := prog_5_method_2_code
def yX3_become : MethodName := ⟨RX3, "become", "(LForgetSchool$Law;)V"⟩
abbrev cX3_add : ByteArray := prog_5_method_3_code
def yX3_add : MethodName := ⟨RX3, "add", "(II)V"⟩
abbrev cX3_land : ByteArray := prog_5_method_4_code
def yX3_land : MethodName := ⟨RX3, "land", "(I)V"⟩
abbrev cX3_amount : ByteArray := prog_5_method_5_code
def yX3_amount : MethodName := ⟨RX3, "amount", "(CI[I)I"⟩
abbrev cX3_keeps : ByteArray := prog_5_method_6_code
def yX3_keeps : MethodName := ⟨RX3, "keeps", "([I)Z"⟩
abbrev cX3_run : ByteArray := prog_5_method_7_code
def yX3_run : MethodName := ⟨RX3, "run", "(I[I)I"⟩
abbrev cX3_reckon : ByteArray := prog_5_method_8_code
def yX3_reckon : MethodName := ⟨RX3, "reckon", "(III)I"⟩
def RX4 : String := "ForgetSchool$LawReader"
def TX4 : u_T := fun k => match k with
  | 0 => ("ForgetSchool$LawReader", "text", "[I", true)
  | 1 => ("ForgetSchool$LawReader", "end", "I", false)
  | 2 => ("ForgetSchool$LawReader", "at", "I", false)
  | 3 => ("ForgetSchool$LawReader", "fault", "I", false)
  | _ => ("ForgetSchool$LawReader", "law", "LForgetSchool$Law;", false)
def tyX4 : Nat → FieldType := fun k => match k with
  | 0 => .array .int
  | 1 => .int
  | 2 => .int
  | 3 => .int
  | _ => .object "ForgetSchool$Law"
abbrev wsX40 : List Cond := u_ws RX4 TX4 5
theorem nmX4 : ∀ a, a < 5 → ∀ b, b < 5 → a ≠ b → (TX4 a).2.1 ≠ (TX4 b).2.1 := by decide +kernel
theorem tyX4_ok : ∀ k, k < 5 → parseFieldDescriptor (TX4 k).2.2.1 = some (tyX4 k) := by decide +kernel
abbrev cX4_init : ByteArray := prog_6_method_1_code
def yX4_init : MethodName := ⟨RX4, "<init>", "([ILForgetSchool$Law;)V"⟩
abbrev cX4_read : ByteArray := prog_6_method_2_code
def yX4_read : MethodName := ⟨RX4, "read", "(ILForgetSchool$Law;)I"⟩
abbrev cX4_wrong : ByteArray := prog_6_method_3_code
def yX4_wrong : MethodName := ⟨RX4, "wrong", "(I)Z"⟩
abbrev cX4_sign : ByteArray := prog_6_method_4_code
def yX4_sign : MethodName := ⟨RX4, "sign", "()I"⟩
abbrev cX4_placeOf : ByteArray := prog_6_method_5_code
def yX4_placeOf : MethodName := ⟨RX4, "placeOf", "(Ljava/lang/String;I)I"⟩
abbrev cX4_clause : ByteArray := prog_6_method_6_code
def yX4_clause : MethodName := ⟨RX4, "clause", "(I)Z"⟩
abbrev cX4_passes : ByteArray := prog_6_method_7_code
def yX4_passes : MethodName := ⟨RX4, "passes", "(I)Z"⟩
abbrev cX4_condition : ByteArray := prog_6_method_8_code
def yX4_condition : MethodName := ⟨RX4, "condition", "(I)Z"⟩
abbrev cX4_test : ByteArray := prog_6_method_9_code
def yX4_test : MethodName := ⟨RX4, "test", "(I)Z"⟩
abbrev cX4_expression : ByteArray := prog_6_method_10_code
def yX4_expression : MethodName := ⟨RX4, "expression", "(I)Z"⟩
abbrev cX4_factor : ByteArray := prog_6_method_11_code
def yX4_factor : MethodName := ⟨RX4, "factor", "(I)Z"⟩
abbrev cX4_number : ByteArray := prog_6_method_12_code
def yX4_number : MethodName := ⟨RX4, "number", "()I"⟩
def RX5 : String := "ForgetSchool$Net"
def TX5 : u_T := fun k => match k with
  | 0 => ("ForgetSchool$Net", "kind", "[I", true)
  | 1 => ("ForgetSchool$Net", "link", "[[I", true)
  | _ => ("ForgetSchool$Net", "told", "I", false)
def tyX5 : Nat → FieldType := fun k => match k with
  | 0 => .array .int
  | 1 => .array (.array .int)
  | _ => .int
abbrev wsX50 : List Cond := u_ws RX5 TX5 3
theorem nmX5 : ∀ a, a < 3 → ∀ b, b < 3 → a ≠ b → (TX5 a).2.1 ≠ (TX5 b).2.1 := by decide +kernel
theorem tyX5_ok : ∀ k, k < 3 → parseFieldDescriptor (TX5 k).2.2.1 = some (tyX5 k) := by decide +kernel
abbrev cX5_init : ByteArray := prog_7_method_1_code
def yX5_init : MethodName := ⟨RX5, "<init>", "()V"⟩
abbrev cX5_sound : ByteArray := prog_7_method_2_code
def yX5_sound : MethodName := ⟨RX5, "sound", "([II)I"⟩
abbrev cX5_linked : ByteArray := prog_7_method_3_code
def yX5_linked : MethodName := ⟨RX5, "linked", "(I)I"⟩
abbrev cX5_reached : ByteArray := prog_7_method_4_code
def yX5_reached : MethodName := ⟨RX5, "reached", "(II)I"⟩
abbrev cX5_fewestBetween : ByteArray := prog_7_method_5_code
def yX5_fewestBetween : MethodName := ⟨RX5, "fewestBetween", "(II)I"⟩
abbrev cX5_group : ByteArray := prog_7_method_6_code
def yX5_group : MethodName := ⟨RX5, "group", "(I)I"⟩
abbrev cX5_groups : ByteArray := prog_7_method_7_code
def yX5_groups : MethodName := ⟨RX5, "groups", "()I"⟩
abbrev cX5_between : ByteArray := prog_7_method_8_code
def yX5_between : MethodName := ⟨RX5, "between", "(III)I"⟩
def RX6 : String := "ForgetSchool$Odds"
def TX6 : u_T := fun k => match k with
  | 0 => ("ForgetSchool$Odds", "ways", "[I", true)
  | 1 => ("ForgetSchool$Odds", "facts", "I", false)
  | 2 => ("ForgetSchool$Odds", "above", "I", false)
  | _ => ("ForgetSchool$Odds", "below", "I", false)
def tyX6 : Nat → FieldType := fun k => match k with
  | 0 => .array .int
  | 1 => .int
  | 2 => .int
  | _ => .int
abbrev wsX60 : List Cond := u_ws RX6 TX6 4
theorem nmX6 : ∀ a, a < 4 → ∀ b, b < 4 → a ≠ b → (TX6 a).2.1 ≠ (TX6 b).2.1 := by decide +kernel
theorem tyX6_ok : ∀ k, k < 4 → parseFieldDescriptor (TX6 k).2.2.1 = some (tyX6 k) := by decide +kernel
abbrev cX6_init : ByteArray := prog_8_method_1_code
def yX6_init : MethodName := ⟨RX6, "<init>", "()V"⟩
abbrev cX6_begin : ByteArray := prog_8_method_2_code
def yX6_begin : MethodName := ⟨RX6, "begin", "()V"⟩
abbrev cX6_ask : ByteArray := prog_8_method_3_code
def yX6_ask : MethodName := ⟨RX6, "ask", "(I)V"⟩
abbrev cX6_shorten : ByteArray := prog_8_method_4_code
def yX6_shorten : MethodName := ⟨RX6, "shorten", "(I)V"⟩
abbrev cX6_shortenBy : ByteArray := prog_8_method_5_code
def yX6_shortenBy : MethodName := ⟨RX6, "shortenBy", "(I)V"⟩
def RX7 : String := "ForgetSchool$Pupils"
def TX7 : u_T := fun k => match k with
  | 0 => ("ForgetSchool$Pupils", "grade", "[I", true)
  | 1 => ("ForgetSchool$Pupils", "age", "[I", true)
  | 2 => ("ForgetSchool$Pupils", "strength", "[[I", true)
  | 3 => ("ForgetSchool$Pupils", "told", "I", false)
  | 4 => ("ForgetSchool$Pupils", "week", "I", false)
  | 5 => ("ForgetSchool$Pupils", "passed", "I", false)
  | 6 => ("ForgetSchool$Pupils", "recalled", "I", false)
  | _ => ("ForgetSchool$Pupils", "x", "I", false)
def tyX7 : Nat → FieldType := fun k => match k with
  | 0 => .array .int
  | 1 => .array .int
  | 2 => .array (.array .int)
  | 3 => .int
  | 4 => .int
  | 5 => .int
  | 6 => .int
  | _ => .int
abbrev wsX70 : List Cond := u_ws RX7 TX7 8
theorem nmX7 : ∀ a, a < 8 → ∀ b, b < 8 → a ≠ b → (TX7 a).2.1 ≠ (TX7 b).2.1 := by decide +kernel
theorem tyX7_ok : ∀ k, k < 8 → parseFieldDescriptor (TX7 k).2.2.1 = some (tyX7 k) := by decide +kernel
abbrev cX7_init : ByteArray := prog_9_method_1_code
def yX7_init : MethodName := ⟨RX7, "<init>", "()V"⟩
abbrev cX7_become : ByteArray := prog_9_method_2_code
def yX7_become : MethodName := ⟨RX7, "become", "(LForgetSchool$Pupils;)V"⟩
abbrev cX7_tell : ByteArray := prog_9_method_3_code
def yX7_tell : MethodName := ⟨RX7, "tell", "(III)V"⟩
abbrev cX7_known : ByteArray := prog_9_method_4_code
def yX7_known : MethodName := ⟨RX7, "known", "(I)I"⟩
abbrev cX7_strongest : ByteArray := prog_9_method_5_code
def yX7_strongest : MethodName := ⟨RX7, "strongest", "(I)I"⟩
abbrev cX7_together : ByteArray := prog_9_method_6_code
def yX7_together : MethodName := ⟨RX7, "together", "(I)I"⟩
abbrev cX7_knowing : ByteArray := prog_9_method_7_code
def yX7_knowing : MethodName := ⟨RX7, "knowing", "(I)I"⟩
abbrev cX7_apart : ByteArray := prog_9_method_8_code
def yX7_apart : MethodName := ⟨RX7, "apart", "(II)Z"⟩
abbrev cX7_draw : ByteArray := prog_9_method_9_code
def yX7_draw : MethodName := ⟨RX7, "draw", "()I"⟩
def RX8 : String := "ForgetSchool$Search"
def TX8 : u_T := fun k => match k with
  | 0 => ("ForgetSchool$Search", "row", "[I", true)
  | 1 => ("ForgetSchool$Search", "low", "[J", true)
  | 2 => ("ForgetSchool$Search", "high", "[J", true)
  | 3 => ("ForgetSchool$Search", "from", "[I", true)
  | 4 => ("ForgetSchool$Search", "by", "[I", true)
  | 5 => ("ForgetSchool$Search", "length", "[I", true)
  | _ => ("ForgetSchool$Search", "size", "I", false)
def tyX8 : Nat → FieldType := fun k => match k with
  | 0 => .array .int
  | 1 => .array .long
  | 2 => .array .long
  | 3 => .array .int
  | 4 => .array .int
  | 5 => .array .int
  | _ => .int
abbrev wsX80 : List Cond := u_ws RX8 TX8 7
theorem nmX8 : ∀ a, a < 7 → ∀ b, b < 7 → a ≠ b → (TX8 a).2.1 ≠ (TX8 b).2.1 := by decide +kernel
theorem tyX8_ok : ∀ k, k < 7 → parseFieldDescriptor (TX8 k).2.2.1 = some (tyX8 k) := by decide +kernel
abbrev cX8_init : ByteArray := prog_10_method_1_code
def yX8_init : MethodName := ⟨RX8, "<init>", "()V"⟩
abbrev cX8_find : ByteArray := prog_10_method_2_code
def yX8_find : MethodName := ⟨RX8, "find", "(LForgetSchool$Course;IIII)I"⟩
abbrev cX8_fits : ByteArray := prog_10_method_3_code
def yX8_fits : MethodName := ⟨RX8, "fits", "(III)Z"⟩
abbrev cX8_add : ByteArray := prog_10_method_4_code
def yX8_add : MethodName := ⟨RX8, "add", "([III)V"⟩
abbrev cX8_packed : ByteArray := prog_10_method_5_code
def yX8_packed : MethodName := ⟨RX8, "packed", "([II)J"⟩
abbrev cX8_unpack : ByteArray := prog_10_method_6_code
def yX8_unpack : MethodName := ⟨RX8, "unpack", "(I[I)V"⟩
abbrev cX8_write : ByteArray := prog_10_method_7_code
def yX8_write : MethodName := ⟨RX8, "write", "(II)I"⟩
def RX9 : String := "ForgetSchool$Staff"
def TX9 : u_T := fun k => match k with
  | 0 => ("ForgetSchool$Staff", "reminding", "[[I", true)
  | 1 => ("ForgetSchool$Staff", "skill", "[[I", true)
  | 2 => ("ForgetSchool$Staff", "masterOf", "[I", true)
  | 3 => ("ForgetSchool$Staff", "picked", "[I", true)
  | _ => ("ForgetSchool$Staff", "masters", "I", false)
def tyX9 : Nat → FieldType := fun k => match k with
  | 0 => .array (.array .int)
  | 1 => .array (.array .int)
  | 2 => .array .int
  | 3 => .array .int
  | _ => .int
abbrev wsX90 : List Cond := u_ws RX9 TX9 5
theorem nmX9 : ∀ a, a < 5 → ∀ b, b < 5 → a ≠ b → (TX9 a).2.1 ≠ (TX9 b).2.1 := by decide +kernel
theorem tyX9_ok : ∀ k, k < 5 → parseFieldDescriptor (TX9 k).2.2.1 = some (tyX9 k) := by decide +kernel
abbrev cX9_init : ByteArray := prog_11_method_1_code
def yX9_init : MethodName := ⟨RX9, "<init>", "()V"⟩
abbrev cX9_noise : ByteArray := prog_11_method_2_code
def yX9_noise : MethodName := ⟨RX9, "noise", "(I)I"⟩
abbrev cX9_calmestRoom : ByteArray := prog_11_method_3_code
def yX9_calmestRoom : MethodName := ⟨RX9, "calmestRoom", "(I)I"⟩
abbrev cX9_assign : ByteArray := prog_11_method_4_code
def yX9_assign : MethodName := ⟨RX9, "assign", "(II)I"⟩
abbrev cX9_power : ByteArray := prog_11_method_5_code
def yX9_power : MethodName := ⟨RX9, "power", "(II)I"⟩
abbrev cX9_skillOf : ByteArray := prog_11_method_6_code
def yX9_skillOf : MethodName := ⟨RX9, "skillOf", "(IIII)I"⟩
def RX10 : String := "ForgetSchool$Tape"
def TX10 : u_T := fun k => match k with
  | 0 => ("ForgetSchool$Tape", "bytes", "[I", true)
  | _ => ("ForgetSchool$Tape", "size", "I", false)
def tyX10 : Nat → FieldType := fun k => match k with
  | 0 => .array .int
  | _ => .int
abbrev wsX100 : List Cond := u_ws RX10 TX10 2
theorem nmX10 : ∀ a, a < 2 → ∀ b, b < 2 → a ≠ b → (TX10 a).2.1 ≠ (TX10 b).2.1 := by decide +kernel
theorem tyX10_ok : ∀ k, k < 2 → parseFieldDescriptor (TX10 k).2.2.1 = some (tyX10 k) := by decide +kernel
abbrev cX10_init : ByteArray := prog_12_method_1_code
def yX10_init : MethodName := ⟨RX10, "<init>", "()V"⟩
abbrev cX10_put : ByteArray := prog_12_method_2_code
def yX10_put : MethodName := ⟨RX10, "put", "(I)V"⟩
abbrev cX10_holdsFacts : ByteArray := prog_12_method_3_code
def yX10_holdsFacts : MethodName := ⟨RX10, "holdsFacts", "(I)Z"⟩
abbrev cX10_asBits : ByteArray := prog_12_method_4_code
def yX10_asBits : MethodName := ⟨RX10, "asBits", "(I)I"⟩
def RX11 : String := "ForgetSchool"
def TX11 : u_T := fun k => match k with
  | 0 => ("ForgetSchool", "tape", "LForgetSchool$Tape;", true)
  | 1 => ("ForgetSchool", "net", "LForgetSchool$Net;", true)
  | 2 => ("ForgetSchool", "course", "LForgetSchool$Course;", true)
  | 3 => ("ForgetSchool", "staff", "LForgetSchool$Staff;", true)
  | 4 => ("ForgetSchool", "search", "LForgetSchool$Search;", true)
  | 5 => ("ForgetSchool", "chances", "LForgetSchool$Odds;", true)
  | 6 => ("ForgetSchool", "artReader", "LForgetSchool$ArtReader;", true)
  | 7 => ("ForgetSchool", "lawReader", "LForgetSchool$LawReader;", true)
  | 8 => ("ForgetSchool", "newArt", "LForgetSchool$Art;", true)
  | 9 => ("ForgetSchool", "copiedLaw", "LForgetSchool$Law;", true)
  | 10 => ("ForgetSchool", "roll", "LForgetSchool$Pupils;", true)
  | 11 => ("ForgetSchool", "keptRoll", "LForgetSchool$Pupils;", true)
  | 12 => ("ForgetSchool", "trialRoll", "LForgetSchool$Pupils;", true)
  | 13 => ("ForgetSchool", "ruling", "LForgetSchool$Law;", false)
  | 14 => ("ForgetSchool", "newLaw", "LForgetSchool$Law;", false)
  | _ => ("ForgetSchool", "isKept", "Z", false)
def tyX11 : Nat → FieldType := fun k => match k with
  | 0 => .object "ForgetSchool$Tape"
  | 1 => .object "ForgetSchool$Net"
  | 2 => .object "ForgetSchool$Course"
  | 3 => .object "ForgetSchool$Staff"
  | 4 => .object "ForgetSchool$Search"
  | 5 => .object "ForgetSchool$Odds"
  | 6 => .object "ForgetSchool$ArtReader"
  | 7 => .object "ForgetSchool$LawReader"
  | 8 => .object "ForgetSchool$Art"
  | 9 => .object "ForgetSchool$Law"
  | 10 => .object "ForgetSchool$Pupils"
  | 11 => .object "ForgetSchool$Pupils"
  | 12 => .object "ForgetSchool$Pupils"
  | 13 => .object "ForgetSchool$Law"
  | 14 => .object "ForgetSchool$Law"
  | _ => .boolean
abbrev wsX110 : List Cond := u_ws RX11 TX11 16
theorem nmX11 : ∀ a, a < 16 → ∀ b, b < 16 → a ≠ b → (TX11 a).2.1 ≠ (TX11 b).2.1 := by decide +kernel
theorem tyX11_ok : ∀ k, k < 16 → parseFieldDescriptor (TX11 k).2.2.1 = some (tyX11 k) := by decide +kernel
abbrev cX11_init : ByteArray := prog_1_method_1_code
def yX11_init : MethodName := ⟨RX11, "<init>", "()V"⟩
abbrev cX11_fact : ByteArray := prog_1_method_2_code
def yX11_fact : MethodName := ⟨RX11, "fact", "(II)Z"⟩
abbrev cX11_link : ByteArray := prog_1_method_3_code
def yX11_link : MethodName := ⟨RX11, "link", "(III)Z"⟩
abbrev cX11_pupil : ByteArray := prog_1_method_4_code
def yX11_pupil : MethodName := ⟨RX11, "pupil", "(III)Z"⟩
abbrev cX11_knows : ByteArray := prog_1_method_5_code
def yX11_knows : MethodName := ⟨RX11, "knows", "(III)Z"⟩
abbrev cX11_feed : ByteArray := prog_1_method_6_code
def yX11_feed : MethodName := ⟨RX11, "feed", "(IIIII)I"⟩
abbrev cX11_art : ByteArray := prog_1_method_7_code
def yX11_art : MethodName := ⟨RX11, "art", "(II)I"⟩
abbrev cX11_law : ByteArray := prog_1_method_8_code
def yX11_law : MethodName := ⟨RX11, "law", "(I)I"⟩
abbrev cX11_grade : ByteArray := prog_1_method_9_code
def yX11_grade : MethodName := ⟨RX11, "grade", "(II)Z"⟩
abbrev cX11_exam : ByteArray := prog_1_method_10_code
def yX11_exam : MethodName := ⟨RX11, "exam", "(II)Z"⟩
abbrev cX11_weeks : ByteArray := prog_1_method_11_code
def yX11_weeks : MethodName := ⟨RX11, "weeks", "(I)I"⟩
abbrev cX11_tried : ByteArray := prog_1_method_12_code
def yX11_tried : MethodName := ⟨RX11, "tried", "(II)I"⟩
abbrev cX11_other : ByteArray := prog_1_method_13_code
def yX11_other : MethodName := ⟨RX11, "other", "(II)I"⟩
abbrev cX11_copy : ByteArray := prog_1_method_14_code
def yX11_copy : MethodName := ⟨RX11, "copy", "()I"⟩
abbrev cX11_first : ByteArray := prog_1_method_15_code
def yX11_first : MethodName := ⟨RX11, "first", "(III)I"⟩
abbrev cX11_does : ByteArray := prog_1_method_16_code
def yX11_does : MethodName := ⟨RX11, "does", "(II)I"⟩
abbrev cX11_pupilIs : ByteArray := prog_1_method_17_code
def yX11_pupilIs : MethodName := ⟨RX11, "pupilIs", "(II)I"⟩
abbrev cX11_strength : ByteArray := prog_1_method_18_code
def yX11_strength : MethodName := ⟨RX11, "strength", "(II)I"⟩
abbrev cX11_heard : ByteArray := prog_1_method_19_code
def yX11_heard : MethodName := ⟨RX11, "heard", "(II)I"⟩
abbrev cX11_order : ByteArray := prog_1_method_20_code
def yX11_order : MethodName := ⟨RX11, "order", "(IIIII)I"⟩
abbrev cX11_still : ByteArray := prog_1_method_21_code
def yX11_still : MethodName := ⟨RX11, "still", "(III)I"⟩
abbrev cX11_cut : ByteArray := prog_1_method_22_code
def yX11_cut : MethodName := ⟨RX11, "cut", "(III)I"⟩
abbrev cX11_recalls : ByteArray := prog_1_method_23_code
def yX11_recalls : MethodName := ⟨RX11, "recalls", "(I)I"⟩
abbrev cX11_root : ByteArray := prog_1_method_24_code
def yX11_root : MethodName := ⟨RX11, "root", "()I"⟩
abbrev cX11_kin : ByteArray := prog_1_method_25_code
def yX11_kin : MethodName := ⟨RX11, "kin", "(I)I"⟩
abbrev cX11_questions : ByteArray := prog_1_method_26_code
def yX11_questions : MethodName := ⟨RX11, "questions", "(II)I"⟩
abbrev cX11_reminds : ByteArray := prog_1_method_27_code
def yX11_reminds : MethodName := ⟨RX11, "reminds", "(III)Z"⟩
abbrev cX11_parted : ByteArray := prog_1_method_28_code
def yX11_parted : MethodName := ⟨RX11, "parted", "(II)I"⟩
abbrev cX11_skill : ByteArray := prog_1_method_29_code
def yX11_skill : MethodName := ⟨RX11, "skill", "(III)Z"⟩
abbrev cX11_taught : ByteArray := prog_1_method_30_code
def yX11_taught : MethodName := ⟨RX11, "taught", "(III)I"⟩
abbrev cX11_hummed : ByteArray := prog_1_method_31_code
def yX11_hummed : MethodName := ⟨RX11, "hummed", "(III)I"⟩
abbrev cX11_odds : ByteArray := prog_1_method_32_code
def yX11_odds : MethodName := ⟨RX11, "odds", "(IIII)I"⟩
abbrev cX11_crib : ByteArray := prog_1_method_33_code
def yX11_crib : MethodName := ⟨RX11, "crib", "(II)I"⟩
abbrev cX11_seed : ByteArray := prog_1_method_34_code
def yX11_seed : MethodName := ⟨RX11, "seed", "(I)Z"⟩
abbrev cX11_keep : ByteArray := prog_1_method_35_code
def yX11_keep : MethodName := ⟨RX11, "keep", "()I"⟩
abbrev cX11_undo : ByteArray := prog_1_method_36_code
def yX11_undo : MethodName := ⟨RX11, "undo", "()Z"⟩
abbrev cX11_check : ByteArray := prog_1_method_37_code
def yX11_check : MethodName := ⟨RX11, "check", "(II)I"⟩
abbrev cX11_count : ByteArray := prog_1_method_38_code
def yX11_count : MethodName := ⟨RX11, "count", "(I)I"⟩
abbrev cX11_within : ByteArray := prog_1_method_39_code
def yX11_within : MethodName := ⟨RX11, "within", "(III)Z"⟩
abbrev cX11_has : ByteArray := prog_1_method_40_code
def yX11_has : MethodName := ⟨RX11, "has", "(II)Z"⟩
abbrev cX11_areOf : ByteArray := prog_1_method_41_code
def yX11_areOf : MethodName := ⟨RX11, "areOf", "(II)Z"⟩
abbrev cX11_lowestBit : ByteArray := prog_1_method_42_code
def yX11_lowestBit : MethodName := ⟨RX11, "lowestBit", "(I)I"⟩
abbrev cX11_tenths : ByteArray := prog_1_method_43_code
def yX11_tenths : MethodName := ⟨RX11, "tenths", "(I)I"⟩
abbrev cX11_areSome : ByteArray := prog_1_method_44_code
def yX11_areSome : MethodName := ⟨RX11, "areSome", "(I)Z"⟩
abbrev cX11_canBeTried : ByteArray := prog_1_method_45_code
def yX11_canBeTried : MethodName := ⟨RX11, "canBeTried", "(II)Z"⟩
abbrev cX11_beginTrial : ByteArray := prog_1_method_46_code
def yX11_beginTrial : MethodName := ⟨RX11, "beginTrial", "(LForgetSchool$Law;)V"⟩
abbrev cX11_trialTells : ByteArray := prog_1_method_47_code
def yX11_trialTells : MethodName := ⟨RX11, "trialTells", "(I)I"⟩
abbrev cX11_fewestQuestions : ByteArray := prog_1_method_48_code
def yX11_fewestQuestions : MethodName := ⟨RX11, "fewestQuestions", "(I)I"⟩
def RX12 : String := "ForgetSchoolModel"
def TX12 : u_T := fun k => match k with
  | 0 => ("ForgetSchoolModel", "tape", "[B", true)
  | 1 => ("ForgetSchoolModel", "taped", "I", false)
  | 2 => ("ForgetSchoolModel", "luck", "I", false)
  | 3 => ("ForgetSchoolModel", "place", "I", false)
  | 4 => ("ForgetSchoolModel", "end", "I", false)
  | 5 => ("ForgetSchoolModel", "bad", "I", false)
  | 6 => ("ForgetSchoolModel", "clauses", "I", false)
  | 7 => ("ForgetSchoolModel", "codes", "I", false)
  | 8 => ("ForgetSchoolModel", "open", "I", false)
  | 9 => ("ForgetSchoolModel", "stacked", "I", false)
  | 10 => ("ForgetSchoolModel", "isFact", "[Z", true)
  | 11 => ("ForgetSchoolModel", "kindOf", "[I", true)
  | 12 => ("ForgetSchoolModel", "links", "[I", true)
  | 13 => ("ForgetSchoolModel", "isArt", "[Z", true)
  | 14 => ("ForgetSchoolModel", "artMany", "[I", true)
  | 15 => ("ForgetSchoolModel", "stepsOf", "[I", true)
  | 16 => ("ForgetSchoolModel", "newSteps", "[I", true)
  | 17 => ("ForgetSchoolModel", "artOf", "[I", true)
  | 18 => ("ForgetSchoolModel", "newMany", "I", false)
  | 19 => ("ForgetSchoolModel", "openMany", "I", false)
  | 20 => ("ForgetSchoolModel", "isBegun", "Z", false)
  | 21 => ("ForgetSchoolModel", "openFrom", "[I", true)
  | 22 => ("ForgetSchoolModel", "openTimes", "[I", true)
  | 23 => ("ForgetSchoolModel", "openPlace", "[I", true)
  | 24 => ("ForgetSchoolModel", "clauseLetter", "[I", true)
  | 25 => ("ForgetSchoolModel", "sumFrom", "[I", true)
  | 26 => ("ForgetSchoolModel", "codeFrom", "[I", true)
  | 27 => ("ForgetSchoolModel", "codeTo", "[I", true)
  | 28 => ("ForgetSchoolModel", "code", "[I", true)
  | 29 => ("ForgetSchoolModel", "codeArg", "[I", true)
  | 30 => ("ForgetSchoolModel", "clauseMany", "[I", true)
  | 31 => ("ForgetSchoolModel", "lawNow", "I", false)
  | 32 => ("ForgetSchoolModel", "codeMany", "I", false)
  | 33 => ("ForgetSchoolModel", "newLetter", "[I", true)
  | 34 => ("ForgetSchoolModel", "newSum", "[I", true)
  | 35 => ("ForgetSchoolModel", "newFrom", "[I", true)
  | 36 => ("ForgetSchoolModel", "newTo", "[I", true)
  | 37 => ("ForgetSchoolModel", "newCode", "[I", true)
  | 38 => ("ForgetSchoolModel", "newArg", "[I", true)
  | 39 => ("ForgetSchoolModel", "isOver", "Z", false)
  | 40 => ("ForgetSchoolModel", "isBehind", "Z", false)
  | 41 => ("ForgetSchoolModel", "stack", "[I", true)
  | 42 => ("ForgetSchoolModel", "asFact", "I", false)
  | 43 => ("ForgetSchoolModel", "asKind", "I", false)
  | 44 => ("ForgetSchoolModel", "asStrength", "I", false)
  | 45 => ("ForgetSchoolModel", "asPupil", "I", false)
  | 46 => ("ForgetSchoolModel", "asGrade", "I", false)
  | 47 => ("ForgetSchoolModel", "asAge", "I", false)
  | 48 => ("ForgetSchoolModel", "asKnown", "I", false)
  | 49 => ("ForgetSchoolModel", "asWeek", "I", false)
  | 50 => ("ForgetSchoolModel", "worths", "[I", true)
  | 51 => ("ForgetSchoolModel", "isRefused", "[Z", true)
  | 52 => ("ForgetSchoolModel", "isPupil", "[Z", true)
  | 53 => ("ForgetSchoolModel", "gradeOf", "[I", true)
  | 54 => ("ForgetSchoolModel", "ages", "[I", true)
  | 55 => ("ForgetSchoolModel", "strengths", "[I", true)
  | 56 => ("ForgetSchoolModel", "week", "I", false)
  | 57 => ("ForgetSchoolModel", "passedMany", "I", false)
  | 58 => ("ForgetSchoolModel", "recalledMany", "I", false)
  | 59 => ("ForgetSchoolModel", "examSet", "I", false)
  | 60 => ("ForgetSchoolModel", "limitNow", "I", false)
  | 61 => ("ForgetSchoolModel", "passedThen", "I", false)
  | 62 => ("ForgetSchoolModel", "outThen", "I", false)
  | 63 => ("ForgetSchoolModel", "recalledThen", "I", false)
  | 64 => ("ForgetSchoolModel", "rememberedThen", "I", false)
  | 65 => ("ForgetSchoolModel", "firstWho", "I", false)
  | 66 => ("ForgetSchoolModel", "firstWhen", "I", false)
  | 67 => ("ForgetSchoolModel", "asidePupil", "[Z", true)
  | 68 => ("ForgetSchoolModel", "asideGrade", "[I", true)
  | 69 => ("ForgetSchoolModel", "asideAge", "[I", true)
  | 70 => ("ForgetSchoolModel", "asideStrength", "[I", true)
  | 71 => ("ForgetSchoolModel", "asideWeek", "[I", true)
  | 72 => ("ForgetSchoolModel", "asidePassed", "[I", true)
  | 73 => ("ForgetSchoolModel", "asideRecalled", "[I", true)
  | 74 => ("ForgetSchoolModel", "asideLuck", "[I", true)
  | 75 => ("ForgetSchoolModel", "isKept", "Z", false)
  | 76 => ("ForgetSchoolModel", "own", "[I", true)
  | 77 => ("ForgetSchoolModel", "some", "[I", true)
  | 78 => ("ForgetSchoolModel", "rowNow", "[I", true)
  | 79 => ("ForgetSchoolModel", "bestRow", "[I", true)
  | 80 => ("ForgetSchoolModel", "before", "[I", true)
  | 81 => ("ForgetSchoolModel", "reminding", "[I", true)
  | 82 => ("ForgetSchoolModel", "isMaster", "[Z", true)
  | 83 => ("ForgetSchoolModel", "skills", "[I", true)
  | 84 => ("ForgetSchoolModel", "taughtArts", "[I", true)
  | _ => ("ForgetSchoolModel", "chances", "[I", true)
def tyX12 : Nat → FieldType := fun k => match k with
  | 0 => .array .byte
  | 1 => .int
  | 2 => .int
  | 3 => .int
  | 4 => .int
  | 5 => .int
  | 6 => .int
  | 7 => .int
  | 8 => .int
  | 9 => .int
  | 10 => .array .boolean
  | 11 => .array .int
  | 12 => .array .int
  | 13 => .array .boolean
  | 14 => .array .int
  | 15 => .array .int
  | 16 => .array .int
  | 17 => .array .int
  | 18 => .int
  | 19 => .int
  | 20 => .boolean
  | 21 => .array .int
  | 22 => .array .int
  | 23 => .array .int
  | 24 => .array .int
  | 25 => .array .int
  | 26 => .array .int
  | 27 => .array .int
  | 28 => .array .int
  | 29 => .array .int
  | 30 => .array .int
  | 31 => .int
  | 32 => .int
  | 33 => .array .int
  | 34 => .array .int
  | 35 => .array .int
  | 36 => .array .int
  | 37 => .array .int
  | 38 => .array .int
  | 39 => .boolean
  | 40 => .boolean
  | 41 => .array .int
  | 42 => .int
  | 43 => .int
  | 44 => .int
  | 45 => .int
  | 46 => .int
  | 47 => .int
  | 48 => .int
  | 49 => .int
  | 50 => .array .int
  | 51 => .array .boolean
  | 52 => .array .boolean
  | 53 => .array .int
  | 54 => .array .int
  | 55 => .array .int
  | 56 => .int
  | 57 => .int
  | 58 => .int
  | 59 => .int
  | 60 => .int
  | 61 => .int
  | 62 => .int
  | 63 => .int
  | 64 => .int
  | 65 => .int
  | 66 => .int
  | 67 => .array .boolean
  | 68 => .array .int
  | 69 => .array .int
  | 70 => .array .int
  | 71 => .array .int
  | 72 => .array .int
  | 73 => .array .int
  | 74 => .array .int
  | 75 => .boolean
  | 76 => .array .int
  | 77 => .array .int
  | 78 => .array .int
  | 79 => .array .int
  | 80 => .array .int
  | 81 => .array .int
  | 82 => .array .boolean
  | 83 => .array .int
  | 84 => .array .int
  | _ => .array .int
abbrev wsX120 : List Cond := u_ws RX12 TX12 86
theorem nmX12 : ∀ a, a < 86 → ∀ b, b < 86 → a ≠ b → (TX12 a).2.1 ≠ (TX12 b).2.1 := by decide +kernel
theorem tyX12_ok : ∀ k, k < 86 → parseFieldDescriptor (TX12 k).2.2.1 = some (tyX12 k) := by decide +kernel
abbrev cX12_init : ByteArray := prog_14_method_1_code
def yX12_init : MethodName := ⟨RX12, "<init>", "()V"⟩
abbrev cX12_lies : ByteArray := prog_14_method_2_code
def yX12_lies : MethodName := ⟨RX12, "lies", "(JJJ)Z"⟩
abbrev cX12_has : ByteArray := prog_14_method_3_code
def yX12_has : MethodName := ⟨RX12, "has", "(II)Z"⟩
abbrev cX12_sizeOf : ByteArray := prog_14_method_4_code
def yX12_sizeOf : MethodName := ⟨RX12, "sizeOf", "(I)I"⟩
abbrev cX12_held : ByteArray := prog_14_method_5_code
def yX12_held : MethodName := ⟨RX12, "held", "(II)I"⟩
abbrev cX12_dividing : ByteArray := prog_14_method_6_code
def yX12_dividing : MethodName := ⟨RX12, "dividing", "(II)I"⟩
abbrev cX12_push : ByteArray := prog_14_method_7_code
def yX12_push : MethodName := ⟨RX12, "push", "(I)V"⟩
abbrev cX12_feed : ByteArray := prog_14_method_8_code
def yX12_feed : MethodName := ⟨RX12, "feed", "(IIIII)I"⟩
abbrev cX12_byteAt : ByteArray := prog_14_method_9_code
def yX12_byteAt : MethodName := ⟨RX12, "byteAt", "(I)I"⟩
abbrev cX12_here : ByteArray := prog_14_method_10_code
def yX12_here : MethodName := ⟨RX12, "here", "()I"⟩
abbrev cX12_wrongs : ByteArray := prog_14_method_11_code
def yX12_wrongs : MethodName := ⟨RX12, "wrongs", "(II)V"⟩
abbrev cX12_isGood : ByteArray := prog_14_method_12_code
def yX12_isGood : MethodName := ⟨RX12, "isGood", "()Z"⟩
abbrev cX12_seesDigit : ByteArray := prog_14_method_13_code
def yX12_seesDigit : MethodName := ⟨RX12, "seesDigit", "()Z"⟩
abbrev cX12_begins : ByteArray := prog_14_method_14_code
def yX12_begins : MethodName := ⟨RX12, "begins", "(I)V"⟩
abbrev cX12_isTold : ByteArray := prog_14_method_15_code
def yX12_isTold : MethodName := ⟨RX12, "isTold", "(I)Z"⟩
abbrev cX12_toldFacts : ByteArray := prog_14_method_16_code
def yX12_toldFacts : MethodName := ⟨RX12, "toldFacts", "()I"⟩
abbrev cX12_fact : ByteArray := prog_14_method_17_code
def yX12_fact : MethodName := ⟨RX12, "fact", "(II)Z"⟩
abbrev cX12_link : ByteArray := prog_14_method_18_code
def yX12_link : MethodName := ⟨RX12, "link", "(III)Z"⟩
abbrev cX12_comesTo : ByteArray := prog_14_method_19_code
def yX12_comesTo : MethodName := ⟨RX12, "comesTo", "(II)I"⟩
abbrev cX12_reachOf : ByteArray := prog_14_method_20_code
def yX12_reachOf : MethodName := ⟨RX12, "reachOf", "(II)I"⟩
abbrev cX12_recalls : ByteArray := prog_14_method_21_code
def yX12_recalls : MethodName := ⟨RX12, "recalls", "(I)I"⟩
abbrev cX12_root : ByteArray := prog_14_method_22_code
def yX12_root : MethodName := ⟨RX12, "root", "()I"⟩
abbrev cX12_kinOf : ByteArray := prog_14_method_23_code
def yX12_kinOf : MethodName := ⟨RX12, "kinOf", "(I)I"⟩
abbrev cX12_kin : ByteArray := prog_14_method_24_code
def yX12_kin : MethodName := ⟨RX12, "kin", "(I)I"⟩
abbrev cX12_cut : ByteArray := prog_14_method_25_code
def yX12_cut : MethodName := ⟨RX12, "cut", "(III)I"⟩
abbrev cX12_isThere : ByteArray := prog_14_method_26_code
def yX12_isThere : MethodName := ⟨RX12, "isThere", "(I)Z"⟩
abbrev cX12_repeats : ByteArray := prog_14_method_27_code
def yX12_repeats : MethodName := ⟨RX12, "repeats", "(III)V"⟩
abbrev cX12_timesTold : ByteArray := prog_14_method_28_code
def yX12_timesTold : MethodName := ⟨RX12, "timesTold", "()I"⟩
abbrev cX12_seesFact : ByteArray := prog_14_method_29_code
def yX12_seesFact : MethodName := ⟨RX12, "seesFact", "()Z"⟩
abbrev cX12_stepHere : ByteArray := prog_14_method_30_code
def yX12_stepHere : MethodName := ⟨RX12, "stepHere", "()I"⟩
abbrev cX12_stepTold : ByteArray := prog_14_method_31_code
def yX12_stepTold : MethodName := ⟨RX12, "stepTold", "()V"⟩
abbrev cX12_art : ByteArray := prog_14_method_32_code
def yX12_art : MethodName := ⟨RX12, "art", "(II)I"⟩
abbrev cX12_grade : ByteArray := prog_14_method_33_code
def yX12_grade : MethodName := ⟨RX12, "grade", "(II)Z"⟩
abbrev cX12_emit : ByteArray := prog_14_method_34_code
def yX12_emit : MethodName := ⟨RX12, "emit", "(II)V"⟩
abbrev cX12_top : ByteArray := prog_14_method_35_code
def yX12_top : MethodName := ⟨RX12, "top", "()I"⟩
abbrev cX12_puts : ByteArray := prog_14_method_36_code
def yX12_puts : MethodName := ⟨RX12, "puts", "(I)V"⟩
abbrev cX12_opens : ByteArray := prog_14_method_37_code
def yX12_opens : MethodName := ⟨RX12, "opens", "()V"⟩
abbrev cX12_reads : ByteArray := prog_14_method_38_code
def yX12_reads : MethodName := ⟨RX12, "reads", "()I"⟩
abbrev cX12_isTimes : ByteArray := prog_14_method_39_code
def yX12_isTimes : MethodName := ⟨RX12, "isTimes", "(I)Z"⟩
abbrev cX12_isPlus : ByteArray := prog_14_method_40_code
def yX12_isPlus : MethodName := ⟨RX12, "isPlus", "(I)Z"⟩
abbrev cX12_isCompared : ByteArray := prog_14_method_41_code
def yX12_isCompared : MethodName := ⟨RX12, "isCompared", "(I)Z"⟩
abbrev cX12_isValue : ByteArray := prog_14_method_42_code
def yX12_isValue : MethodName := ⟨RX12, "isValue", "(I)Z"⟩
abbrev cX12_sums : ByteArray := prog_14_method_43_code
def yX12_sums : MethodName := ⟨RX12, "sums", "(Z)V"⟩
abbrev cX12_joins : ByteArray := prog_14_method_44_code
def yX12_joins : MethodName := ⟨RX12, "joins", "(Z)V"⟩
abbrev cX12_ends : ByteArray := prog_14_method_45_code
def yX12_ends : MethodName := ⟨RX12, "ends", "()V"⟩
abbrev cX12_factor : ByteArray := prog_14_method_46_code
def yX12_factor : MethodName := ⟨RX12, "factor", "()V"⟩
abbrev cX12_stays : ByteArray := prog_14_method_47_code
def yX12_stays : MethodName := ⟨RX12, "stays", "()Z"⟩
abbrev cX12_value : ByteArray := prog_14_method_48_code
def yX12_value : MethodName := ⟨RX12, "value", "()V"⟩
abbrev cX12_pieceOfC : ByteArray := prog_14_method_49_code
def yX12_pieceOfC : MethodName := ⟨RX12, "pieceOfC", "()V"⟩
abbrev cX12_goesBehind : ByteArray := prog_14_method_50_code
def yX12_goesBehind : MethodName := ⟨RX12, "goesBehind", "()Z"⟩
abbrev cX12_condition : ByteArray := prog_14_method_51_code
def yX12_condition : MethodName := ⟨RX12, "condition", "()V"⟩
abbrev cX12_isClause : ByteArray := prog_14_method_52_code
def yX12_isClause : MethodName := ⟨RX12, "isClause", "(I)Z"⟩
abbrev cX12_clause : ByteArray := prog_14_method_53_code
def yX12_clause : MethodName := ⟨RX12, "clause", "()V"⟩
abbrev cX12_law : ByteArray := prog_14_method_54_code
def yX12_law : MethodName := ⟨RX12, "law", "(I)I"⟩
abbrev cX12_copy : ByteArray := prog_14_method_55_code
def yX12_copy : MethodName := ⟨RX12, "copy", "()I"⟩
abbrev cX12_valueOf : ByteArray := prog_14_method_56_code
def yX12_valueOf : MethodName := ⟨RX12, "valueOf", "(I)I"⟩
abbrev cX12_worked : ByteArray := prog_14_method_57_code
def yX12_worked : MethodName := ⟨RX12, "worked", "(III)I"⟩
abbrev cX12_workAt : ByteArray := prog_14_method_58_code
def yX12_workAt : MethodName := ⟨RX12, "workAt", "(II)V"⟩
abbrev cX12_works : ByteArray := prog_14_method_59_code
def yX12_works : MethodName := ⟨RX12, "works", "(II)V"⟩
abbrev cX12_isSo : ByteArray := prog_14_method_60_code
def yX12_isSo : MethodName := ⟨RX12, "isSo", "(I)Z"⟩
abbrev cX12_tells : ByteArray := prog_14_method_61_code
def yX12_tells : MethodName := ⟨RX12, "tells", "(II)I"⟩
abbrev cX12_says : ByteArray := prog_14_method_62_code
def yX12_says : MethodName := ⟨RX12, "says", "()Z"⟩
abbrev cX12_isThat : ByteArray := prog_14_method_63_code
def yX12_isThat : MethodName := ⟨RX12, "isThat", "(I)Z"⟩
abbrev cX12_knownBy : ByteArray := prog_14_method_64_code
def yX12_knownBy : MethodName := ⟨RX12, "knownBy", "(I)I"⟩
abbrev cX12_standsReady : ByteArray := prog_14_method_65_code
def yX12_standsReady : MethodName := ⟨RX12, "standsReady", "(II)V"⟩
abbrev cX12_pupil : ByteArray := prog_14_method_66_code
def yX12_pupil : MethodName := ⟨RX12, "pupil", "(III)Z"⟩
abbrev cX12_knows : ByteArray := prog_14_method_67_code
def yX12_knows : MethodName := ⟨RX12, "knows", "(III)Z"⟩
abbrev cX12_exam : ByteArray := prog_14_method_68_code
def yX12_exam : MethodName := ⟨RX12, "exam", "(II)Z"⟩
abbrev cX12_weakens : ByteArray := prog_14_method_69_code
def yX12_weakens : MethodName := ⟨RX12, "weakens", "(III)V"⟩
abbrev cX12_strengthens : ByteArray := prog_14_method_70_code
def yX12_strengthens : MethodName := ⟨RX12, "strengthens", "(II)V"⟩
abbrev cX12_doesStep : ByteArray := prog_14_method_71_code
def yX12_doesStep : MethodName := ⟨RX12, "doesStep", "(II)V"⟩
abbrev cX12_doesArt : ByteArray := prog_14_method_72_code
def yX12_doesArt : MethodName := ⟨RX12, "doesArt", "(II)V"⟩
abbrev cX12_does : ByteArray := prog_14_method_73_code
def yX12_does : MethodName := ⟨RX12, "does", "(II)I"⟩
abbrev cX12_heardOf : ByteArray := prog_14_method_74_code
def yX12_heardOf : MethodName := ⟨RX12, "heardOf", "(II)I"⟩
abbrev cX12_heard : ByteArray := prog_14_method_75_code
def yX12_heard : MethodName := ⟨RX12, "heard", "(II)I"⟩
abbrev cX12_recallsAll : ByteArray := prog_14_method_76_code
def yX12_recallsAll : MethodName := ⟨RX12, "recallsAll", "(I)I"⟩
abbrev cX12_draw : ByteArray := prog_14_method_77_code
def yX12_draw : MethodName := ⟨RX12, "draw", "()I"⟩
abbrev cX12_tenthsOf : ByteArray := prog_14_method_78_code
def yX12_tenthsOf : MethodName := ⟨RX12, "tenthsOf", "(I)I"⟩
abbrev cX12_rests : ByteArray := prog_14_method_79_code
def yX12_rests : MethodName := ⟨RX12, "rests", "(I)V"⟩
abbrev cX12_isExamined : ByteArray := prog_14_method_80_code
def yX12_isExamined : MethodName := ⟨RX12, "isExamined", "(I)V"⟩
abbrev cX12_weekOf : ByteArray := prog_14_method_81_code
def yX12_weekOf : MethodName := ⟨RX12, "weekOf", "(I)V"⟩
abbrev cX12_go : ByteArray := prog_14_method_82_code
def yX12_go : MethodName := ⟨RX12, "go", "(II)V"⟩
abbrev cX12_weeks : ByteArray := prog_14_method_83_code
def yX12_weeks : MethodName := ⟨RX12, "weeks", "(I)I"⟩
abbrev cX12_laysAside : ByteArray := prog_14_method_84_code
def yX12_laysAside : MethodName := ⟨RX12, "laysAside", "(I)V"⟩
abbrev cX12_bringsBack : ByteArray := prog_14_method_85_code
def yX12_bringsBack : MethodName := ⟨RX12, "bringsBack", "(I)V"⟩
abbrev cX12_whoKnows : ByteArray := prog_14_method_86_code
def yX12_whoKnows : MethodName := ⟨RX12, "whoKnows", "(I)I"⟩
abbrev cX12_triedBy : ByteArray := prog_14_method_87_code
def yX12_triedBy : MethodName := ⟨RX12, "triedBy", "(III)I"⟩
abbrev cX12_tried : ByteArray := prog_14_method_88_code
def yX12_tried : MethodName := ⟨RX12, "tried", "(II)I"⟩
abbrev cX12_other : ByteArray := prog_14_method_89_code
def yX12_other : MethodName := ⟨RX12, "other", "(II)I"⟩
abbrev cX12_first : ByteArray := prog_14_method_90_code
def yX12_first : MethodName := ⟨RX12, "first", "(III)I"⟩
abbrev cX12_togetherOf : ByteArray := prog_14_method_91_code
def yX12_togetherOf : MethodName := ⟨RX12, "togetherOf", "(I)I"⟩
abbrev cX12_strongestOf : ByteArray := prog_14_method_92_code
def yX12_strongestOf : MethodName := ⟨RX12, "strongestOf", "(I)I"⟩
abbrev cX12_pupilIs : ByteArray := prog_14_method_93_code
def yX12_pupilIs : MethodName := ⟨RX12, "pupilIs", "(II)I"⟩
abbrev cX12_strength : ByteArray := prog_14_method_94_code
def yX12_strength : MethodName := ⟨RX12, "strength", "(II)I"⟩
abbrev cX12_keepsOwn : ByteArray := prog_14_method_95_code
def yX12_keepsOwn : MethodName := ⟨RX12, "keepsOwn", "(I)V"⟩
abbrev cX12_givesBack : ByteArray := prog_14_method_96_code
def yX12_givesBack : MethodName := ⟨RX12, "givesBack", "(I)V"⟩
abbrev cX12_takesSome : ByteArray := prog_14_method_97_code
def yX12_takesSome : MethodName := ⟨RX12, "takesSome", "(I)I"⟩
abbrev cX12_powerOf : ByteArray := prog_14_method_98_code
def yX12_powerOf : MethodName := ⟨RX12, "powerOf", "(II)I"⟩
abbrev cX12_opensRow : ByteArray := prog_14_method_99_code
def yX12_opensRow : MethodName := ⟨RX12, "opensRow", "(III)V"⟩
abbrev cX12_isBy : ByteArray := prog_14_method_100_code
def yX12_isBy : MethodName := ⟨RX12, "isBy", "(IIII)Z"⟩
abbrev cX12_timesTill : ByteArray := prog_14_method_101_code
def yX12_timesTill : MethodName := ⟨RX12, "timesTill", "(IIII)I"⟩
abbrev cX12_areArts : ByteArray := prog_14_method_102_code
def yX12_areArts : MethodName := ⟨RX12, "areArts", "(I)Z"⟩
abbrev cX12_areFacts : ByteArray := prog_14_method_103_code
def yX12_areFacts : MethodName := ⟨RX12, "areFacts", "(I)Z"⟩
abbrev cX12_order : ByteArray := prog_14_method_104_code
def yX12_order : MethodName := ⟨RX12, "order", "(IIIII)I"⟩
abbrev cX12_changes : ByteArray := prog_14_method_105_code
def yX12_changes : MethodName := ⟨RX12, "changes", "(II)Z"⟩
abbrev cX12_still : ByteArray := prog_14_method_106_code
def yX12_still : MethodName := ⟨RX12, "still", "(III)I"⟩
abbrev cX12_arePupils : ByteArray := prog_14_method_107_code
def yX12_arePupils : MethodName := ⟨RX12, "arePupils", "(I)Z"⟩
abbrev cX12_areTold : ByteArray := prog_14_method_108_code
def yX12_areTold : MethodName := ⟨RX12, "areTold", "(II)Z"⟩
abbrev cX12_questions : ByteArray := prog_14_method_109_code
def yX12_questions : MethodName := ⟨RX12, "questions", "(II)I"⟩
abbrev cX12_reminds : ByteArray := prog_14_method_110_code
def yX12_reminds : MethodName := ⟨RX12, "reminds", "(III)Z"⟩
abbrev cX12_remindedIn : ByteArray := prog_14_method_111_code
def yX12_remindedIn : MethodName := ⟨RX12, "remindedIn", "(I)I"⟩
abbrev cX12_parted : ByteArray := prog_14_method_112_code
def yX12_parted : MethodName := ⟨RX12, "parted", "(II)I"⟩
abbrev cX12_skill : ByteArray := prog_14_method_113_code
def yX12_skill : MethodName := ⟨RX12, "skill", "(III)Z"⟩
abbrev cX12_toldMasters : ByteArray := prog_14_method_114_code
def yX12_toldMasters : MethodName := ⟨RX12, "toldMasters", "()I"⟩
abbrev cX12_isOrder : ByteArray := prog_14_method_115_code
def yX12_isOrder : MethodName := ⟨RX12, "isOrder", "(I)Z"⟩
abbrev cX12_taught : ByteArray := prog_14_method_116_code
def yX12_taught : MethodName := ⟨RX12, "taught", "(III)I"⟩
abbrev cX12_isLinked : ByteArray := prog_14_method_117_code
def yX12_isLinked : MethodName := ⟨RX12, "isLinked", "(III)Z"⟩
abbrev cX12_between : ByteArray := prog_14_method_118_code
def yX12_between : MethodName := ⟨RX12, "between", "(III)I"⟩
abbrev cX12_hummed : ByteArray := prog_14_method_119_code
def yX12_hummed : MethodName := ⟨RX12, "hummed", "(III)I"⟩
abbrev cX12_odds : ByteArray := prog_14_method_120_code
def yX12_odds : MethodName := ⟨RX12, "odds", "(IIII)I"⟩
abbrev cX12_recalledBy : ByteArray := prog_14_method_121_code
def yX12_recalledBy : MethodName := ⟨RX12, "recalledBy", "(II)I"⟩
abbrev cX12_crib : ByteArray := prog_14_method_122_code
def yX12_crib : MethodName := ⟨RX12, "crib", "(II)I"⟩
abbrev cX12_seed : ByteArray := prog_14_method_123_code
def yX12_seed : MethodName := ⟨RX12, "seed", "(I)Z"⟩
abbrev cX12_keep : ByteArray := prog_14_method_124_code
def yX12_keep : MethodName := ⟨RX12, "keep", "()I"⟩
abbrev cX12_undo : ByteArray := prog_14_method_125_code
def yX12_undo : MethodName := ⟨RX12, "undo", "()Z"⟩
abbrev cX12_check : ByteArray := prog_14_method_126_code
def yX12_check : MethodName := ⟨RX12, "check", "(II)I"⟩
abbrev cX12_toldPupils : ByteArray := prog_14_method_127_code
def yX12_toldPupils : MethodName := ⟨RX12, "toldPupils", "()I"⟩
abbrev cX12_toldArts : ByteArray := prog_14_method_128_code
def yX12_toldArts : MethodName := ⟨RX12, "toldArts", "()I"⟩
abbrev cX12_count : ByteArray := prog_14_method_129_code
def yX12_count : MethodName := ⟨RX12, "count", "(I)I"⟩
def RJ11 : String := "java/lang/Character"
def TJ11 : u_T := fun k => match k with
  | _ => ("", "", "", false)
def tyJ11 : Nat → FieldType := fun k => match k with
  | _ => .int
abbrev wsJ110 : List Cond := u_ws RJ11 TJ11 0
theorem nmJ11 : ∀ a, a < 0 → ∀ b, b < 0 → a ≠ b → (TJ11 a).2.1 ≠ (TJ11 b).2.1 := by decide +kernel
theorem tyJ11_ok : ∀ k, k < 0 → parseFieldDescriptor (TJ11 k).2.2.1 = some (tyJ11 k) := by decide +kernel
abbrev cJ11_isValidCodePoint_9a6ad : ByteArray := prog_15_method_11_code
def yJ11_isValidCodePoint_9a6ad : MethodName := ⟨RJ11, "isValidCodePoint", "(I)Z"⟩
abbrev cJ11_highSurrogate_5068e : ByteArray := prog_15_method_28_code
def yJ11_highSurrogate_5068e : MethodName := ⟨RJ11, "highSurrogate", "(I)C"⟩
abbrev cJ11_lowSurrogate_5068e : ByteArray := prog_15_method_29_code
def yJ11_lowSurrogate_5068e : MethodName := ⟨RJ11, "lowSurrogate", "(I)C"⟩
def RJ6 : String := "java/lang/Integer"
def TJ6 : u_T := fun k => match k with
  | _ => ("", "", "", false)
def tyJ6 : Nat → FieldType := fun k => match k with
  | _ => .int
abbrev wsJ60 : List Cond := u_ws RJ6 TJ6 0
theorem nmJ6 : ∀ a, a < 0 → ∀ b, b < 0 → a ≠ b → (TJ6 a).2.1 ≠ (TJ6 b).2.1 := by decide +kernel
theorem tyJ6_ok : ∀ k, k < 0 → parseFieldDescriptor (TJ6 k).2.2.1 = some (tyJ6 k) := by decide +kernel
abbrev cJ6_bitCount_0f7a4 : ByteArray := prog_16_method_49_code
def yJ6_bitCount_0f7a4 : MethodName := ⟨RJ6, "bitCount", "(I)I"⟩
def RJ9 : String := "java/lang/Math"
def TJ9 : u_T := fun k => match k with
  | _ => ("", "", "", false)
def tyJ9 : Nat → FieldType := fun k => match k with
  | _ => .int
abbrev wsJ90 : List Cond := u_ws RJ9 TJ9 0
theorem nmJ9 : ∀ a, a < 0 → ∀ b, b < 0 → a ≠ b → (TJ9 a).2.1 ≠ (TJ9 b).2.1 := by decide +kernel
theorem tyJ9_ok : ∀ k, k < 0 → parseFieldDescriptor (TJ9 k).2.2.1 = some (tyJ9 k) := by decide +kernel
abbrev cJ9_max_7cf53 : ByteArray := prog_17_method_65_code
def yJ9_max_7cf53 : MethodName := ⟨RJ9, "max", "(II)I"⟩
abbrev cJ9_min_7cf53 : ByteArray := prog_17_method_69_code
def yJ9_min_7cf53 : MethodName := ⟨RJ9, "min", "(II)I"⟩
def RJ0 : String := "java/lang/String"
def TJ0 : u_T := fun k => match k with
  | _ => ("", "", "", false)
def tyJ0 : Nat → FieldType := fun k => match k with
  | _ => .int
abbrev wsJ00 : List Cond := u_ws RJ0 TJ0 0
theorem nmJ0 : ∀ a, a < 0 → ∀ b, b < 0 → a ≠ b → (TJ0 a).2.1 ≠ (TJ0 b).2.1 := by decide +kernel
theorem tyJ0_ok : ∀ k, k < 0 → parseFieldDescriptor (TJ0 k).2.2.1 = some (tyJ0 k) := by decide +kernel
abbrev cJ0_length_8abf5 : ByteArray := prog_18_method_54_code
def yJ0_length_8abf5 : MethodName := ⟨RJ0, "length", "()I"⟩
abbrev cJ0_indexOf_0f7a4 : ByteArray := prog_18_method_79_code
def yJ0_indexOf_0f7a4 : MethodName := ⟨RJ0, "indexOf", "(I)I"⟩
abbrev cJ0_indexOf_7cf53 : ByteArray := prog_18_method_80_code
def yJ0_indexOf_7cf53 : MethodName := ⟨RJ0, "indexOf", "(II)I"⟩
abbrev cJ0_coder_7d493 : ByteArray := prog_18_method_152_code
def yJ0_coder_7d493 : MethodName := ⟨RJ0, "coder", "()B"⟩
abbrev cJ0_isLatin1_aae02 : ByteArray := prog_18_method_154_code
def yJ0_isLatin1_aae02 : MethodName := ⟨RJ0, "isLatin1", "()Z"⟩
abbrev cJ0_checkBoundsBeginEnd_23922 : ByteArray := prog_18_method_158_code
def yJ0_checkBoundsBeginEnd_23922 : MethodName := ⟨RJ0, "checkBoundsBeginEnd", "(III)V"⟩
def RJ1 : String := "java/lang/StringLatin1"
def TJ1 : u_T := fun k => match k with
  | _ => ("", "", "", false)
def tyJ1 : Nat → FieldType := fun k => match k with
  | _ => .int
abbrev wsJ10 : List Cond := u_ws RJ1 TJ1 0
theorem nmJ1 : ∀ a, a < 0 → ∀ b, b < 0 → a ≠ b → (TJ1 a).2.1 ≠ (TJ1 b).2.1 := by decide +kernel
theorem tyJ1_ok : ∀ k, k < 0 → parseFieldDescriptor (TJ1 k).2.2.1 = some (tyJ1 k) := by decide +kernel
abbrev cJ1_canEncode_9a6ad : ByteArray := prog_19_method_4_code
def yJ1_canEncode_9a6ad : MethodName := ⟨RJ1, "canEncode", "(I)Z"⟩
abbrev cJ1_indexOf_4cfef : ByteArray := prog_19_method_22_code
def yJ1_indexOf_4cfef : MethodName := ⟨RJ1, "indexOf", "([BIII)I"⟩
abbrev cJ1_indexOfChar_4cfef : ByteArray := prog_19_method_23_code
def yJ1_indexOfChar_4cfef : MethodName := ⟨RJ1, "indexOfChar", "([BIII)I"⟩
def RJ2 : String := "java/lang/StringUTF16"
def TJ2 : u_T := fun k => match k with
  | _ => ("", "", "", false)
def tyJ2 : Nat → FieldType := fun k => match k with
  | _ => .int
abbrev wsJ20 : List Cond := u_ws RJ2 TJ2 0
theorem nmJ2 : ∀ a, a < 0 → ∀ b, b < 0 → a ≠ b → (TJ2 a).2.1 ≠ (TJ2 b).2.1 := by decide +kernel
theorem tyJ2_ok : ∀ k, k < 0 → parseFieldDescriptor (TJ2 k).2.2.1 = some (tyJ2 k) := by decide +kernel
abbrev cJ2_getChar_3b067 : ByteArray := prog_20_method_5_code
def yJ2_getChar_3b067 : MethodName := ⟨RJ2, "getChar", "([BI)C"⟩
abbrev cJ2_length_9d52b : ByteArray := prog_20_method_6_code
def yJ2_length_9d52b : MethodName := ⟨RJ2, "length", "([B)I"⟩
abbrev cJ2_indexOf_4cfef : ByteArray := prog_20_method_40_code
def yJ2_indexOf_4cfef : MethodName := ⟨RJ2, "indexOf", "([BIII)I"⟩
abbrev cJ2_indexOfChar_4cfef : ByteArray := prog_20_method_47_code
def yJ2_indexOfChar_4cfef : MethodName := ⟨RJ2, "indexOfChar", "([BIII)I"⟩
abbrev cJ2_indexOfCharUnsafe_4cfef : ByteArray := prog_20_method_48_code
def yJ2_indexOfCharUnsafe_4cfef : MethodName := ⟨RJ2, "indexOfCharUnsafe", "([BIII)I"⟩
abbrev cJ2_indexOfSupplementary_4cfef : ByteArray := prog_20_method_49_code
def yJ2_indexOfSupplementary_4cfef : MethodName := ⟨RJ2, "indexOfSupplementary", "([BIII)I"⟩
abbrev cJ2_checkBoundsBeginEnd_d044e : ByteArray := prog_20_method_93_code
def yJ2_checkBoundsBeginEnd_d044e : MethodName := ⟨RJ2, "checkBoundsBeginEnd", "(II[B)V"⟩
def RJ3 : String := "jdk/internal/util/Preconditions"
def TJ3 : u_T := fun k => match k with
  | _ => ("", "", "", false)
def tyJ3 : Nat → FieldType := fun k => match k with
  | _ => .int
abbrev wsJ30 : List Cond := u_ws RJ3 TJ3 0
theorem nmJ3 : ∀ a, a < 0 → ∀ b, b < 0 → a ≠ b → (TJ3 a).2.1 ≠ (TJ3 b).2.1 := by decide +kernel
theorem tyJ3_ok : ∀ k, k < 0 → parseFieldDescriptor (TJ3 k).2.2.1 = some (tyJ3 k) := by decide +kernel
abbrev cJ3_checkFromToIndex_8c36e : ByteArray := prog_21_method_12_code
def yJ3_checkFromToIndex_8c36e : MethodName := ⟨RJ3, "checkFromToIndex", "(IIILjava/util/function/BiFunction;)I"⟩
def RL : String := "ForgetSchoolLaw"
abbrev cL_law : ByteArray := code
def yL_law : MethodName := ⟨RL, "law", "([I)Z"⟩
abbrev vwCl : List vw_C := [(RX0, TX0, 3), (RX1, TX1, 5), (RX2, TX2, 11), (RX3, TX3, 8), (RX4, TX4, 5), (RX5, TX5, 3), (RX6, TX6, 4), (RX7, TX7, 8), (RX8, TX8, 7), (RX9, TX9, 5), (RX10, TX10, 2), (RX11, TX11, 16), (RX12, TX12, 86)]
end
section
/-- the tables' words that a callee may take over -/
def AW : List Cond := lw_tbl.filter goodWord
theorem tAW {w : Cond} (h : w ∈ AW) : w ∈ lw_tbl := (List.mem_filter.mp h).1
theorem gAW : ∀ w ∈ AW, w ∈ AW ∧ ((w.onTables && w.keeps) = true ∨ ∃ ty, w = .arrayClass ty) := fun _ h => ⟨h, good_of_word (List.mem_filter.mp h).2⟩
theorem kAW {w : Cond} (h : w ∈ lw_tbl) (g : goodWord w = true) : w ∈ AW := List.mem_filter.mpr ⟨h, g⟩
theorem tb_1 {w : Cond} (h : w ∈ tables_1) : w ∈ lw_tbl := List.mem_append_right _ h
theorem tp_1 {q : MethodName × Nat} (h : q ∈ lw_privs) : Cond.selects q.1.cls q.1 q.1 ∈ lw_tbl := List.mem_append_left _ (List.mem_map.mpr ⟨q, h, rfl⟩)
theorem tb_t0 {w : Cond} (h : w ∈ tables_1_1) : w ∈ lw_tbl := tb_1 (show w ∈ tables_1_1 ++ (tables_1_2 ++ (tables_1_3 ++ (tables_1_4 ++ (tables_1_5 ++ (tables_1_6 ++ (tables_1_7 ++ (tables_1_8))))))) from List.mem_append_left _ h)
theorem tb_t1 {w : Cond} (h : w ∈ tables_1_2) : w ∈ lw_tbl := tb_1 (show w ∈ tables_1_1 ++ (tables_1_2 ++ (tables_1_3 ++ (tables_1_4 ++ (tables_1_5 ++ (tables_1_6 ++ (tables_1_7 ++ (tables_1_8))))))) from List.mem_append_right _ (List.mem_append_left _ h))
theorem tb_t2 {w : Cond} (h : w ∈ tables_1_3) : w ∈ lw_tbl := tb_1 (show w ∈ tables_1_1 ++ (tables_1_2 ++ (tables_1_3 ++ (tables_1_4 ++ (tables_1_5 ++ (tables_1_6 ++ (tables_1_7 ++ (tables_1_8))))))) from List.mem_append_right _ (List.mem_append_right _ (List.mem_append_left _ h)))
theorem tb_t3 {w : Cond} (h : w ∈ tables_1_4) : w ∈ lw_tbl := tb_1 (show w ∈ tables_1_1 ++ (tables_1_2 ++ (tables_1_3 ++ (tables_1_4 ++ (tables_1_5 ++ (tables_1_6 ++ (tables_1_7 ++ (tables_1_8))))))) from List.mem_append_right _ (List.mem_append_right _ (List.mem_append_right _ (List.mem_append_left _ h))))
theorem tb_t4 {w : Cond} (h : w ∈ tables_1_5) : w ∈ lw_tbl := tb_1 (show w ∈ tables_1_1 ++ (tables_1_2 ++ (tables_1_3 ++ (tables_1_4 ++ (tables_1_5 ++ (tables_1_6 ++ (tables_1_7 ++ (tables_1_8))))))) from List.mem_append_right _ (List.mem_append_right _ (List.mem_append_right _ (List.mem_append_right _ (List.mem_append_left _ h)))))
theorem tb_t5 {w : Cond} (h : w ∈ tables_1_6) : w ∈ lw_tbl := tb_1 (show w ∈ tables_1_1 ++ (tables_1_2 ++ (tables_1_3 ++ (tables_1_4 ++ (tables_1_5 ++ (tables_1_6 ++ (tables_1_7 ++ (tables_1_8))))))) from List.mem_append_right _ (List.mem_append_right _ (List.mem_append_right _ (List.mem_append_right _ (List.mem_append_right _ (List.mem_append_left _ h))))))
theorem tb_t6 {w : Cond} (h : w ∈ tables_1_7) : w ∈ lw_tbl := tb_1 (show w ∈ tables_1_1 ++ (tables_1_2 ++ (tables_1_3 ++ (tables_1_4 ++ (tables_1_5 ++ (tables_1_6 ++ (tables_1_7 ++ (tables_1_8))))))) from List.mem_append_right _ (List.mem_append_right _ (List.mem_append_right _ (List.mem_append_right _ (List.mem_append_right _ (List.mem_append_right _ (List.mem_append_left _ h)))))))
theorem tb_t7 {w : Cond} (h : w ∈ tables_1_8) : w ∈ lw_tbl := tb_1 (show w ∈ tables_1_1 ++ (tables_1_2 ++ (tables_1_3 ++ (tables_1_4 ++ (tables_1_5 ++ (tables_1_6 ++ (tables_1_7 ++ (tables_1_8))))))) from List.mem_append_right _ (List.mem_append_right _ (List.mem_append_right _ (List.mem_append_right _ (List.mem_append_right _ (List.mem_append_right _ (List.mem_append_right _ (h))))))))
theorem tp_t0 {q : MethodName × Nat} (h : q ∈ lw_privs_1) : Cond.selects q.1.cls q.1 q.1 ∈ lw_tbl := tp_1 (show q ∈ lw_privs_1 ++ (lw_privs_2 ++ (lw_privs_3 ++ (lw_privs_4 ++ (lw_privs_5 ++ (lw_privs_6 ++ (lw_privs_7)))))) from List.mem_append_left _ h)
theorem tp_t1 {q : MethodName × Nat} (h : q ∈ lw_privs_2) : Cond.selects q.1.cls q.1 q.1 ∈ lw_tbl := tp_1 (show q ∈ lw_privs_1 ++ (lw_privs_2 ++ (lw_privs_3 ++ (lw_privs_4 ++ (lw_privs_5 ++ (lw_privs_6 ++ (lw_privs_7)))))) from List.mem_append_right _ (List.mem_append_left _ h))
theorem tp_t2 {q : MethodName × Nat} (h : q ∈ lw_privs_3) : Cond.selects q.1.cls q.1 q.1 ∈ lw_tbl := tp_1 (show q ∈ lw_privs_1 ++ (lw_privs_2 ++ (lw_privs_3 ++ (lw_privs_4 ++ (lw_privs_5 ++ (lw_privs_6 ++ (lw_privs_7)))))) from List.mem_append_right _ (List.mem_append_right _ (List.mem_append_left _ h)))
theorem tp_t3 {q : MethodName × Nat} (h : q ∈ lw_privs_4) : Cond.selects q.1.cls q.1 q.1 ∈ lw_tbl := tp_1 (show q ∈ lw_privs_1 ++ (lw_privs_2 ++ (lw_privs_3 ++ (lw_privs_4 ++ (lw_privs_5 ++ (lw_privs_6 ++ (lw_privs_7)))))) from List.mem_append_right _ (List.mem_append_right _ (List.mem_append_right _ (List.mem_append_left _ h))))
theorem tp_t4 {q : MethodName × Nat} (h : q ∈ lw_privs_5) : Cond.selects q.1.cls q.1 q.1 ∈ lw_tbl := tp_1 (show q ∈ lw_privs_1 ++ (lw_privs_2 ++ (lw_privs_3 ++ (lw_privs_4 ++ (lw_privs_5 ++ (lw_privs_6 ++ (lw_privs_7)))))) from List.mem_append_right _ (List.mem_append_right _ (List.mem_append_right _ (List.mem_append_right _ (List.mem_append_left _ h)))))
theorem tp_t5 {q : MethodName × Nat} (h : q ∈ lw_privs_6) : Cond.selects q.1.cls q.1 q.1 ∈ lw_tbl := tp_1 (show q ∈ lw_privs_1 ++ (lw_privs_2 ++ (lw_privs_3 ++ (lw_privs_4 ++ (lw_privs_5 ++ (lw_privs_6 ++ (lw_privs_7)))))) from List.mem_append_right _ (List.mem_append_right _ (List.mem_append_right _ (List.mem_append_right _ (List.mem_append_right _ (List.mem_append_left _ h))))))
theorem tp_t6 {q : MethodName × Nat} (h : q ∈ lw_privs_7) : Cond.selects q.1.cls q.1 q.1 ∈ lw_tbl := tp_1 (show q ∈ lw_privs_1 ++ (lw_privs_2 ++ (lw_privs_3 ++ (lw_privs_4 ++ (lw_privs_5 ++ (lw_privs_6 ++ (lw_privs_7)))))) from List.mem_append_right _ (List.mem_append_right _ (List.mem_append_right _ (List.mem_append_right _ (List.mem_append_right _ (List.mem_append_right _ (h)))))))
def V_0_0 : List Cond := [(Cond.initialized "ForgetSchoolLaw"), (Cond.initialized "ForgetSchool"), (Cond.initialized "ForgetSchool$Tape"), (Cond.initialized "ForgetSchool$Net"), (Cond.initialized "ForgetSchool$Pupils"), (Cond.initialized "ForgetSchool$Law"), (Cond.initialized "ForgetSchool$Art"), (Cond.initialized "ForgetSchool$ArtReader"), (Cond.initialized "ForgetSchool$LawReader"), (Cond.initialized "ForgetSchool$Course"), (Cond.initialized "ForgetSchool$Staff"), (Cond.initialized "ForgetSchool$Search"), (Cond.initialized "ForgetSchool$Odds"), (Cond.initialized "ForgetSchoolModel"), (Cond.initialized "java/lang/Math"), (Cond.initialized "java/lang/String")]
def V_0_1 : List Cond := [(Cond.initialized "java/lang/StringLatin1"), (Cond.initialized "java/lang/StringUTF16"), (Cond.initialized "jdk/internal/util/Preconditions"), (Cond.initialized "java/lang/Character"), (Cond.initialized "java/lang/Integer"), (Cond.classLink "ForgetSchoolLaw" (7) "ForgetSchool"), (Cond.instantiable "ForgetSchool" (16)), (Cond.methodLink "ForgetSchoolLaw" (9) yX11_init), (Cond.instanceMethod yX11_init), (Cond.code yX11_init prog_1_method_1_code (1) none), (Cond.methodLink "ForgetSchool" (1) ⟨"java/lang/Object", "<init>", "()V"⟩), (Cond.instanceMethod ⟨"java/lang/Object", "<init>", "()V"⟩), (Cond.code ⟨"java/lang/Object", "<init>", "()V"⟩ object_method_1_code (1) none), (Cond.classLink "ForgetSchool" (7) "ForgetSchool$Tape"), (Cond.instantiable "ForgetSchool$Tape" (2)), (Cond.methodLink "ForgetSchool" (9) yX10_init)]
def V_0_2 : List Cond := [(Cond.instanceMethod yX10_init), (Cond.code yX10_init prog_12_method_1_code (1) none), (Cond.methodLink "ForgetSchool$Tape" (3) ⟨"java/lang/Object", "<init>", "()V"⟩), (Cond.fieldLink "ForgetSchool$Tape" (11) "ForgetSchool$Tape" "bytes" "[I"), (Cond.fieldLink "ForgetSchool" (58) "ForgetSchool$Tape" "bytes" "[I"), (Cond.fieldLink "ForgetSchool$Tape" (15) "ForgetSchool$Tape" "size" "I"), (Cond.fieldLink "ForgetSchool" (139) "ForgetSchool$Tape" "size" "I"), (Cond.laysFinal "ForgetSchool$Tape" "ForgetSchool$Tape" "bytes" "[I"), (Cond.soleField "ForgetSchool$Tape" "bytes"), (Cond.lays "ForgetSchool$Tape" "ForgetSchool$Tape" "size" "I"), (Cond.soleField "ForgetSchool$Tape" "size"), (Cond.superclass "ForgetSchool$Tape" "java/lang/Object"), (Cond.arrayClass FieldType.int), (Cond.classLink "ForgetSchool" (16) "ForgetSchool$Net"), (Cond.instantiable "ForgetSchool$Net" (3)), (Cond.methodLink "ForgetSchool" (18) yX5_init)]
def V_0_3 : List Cond := [(Cond.instanceMethod yX5_init), (Cond.code yX5_init prog_7_method_1_code (1) none), (Cond.methodLink "ForgetSchool$Net" (3) ⟨"java/lang/Object", "<init>", "()V"⟩), (Cond.classLink "ForgetSchool$Net" (15) "[[I"), (Cond.arrayOver (FieldType.array FieldType.int)), (Cond.fieldLink "ForgetSchool$Net" (9) "ForgetSchool$Net" "kind" "[I"), (Cond.fieldLink "ForgetSchool" (120) "ForgetSchool$Net" "kind" "[I"), (Cond.fieldLink "ForgetSchool$Course" (126) "ForgetSchool$Net" "kind" "[I"), (Cond.fieldLink "ForgetSchool$Net" (17) "ForgetSchool$Net" "link" "[[I"), (Cond.fieldLink "ForgetSchool" (127) "ForgetSchool$Net" "link" "[[I"), (Cond.fieldLink "ForgetSchool$Net" (20) "ForgetSchool$Net" "told" "I"), (Cond.fieldLink "ForgetSchool" (116) "ForgetSchool$Net" "told" "I"), (Cond.fieldLink "ForgetSchool$Course" (123) "ForgetSchool$Net" "told" "I"), (Cond.laysFinal "ForgetSchool$Net" "ForgetSchool$Net" "kind" "[I"), (Cond.soleField "ForgetSchool$Net" "kind"), (Cond.laysFinal "ForgetSchool$Net" "ForgetSchool$Net" "link" "[[I")]
def V_0_4 : List Cond := [(Cond.soleField "ForgetSchool$Net" "link"), (Cond.lays "ForgetSchool$Net" "ForgetSchool$Net" "told" "I"), (Cond.soleField "ForgetSchool$Net" "told"), (Cond.superclass "ForgetSchool$Net" "java/lang/Object"), (Cond.classLink "ForgetSchool" (23) "ForgetSchool$Pupils"), (Cond.instantiable "ForgetSchool$Pupils" (8)), (Cond.methodLink "ForgetSchool" (25) yX7_init), (Cond.instanceMethod yX7_init), (Cond.code yX7_init prog_9_method_1_code (1) none), (Cond.methodLink "ForgetSchool$Pupils" (3) ⟨"java/lang/Object", "<init>", "()V"⟩), (Cond.classLink "ForgetSchool$Pupils" (18) "[[I"), (Cond.fieldLink "ForgetSchool$Pupils" (9) "ForgetSchool$Pupils" "grade" "[I"), (Cond.fieldLink "ForgetSchool$Course" (65) "ForgetSchool$Pupils" "grade" "[I"), (Cond.fieldLink "ForgetSchool" (211) "ForgetSchool$Pupils" "grade" "[I"), (Cond.fieldLink "ForgetSchool$Pupils" (15) "ForgetSchool$Pupils" "age" "[I"), (Cond.fieldLink "ForgetSchool$Course" (162) "ForgetSchool$Pupils" "age" "[I")]
def V_0_5 : List Cond := [(Cond.fieldLink "ForgetSchool" (214) "ForgetSchool$Pupils" "age" "[I"), (Cond.fieldLink "ForgetSchool$Pupils" (20) "ForgetSchool$Pupils" "strength" "[[I"), (Cond.fieldLink "ForgetSchool$Search" (41) "ForgetSchool$Pupils" "strength" "[[I"), (Cond.fieldLink "ForgetSchool$Course" (86) "ForgetSchool$Pupils" "strength" "[[I"), (Cond.fieldLink "ForgetSchool" (136) "ForgetSchool$Pupils" "strength" "[[I"), (Cond.fieldLink "ForgetSchool$Pupils" (23) "ForgetSchool$Pupils" "told" "I"), (Cond.fieldLink "ForgetSchool$Course" (58) "ForgetSchool$Pupils" "told" "I"), (Cond.fieldLink "ForgetSchool" (135) "ForgetSchool$Pupils" "told" "I"), (Cond.fieldLink "ForgetSchool$Pupils" (27) "ForgetSchool$Pupils" "week" "I"), (Cond.fieldLink "ForgetSchool$Course" (53) "ForgetSchool$Pupils" "week" "I"), (Cond.fieldLink "ForgetSchool" (322) "ForgetSchool$Pupils" "week" "I"), (Cond.fieldLink "ForgetSchool$Pupils" (30) "ForgetSchool$Pupils" "passed" "I"), (Cond.fieldLink "ForgetSchool$Course" (150) "ForgetSchool$Pupils" "passed" "I"), (Cond.fieldLink "ForgetSchool" (173) "ForgetSchool$Pupils" "passed" "I"), (Cond.fieldLink "ForgetSchool$Pupils" (33) "ForgetSchool$Pupils" "recalled" "I"), (Cond.fieldLink "ForgetSchool$Course" (140) "ForgetSchool$Pupils" "recalled" "I")]
def V_0_6 : List Cond := [(Cond.fieldLink "ForgetSchool" (328) "ForgetSchool$Pupils" "recalled" "I"), (Cond.fieldLink "ForgetSchool$Pupils" (36) "ForgetSchool$Pupils" "x" "I"), (Cond.fieldLink "ForgetSchool" (316) "ForgetSchool$Pupils" "x" "I"), (Cond.laysFinal "ForgetSchool$Pupils" "ForgetSchool$Pupils" "grade" "[I"), (Cond.soleField "ForgetSchool$Pupils" "grade"), (Cond.laysFinal "ForgetSchool$Pupils" "ForgetSchool$Pupils" "age" "[I"), (Cond.soleField "ForgetSchool$Pupils" "age"), (Cond.laysFinal "ForgetSchool$Pupils" "ForgetSchool$Pupils" "strength" "[[I"), (Cond.soleField "ForgetSchool$Pupils" "strength"), (Cond.lays "ForgetSchool$Pupils" "ForgetSchool$Pupils" "told" "I"), (Cond.soleField "ForgetSchool$Pupils" "told"), (Cond.lays "ForgetSchool$Pupils" "ForgetSchool$Pupils" "week" "I"), (Cond.soleField "ForgetSchool$Pupils" "week"), (Cond.lays "ForgetSchool$Pupils" "ForgetSchool$Pupils" "passed" "I"), (Cond.soleField "ForgetSchool$Pupils" "passed"), (Cond.lays "ForgetSchool$Pupils" "ForgetSchool$Pupils" "recalled" "I")]
def V_0_7 : List Cond := [(Cond.soleField "ForgetSchool$Pupils" "recalled"), (Cond.lays "ForgetSchool$Pupils" "ForgetSchool$Pupils" "x" "I"), (Cond.soleField "ForgetSchool$Pupils" "x"), (Cond.superclass "ForgetSchool$Pupils" "java/lang/Object"), (Cond.classLink "ForgetSchool" (36) "ForgetSchool$Law"), (Cond.instantiable "ForgetSchool$Law" (8)), (Cond.methodLink "ForgetSchool" (38) yX3_init), (Cond.instanceMethod yX3_init), (Cond.code yX3_init prog_5_method_1_code (1) none), (Cond.methodLink "ForgetSchool$Law" (1) ⟨"java/lang/Object", "<init>", "()V"⟩), (Cond.fieldLink "ForgetSchool$Law" (9) "ForgetSchool$Law" "letter" "[I"), (Cond.fieldLink "ForgetSchool$LawReader" (66) "ForgetSchool$Law" "letter" "[I"), (Cond.fieldLink "ForgetSchool$Law" (13) "ForgetSchool$Law" "amountAt" "[I"), (Cond.fieldLink "ForgetSchool$LawReader" (69) "ForgetSchool$Law" "amountAt" "[I"), (Cond.fieldLink "ForgetSchool$Law" (16) "ForgetSchool$Law" "holdsAt" "[I"), (Cond.fieldLink "ForgetSchool$LawReader" (79) "ForgetSchool$Law" "holdsAt" "[I")]
def V_0_8 : List Cond := [(Cond.fieldLink "ForgetSchool$Law" (19) "ForgetSchool$Law" "order" "[I"), (Cond.fieldLink "ForgetSchool$Law" (22) "ForgetSchool$Law" "with" "[I"), (Cond.fieldLink "ForgetSchool$Law" (25) "ForgetSchool$Law" "pile" "[I"), (Cond.fieldLink "ForgetSchool$Law" (28) "ForgetSchool$Law" "clauses" "I"), (Cond.fieldLink "ForgetSchool$LawReader" (40) "ForgetSchool$Law" "clauses" "I"), (Cond.fieldLink "ForgetSchool" (196) "ForgetSchool$Law" "clauses" "I"), (Cond.fieldLink "ForgetSchool$Law" (32) "ForgetSchool$Law" "size" "I"), (Cond.fieldLink "ForgetSchool$LawReader" (35) "ForgetSchool$Law" "size" "I"), (Cond.laysFinal "ForgetSchool$Law" "ForgetSchool$Law" "letter" "[I"), (Cond.soleField "ForgetSchool$Law" "letter"), (Cond.laysFinal "ForgetSchool$Law" "ForgetSchool$Law" "amountAt" "[I"), (Cond.soleField "ForgetSchool$Law" "amountAt"), (Cond.laysFinal "ForgetSchool$Law" "ForgetSchool$Law" "holdsAt" "[I"), (Cond.soleField "ForgetSchool$Law" "holdsAt"), (Cond.laysFinal "ForgetSchool$Law" "ForgetSchool$Law" "order" "[I"), (Cond.soleField "ForgetSchool$Law" "order")]
def V_0_9 : List Cond := [(Cond.laysFinal "ForgetSchool$Law" "ForgetSchool$Law" "with" "[I"), (Cond.soleField "ForgetSchool$Law" "with"), (Cond.laysFinal "ForgetSchool$Law" "ForgetSchool$Law" "pile" "[I"), (Cond.soleField "ForgetSchool$Law" "pile"), (Cond.lays "ForgetSchool$Law" "ForgetSchool$Law" "clauses" "I"), (Cond.soleField "ForgetSchool$Law" "clauses"), (Cond.lays "ForgetSchool$Law" "ForgetSchool$Law" "size" "I"), (Cond.soleField "ForgetSchool$Law" "size"), (Cond.superclass "ForgetSchool$Law" "java/lang/Object"), (Cond.classLink "ForgetSchool" (49) "ForgetSchool$Art"), (Cond.instantiable "ForgetSchool$Art" (3)), (Cond.methodLink "ForgetSchool" (51) yX0_init), (Cond.instanceMethod yX0_init), (Cond.code yX0_init prog_2_method_1_code (1) none), (Cond.methodLink "ForgetSchool$Art" (1) ⟨"java/lang/Object", "<init>", "()V"⟩), (Cond.fieldLink "ForgetSchool$Art" (9) "ForgetSchool$Art" "way" "[I")]
def V_0_10 : List Cond := [(Cond.fieldLink "ForgetSchool$Course" (109) "ForgetSchool$Art" "way" "[I"), (Cond.fieldLink "ForgetSchool$Art" (13) "ForgetSchool$Art" "which" "[I"), (Cond.fieldLink "ForgetSchool$Course" (112) "ForgetSchool$Art" "which" "[I"), (Cond.fieldLink "ForgetSchool$Art" (16) "ForgetSchool$Art" "count" "I"), (Cond.fieldLink "ForgetSchool$ArtReader" (35) "ForgetSchool$Art" "count" "I"), (Cond.fieldLink "ForgetSchool$Course" (106) "ForgetSchool$Art" "count" "I"), (Cond.fieldLink "ForgetSchool" (325) "ForgetSchool$Art" "count" "I"), (Cond.laysFinal "ForgetSchool$Art" "ForgetSchool$Art" "way" "[I"), (Cond.soleField "ForgetSchool$Art" "way"), (Cond.laysFinal "ForgetSchool$Art" "ForgetSchool$Art" "which" "[I"), (Cond.soleField "ForgetSchool$Art" "which"), (Cond.lays "ForgetSchool$Art" "ForgetSchool$Art" "count" "I"), (Cond.soleField "ForgetSchool$Art" "count"), (Cond.superclass "ForgetSchool$Art" "java/lang/Object"), (Cond.classLink "ForgetSchool" (56) "ForgetSchool$ArtReader"), (Cond.instantiable "ForgetSchool$ArtReader" (5))]
def V_0_11 : List Cond := [(Cond.methodLink "ForgetSchool" (62) yX1_init), (Cond.instanceMethod yX1_init), (Cond.code yX1_init prog_3_method_1_code (3) none), (Cond.methodLink "ForgetSchool$ArtReader" (3) ⟨"java/lang/Object", "<init>", "()V"⟩), (Cond.fieldLink "ForgetSchool$ArtReader" (9) "ForgetSchool$ArtReader" "text" "[I"), (Cond.fieldLink "ForgetSchool$ArtReader" (19) "ForgetSchool$ArtReader" "end" "I"), (Cond.fieldLink "ForgetSchool$ArtReader" (23) "ForgetSchool$ArtReader" "at" "I"), (Cond.fieldLink "ForgetSchool$ArtReader" (26) "ForgetSchool$ArtReader" "fault" "I"), (Cond.fieldLink "ForgetSchool$ArtReader" (15) "ForgetSchool$ArtReader" "art" "LForgetSchool$Art;"), (Cond.laysFinal "ForgetSchool$ArtReader" "ForgetSchool$ArtReader" "text" "[I"), (Cond.soleField "ForgetSchool$ArtReader" "text"), (Cond.lays "ForgetSchool$ArtReader" "ForgetSchool$ArtReader" "end" "I"), (Cond.soleField "ForgetSchool$ArtReader" "end"), (Cond.lays "ForgetSchool$ArtReader" "ForgetSchool$ArtReader" "at" "I"), (Cond.soleField "ForgetSchool$ArtReader" "at"), (Cond.lays "ForgetSchool$ArtReader" "ForgetSchool$ArtReader" "fault" "I")]
def V_0_12 : List Cond := [(Cond.soleField "ForgetSchool$ArtReader" "fault"), (Cond.lays "ForgetSchool$ArtReader" "ForgetSchool$ArtReader" "art" "LForgetSchool$Art;"), (Cond.soleField "ForgetSchool$ArtReader" "art"), (Cond.superclass "ForgetSchool$ArtReader" "java/lang/Object"), (Cond.classLink "ForgetSchool" (69) "ForgetSchool$LawReader"), (Cond.instantiable "ForgetSchool$LawReader" (5)), (Cond.methodLink "ForgetSchool" (71) yX4_init), (Cond.instanceMethod yX4_init), (Cond.code yX4_init prog_6_method_1_code (3) none), (Cond.methodLink "ForgetSchool$LawReader" (3) ⟨"java/lang/Object", "<init>", "()V"⟩), (Cond.fieldLink "ForgetSchool$LawReader" (9) "ForgetSchool$LawReader" "text" "[I"), (Cond.fieldLink "ForgetSchool$LawReader" (19) "ForgetSchool$LawReader" "end" "I"), (Cond.fieldLink "ForgetSchool$LawReader" (23) "ForgetSchool$LawReader" "at" "I"), (Cond.fieldLink "ForgetSchool$LawReader" (26) "ForgetSchool$LawReader" "fault" "I"), (Cond.fieldLink "ForgetSchool$LawReader" (15) "ForgetSchool$LawReader" "law" "LForgetSchool$Law;"), (Cond.laysFinal "ForgetSchool$LawReader" "ForgetSchool$LawReader" "text" "[I")]
def V_0_13 : List Cond := [(Cond.soleField "ForgetSchool$LawReader" "text"), (Cond.lays "ForgetSchool$LawReader" "ForgetSchool$LawReader" "end" "I"), (Cond.soleField "ForgetSchool$LawReader" "end"), (Cond.lays "ForgetSchool$LawReader" "ForgetSchool$LawReader" "at" "I"), (Cond.soleField "ForgetSchool$LawReader" "at"), (Cond.lays "ForgetSchool$LawReader" "ForgetSchool$LawReader" "fault" "I"), (Cond.soleField "ForgetSchool$LawReader" "fault"), (Cond.lays "ForgetSchool$LawReader" "ForgetSchool$LawReader" "law" "LForgetSchool$Law;"), (Cond.soleField "ForgetSchool$LawReader" "law"), (Cond.superclass "ForgetSchool$LawReader" "java/lang/Object"), (Cond.classLink "ForgetSchool" (78) "ForgetSchool$Course"), (Cond.instantiable "ForgetSchool$Course" (11)), (Cond.methodLink "ForgetSchool" (80) yX2_init), (Cond.instanceMethod yX2_init), (Cond.code yX2_init prog_4_method_1_code (5) none), (Cond.methodLink "ForgetSchool$Course" (3) ⟨"java/lang/Object", "<init>", "()V"⟩)]
def V_0_14 : List Cond := [(Cond.classLink "ForgetSchool$Course" (23) "ForgetSchool$Art"), (Cond.arrayOver (FieldType.object "ForgetSchool$Art")), (Cond.methodLink "ForgetSchool$Course" (29) yX0_init), (Cond.fieldLink "ForgetSchool$Course" (9) "ForgetSchool$Course" "net" "LForgetSchool$Net;"), (Cond.fieldLink "ForgetSchool$Course" (25) "ForgetSchool$Course" "arts" "[LForgetSchool$Art;"), (Cond.fieldLink "ForgetSchool$Search" (67) "ForgetSchool$Course" "arts" "[LForgetSchool$Art;"), (Cond.fieldLink "ForgetSchool" (150) "ForgetSchool$Course" "arts" "[LForgetSchool$Art;"), (Cond.fieldLink "ForgetSchool$Course" (30) "ForgetSchool$Course" "artOfClass" "[I"), (Cond.fieldLink "ForgetSchool" (164) "ForgetSchool$Course" "artOfClass" "[I"), (Cond.fieldLink "ForgetSchool$Course" (34) "ForgetSchool$Course" "row" "[I"), (Cond.fieldLink "ForgetSchool$Course" (37) "ForgetSchool$Course" "toldArts" "I"), (Cond.fieldLink "ForgetSchool" (158) "ForgetSchool$Course" "toldArts" "I"), (Cond.fieldLink "ForgetSchool$Course" (41) "ForgetSchool$Course" "asked" "I"), (Cond.fieldLink "ForgetSchool" (167) "ForgetSchool$Course" "asked" "I"), (Cond.fieldLink "ForgetSchool$Course" (44) "ForgetSchool$Course" "limit" "I"), (Cond.fieldLink "ForgetSchool" (170) "ForgetSchool$Course" "limit" "I")]
set_option maxRecDepth 100000 in
theorem vT_0 : tables_1_1 = V_0_0 ++ (V_0_1 ++ (V_0_2 ++ (V_0_3 ++ (V_0_4 ++ (V_0_5 ++ (V_0_6 ++ (V_0_7 ++ (V_0_8 ++ (V_0_9 ++ (V_0_10 ++ (V_0_11 ++ (V_0_12 ++ (V_0_13 ++ (V_0_14)))))))))))))) := by rfl
theorem v_0_0 {w : Cond} (h : w ∈ V_0_0) : w ∈ lw_tbl := tb_t0 (by rw [vT_0]; exact List.mem_append_left _ h)
theorem v_0_1 {w : Cond} (h : w ∈ V_0_1) : w ∈ lw_tbl := tb_t0 (by rw [vT_0]; exact List.mem_append_right _ (List.mem_append_left _ h))
theorem v_0_2 {w : Cond} (h : w ∈ V_0_2) : w ∈ lw_tbl := tb_t0 (by rw [vT_0]; exact List.mem_append_right _ (List.mem_append_right _ (List.mem_append_left _ h)))
theorem v_0_3 {w : Cond} (h : w ∈ V_0_3) : w ∈ lw_tbl := tb_t0 (by rw [vT_0]; exact List.mem_append_right _ (List.mem_append_right _ (List.mem_append_right _ (List.mem_append_left _ h))))
theorem v_0_4 {w : Cond} (h : w ∈ V_0_4) : w ∈ lw_tbl := tb_t0 (by rw [vT_0]; exact List.mem_append_right _ (List.mem_append_right _ (List.mem_append_right _ (List.mem_append_right _ (List.mem_append_left _ h)))))
theorem v_0_5 {w : Cond} (h : w ∈ V_0_5) : w ∈ lw_tbl := tb_t0 (by rw [vT_0]; exact List.mem_append_right _ (List.mem_append_right _ (List.mem_append_right _ (List.mem_append_right _ (List.mem_append_right _ (List.mem_append_left _ h))))))
theorem v_0_6 {w : Cond} (h : w ∈ V_0_6) : w ∈ lw_tbl := tb_t0 (by rw [vT_0]; exact List.mem_append_right _ (List.mem_append_right _ (List.mem_append_right _ (List.mem_append_right _ (List.mem_append_right _ (List.mem_append_right _ (List.mem_append_left _ h)))))))
theorem v_0_7 {w : Cond} (h : w ∈ V_0_7) : w ∈ lw_tbl := tb_t0 (by rw [vT_0]; exact List.mem_append_right _ (List.mem_append_right _ (List.mem_append_right _ (List.mem_append_right _ (List.mem_append_right _ (List.mem_append_right _ (List.mem_append_right _ (List.mem_append_left _ h))))))))
theorem v_0_8 {w : Cond} (h : w ∈ V_0_8) : w ∈ lw_tbl := tb_t0 (by rw [vT_0]; exact List.mem_append_right _ (List.mem_append_right _ (List.mem_append_right _ (List.mem_append_right _ (List.mem_append_right _ (List.mem_append_right _ (List.mem_append_right _ (List.mem_append_right _ (List.mem_append_left _ h)))))))))
theorem v_0_9 {w : Cond} (h : w ∈ V_0_9) : w ∈ lw_tbl := tb_t0 (by rw [vT_0]; exact List.mem_append_right _ (List.mem_append_right _ (List.mem_append_right _ (List.mem_append_right _ (List.mem_append_right _ (List.mem_append_right _ (List.mem_append_right _ (List.mem_append_right _ (List.mem_append_right _ (List.mem_append_left _ h))))))))))
theorem v_0_10 {w : Cond} (h : w ∈ V_0_10) : w ∈ lw_tbl := tb_t0 (by rw [vT_0]; exact List.mem_append_right _ (List.mem_append_right _ (List.mem_append_right _ (List.mem_append_right _ (List.mem_append_right _ (List.mem_append_right _ (List.mem_append_right _ (List.mem_append_right _ (List.mem_append_right _ (List.mem_append_right _ (List.mem_append_left _ h)))))))))))
theorem v_0_11 {w : Cond} (h : w ∈ V_0_11) : w ∈ lw_tbl := tb_t0 (by rw [vT_0]; exact List.mem_append_right _ (List.mem_append_right _ (List.mem_append_right _ (List.mem_append_right _ (List.mem_append_right _ (List.mem_append_right _ (List.mem_append_right _ (List.mem_append_right _ (List.mem_append_right _ (List.mem_append_right _ (List.mem_append_right _ (List.mem_append_left _ h))))))))))))
theorem v_0_12 {w : Cond} (h : w ∈ V_0_12) : w ∈ lw_tbl := tb_t0 (by rw [vT_0]; exact List.mem_append_right _ (List.mem_append_right _ (List.mem_append_right _ (List.mem_append_right _ (List.mem_append_right _ (List.mem_append_right _ (List.mem_append_right _ (List.mem_append_right _ (List.mem_append_right _ (List.mem_append_right _ (List.mem_append_right _ (List.mem_append_right _ (List.mem_append_left _ h)))))))))))))
theorem v_0_13 {w : Cond} (h : w ∈ V_0_13) : w ∈ lw_tbl := tb_t0 (by rw [vT_0]; exact List.mem_append_right _ (List.mem_append_right _ (List.mem_append_right _ (List.mem_append_right _ (List.mem_append_right _ (List.mem_append_right _ (List.mem_append_right _ (List.mem_append_right _ (List.mem_append_right _ (List.mem_append_right _ (List.mem_append_right _ (List.mem_append_right _ (List.mem_append_right _ (List.mem_append_left _ h))))))))))))))
theorem v_0_14 {w : Cond} (h : w ∈ V_0_14) : w ∈ lw_tbl := tb_t0 (by rw [vT_0]; exact List.mem_append_right _ (List.mem_append_right _ (List.mem_append_right _ (List.mem_append_right _ (List.mem_append_right _ (List.mem_append_right _ (List.mem_append_right _ (List.mem_append_right _ (List.mem_append_right _ (List.mem_append_right _ (List.mem_append_right _ (List.mem_append_right _ (List.mem_append_right _ (List.mem_append_right _ (h)))))))))))))))
def V_1_0 : List Cond := [(Cond.fieldLink "ForgetSchool$Course" (47) "ForgetSchool$Course" "cameOut" "I"), (Cond.fieldLink "ForgetSchool" (334) "ForgetSchool$Course" "cameOut" "I"), (Cond.fieldLink "ForgetSchool$Course" (50) "ForgetSchool$Course" "remembered" "I"), (Cond.fieldLink "ForgetSchool" (337) "ForgetSchool$Course" "remembered" "I"), (Cond.fieldLink "ForgetSchool$Course" (15) "ForgetSchool$Course" "law" "LForgetSchool$Law;"), (Cond.fieldLink "ForgetSchool$Course" (19) "ForgetSchool$Course" "pupils" "LForgetSchool$Pupils;"), (Cond.fieldLinkNest "ForgetSchool$Search" (35) "ForgetSchool$Course" "pupils" "LForgetSchool$Pupils;" "ForgetSchool"), (Cond.laysFinal "ForgetSchool$Course" "ForgetSchool$Course" "net" "LForgetSchool$Net;"), (Cond.soleField "ForgetSchool$Course" "net"), (Cond.laysFinal "ForgetSchool$Course" "ForgetSchool$Course" "arts" "[LForgetSchool$Art;"), (Cond.soleField "ForgetSchool$Course" "arts"), (Cond.laysFinal "ForgetSchool$Course" "ForgetSchool$Course" "artOfClass" "[I"), (Cond.soleField "ForgetSchool$Course" "artOfClass"), (Cond.laysFinal "ForgetSchool$Course" "ForgetSchool$Course" "row" "[I"), (Cond.soleField "ForgetSchool$Course" "row"), (Cond.lays "ForgetSchool$Course" "ForgetSchool$Course" "toldArts" "I")]
def V_1_1 : List Cond := [(Cond.soleField "ForgetSchool$Course" "toldArts"), (Cond.lays "ForgetSchool$Course" "ForgetSchool$Course" "asked" "I"), (Cond.soleField "ForgetSchool$Course" "asked"), (Cond.lays "ForgetSchool$Course" "ForgetSchool$Course" "limit" "I"), (Cond.soleField "ForgetSchool$Course" "limit"), (Cond.lays "ForgetSchool$Course" "ForgetSchool$Course" "cameOut" "I"), (Cond.soleField "ForgetSchool$Course" "cameOut"), (Cond.lays "ForgetSchool$Course" "ForgetSchool$Course" "remembered" "I"), (Cond.soleField "ForgetSchool$Course" "remembered"), (Cond.lays "ForgetSchool$Course" "ForgetSchool$Course" "law" "LForgetSchool$Law;"), (Cond.soleField "ForgetSchool$Course" "law"), (Cond.lays "ForgetSchool$Course" "ForgetSchool$Course" "pupils" "LForgetSchool$Pupils;"), (Cond.soleField "ForgetSchool$Course" "pupils"), (Cond.superclass "ForgetSchool$Course" "java/lang/Object"), (Cond.classLink "ForgetSchool" (87) "ForgetSchool$Staff"), (Cond.instantiable "ForgetSchool$Staff" (5))]
def V_1_2 : List Cond := [(Cond.methodLink "ForgetSchool" (89) yX9_init), (Cond.instanceMethod yX9_init), (Cond.code yX9_init prog_11_method_1_code (1) none), (Cond.methodLink "ForgetSchool$Staff" (3) ⟨"java/lang/Object", "<init>", "()V"⟩), (Cond.classLink "ForgetSchool$Staff" (9) "[[I"), (Cond.fieldLink "ForgetSchool$Staff" (11) "ForgetSchool$Staff" "reminding" "[[I"), (Cond.fieldLink "ForgetSchool" (264) "ForgetSchool$Staff" "reminding" "[[I"), (Cond.fieldLink "ForgetSchool$Staff" (16) "ForgetSchool$Staff" "skill" "[[I"), (Cond.fieldLink "ForgetSchool" (276) "ForgetSchool$Staff" "skill" "[[I"), (Cond.fieldLink "ForgetSchool$Staff" (19) "ForgetSchool$Staff" "masterOf" "[I"), (Cond.fieldLink "ForgetSchool" (282) "ForgetSchool$Staff" "masterOf" "[I"), (Cond.fieldLink "ForgetSchool$Staff" (23) "ForgetSchool$Staff" "picked" "[I"), (Cond.fieldLink "ForgetSchool$Staff" (26) "ForgetSchool$Staff" "masters" "I"), (Cond.fieldLink "ForgetSchool" (273) "ForgetSchool$Staff" "masters" "I"), (Cond.laysFinal "ForgetSchool$Staff" "ForgetSchool$Staff" "reminding" "[[I"), (Cond.soleField "ForgetSchool$Staff" "reminding")]
def V_1_3 : List Cond := [(Cond.laysFinal "ForgetSchool$Staff" "ForgetSchool$Staff" "skill" "[[I"), (Cond.soleField "ForgetSchool$Staff" "skill"), (Cond.laysFinal "ForgetSchool$Staff" "ForgetSchool$Staff" "masterOf" "[I"), (Cond.soleField "ForgetSchool$Staff" "masterOf"), (Cond.laysFinal "ForgetSchool$Staff" "ForgetSchool$Staff" "picked" "[I"), (Cond.soleField "ForgetSchool$Staff" "picked"), (Cond.lays "ForgetSchool$Staff" "ForgetSchool$Staff" "masters" "I"), (Cond.soleField "ForgetSchool$Staff" "masters"), (Cond.superclass "ForgetSchool$Staff" "java/lang/Object"), (Cond.classLink "ForgetSchool" (94) "ForgetSchool$Search"), (Cond.instantiable "ForgetSchool$Search" (7)), (Cond.methodLink "ForgetSchool" (96) yX8_init), (Cond.instanceMethod yX8_init), (Cond.code yX8_init prog_10_method_1_code (1) none), (Cond.methodLink "ForgetSchool$Search" (3) ⟨"java/lang/Object", "<init>", "()V"⟩), (Cond.fieldLink "ForgetSchool$Search" (11) "ForgetSchool$Search" "row" "[I")]
def V_1_4 : List Cond := [(Cond.fieldLink "ForgetSchool" (234) "ForgetSchool$Search" "row" "[I"), (Cond.fieldLink "ForgetSchool$Search" (15) "ForgetSchool$Search" "low" "[J"), (Cond.fieldLink "ForgetSchool$Search" (19) "ForgetSchool$Search" "high" "[J"), (Cond.fieldLink "ForgetSchool$Search" (22) "ForgetSchool$Search" "from" "[I"), (Cond.fieldLink "ForgetSchool$Search" (25) "ForgetSchool$Search" "by" "[I"), (Cond.fieldLink "ForgetSchool$Search" (28) "ForgetSchool$Search" "length" "[I"), (Cond.fieldLink "ForgetSchool$Search" (31) "ForgetSchool$Search" "size" "I"), (Cond.laysFinal "ForgetSchool$Search" "ForgetSchool$Search" "row" "[I"), (Cond.soleField "ForgetSchool$Search" "row"), (Cond.laysFinal "ForgetSchool$Search" "ForgetSchool$Search" "low" "[J"), (Cond.soleField "ForgetSchool$Search" "low"), (Cond.laysFinal "ForgetSchool$Search" "ForgetSchool$Search" "high" "[J"), (Cond.soleField "ForgetSchool$Search" "high"), (Cond.laysFinal "ForgetSchool$Search" "ForgetSchool$Search" "from" "[I"), (Cond.soleField "ForgetSchool$Search" "from"), (Cond.laysFinal "ForgetSchool$Search" "ForgetSchool$Search" "by" "[I")]
def V_1_5 : List Cond := [(Cond.soleField "ForgetSchool$Search" "by"), (Cond.laysFinal "ForgetSchool$Search" "ForgetSchool$Search" "length" "[I"), (Cond.soleField "ForgetSchool$Search" "length"), (Cond.lays "ForgetSchool$Search" "ForgetSchool$Search" "size" "I"), (Cond.soleField "ForgetSchool$Search" "size"), (Cond.superclass "ForgetSchool$Search" "java/lang/Object"), (Cond.arrayClass FieldType.long), (Cond.classLink "ForgetSchool" (101) "ForgetSchool$Odds"), (Cond.instantiable "ForgetSchool$Odds" (4)), (Cond.methodLink "ForgetSchool" (103) yX6_init), (Cond.instanceMethod yX6_init), (Cond.code yX6_init prog_8_method_1_code (1) none), (Cond.methodLink "ForgetSchool$Odds" (1) ⟨"java/lang/Object", "<init>", "()V"⟩), (Cond.fieldLink "ForgetSchool$Odds" (9) "ForgetSchool$Odds" "ways" "[I"), (Cond.fieldLink "ForgetSchool$Odds" (13) "ForgetSchool$Odds" "facts" "I"), (Cond.fieldLink "ForgetSchool$Odds" (17) "ForgetSchool$Odds" "above" "I")]
def V_1_6 : List Cond := [(Cond.fieldLink "ForgetSchool" (306) "ForgetSchool$Odds" "above" "I"), (Cond.fieldLink "ForgetSchool$Odds" (20) "ForgetSchool$Odds" "below" "I"), (Cond.fieldLink "ForgetSchool" (309) "ForgetSchool$Odds" "below" "I"), (Cond.laysFinal "ForgetSchool$Odds" "ForgetSchool$Odds" "ways" "[I"), (Cond.soleField "ForgetSchool$Odds" "ways"), (Cond.lays "ForgetSchool$Odds" "ForgetSchool$Odds" "facts" "I"), (Cond.soleField "ForgetSchool$Odds" "facts"), (Cond.lays "ForgetSchool$Odds" "ForgetSchool$Odds" "above" "I"), (Cond.soleField "ForgetSchool$Odds" "above"), (Cond.lays "ForgetSchool$Odds" "ForgetSchool$Odds" "below" "I"), (Cond.soleField "ForgetSchool$Odds" "below"), (Cond.superclass "ForgetSchool$Odds" "java/lang/Object"), (Cond.fieldLink "ForgetSchool" (10) "ForgetSchool" "tape" "LForgetSchool$Tape;"), (Cond.fieldLink "ForgetSchool" (19) "ForgetSchool" "net" "LForgetSchool$Net;"), (Cond.fieldLink "ForgetSchool" (83) "ForgetSchool" "course" "LForgetSchool$Course;"), (Cond.fieldLink "ForgetSchool" (90) "ForgetSchool" "staff" "LForgetSchool$Staff;")]
def V_1_7 : List Cond := [(Cond.fieldLink "ForgetSchool" (97) "ForgetSchool" "search" "LForgetSchool$Search;"), (Cond.fieldLink "ForgetSchool" (104) "ForgetSchool" "chances" "LForgetSchool$Odds;"), (Cond.fieldLink "ForgetSchool" (65) "ForgetSchool" "artReader" "LForgetSchool$ArtReader;"), (Cond.fieldLink "ForgetSchool" (74) "ForgetSchool" "lawReader" "LForgetSchool$LawReader;"), (Cond.fieldLink "ForgetSchool" (52) "ForgetSchool" "newArt" "LForgetSchool$Art;"), (Cond.fieldLink "ForgetSchool" (43) "ForgetSchool" "copiedLaw" "LForgetSchool$Law;"), (Cond.fieldLink "ForgetSchool" (26) "ForgetSchool" "roll" "LForgetSchool$Pupils;"), (Cond.fieldLink "ForgetSchool" (30) "ForgetSchool" "keptRoll" "LForgetSchool$Pupils;"), (Cond.fieldLink "ForgetSchool" (33) "ForgetSchool" "trialRoll" "LForgetSchool$Pupils;"), (Cond.fieldLink "ForgetSchool" (39) "ForgetSchool" "ruling" "LForgetSchool$Law;"), (Cond.fieldLink "ForgetSchool" (46) "ForgetSchool" "newLaw" "LForgetSchool$Law;"), (Cond.fieldLink "ForgetSchool" (108) "ForgetSchool" "isKept" "Z"), (Cond.laysFinal "ForgetSchool" "ForgetSchool" "tape" "LForgetSchool$Tape;"), (Cond.soleField "ForgetSchool" "tape"), (Cond.laysFinal "ForgetSchool" "ForgetSchool" "net" "LForgetSchool$Net;"), (Cond.soleField "ForgetSchool" "net")]
def V_1_8 : List Cond := [(Cond.laysFinal "ForgetSchool" "ForgetSchool" "course" "LForgetSchool$Course;"), (Cond.soleField "ForgetSchool" "course"), (Cond.laysFinal "ForgetSchool" "ForgetSchool" "staff" "LForgetSchool$Staff;"), (Cond.soleField "ForgetSchool" "staff"), (Cond.laysFinal "ForgetSchool" "ForgetSchool" "search" "LForgetSchool$Search;"), (Cond.soleField "ForgetSchool" "search"), (Cond.laysFinal "ForgetSchool" "ForgetSchool" "chances" "LForgetSchool$Odds;"), (Cond.soleField "ForgetSchool" "chances"), (Cond.laysFinal "ForgetSchool" "ForgetSchool" "artReader" "LForgetSchool$ArtReader;"), (Cond.soleField "ForgetSchool" "artReader"), (Cond.laysFinal "ForgetSchool" "ForgetSchool" "lawReader" "LForgetSchool$LawReader;"), (Cond.soleField "ForgetSchool" "lawReader"), (Cond.laysFinal "ForgetSchool" "ForgetSchool" "newArt" "LForgetSchool$Art;"), (Cond.soleField "ForgetSchool" "newArt"), (Cond.laysFinal "ForgetSchool" "ForgetSchool" "copiedLaw" "LForgetSchool$Law;"), (Cond.soleField "ForgetSchool" "copiedLaw")]
def V_1_9 : List Cond := [(Cond.laysFinal "ForgetSchool" "ForgetSchool" "roll" "LForgetSchool$Pupils;"), (Cond.soleField "ForgetSchool" "roll"), (Cond.laysFinal "ForgetSchool" "ForgetSchool" "keptRoll" "LForgetSchool$Pupils;"), (Cond.soleField "ForgetSchool" "keptRoll"), (Cond.laysFinal "ForgetSchool" "ForgetSchool" "trialRoll" "LForgetSchool$Pupils;"), (Cond.soleField "ForgetSchool" "trialRoll"), (Cond.lays "ForgetSchool" "ForgetSchool" "ruling" "LForgetSchool$Law;"), (Cond.soleField "ForgetSchool" "ruling"), (Cond.lays "ForgetSchool" "ForgetSchool" "newLaw" "LForgetSchool$Law;"), (Cond.soleField "ForgetSchool" "newLaw"), (Cond.lays "ForgetSchool" "ForgetSchool" "isKept" "Z"), (Cond.soleField "ForgetSchool" "isKept"), (Cond.superclass "ForgetSchool" "java/lang/Object"), (Cond.methodLink "ForgetSchoolLaw" (13) yX11_fact), (Cond.instanceMethod yX11_fact), (Cond.selects "ForgetSchool" yX11_fact yX11_fact)]
def V_1_10 : List Cond := [(Cond.code yX11_fact prog_1_method_2_code (3) (Option.some FieldType.boolean)), (Cond.methodLink "ForgetSchool" (112) yX11_within), (Cond.static yX11_within), (Cond.code yX11_within prog_1_method_39_code (3) (Option.some FieldType.boolean)), (Cond.methodLink "ForgetSchoolLaw" (18) yX11_link), (Cond.instanceMethod yX11_link), (Cond.selects "ForgetSchool" yX11_link yX11_link), (Cond.code yX11_link prog_1_method_3_code (4) (Option.some FieldType.boolean)), (Cond.methodLink "ForgetSchool" (123) yX11_has), (Cond.static yX11_has), (Cond.code yX11_has prog_1_method_40_code (2) (Option.some FieldType.boolean)), (Cond.methodLink "ForgetSchoolLaw" (23) yX11_pupil), (Cond.instanceMethod yX11_pupil), (Cond.selects "ForgetSchool" yX11_pupil yX11_pupil), (Cond.code yX11_pupil prog_1_method_4_code (4) (Option.some FieldType.boolean)), (Cond.methodLink "ForgetSchool" (131) yX7_tell)]
def V_1_11 : List Cond := [(Cond.instanceMethod yX7_tell), (Cond.selects "ForgetSchool$Pupils" yX7_tell yX7_tell), (Cond.code yX7_tell prog_9_method_3_code (5) none), (Cond.methodLink "ForgetSchoolLaw" (27) yX11_knows), (Cond.instanceMethod yX11_knows), (Cond.selects "ForgetSchool" yX11_knows yX11_knows), (Cond.code yX11_knows prog_1_method_5_code (4) (Option.some FieldType.boolean)), (Cond.methodLink "ForgetSchoolLaw" (31) yX11_feed), (Cond.instanceMethod yX11_feed), (Cond.selects "ForgetSchool" yX11_feed yX11_feed), (Cond.code yX11_feed prog_1_method_6_code (6) (Option.some FieldType.int)), (Cond.methodLink "ForgetSchool" (142) yX10_put), (Cond.instanceMethod yX10_put), (Cond.selects "ForgetSchool$Tape" yX10_put yX10_put), (Cond.code yX10_put prog_12_method_2_code (3) none), (Cond.methodLink "ForgetSchoolLaw" (36) yX11_art)]
def V_1_12 : List Cond := [(Cond.instanceMethod yX11_art), (Cond.selects "ForgetSchool" yX11_art yX11_art), (Cond.code yX11_art prog_1_method_7_code (4) (Option.some FieldType.int)), (Cond.methodLink "ForgetSchool" (146) yX1_read), (Cond.instanceMethod yX1_read), (Cond.selects "ForgetSchool$ArtReader" yX1_read yX1_read), (Cond.code yX1_read prog_3_method_2_code (3) (Option.some FieldType.int)), (Cond.methodLink "ForgetSchool$ArtReader" (29) yJ9_min_7cf53), (Cond.static yJ9_min_7cf53), (Cond.code yJ9_min_7cf53 prog_17_method_69_code (2) (Option.some FieldType.int)), (Cond.methodLink "ForgetSchool$ArtReader" (40) yX1_steps), (Cond.privateMethod yX1_steps), (Cond.instanceMethod yX1_steps), (Cond.code yX1_steps prog_3_method_5_code (3) (Option.some FieldType.boolean)), (Cond.methodLink "ForgetSchool$ArtReader" (48) yX1_item), (Cond.privateMethod yX1_item)]
def V_1_13 : List Cond := [(Cond.instanceMethod yX1_item), (Cond.code yX1_item prog_3_method_6_code (5) (Option.some FieldType.boolean)), (Cond.methodLink "ForgetSchool$ArtReader" (51) yX1_sign), (Cond.privateMethod yX1_sign), (Cond.instanceMethod yX1_sign), (Cond.code yX1_sign prog_3_method_4_code (1) (Option.some FieldType.int)), (Cond.methodLinkNest "ForgetSchool$ArtReader" (55) yX11_within "ForgetSchool"), (Cond.methodLink "ForgetSchool$ArtReader" (44) yX1_wrong), (Cond.privateMethod yX1_wrong), (Cond.instanceMethod yX1_wrong), (Cond.code yX1_wrong prog_3_method_3_code (3) (Option.some FieldType.boolean)), (Cond.methodLink "ForgetSchool$ArtReader" (59) yX1_step), (Cond.privateMethod yX1_step), (Cond.instanceMethod yX1_step), (Cond.code yX1_step prog_3_method_7_code (6) (Option.some FieldType.boolean)), (Cond.methodLink "ForgetSchool$ArtReader" (65) yX1_wayOf)]
def V_1_14 : List Cond := [(Cond.privateMethod yX1_wayOf), (Cond.instanceMethod yX1_wayOf), (Cond.code yX1_wayOf prog_3_method_8_code (2) (Option.some FieldType.int)), (Cond.methodLink "ForgetSchool$ArtReader" (69) yX0_add), (Cond.instanceMethod yX0_add), (Cond.selects "ForgetSchool$Art" yX0_add yX0_add), (Cond.code yX0_add prog_2_method_3_code (3) (Option.some FieldType.boolean)), (Cond.methodLink "ForgetSchool$ArtReader" (62) yX0_multiply), (Cond.instanceMethod yX0_multiply), (Cond.selects "ForgetSchool$Art" yX0_multiply yX0_multiply), (Cond.code yX0_multiply prog_2_method_4_code (6) (Option.some FieldType.boolean)), (Cond.methodLink "ForgetSchool" (154) yX0_become), (Cond.instanceMethod yX0_become), (Cond.selects "ForgetSchool$Art" yX0_become yX0_become), (Cond.code yX0_become prog_2_method_2_code (3) none), (Cond.methodLink "ForgetSchoolLaw" (41) yX11_law)]
set_option maxRecDepth 100000 in
theorem vT_1 : tables_1_2 = V_1_0 ++ (V_1_1 ++ (V_1_2 ++ (V_1_3 ++ (V_1_4 ++ (V_1_5 ++ (V_1_6 ++ (V_1_7 ++ (V_1_8 ++ (V_1_9 ++ (V_1_10 ++ (V_1_11 ++ (V_1_12 ++ (V_1_13 ++ (V_1_14)))))))))))))) := by rfl
theorem v_1_0 {w : Cond} (h : w ∈ V_1_0) : w ∈ lw_tbl := tb_t1 (by rw [vT_1]; exact List.mem_append_left _ h)
theorem v_1_1 {w : Cond} (h : w ∈ V_1_1) : w ∈ lw_tbl := tb_t1 (by rw [vT_1]; exact List.mem_append_right _ (List.mem_append_left _ h))
theorem v_1_2 {w : Cond} (h : w ∈ V_1_2) : w ∈ lw_tbl := tb_t1 (by rw [vT_1]; exact List.mem_append_right _ (List.mem_append_right _ (List.mem_append_left _ h)))
theorem v_1_3 {w : Cond} (h : w ∈ V_1_3) : w ∈ lw_tbl := tb_t1 (by rw [vT_1]; exact List.mem_append_right _ (List.mem_append_right _ (List.mem_append_right _ (List.mem_append_left _ h))))
theorem v_1_4 {w : Cond} (h : w ∈ V_1_4) : w ∈ lw_tbl := tb_t1 (by rw [vT_1]; exact List.mem_append_right _ (List.mem_append_right _ (List.mem_append_right _ (List.mem_append_right _ (List.mem_append_left _ h)))))
theorem v_1_5 {w : Cond} (h : w ∈ V_1_5) : w ∈ lw_tbl := tb_t1 (by rw [vT_1]; exact List.mem_append_right _ (List.mem_append_right _ (List.mem_append_right _ (List.mem_append_right _ (List.mem_append_right _ (List.mem_append_left _ h))))))
theorem v_1_6 {w : Cond} (h : w ∈ V_1_6) : w ∈ lw_tbl := tb_t1 (by rw [vT_1]; exact List.mem_append_right _ (List.mem_append_right _ (List.mem_append_right _ (List.mem_append_right _ (List.mem_append_right _ (List.mem_append_right _ (List.mem_append_left _ h)))))))
theorem v_1_7 {w : Cond} (h : w ∈ V_1_7) : w ∈ lw_tbl := tb_t1 (by rw [vT_1]; exact List.mem_append_right _ (List.mem_append_right _ (List.mem_append_right _ (List.mem_append_right _ (List.mem_append_right _ (List.mem_append_right _ (List.mem_append_right _ (List.mem_append_left _ h))))))))
theorem v_1_8 {w : Cond} (h : w ∈ V_1_8) : w ∈ lw_tbl := tb_t1 (by rw [vT_1]; exact List.mem_append_right _ (List.mem_append_right _ (List.mem_append_right _ (List.mem_append_right _ (List.mem_append_right _ (List.mem_append_right _ (List.mem_append_right _ (List.mem_append_right _ (List.mem_append_left _ h)))))))))
theorem v_1_9 {w : Cond} (h : w ∈ V_1_9) : w ∈ lw_tbl := tb_t1 (by rw [vT_1]; exact List.mem_append_right _ (List.mem_append_right _ (List.mem_append_right _ (List.mem_append_right _ (List.mem_append_right _ (List.mem_append_right _ (List.mem_append_right _ (List.mem_append_right _ (List.mem_append_right _ (List.mem_append_left _ h))))))))))
theorem v_1_10 {w : Cond} (h : w ∈ V_1_10) : w ∈ lw_tbl := tb_t1 (by rw [vT_1]; exact List.mem_append_right _ (List.mem_append_right _ (List.mem_append_right _ (List.mem_append_right _ (List.mem_append_right _ (List.mem_append_right _ (List.mem_append_right _ (List.mem_append_right _ (List.mem_append_right _ (List.mem_append_right _ (List.mem_append_left _ h)))))))))))
theorem v_1_11 {w : Cond} (h : w ∈ V_1_11) : w ∈ lw_tbl := tb_t1 (by rw [vT_1]; exact List.mem_append_right _ (List.mem_append_right _ (List.mem_append_right _ (List.mem_append_right _ (List.mem_append_right _ (List.mem_append_right _ (List.mem_append_right _ (List.mem_append_right _ (List.mem_append_right _ (List.mem_append_right _ (List.mem_append_right _ (List.mem_append_left _ h))))))))))))
theorem v_1_12 {w : Cond} (h : w ∈ V_1_12) : w ∈ lw_tbl := tb_t1 (by rw [vT_1]; exact List.mem_append_right _ (List.mem_append_right _ (List.mem_append_right _ (List.mem_append_right _ (List.mem_append_right _ (List.mem_append_right _ (List.mem_append_right _ (List.mem_append_right _ (List.mem_append_right _ (List.mem_append_right _ (List.mem_append_right _ (List.mem_append_right _ (List.mem_append_left _ h)))))))))))))
theorem v_1_13 {w : Cond} (h : w ∈ V_1_13) : w ∈ lw_tbl := tb_t1 (by rw [vT_1]; exact List.mem_append_right _ (List.mem_append_right _ (List.mem_append_right _ (List.mem_append_right _ (List.mem_append_right _ (List.mem_append_right _ (List.mem_append_right _ (List.mem_append_right _ (List.mem_append_right _ (List.mem_append_right _ (List.mem_append_right _ (List.mem_append_right _ (List.mem_append_right _ (List.mem_append_left _ h))))))))))))))
theorem v_1_14 {w : Cond} (h : w ∈ V_1_14) : w ∈ lw_tbl := tb_t1 (by rw [vT_1]; exact List.mem_append_right _ (List.mem_append_right _ (List.mem_append_right _ (List.mem_append_right _ (List.mem_append_right _ (List.mem_append_right _ (List.mem_append_right _ (List.mem_append_right _ (List.mem_append_right _ (List.mem_append_right _ (List.mem_append_right _ (List.mem_append_right _ (List.mem_append_right _ (List.mem_append_right _ (h)))))))))))))))
def V_2_0 : List Cond := [(Cond.instanceMethod yX11_law), (Cond.selects "ForgetSchool" yX11_law yX11_law), (Cond.code yX11_law prog_1_method_8_code (4) (Option.some FieldType.int)), (Cond.methodLink "ForgetSchool" (161) yX4_read), (Cond.instanceMethod yX4_read), (Cond.selects "ForgetSchool$LawReader" yX4_read yX4_read), (Cond.code yX4_read prog_6_method_2_code (4) (Option.some FieldType.int)), (Cond.methodLink "ForgetSchool$LawReader" (29) yJ9_min_7cf53), (Cond.methodLink "ForgetSchool$LawReader" (43) yX4_clause), (Cond.privateMethod yX4_clause), (Cond.instanceMethod yX4_clause), (Cond.code yX4_clause prog_6_method_6_code (3) (Option.some FieldType.boolean)), (Cond.methodLink "ForgetSchool$LawReader" (56) yX4_sign), (Cond.privateMethod yX4_sign), (Cond.instanceMethod yX4_sign), (Cond.code yX4_sign prog_6_method_4_code (1) (Option.some FieldType.int))]
def V_2_1 : List Cond := [(Cond.stringRef "ForgetSchool$LawReader" (60) "wsrhx"), (Cond.methodLink "ForgetSchool$LawReader" (62) yX4_placeOf), (Cond.static yX4_placeOf), (Cond.code yX4_placeOf prog_6_method_5_code (2) (Option.some FieldType.int)), (Cond.methodLink "ForgetSchool$LawReader" (50) yJ0_indexOf_0f7a4), (Cond.instanceMethod yJ0_indexOf_0f7a4), (Cond.selects "java/lang/String" yJ0_indexOf_0f7a4 yJ0_indexOf_0f7a4), (Cond.code yJ0_indexOf_0f7a4 prog_18_method_79_code (2) (Option.some FieldType.int)), (Cond.methodLink "java/lang/String" (633) yJ0_indexOf_7cf53), (Cond.instanceMethod yJ0_indexOf_7cf53), (Cond.selects "java/lang/String" yJ0_indexOf_7cf53 yJ0_indexOf_7cf53), (Cond.code yJ0_indexOf_7cf53 prog_18_method_80_code (3) (Option.some FieldType.int)), (Cond.methodLink "java/lang/String" (492) yJ0_isLatin1_aae02), (Cond.instanceMethod yJ0_isLatin1_aae02), (Cond.selects "java/lang/String" yJ0_isLatin1_aae02 yJ0_isLatin1_aae02), (Cond.code yJ0_isLatin1_aae02 prog_18_method_154_code (1) (Option.some FieldType.boolean))]
def V_2_2 : List Cond := [(Cond.fieldLink "java/lang/String" (38) "java/lang/String" "COMPACT_STRINGS" "Z"), (Cond.laysStatic "java/lang/String" "COMPACT_STRINGS" "Z"), (Cond.methodLink "java/lang/String" (505) yJ0_length_8abf5), (Cond.instanceMethod yJ0_length_8abf5), (Cond.selects "java/lang/String" yJ0_length_8abf5 yJ0_length_8abf5), (Cond.code yJ0_length_8abf5 prog_18_method_54_code (1) (Option.some FieldType.int)), (Cond.methodLink "java/lang/String" (335) yJ0_coder_7d493), (Cond.instanceMethod yJ0_coder_7d493), (Cond.selects "java/lang/String" yJ0_coder_7d493 yJ0_coder_7d493), (Cond.code yJ0_coder_7d493 prog_18_method_152_code (1) (Option.some FieldType.byte)), (Cond.methodLink "java/lang/String" (637) yJ1_indexOf_4cfef), (Cond.static yJ1_indexOf_4cfef), (Cond.code yJ1_indexOf_4cfef prog_19_method_22_code (4) (Option.some FieldType.int)), (Cond.methodLink "java/lang/StringLatin1" (88) yJ1_canEncode_9a6ad), (Cond.static yJ1_canEncode_9a6ad), (Cond.code yJ1_canEncode_9a6ad prog_19_method_4_code (1) (Option.some FieldType.boolean))]
def V_2_3 : List Cond := [(Cond.methodLink "java/lang/StringLatin1" (92) yJ9_max_7cf53), (Cond.static yJ9_max_7cf53), (Cond.code yJ9_max_7cf53 prog_17_method_65_code (2) (Option.some FieldType.int)), (Cond.methodLink "java/lang/StringLatin1" (38) yJ9_min_7cf53), (Cond.methodLink "java/lang/StringLatin1" (95) yJ1_indexOfChar_4cfef), (Cond.static yJ1_indexOfChar_4cfef), (Cond.code yJ1_indexOfChar_4cfef prog_19_method_23_code (6) (Option.some FieldType.int)), (Cond.methodLink "java/lang/String" (640) yJ2_indexOf_4cfef), (Cond.static yJ2_indexOf_4cfef), (Cond.code yJ2_indexOf_4cfef prog_20_method_40_code (4) (Option.some FieldType.int)), (Cond.methodLink "java/lang/StringUTF16" (224) yJ9_max_7cf53), (Cond.methodLink "java/lang/StringUTF16" (183) yJ9_min_7cf53), (Cond.constant "java/lang/StringUTF16" (227) (65536)), (Cond.methodLink "java/lang/StringUTF16" (228) yJ2_indexOfChar_4cfef), (Cond.static yJ2_indexOfChar_4cfef), (Cond.code yJ2_indexOfChar_4cfef prog_20_method_47_code (4) (Option.some FieldType.int))]
def V_2_4 : List Cond := [(Cond.methodLink "java/lang/StringUTF16" (96) yJ2_checkBoundsBeginEnd_d044e), (Cond.static yJ2_checkBoundsBeginEnd_d044e), (Cond.code yJ2_checkBoundsBeginEnd_d044e prog_20_method_93_code (3) none), (Cond.methodLink "java/lang/StringUTF16" (48) yJ2_length_9d52b), (Cond.static yJ2_length_9d52b), (Cond.code yJ2_length_9d52b prog_20_method_6_code (1) (Option.some FieldType.int)), (Cond.methodLink "java/lang/StringUTF16" (241) yJ0_checkBoundsBeginEnd_23922), (Cond.static yJ0_checkBoundsBeginEnd_23922), (Cond.code yJ0_checkBoundsBeginEnd_23922 prog_18_method_158_code (3) none), (Cond.fieldLink "java/lang/String" (1053) "jdk/internal/util/Preconditions" "SIOOBE_FORMATTER" "Ljava/util/function/BiFunction;"), (Cond.laysStatic "jdk/internal/util/Preconditions" "SIOOBE_FORMATTER" "Ljava/util/function/BiFunction;"), (Cond.methodLink "java/lang/String" (1062) yJ3_checkFromToIndex_8c36e), (Cond.static yJ3_checkFromToIndex_8c36e), (Cond.code yJ3_checkFromToIndex_8c36e prog_21_method_12_code (4) (Option.some FieldType.int)), (Cond.methodLink "java/lang/StringUTF16" (244) yJ2_indexOfCharUnsafe_4cfef), (Cond.static yJ2_indexOfCharUnsafe_4cfef)]
def V_2_5 : List Cond := [(Cond.code yJ2_indexOfCharUnsafe_4cfef prog_20_method_48_code (5) (Option.some FieldType.int)), (Cond.methodLink "java/lang/StringUTF16" (71) yJ2_getChar_3b067), (Cond.static yJ2_getChar_3b067), (Cond.code yJ2_getChar_3b067 prog_20_method_5_code (2) (Option.some FieldType.char)), (Cond.fieldLink "java/lang/StringUTF16" (44) "java/lang/StringUTF16" "$assertionsDisabled" "Z"), (Cond.laysStatic "java/lang/StringUTF16" "$assertionsDisabled" "Z"), (Cond.fieldLink "java/lang/StringUTF16" (59) "java/lang/StringUTF16" "HI_BYTE_SHIFT" "I"), (Cond.laysStatic "java/lang/StringUTF16" "HI_BYTE_SHIFT" "I"), (Cond.fieldLink "java/lang/StringUTF16" (63) "java/lang/StringUTF16" "LO_BYTE_SHIFT" "I"), (Cond.laysStatic "java/lang/StringUTF16" "LO_BYTE_SHIFT" "I"), (Cond.methodLink "java/lang/StringUTF16" (232) yJ2_indexOfSupplementary_4cfef), (Cond.static yJ2_indexOfSupplementary_4cfef), (Cond.code yJ2_indexOfSupplementary_4cfef prog_20_method_49_code (7) (Option.some FieldType.int)), (Cond.methodLink "java/lang/StringUTF16" (164) yJ11_isValidCodePoint_9a6ad), (Cond.static yJ11_isValidCodePoint_9a6ad), (Cond.code yJ11_isValidCodePoint_9a6ad prog_15_method_11_code (2) (Option.some FieldType.boolean))]
def V_2_6 : List Cond := [(Cond.methodLink "java/lang/StringUTF16" (157) yJ11_highSurrogate_5068e), (Cond.static yJ11_highSurrogate_5068e), (Cond.code yJ11_highSurrogate_5068e prog_15_method_28_code (1) (Option.some FieldType.char)), (Cond.constant "java/lang/Character" (110) (55232)), (Cond.methodLink "java/lang/StringUTF16" (161) yJ11_lowSurrogate_5068e), (Cond.static yJ11_lowSurrogate_5068e), (Cond.code yJ11_lowSurrogate_5068e prog_15_method_29_code (1) (Option.some FieldType.char)), (Cond.constant "java/lang/Character" (76) (56320)), (Cond.methodLink "ForgetSchool$LawReader" (47) yX4_wrong), (Cond.privateMethod yX4_wrong), (Cond.instanceMethod yX4_wrong), (Cond.code yX4_wrong prog_6_method_3_code (2) (Option.some FieldType.boolean)), (Cond.methodLink "ForgetSchool$LawReader" (72) yX4_expression), (Cond.privateMethod yX4_expression), (Cond.instanceMethod yX4_expression), (Cond.code yX4_expression prog_6_method_10_code (5) (Option.some FieldType.boolean))]
def V_2_7 : List Cond := [(Cond.methodLink "ForgetSchool$LawReader" (95) yX4_factor), (Cond.privateMethod yX4_factor), (Cond.instanceMethod yX4_factor), (Cond.code yX4_factor prog_6_method_11_code (4) (Option.some FieldType.boolean)), (Cond.methodLink "ForgetSchool$LawReader" (85) yX4_passes), (Cond.privateMethod yX4_passes), (Cond.instanceMethod yX4_passes), (Cond.code yX4_passes prog_6_method_7_code (2) (Option.some FieldType.boolean)), (Cond.methodLinkNest "ForgetSchool$LawReader" (98) yX11_within "ForgetSchool"), (Cond.methodLink "ForgetSchool$LawReader" (102) yX4_number), (Cond.privateMethod yX4_number), (Cond.instanceMethod yX4_number), (Cond.code yX4_number prog_6_method_12_code (3) (Option.some FieldType.int)), (Cond.methodLink "ForgetSchool$LawReader" (75) yX3_add), (Cond.instanceMethod yX3_add), (Cond.selects "ForgetSchool$Law" yX3_add yX3_add)]
def V_2_8 : List Cond := [(Cond.code yX3_add prog_5_method_3_code (3) none), (Cond.stringRef "ForgetSchool$LawReader" (105) "fkvpcany"), (Cond.methodLink "ForgetSchool$LawReader" (82) yX4_condition), (Cond.privateMethod yX4_condition), (Cond.instanceMethod yX4_condition), (Cond.code yX4_condition prog_6_method_8_code (6) (Option.some FieldType.boolean)), (Cond.methodLink "ForgetSchool$LawReader" (88) yX4_test), (Cond.privateMethod yX4_test), (Cond.instanceMethod yX4_test), (Cond.code yX4_test prog_6_method_9_code (3) (Option.some FieldType.boolean)), (Cond.methodLink "ForgetSchool$LawReader" (91) yX3_land), (Cond.instanceMethod yX3_land), (Cond.selects "ForgetSchool$Law" yX3_land yX3_land), (Cond.code yX3_land prog_5_method_4_code (5) none), (Cond.arrayClass FieldType.byte), (Cond.methodLink "ForgetSchoolLaw" (46) yX11_grade)]
def V_2_9 : List Cond := [(Cond.instanceMethod yX11_grade), (Cond.selects "ForgetSchool" yX11_grade yX11_grade), (Cond.code yX11_grade prog_1_method_9_code (3) (Option.some FieldType.boolean)), (Cond.methodLink "ForgetSchoolLaw" (50) yX11_exam), (Cond.instanceMethod yX11_exam), (Cond.selects "ForgetSchool" yX11_exam yX11_exam), (Cond.code yX11_exam prog_1_method_10_code (3) (Option.some FieldType.boolean)), (Cond.methodLink "ForgetSchoolLaw" (54) yX11_weeks), (Cond.instanceMethod yX11_weeks), (Cond.selects "ForgetSchool" yX11_weeks yX11_weeks), (Cond.code yX11_weeks prog_1_method_11_code (3) (Option.some FieldType.int)), (Cond.methodLink "ForgetSchool" (176) yX2_begin), (Cond.instanceMethod yX2_begin), (Cond.selects "ForgetSchool$Course" yX2_begin yX2_begin), (Cond.code yX2_begin prog_4_method_2_code (3) none), (Cond.methodLink "ForgetSchool" (180) yX2_go)]
def V_2_10 : List Cond := [(Cond.instanceMethod yX2_go), (Cond.selects "ForgetSchool$Course" yX2_go yX2_go), (Cond.code yX2_go prog_4_method_3_code (4) none), (Cond.methodLinkNest "ForgetSchool$Course" (61) yX11_has "ForgetSchool"), (Cond.methodLink "ForgetSchool$Course" (68) yX2_goThrough), (Cond.privateMethod yX2_goThrough), (Cond.instanceMethod yX2_goThrough), (Cond.code yX2_goThrough prog_4_method_4_code (4) none), (Cond.methodLink "ForgetSchool$Course" (72) yX2_rest), (Cond.privateMethod yX2_rest), (Cond.instanceMethod yX2_rest), (Cond.code yX2_rest prog_4_method_5_code (4) none), (Cond.methodLink "ForgetSchool$Course" (90) yX2_about), (Cond.privateMethod yX2_about), (Cond.instanceMethod yX2_about), (Cond.code yX2_about prog_4_method_13_code (3) (Option.some (FieldType.array FieldType.int)))]
def V_2_11 : List Cond := [(Cond.methodLink "ForgetSchool$Course" (165) yX7_known), (Cond.instanceMethod yX7_known), (Cond.selects "ForgetSchool$Pupils" yX7_known yX7_known), (Cond.code yX7_known prog_9_method_4_code (4) (Option.some FieldType.int)), (Cond.methodLink "ForgetSchool$Course" (168) yJ6_bitCount_0f7a4), (Cond.static yJ6_bitCount_0f7a4), (Cond.code yJ6_bitCount_0f7a4 prog_16_method_49_code (1) (Option.some FieldType.int)), (Cond.constant "java/lang/Integer" (265) (1431655765)), (Cond.constant "java/lang/Integer" (266) (858993459)), (Cond.constant "java/lang/Integer" (267) (252645135)), (Cond.methodLink "ForgetSchool$Course" (94) yX3_amount), (Cond.instanceMethod yX3_amount), (Cond.selects "ForgetSchool$Law" yX3_amount yX3_amount), (Cond.code yX3_amount prog_5_method_5_code (5) (Option.some FieldType.int)), (Cond.methodLink "ForgetSchool$Law" (35) yX3_run), (Cond.privateMethod yX3_run)]
def V_2_12 : List Cond := [(Cond.instanceMethod yX3_run), (Cond.code yX3_run prog_5_method_7_code (7) (Option.some FieldType.int)), (Cond.methodLink "ForgetSchool$Law" (45) yJ9_max_7cf53), (Cond.methodLink "ForgetSchool$Law" (48) yX3_reckon), (Cond.static yX3_reckon), (Cond.code yX3_reckon prog_5_method_8_code (3) (Option.some FieldType.int)), (Cond.methodLink "ForgetSchool$Law" (39) yJ9_min_7cf53), (Cond.methodLink "ForgetSchool$Course" (100) yJ9_min_7cf53), (Cond.methodLink "ForgetSchool$Course" (75) yX2_doArt), (Cond.instanceMethod yX2_doArt), (Cond.selects "ForgetSchool$Course" yX2_doArt yX2_doArt), (Cond.code yX2_doArt prog_4_method_6_code (5) none), (Cond.methodLink "ForgetSchool$Course" (115) yX2_concerns), (Cond.privateMethod yX2_concerns), (Cond.instanceMethod yX2_concerns), (Cond.code yX2_concerns prog_4_method_7_code (4) (Option.some FieldType.boolean))]
def V_2_13 : List Cond := [(Cond.methodLink "ForgetSchool$Course" (119) yX2_change), (Cond.privateMethod yX2_change), (Cond.instanceMethod yX2_change), (Cond.code yX2_change prog_4_method_8_code (6) none), (Cond.methodLink "ForgetSchool$Course" (129) yX3_keeps), (Cond.instanceMethod yX3_keeps), (Cond.selects "ForgetSchool$Law" yX3_keeps yX3_keeps), (Cond.code yX3_keeps prog_5_method_6_code (3) (Option.some FieldType.boolean)), (Cond.methodLink "ForgetSchool$Course" (133) yJ9_max_7cf53), (Cond.methodLink "ForgetSchool$Course" (79) yX2_recall), (Cond.instanceMethod yX2_recall), (Cond.selects "ForgetSchool$Course" yX2_recall yX2_recall), (Cond.code yX2_recall prog_4_method_9_code (6) (Option.some FieldType.int)), (Cond.methodLink "ForgetSchool$Course" (136) yX5_sound), (Cond.instanceMethod yX5_sound), (Cond.selects "ForgetSchool$Net" yX5_sound yX5_sound)]
def V_2_14 : List Cond := [(Cond.code yX5_sound prog_7_method_2_code (5) (Option.some FieldType.int)), (Cond.methodLink "ForgetSchool$Course" (83) yX2_examine), (Cond.privateMethod yX2_examine), (Cond.instanceMethod yX2_examine), (Cond.code yX2_examine prog_4_method_10_code (4) none), (Cond.methodLink "ForgetSchool$Course" (143) yX7_draw), (Cond.instanceMethod yX7_draw), (Cond.selects "ForgetSchool$Pupils" yX7_draw yX7_draw), (Cond.code yX7_draw prog_9_method_9_code (1) (Option.some FieldType.int)), (Cond.constant "ForgetSchool$Pupils" (47) (65535)), (Cond.methodLinkNest "ForgetSchool$Course" (147) yX11_tenths "ForgetSchool"), (Cond.static yX11_tenths), (Cond.code yX11_tenths prog_1_method_43_code (1) (Option.some FieldType.int)), (Cond.methodLink "ForgetSchoolLaw" (58) yX11_tried), (Cond.instanceMethod yX11_tried), (Cond.selects "ForgetSchool" yX11_tried yX11_tried)]
set_option maxRecDepth 100000 in
theorem vT_2 : tables_1_3 = V_2_0 ++ (V_2_1 ++ (V_2_2 ++ (V_2_3 ++ (V_2_4 ++ (V_2_5 ++ (V_2_6 ++ (V_2_7 ++ (V_2_8 ++ (V_2_9 ++ (V_2_10 ++ (V_2_11 ++ (V_2_12 ++ (V_2_13 ++ (V_2_14)))))))))))))) := by rfl
theorem v_2_0 {w : Cond} (h : w ∈ V_2_0) : w ∈ lw_tbl := tb_t2 (by rw [vT_2]; exact List.mem_append_left _ h)
theorem v_2_1 {w : Cond} (h : w ∈ V_2_1) : w ∈ lw_tbl := tb_t2 (by rw [vT_2]; exact List.mem_append_right _ (List.mem_append_left _ h))
theorem v_2_2 {w : Cond} (h : w ∈ V_2_2) : w ∈ lw_tbl := tb_t2 (by rw [vT_2]; exact List.mem_append_right _ (List.mem_append_right _ (List.mem_append_left _ h)))
theorem v_2_3 {w : Cond} (h : w ∈ V_2_3) : w ∈ lw_tbl := tb_t2 (by rw [vT_2]; exact List.mem_append_right _ (List.mem_append_right _ (List.mem_append_right _ (List.mem_append_left _ h))))
theorem v_2_4 {w : Cond} (h : w ∈ V_2_4) : w ∈ lw_tbl := tb_t2 (by rw [vT_2]; exact List.mem_append_right _ (List.mem_append_right _ (List.mem_append_right _ (List.mem_append_right _ (List.mem_append_left _ h)))))
theorem v_2_5 {w : Cond} (h : w ∈ V_2_5) : w ∈ lw_tbl := tb_t2 (by rw [vT_2]; exact List.mem_append_right _ (List.mem_append_right _ (List.mem_append_right _ (List.mem_append_right _ (List.mem_append_right _ (List.mem_append_left _ h))))))
theorem v_2_6 {w : Cond} (h : w ∈ V_2_6) : w ∈ lw_tbl := tb_t2 (by rw [vT_2]; exact List.mem_append_right _ (List.mem_append_right _ (List.mem_append_right _ (List.mem_append_right _ (List.mem_append_right _ (List.mem_append_right _ (List.mem_append_left _ h)))))))
theorem v_2_7 {w : Cond} (h : w ∈ V_2_7) : w ∈ lw_tbl := tb_t2 (by rw [vT_2]; exact List.mem_append_right _ (List.mem_append_right _ (List.mem_append_right _ (List.mem_append_right _ (List.mem_append_right _ (List.mem_append_right _ (List.mem_append_right _ (List.mem_append_left _ h))))))))
theorem v_2_8 {w : Cond} (h : w ∈ V_2_8) : w ∈ lw_tbl := tb_t2 (by rw [vT_2]; exact List.mem_append_right _ (List.mem_append_right _ (List.mem_append_right _ (List.mem_append_right _ (List.mem_append_right _ (List.mem_append_right _ (List.mem_append_right _ (List.mem_append_right _ (List.mem_append_left _ h)))))))))
theorem v_2_9 {w : Cond} (h : w ∈ V_2_9) : w ∈ lw_tbl := tb_t2 (by rw [vT_2]; exact List.mem_append_right _ (List.mem_append_right _ (List.mem_append_right _ (List.mem_append_right _ (List.mem_append_right _ (List.mem_append_right _ (List.mem_append_right _ (List.mem_append_right _ (List.mem_append_right _ (List.mem_append_left _ h))))))))))
theorem v_2_10 {w : Cond} (h : w ∈ V_2_10) : w ∈ lw_tbl := tb_t2 (by rw [vT_2]; exact List.mem_append_right _ (List.mem_append_right _ (List.mem_append_right _ (List.mem_append_right _ (List.mem_append_right _ (List.mem_append_right _ (List.mem_append_right _ (List.mem_append_right _ (List.mem_append_right _ (List.mem_append_right _ (List.mem_append_left _ h)))))))))))
theorem v_2_11 {w : Cond} (h : w ∈ V_2_11) : w ∈ lw_tbl := tb_t2 (by rw [vT_2]; exact List.mem_append_right _ (List.mem_append_right _ (List.mem_append_right _ (List.mem_append_right _ (List.mem_append_right _ (List.mem_append_right _ (List.mem_append_right _ (List.mem_append_right _ (List.mem_append_right _ (List.mem_append_right _ (List.mem_append_right _ (List.mem_append_left _ h))))))))))))
theorem v_2_12 {w : Cond} (h : w ∈ V_2_12) : w ∈ lw_tbl := tb_t2 (by rw [vT_2]; exact List.mem_append_right _ (List.mem_append_right _ (List.mem_append_right _ (List.mem_append_right _ (List.mem_append_right _ (List.mem_append_right _ (List.mem_append_right _ (List.mem_append_right _ (List.mem_append_right _ (List.mem_append_right _ (List.mem_append_right _ (List.mem_append_right _ (List.mem_append_left _ h)))))))))))))
theorem v_2_13 {w : Cond} (h : w ∈ V_2_13) : w ∈ lw_tbl := tb_t2 (by rw [vT_2]; exact List.mem_append_right _ (List.mem_append_right _ (List.mem_append_right _ (List.mem_append_right _ (List.mem_append_right _ (List.mem_append_right _ (List.mem_append_right _ (List.mem_append_right _ (List.mem_append_right _ (List.mem_append_right _ (List.mem_append_right _ (List.mem_append_right _ (List.mem_append_right _ (List.mem_append_left _ h))))))))))))))
theorem v_2_14 {w : Cond} (h : w ∈ V_2_14) : w ∈ lw_tbl := tb_t2 (by rw [vT_2]; exact List.mem_append_right _ (List.mem_append_right _ (List.mem_append_right _ (List.mem_append_right _ (List.mem_append_right _ (List.mem_append_right _ (List.mem_append_right _ (List.mem_append_right _ (List.mem_append_right _ (List.mem_append_right _ (List.mem_append_right _ (List.mem_append_right _ (List.mem_append_right _ (List.mem_append_right _ (h)))))))))))))))
def V_3_0 : List Cond := [(Cond.code yX11_tried prog_1_method_12_code (3) (Option.some FieldType.int)), (Cond.methodLink "ForgetSchool" (183) yX11_canBeTried), (Cond.privateMethod yX11_canBeTried), (Cond.instanceMethod yX11_canBeTried), (Cond.code yX11_canBeTried prog_1_method_45_code (3) (Option.some FieldType.boolean)), (Cond.methodLink "ForgetSchool" (186) yX11_beginTrial), (Cond.privateMethod yX11_beginTrial), (Cond.instanceMethod yX11_beginTrial), (Cond.code yX11_beginTrial prog_1_method_46_code (2) none), (Cond.methodLink "ForgetSchool" (319) yX7_become), (Cond.instanceMethod yX7_become), (Cond.selects "ForgetSchool$Pupils" yX7_become yX7_become), (Cond.code yX7_become prog_9_method_2_code (4) none), (Cond.methodLink "ForgetSchool" (190) yX11_trialTells), (Cond.privateMethod yX11_trialTells), (Cond.instanceMethod yX11_trialTells)]
def V_3_1 : List Cond := [(Cond.code yX11_trialTells prog_1_method_47_code (2) (Option.some FieldType.int)), (Cond.methodLink "ForgetSchool" (203) yX7_known), (Cond.methodLink "ForgetSchool" (206) yJ6_bitCount_0f7a4), (Cond.methodLink "ForgetSchool" (331) yX7_knowing), (Cond.instanceMethod yX7_knowing), (Cond.selects "ForgetSchool$Pupils" yX7_knowing yX7_knowing), (Cond.code yX7_knowing prog_9_method_7_code (4) (Option.some FieldType.int)), (Cond.methodLinkNest "ForgetSchool$Pupils" (39) yX11_has "ForgetSchool"), (Cond.methodLink "ForgetSchoolLaw" (62) yX11_other), (Cond.instanceMethod yX11_other), (Cond.selects "ForgetSchool" yX11_other yX11_other), (Cond.code yX11_other prog_1_method_13_code (3) (Option.some FieldType.int)), (Cond.methodLink "ForgetSchoolLaw" (66) yX11_copy), (Cond.instanceMethod yX11_copy), (Cond.selects "ForgetSchool" yX11_copy yX11_copy), (Cond.code yX11_copy prog_1_method_14_code (1) (Option.some FieldType.int))]
def V_3_2 : List Cond := [(Cond.methodLink "ForgetSchool" (194) yX3_become), (Cond.instanceMethod yX3_become), (Cond.selects "ForgetSchool$Law" yX3_become yX3_become), (Cond.code yX3_become prog_5_method_2_code (3) none), (Cond.methodLink "ForgetSchoolLaw" (71) yX11_first), (Cond.instanceMethod yX11_first), (Cond.selects "ForgetSchool" yX11_first yX11_first), (Cond.code yX11_first prog_1_method_15_code (6) (Option.some FieldType.int)), (Cond.methodLink "ForgetSchoolLaw" (76) yX11_does), (Cond.instanceMethod yX11_does), (Cond.selects "ForgetSchool" yX11_does yX11_does), (Cond.code yX11_does prog_1_method_16_code (3) (Option.some FieldType.int)), (Cond.methodLink "ForgetSchool" (199) yX2_doArt), (Cond.methodLink "ForgetSchoolLaw" (80) yX11_pupilIs), (Cond.instanceMethod yX11_pupilIs), (Cond.selects "ForgetSchool" yX11_pupilIs yX11_pupilIs)]
def V_3_3 : List Cond := [(Cond.code yX11_pupilIs prog_1_method_17_code (3) (Option.some FieldType.int)), (Cond.methodLink "ForgetSchool" (217) yX7_strongest), (Cond.instanceMethod yX7_strongest), (Cond.selects "ForgetSchool$Pupils" yX7_strongest yX7_strongest), (Cond.code yX7_strongest prog_9_method_5_code (5) (Option.some FieldType.int)), (Cond.methodLink "ForgetSchool" (220) yX7_together), (Cond.instanceMethod yX7_together), (Cond.selects "ForgetSchool$Pupils" yX7_together yX7_together), (Cond.code yX7_together prog_9_method_6_code (4) (Option.some FieldType.int)), (Cond.methodLink "ForgetSchoolLaw" (84) yX11_strength), (Cond.instanceMethod yX11_strength), (Cond.selects "ForgetSchool" yX11_strength yX11_strength), (Cond.code yX11_strength prog_1_method_18_code (3) (Option.some FieldType.int)), (Cond.methodLink "ForgetSchoolLaw" (88) yX11_heard), (Cond.instanceMethod yX11_heard), (Cond.selects "ForgetSchool" yX11_heard yX11_heard)]
def V_3_4 : List Cond := [(Cond.code yX11_heard prog_1_method_19_code (3) (Option.some FieldType.int)), (Cond.methodLink "ForgetSchool" (223) yX5_sound), (Cond.methodLink "ForgetSchoolLaw" (92) yX11_order), (Cond.instanceMethod yX11_order), (Cond.selects "ForgetSchool" yX11_order yX11_order), (Cond.code yX11_order prog_1_method_20_code (7) (Option.some FieldType.int)), (Cond.methodLink "ForgetSchool" (227) yX11_areOf), (Cond.static yX11_areOf), (Cond.code yX11_areOf prog_1_method_41_code (2) (Option.some FieldType.boolean)), (Cond.methodLink "ForgetSchool" (230) yX8_find), (Cond.instanceMethod yX8_find), (Cond.selects "ForgetSchool$Search" yX8_find yX8_find), (Cond.code yX8_find prog_10_method_2_code (9) (Option.some FieldType.int)), (Cond.methodLink "ForgetSchool$Search" (47) yX7_known), (Cond.methodLink "ForgetSchool$Search" (51) yX8_fits), (Cond.static yX8_fits)]
def V_3_5 : List Cond := [(Cond.code yX8_fits prog_10_method_3_code (3) (Option.some FieldType.boolean)), (Cond.methodLinkNest "ForgetSchool$Search" (79) yX11_areOf "ForgetSchool"), (Cond.methodLink "ForgetSchool$Search" (55) yX8_add), (Cond.privateMethod yX8_add), (Cond.instanceMethod yX8_add), (Cond.code yX8_add prog_10_method_4_code (10) none), (Cond.methodLink "ForgetSchool$Search" (82) yX8_packed), (Cond.static yX8_packed), (Cond.code yX8_packed prog_10_method_5_code (5) (Option.some FieldType.long)), (Cond.methodLinkNest "ForgetSchool$Search" (59) yX11_has "ForgetSchool"), (Cond.methodLink "ForgetSchool$Search" (63) yX8_unpack), (Cond.privateMethod yX8_unpack), (Cond.instanceMethod yX8_unpack), (Cond.code yX8_unpack prog_10_method_6_code (5) none), (Cond.constantLong "ForgetSchool$Search" (86) (127)), (Cond.methodLink "ForgetSchool$Search" (71) yX2_turn)]
def V_3_6 : List Cond := [(Cond.instanceMethod yX2_turn), (Cond.selects "ForgetSchool$Course" yX2_turn yX2_turn), (Cond.code yX2_turn prog_4_method_11_code (3) none), (Cond.methodLink "ForgetSchool$Search" (75) yX8_write), (Cond.privateMethod yX8_write), (Cond.instanceMethod yX8_write), (Cond.code yX8_write prog_10_method_7_code (6) (Option.some FieldType.int)), (Cond.methodLink "ForgetSchool$Search" (88) yJ9_min_7cf53), (Cond.methodLink "ForgetSchoolLaw" (96) yX11_still), (Cond.instanceMethod yX11_still), (Cond.selects "ForgetSchool" yX11_still yX11_still), (Cond.code yX11_still prog_1_method_21_code (5) (Option.some FieldType.int)), (Cond.methodLink "ForgetSchool" (237) yX2_timesTillRest), (Cond.instanceMethod yX2_timesTillRest), (Cond.selects "ForgetSchool$Course" yX2_timesTillRest yX2_timesTillRest), (Cond.code yX2_timesTillRest prog_4_method_12_code (9) (Option.some FieldType.int))]
def V_3_7 : List Cond := [(Cond.methodLink "ForgetSchool$Course" (153) yX8_packed), (Cond.methodLink "ForgetSchool$Course" (159) yX2_turn), (Cond.methodLink "ForgetSchoolLaw" (100) yX11_cut), (Cond.instanceMethod yX11_cut), (Cond.selects "ForgetSchool" yX11_cut yX11_cut), (Cond.code yX11_cut prog_1_method_22_code (5) (Option.some FieldType.int)), (Cond.methodLink "ForgetSchool" (240) yX5_fewestBetween), (Cond.instanceMethod yX5_fewestBetween), (Cond.selects "ForgetSchool$Net" yX5_fewestBetween yX5_fewestBetween), (Cond.code yX5_fewestBetween prog_7_method_5_code (6) (Option.some FieldType.int)), (Cond.methodLinkNest "ForgetSchool$Net" (32) yX11_areOf "ForgetSchool"), (Cond.methodLink "ForgetSchool$Net" (35) yJ6_bitCount_0f7a4), (Cond.methodLink "ForgetSchool$Net" (40) yX5_reached), (Cond.instanceMethod yX5_reached), (Cond.selects "ForgetSchool$Net" yX5_reached yX5_reached), (Cond.code yX5_reached prog_7_method_4_code (8) (Option.some FieldType.int))]
def V_3_8 : List Cond := [(Cond.methodLink "ForgetSchool$Net" (24) yX5_linked), (Cond.instanceMethod yX5_linked), (Cond.selects "ForgetSchool$Net" yX5_linked yX5_linked), (Cond.code yX5_linked prog_7_method_3_code (4) (Option.some FieldType.int)), (Cond.methodLinkNest "ForgetSchool$Net" (28) yX11_has "ForgetSchool"), (Cond.methodLink "ForgetSchoolLaw" (104) yX11_recalls), (Cond.instanceMethod yX11_recalls), (Cond.selects "ForgetSchool" yX11_recalls yX11_recalls), (Cond.code yX11_recalls prog_1_method_23_code (2) (Option.some FieldType.int)), (Cond.methodLink "ForgetSchool" (244) yX5_reached), (Cond.methodLink "ForgetSchoolLaw" (108) yX11_root), (Cond.instanceMethod yX11_root), (Cond.selects "ForgetSchool" yX11_root yX11_root), (Cond.code yX11_root prog_1_method_24_code (5) (Option.some FieldType.int)), (Cond.methodLink "ForgetSchoolLaw" (112) yX11_kin), (Cond.instanceMethod yX11_kin)]
def V_3_9 : List Cond := [(Cond.selects "ForgetSchool" yX11_kin yX11_kin), (Cond.code yX11_kin prog_1_method_25_code (2) (Option.some FieldType.int)), (Cond.methodLink "ForgetSchool" (247) yX5_groups), (Cond.instanceMethod yX5_groups), (Cond.selects "ForgetSchool$Net" yX5_groups yX5_groups), (Cond.code yX5_groups prog_7_method_7_code (3) (Option.some FieldType.int)), (Cond.methodLink "ForgetSchool$Net" (44) yX5_group), (Cond.instanceMethod yX5_group), (Cond.selects "ForgetSchool$Net" yX5_group yX5_group), (Cond.code yX5_group prog_7_method_6_code (5) (Option.some FieldType.int)), (Cond.methodLinkNest "ForgetSchool$Net" (47) yX11_lowestBit "ForgetSchool"), (Cond.static yX11_lowestBit), (Cond.code yX11_lowestBit prog_1_method_42_code (1) (Option.some FieldType.int)), (Cond.methodLink "ForgetSchool" (251) yX5_group), (Cond.methodLink "ForgetSchoolLaw" (116) yX11_questions), (Cond.instanceMethod yX11_questions)]
def V_3_10 : List Cond := [(Cond.selects "ForgetSchool" yX11_questions yX11_questions), (Cond.code yX11_questions prog_1_method_26_code (4) (Option.some FieldType.int)), (Cond.methodLink "ForgetSchool" (254) yX11_areSome), (Cond.privateMethod yX11_areSome), (Cond.instanceMethod yX11_areSome), (Cond.code yX11_areSome prog_1_method_44_code (2) (Option.some FieldType.boolean)), (Cond.methodLink "ForgetSchool" (258) yX7_apart), (Cond.instanceMethod yX7_apart), (Cond.selects "ForgetSchool$Pupils" yX7_apart yX7_apart), (Cond.code yX7_apart prog_9_method_8_code (5) (Option.some FieldType.boolean)), (Cond.methodLink "ForgetSchool$Pupils" (43) yX7_known), (Cond.methodLink "ForgetSchool" (261) yX11_fewestQuestions), (Cond.privateMethod yX11_fewestQuestions), (Cond.instanceMethod yX11_fewestQuestions), (Cond.code yX11_fewestQuestions prog_1_method_48_code (4) (Option.some FieldType.int)), (Cond.methodLink "ForgetSchoolLaw" (120) yX11_reminds)]
def V_3_11 : List Cond := [(Cond.instanceMethod yX11_reminds), (Cond.selects "ForgetSchool" yX11_reminds yX11_reminds), (Cond.code yX11_reminds prog_1_method_27_code (4) (Option.some FieldType.boolean)), (Cond.methodLink "ForgetSchoolLaw" (124) yX11_parted), (Cond.instanceMethod yX11_parted), (Cond.selects "ForgetSchool" yX11_parted yX11_parted), (Cond.code yX11_parted prog_1_method_28_code (4) (Option.some FieldType.int)), (Cond.methodLink "ForgetSchool" (267) yX9_calmestRoom), (Cond.instanceMethod yX9_calmestRoom), (Cond.selects "ForgetSchool$Staff" yX9_calmestRoom yX9_calmestRoom), (Cond.code yX9_calmestRoom prog_11_method_3_code (7) (Option.some FieldType.int)), (Cond.methodLinkNest "ForgetSchool$Staff" (34) yX11_lowestBit "ForgetSchool"), (Cond.methodLink "ForgetSchool$Staff" (38) yX9_noise), (Cond.instanceMethod yX9_noise), (Cond.selects "ForgetSchool$Staff" yX9_noise yX9_noise), (Cond.code yX9_noise prog_11_method_2_code (5) (Option.some FieldType.int))]
def V_3_12 : List Cond := [(Cond.methodLinkNest "ForgetSchool$Staff" (30) yX11_has "ForgetSchool"), (Cond.methodLinkNest "ForgetSchool$Staff" (41) yX11_areOf "ForgetSchool"), (Cond.methodLink "ForgetSchool" (270) yX9_noise), (Cond.methodLink "ForgetSchoolLaw" (128) yX11_skill), (Cond.instanceMethod yX11_skill), (Cond.selects "ForgetSchool" yX11_skill yX11_skill), (Cond.code yX11_skill prog_1_method_29_code (4) (Option.some FieldType.boolean)), (Cond.methodLink "ForgetSchoolLaw" (132) yX11_taught), (Cond.instanceMethod yX11_taught), (Cond.selects "ForgetSchool" yX11_taught yX11_taught), (Cond.code yX11_taught prog_1_method_30_code (5) (Option.some FieldType.int)), (Cond.methodLink "ForgetSchool" (279) yX9_assign), (Cond.instanceMethod yX9_assign), (Cond.selects "ForgetSchool$Staff" yX9_assign yX9_assign), (Cond.code yX9_assign prog_11_method_4_code (8) (Option.some FieldType.int)), (Cond.methodLink "ForgetSchool$Staff" (44) yJ6_bitCount_0f7a4)]
def V_3_13 : List Cond := [(Cond.methodLink "ForgetSchool$Staff" (49) yJ9_min_7cf53), (Cond.methodLink "ForgetSchool$Staff" (55) yX9_power), (Cond.static yX9_power), (Cond.code yX9_power prog_11_method_5_code (4) (Option.some FieldType.int)), (Cond.methodLink "ForgetSchool$Staff" (58) yX9_skillOf), (Cond.privateMethod yX9_skillOf), (Cond.instanceMethod yX9_skillOf), (Cond.code yX9_skillOf prog_11_method_6_code (10) (Option.some FieldType.int)), (Cond.methodLink "ForgetSchoolLaw" (136) yX11_hummed), (Cond.instanceMethod yX11_hummed), (Cond.selects "ForgetSchool" yX11_hummed yX11_hummed), (Cond.code yX11_hummed prog_1_method_31_code (8) (Option.some FieldType.int)), (Cond.methodLink "ForgetSchool" (285) yX10_holdsFacts), (Cond.instanceMethod yX10_holdsFacts), (Cond.selects "ForgetSchool$Tape" yX10_holdsFacts yX10_holdsFacts), (Cond.code yX10_holdsFacts prog_12_method_3_code (3) (Option.some FieldType.boolean))]
def V_3_14 : List Cond := [(Cond.methodLink "ForgetSchool" (288) yX10_asBits), (Cond.instanceMethod yX10_asBits), (Cond.selects "ForgetSchool$Tape" yX10_asBits yX10_asBits), (Cond.code yX10_asBits prog_12_method_4_code (4) (Option.some FieldType.int)), (Cond.methodLink "ForgetSchool" (291) yX5_between), (Cond.instanceMethod yX5_between), (Cond.selects "ForgetSchool$Net" yX5_between yX5_between), (Cond.code yX5_between prog_7_method_8_code (6) (Option.some FieldType.int)), (Cond.methodLink "ForgetSchoolLaw" (140) yX11_odds), (Cond.instanceMethod yX11_odds), (Cond.selects "ForgetSchool" yX11_odds yX11_odds), (Cond.code yX11_odds prog_1_method_32_code (6) (Option.some FieldType.int)), (Cond.methodLink "ForgetSchool" (295) yX6_begin), (Cond.instanceMethod yX6_begin), (Cond.selects "ForgetSchool$Odds" yX6_begin yX6_begin), (Cond.code yX6_begin prog_8_method_2_code (2) none)]
set_option maxRecDepth 100000 in
theorem vT_3 : tables_1_4 = V_3_0 ++ (V_3_1 ++ (V_3_2 ++ (V_3_3 ++ (V_3_4 ++ (V_3_5 ++ (V_3_6 ++ (V_3_7 ++ (V_3_8 ++ (V_3_9 ++ (V_3_10 ++ (V_3_11 ++ (V_3_12 ++ (V_3_13 ++ (V_3_14)))))))))))))) := by rfl
theorem v_3_0 {w : Cond} (h : w ∈ V_3_0) : w ∈ lw_tbl := tb_t3 (by rw [vT_3]; exact List.mem_append_left _ h)
theorem v_3_1 {w : Cond} (h : w ∈ V_3_1) : w ∈ lw_tbl := tb_t3 (by rw [vT_3]; exact List.mem_append_right _ (List.mem_append_left _ h))
theorem v_3_2 {w : Cond} (h : w ∈ V_3_2) : w ∈ lw_tbl := tb_t3 (by rw [vT_3]; exact List.mem_append_right _ (List.mem_append_right _ (List.mem_append_left _ h)))
theorem v_3_3 {w : Cond} (h : w ∈ V_3_3) : w ∈ lw_tbl := tb_t3 (by rw [vT_3]; exact List.mem_append_right _ (List.mem_append_right _ (List.mem_append_right _ (List.mem_append_left _ h))))
theorem v_3_4 {w : Cond} (h : w ∈ V_3_4) : w ∈ lw_tbl := tb_t3 (by rw [vT_3]; exact List.mem_append_right _ (List.mem_append_right _ (List.mem_append_right _ (List.mem_append_right _ (List.mem_append_left _ h)))))
theorem v_3_5 {w : Cond} (h : w ∈ V_3_5) : w ∈ lw_tbl := tb_t3 (by rw [vT_3]; exact List.mem_append_right _ (List.mem_append_right _ (List.mem_append_right _ (List.mem_append_right _ (List.mem_append_right _ (List.mem_append_left _ h))))))
theorem v_3_6 {w : Cond} (h : w ∈ V_3_6) : w ∈ lw_tbl := tb_t3 (by rw [vT_3]; exact List.mem_append_right _ (List.mem_append_right _ (List.mem_append_right _ (List.mem_append_right _ (List.mem_append_right _ (List.mem_append_right _ (List.mem_append_left _ h)))))))
theorem v_3_7 {w : Cond} (h : w ∈ V_3_7) : w ∈ lw_tbl := tb_t3 (by rw [vT_3]; exact List.mem_append_right _ (List.mem_append_right _ (List.mem_append_right _ (List.mem_append_right _ (List.mem_append_right _ (List.mem_append_right _ (List.mem_append_right _ (List.mem_append_left _ h))))))))
theorem v_3_8 {w : Cond} (h : w ∈ V_3_8) : w ∈ lw_tbl := tb_t3 (by rw [vT_3]; exact List.mem_append_right _ (List.mem_append_right _ (List.mem_append_right _ (List.mem_append_right _ (List.mem_append_right _ (List.mem_append_right _ (List.mem_append_right _ (List.mem_append_right _ (List.mem_append_left _ h)))))))))
theorem v_3_9 {w : Cond} (h : w ∈ V_3_9) : w ∈ lw_tbl := tb_t3 (by rw [vT_3]; exact List.mem_append_right _ (List.mem_append_right _ (List.mem_append_right _ (List.mem_append_right _ (List.mem_append_right _ (List.mem_append_right _ (List.mem_append_right _ (List.mem_append_right _ (List.mem_append_right _ (List.mem_append_left _ h))))))))))
theorem v_3_10 {w : Cond} (h : w ∈ V_3_10) : w ∈ lw_tbl := tb_t3 (by rw [vT_3]; exact List.mem_append_right _ (List.mem_append_right _ (List.mem_append_right _ (List.mem_append_right _ (List.mem_append_right _ (List.mem_append_right _ (List.mem_append_right _ (List.mem_append_right _ (List.mem_append_right _ (List.mem_append_right _ (List.mem_append_left _ h)))))))))))
theorem v_3_11 {w : Cond} (h : w ∈ V_3_11) : w ∈ lw_tbl := tb_t3 (by rw [vT_3]; exact List.mem_append_right _ (List.mem_append_right _ (List.mem_append_right _ (List.mem_append_right _ (List.mem_append_right _ (List.mem_append_right _ (List.mem_append_right _ (List.mem_append_right _ (List.mem_append_right _ (List.mem_append_right _ (List.mem_append_right _ (List.mem_append_left _ h))))))))))))
theorem v_3_12 {w : Cond} (h : w ∈ V_3_12) : w ∈ lw_tbl := tb_t3 (by rw [vT_3]; exact List.mem_append_right _ (List.mem_append_right _ (List.mem_append_right _ (List.mem_append_right _ (List.mem_append_right _ (List.mem_append_right _ (List.mem_append_right _ (List.mem_append_right _ (List.mem_append_right _ (List.mem_append_right _ (List.mem_append_right _ (List.mem_append_right _ (List.mem_append_left _ h)))))))))))))
theorem v_3_13 {w : Cond} (h : w ∈ V_3_13) : w ∈ lw_tbl := tb_t3 (by rw [vT_3]; exact List.mem_append_right _ (List.mem_append_right _ (List.mem_append_right _ (List.mem_append_right _ (List.mem_append_right _ (List.mem_append_right _ (List.mem_append_right _ (List.mem_append_right _ (List.mem_append_right _ (List.mem_append_right _ (List.mem_append_right _ (List.mem_append_right _ (List.mem_append_right _ (List.mem_append_left _ h))))))))))))))
theorem v_3_14 {w : Cond} (h : w ∈ V_3_14) : w ∈ lw_tbl := tb_t3 (by rw [vT_3]; exact List.mem_append_right _ (List.mem_append_right _ (List.mem_append_right _ (List.mem_append_right _ (List.mem_append_right _ (List.mem_append_right _ (List.mem_append_right _ (List.mem_append_right _ (List.mem_append_right _ (List.mem_append_right _ (List.mem_append_right _ (List.mem_append_right _ (List.mem_append_right _ (List.mem_append_right _ (h)))))))))))))))
def V_4_0 : List Cond := [(Cond.methodLink "ForgetSchool" (297) yX11_tenths), (Cond.methodLink "ForgetSchool" (300) yX6_ask), (Cond.instanceMethod yX6_ask), (Cond.selects "ForgetSchool$Odds" yX6_ask yX6_ask), (Cond.code yX6_ask prog_8_method_3_code (4) none), (Cond.methodLink "ForgetSchool" (303) yX6_shorten), (Cond.instanceMethod yX6_shorten), (Cond.selects "ForgetSchool$Odds" yX6_shorten yX6_shorten), (Cond.code yX6_shorten prog_8_method_4_code (3) none), (Cond.methodLink "ForgetSchool$Odds" (23) yX6_shortenBy), (Cond.privateMethod yX6_shortenBy), (Cond.instanceMethod yX6_shortenBy), (Cond.code yX6_shortenBy prog_8_method_5_code (2) none), (Cond.methodLink "ForgetSchoolLaw" (145) yX11_crib), (Cond.instanceMethod yX11_crib), (Cond.selects "ForgetSchool" yX11_crib yX11_crib)]
def V_4_1 : List Cond := [(Cond.code yX11_crib prog_1_method_33_code (7) (Option.some FieldType.int)), (Cond.methodLink "ForgetSchool" (312) yX2_recall), (Cond.methodLink "ForgetSchoolLaw" (149) yX11_seed), (Cond.instanceMethod yX11_seed), (Cond.selects "ForgetSchool" yX11_seed yX11_seed), (Cond.code yX11_seed prog_1_method_34_code (2) (Option.some FieldType.boolean)), (Cond.constant "ForgetSchool" (315) (65535)), (Cond.methodLink "ForgetSchoolLaw" (154) yX11_keep), (Cond.instanceMethod yX11_keep), (Cond.selects "ForgetSchool" yX11_keep yX11_keep), (Cond.code yX11_keep prog_1_method_35_code (1) (Option.some FieldType.int)), (Cond.methodLink "ForgetSchoolLaw" (158) yX11_undo), (Cond.instanceMethod yX11_undo), (Cond.selects "ForgetSchool" yX11_undo yX11_undo), (Cond.code yX11_undo prog_1_method_36_code (1) (Option.some FieldType.boolean)), (Cond.methodLink "ForgetSchoolLaw" (163) yX11_check)]
def V_4_2 : List Cond := [(Cond.instanceMethod yX11_check), (Cond.selects "ForgetSchool" yX11_check yX11_check), (Cond.code yX11_check prog_1_method_37_code (4) (Option.some FieldType.int)), (Cond.methodLink "ForgetSchoolLaw" (167) yX11_count), (Cond.instanceMethod yX11_count), (Cond.selects "ForgetSchool" yX11_count yX11_count), (Cond.code yX11_count prog_1_method_38_code (3) (Option.some FieldType.int)), (Cond.classLink "ForgetSchoolLaw" (10) "ForgetSchoolModel"), (Cond.instantiable "ForgetSchoolModel" (86)), (Cond.methodLink "ForgetSchoolLaw" (12) yX12_init), (Cond.instanceMethod yX12_init), (Cond.code yX12_init prog_14_method_1_code (2) none), (Cond.methodLink "ForgetSchoolModel" (1) ⟨"java/lang/Object", "<init>", "()V"⟩), (Cond.fieldLink "ForgetSchoolModel" (7) "ForgetSchoolModel" "tape" "[B"), (Cond.fieldLink "ForgetSchoolModel" (166) "ForgetSchoolModel" "taped" "I"), (Cond.fieldLink "ForgetSchoolModel" (13) "ForgetSchoolModel" "luck" "I")]
def V_4_3 : List Cond := [(Cond.fieldLink "ForgetSchoolModel" (173) "ForgetSchoolModel" "place" "I"), (Cond.fieldLink "ForgetSchoolModel" (176) "ForgetSchoolModel" "end" "I"), (Cond.fieldLink "ForgetSchoolModel" (179) "ForgetSchoolModel" "bad" "I"), (Cond.fieldLink "ForgetSchoolModel" (351) "ForgetSchoolModel" "clauses" "I"), (Cond.fieldLink "ForgetSchoolModel" (278) "ForgetSchoolModel" "codes" "I"), (Cond.fieldLink "ForgetSchoolModel" (284) "ForgetSchoolModel" "open" "I"), (Cond.fieldLink "ForgetSchoolModel" (281) "ForgetSchoolModel" "stacked" "I"), (Cond.fieldLink "ForgetSchoolModel" (17) "ForgetSchoolModel" "isFact" "[Z"), (Cond.fieldLink "ForgetSchoolModel" (21) "ForgetSchoolModel" "kindOf" "[I"), (Cond.fieldLink "ForgetSchoolModel" (25) "ForgetSchoolModel" "links" "[I"), (Cond.fieldLink "ForgetSchoolModel" (28) "ForgetSchoolModel" "isArt" "[Z"), (Cond.fieldLink "ForgetSchoolModel" (31) "ForgetSchoolModel" "artMany" "[I"), (Cond.fieldLink "ForgetSchoolModel" (34) "ForgetSchoolModel" "stepsOf" "[I"), (Cond.fieldLink "ForgetSchoolModel" (37) "ForgetSchoolModel" "newSteps" "[I"), (Cond.fieldLink "ForgetSchoolModel" (40) "ForgetSchoolModel" "artOf" "[I"), (Cond.fieldLink "ForgetSchoolModel" (227) "ForgetSchoolModel" "newMany" "I")]
def V_4_4 : List Cond := [(Cond.fieldLink "ForgetSchoolModel" (251) "ForgetSchoolModel" "openMany" "I"), (Cond.fieldLink "ForgetSchoolModel" (254) "ForgetSchoolModel" "isBegun" "Z"), (Cond.fieldLink "ForgetSchoolModel" (43) "ForgetSchoolModel" "openFrom" "[I"), (Cond.fieldLink "ForgetSchoolModel" (46) "ForgetSchoolModel" "openTimes" "[I"), (Cond.fieldLink "ForgetSchoolModel" (49) "ForgetSchoolModel" "openPlace" "[I"), (Cond.fieldLink "ForgetSchoolModel" (52) "ForgetSchoolModel" "clauseLetter" "[I"), (Cond.fieldLink "ForgetSchoolModel" (55) "ForgetSchoolModel" "sumFrom" "[I"), (Cond.fieldLink "ForgetSchoolModel" (58) "ForgetSchoolModel" "codeFrom" "[I"), (Cond.fieldLink "ForgetSchoolModel" (61) "ForgetSchoolModel" "codeTo" "[I"), (Cond.fieldLink "ForgetSchoolModel" (64) "ForgetSchoolModel" "code" "[I"), (Cond.fieldLink "ForgetSchoolModel" (67) "ForgetSchoolModel" "codeArg" "[I"), (Cond.fieldLink "ForgetSchoolModel" (70) "ForgetSchoolModel" "clauseMany" "[I"), (Cond.fieldLink "ForgetSchoolModel" (402) "ForgetSchoolModel" "lawNow" "I"), (Cond.fieldLink "ForgetSchoolModel" (362) "ForgetSchoolModel" "codeMany" "I"), (Cond.fieldLink "ForgetSchoolModel" (73) "ForgetSchoolModel" "newLetter" "[I"), (Cond.fieldLink "ForgetSchoolModel" (76) "ForgetSchoolModel" "newSum" "[I")]
def V_4_5 : List Cond := [(Cond.fieldLink "ForgetSchoolModel" (79) "ForgetSchoolModel" "newFrom" "[I"), (Cond.fieldLink "ForgetSchoolModel" (82) "ForgetSchoolModel" "newTo" "[I"), (Cond.fieldLink "ForgetSchoolModel" (85) "ForgetSchoolModel" "newCode" "[I"), (Cond.fieldLink "ForgetSchoolModel" (88) "ForgetSchoolModel" "newArg" "[I"), (Cond.fieldLink "ForgetSchoolModel" (339) "ForgetSchoolModel" "isOver" "Z"), (Cond.fieldLink "ForgetSchoolModel" (318) "ForgetSchoolModel" "isBehind" "Z"), (Cond.fieldLink "ForgetSchoolModel" (91) "ForgetSchoolModel" "stack" "[I"), (Cond.fieldLink "ForgetSchoolModel" (365) "ForgetSchoolModel" "asFact" "I"), (Cond.fieldLink "ForgetSchoolModel" (368) "ForgetSchoolModel" "asKind" "I"), (Cond.fieldLink "ForgetSchoolModel" (371) "ForgetSchoolModel" "asStrength" "I"), (Cond.fieldLink "ForgetSchoolModel" (374) "ForgetSchoolModel" "asPupil" "I"), (Cond.fieldLink "ForgetSchoolModel" (377) "ForgetSchoolModel" "asGrade" "I"), (Cond.fieldLink "ForgetSchoolModel" (380) "ForgetSchoolModel" "asAge" "I"), (Cond.fieldLink "ForgetSchoolModel" (383) "ForgetSchoolModel" "asKnown" "I"), (Cond.fieldLink "ForgetSchoolModel" (386) "ForgetSchoolModel" "asWeek" "I"), (Cond.fieldLink "ForgetSchoolModel" (94) "ForgetSchoolModel" "worths" "[I")]
def V_4_6 : List Cond := [(Cond.fieldLink "ForgetSchoolModel" (97) "ForgetSchoolModel" "isRefused" "[Z"), (Cond.fieldLink "ForgetSchoolModel" (100) "ForgetSchoolModel" "isPupil" "[Z"), (Cond.fieldLink "ForgetSchoolModel" (103) "ForgetSchoolModel" "gradeOf" "[I"), (Cond.fieldLink "ForgetSchoolModel" (106) "ForgetSchoolModel" "ages" "[I"), (Cond.fieldLink "ForgetSchoolModel" (109) "ForgetSchoolModel" "strengths" "[I"), (Cond.fieldLink "ForgetSchoolModel" (416) "ForgetSchoolModel" "week" "I"), (Cond.fieldLink "ForgetSchoolModel" (471) "ForgetSchoolModel" "passedMany" "I"), (Cond.fieldLink "ForgetSchoolModel" (486) "ForgetSchoolModel" "recalledMany" "I"), (Cond.fieldLink "ForgetSchoolModel" (428) "ForgetSchoolModel" "examSet" "I"), (Cond.fieldLink "ForgetSchoolModel" (431) "ForgetSchoolModel" "limitNow" "I"), (Cond.fieldLink "ForgetSchoolModel" (474) "ForgetSchoolModel" "passedThen" "I"), (Cond.fieldLink "ForgetSchoolModel" (477) "ForgetSchoolModel" "outThen" "I"), (Cond.fieldLink "ForgetSchoolModel" (489) "ForgetSchoolModel" "recalledThen" "I"), (Cond.fieldLink "ForgetSchoolModel" (468) "ForgetSchoolModel" "rememberedThen" "I"), (Cond.fieldLink "ForgetSchoolModel" (495) "ForgetSchoolModel" "firstWho" "I"), (Cond.fieldLink "ForgetSchoolModel" (498) "ForgetSchoolModel" "firstWhen" "I")]
def V_4_7 : List Cond := [(Cond.fieldLink "ForgetSchoolModel" (112) "ForgetSchoolModel" "asidePupil" "[Z"), (Cond.fieldLink "ForgetSchoolModel" (115) "ForgetSchoolModel" "asideGrade" "[I"), (Cond.fieldLink "ForgetSchoolModel" (118) "ForgetSchoolModel" "asideAge" "[I"), (Cond.fieldLink "ForgetSchoolModel" (121) "ForgetSchoolModel" "asideStrength" "[I"), (Cond.fieldLink "ForgetSchoolModel" (124) "ForgetSchoolModel" "asideWeek" "[I"), (Cond.fieldLink "ForgetSchoolModel" (127) "ForgetSchoolModel" "asidePassed" "[I"), (Cond.fieldLink "ForgetSchoolModel" (130) "ForgetSchoolModel" "asideRecalled" "[I"), (Cond.fieldLink "ForgetSchoolModel" (133) "ForgetSchoolModel" "asideLuck" "[I"), (Cond.fieldLink "ForgetSchoolModel" (603) "ForgetSchoolModel" "isKept" "Z"), (Cond.fieldLink "ForgetSchoolModel" (136) "ForgetSchoolModel" "own" "[I"), (Cond.fieldLink "ForgetSchoolModel" (139) "ForgetSchoolModel" "some" "[I"), (Cond.fieldLink "ForgetSchoolModel" (142) "ForgetSchoolModel" "rowNow" "[I"), (Cond.fieldLink "ForgetSchoolModel" (145) "ForgetSchoolModel" "bestRow" "[I"), (Cond.fieldLink "ForgetSchoolModel" (148) "ForgetSchoolModel" "before" "[I"), (Cond.fieldLink "ForgetSchoolModel" (151) "ForgetSchoolModel" "reminding" "[I"), (Cond.fieldLink "ForgetSchoolModel" (154) "ForgetSchoolModel" "isMaster" "[Z")]
def V_4_8 : List Cond := [(Cond.fieldLink "ForgetSchoolModel" (157) "ForgetSchoolModel" "skills" "[I"), (Cond.fieldLink "ForgetSchoolModel" (160) "ForgetSchoolModel" "taughtArts" "[I"), (Cond.fieldLink "ForgetSchoolModel" (163) "ForgetSchoolModel" "chances" "[I"), (Cond.laysFinal "ForgetSchoolModel" "ForgetSchoolModel" "tape" "[B"), (Cond.soleField "ForgetSchoolModel" "tape"), (Cond.lays "ForgetSchoolModel" "ForgetSchoolModel" "taped" "I"), (Cond.soleField "ForgetSchoolModel" "taped"), (Cond.lays "ForgetSchoolModel" "ForgetSchoolModel" "luck" "I"), (Cond.soleField "ForgetSchoolModel" "luck"), (Cond.lays "ForgetSchoolModel" "ForgetSchoolModel" "place" "I"), (Cond.soleField "ForgetSchoolModel" "place"), (Cond.lays "ForgetSchoolModel" "ForgetSchoolModel" "end" "I"), (Cond.soleField "ForgetSchoolModel" "end"), (Cond.lays "ForgetSchoolModel" "ForgetSchoolModel" "bad" "I"), (Cond.soleField "ForgetSchoolModel" "bad"), (Cond.lays "ForgetSchoolModel" "ForgetSchoolModel" "clauses" "I")]
def V_4_9 : List Cond := [(Cond.soleField "ForgetSchoolModel" "clauses"), (Cond.lays "ForgetSchoolModel" "ForgetSchoolModel" "codes" "I"), (Cond.soleField "ForgetSchoolModel" "codes"), (Cond.lays "ForgetSchoolModel" "ForgetSchoolModel" "open" "I"), (Cond.soleField "ForgetSchoolModel" "open"), (Cond.lays "ForgetSchoolModel" "ForgetSchoolModel" "stacked" "I"), (Cond.soleField "ForgetSchoolModel" "stacked"), (Cond.laysFinal "ForgetSchoolModel" "ForgetSchoolModel" "isFact" "[Z"), (Cond.soleField "ForgetSchoolModel" "isFact"), (Cond.laysFinal "ForgetSchoolModel" "ForgetSchoolModel" "kindOf" "[I"), (Cond.soleField "ForgetSchoolModel" "kindOf"), (Cond.laysFinal "ForgetSchoolModel" "ForgetSchoolModel" "links" "[I"), (Cond.soleField "ForgetSchoolModel" "links"), (Cond.laysFinal "ForgetSchoolModel" "ForgetSchoolModel" "isArt" "[Z"), (Cond.soleField "ForgetSchoolModel" "isArt"), (Cond.laysFinal "ForgetSchoolModel" "ForgetSchoolModel" "artMany" "[I")]
def V_4_10 : List Cond := [(Cond.soleField "ForgetSchoolModel" "artMany"), (Cond.laysFinal "ForgetSchoolModel" "ForgetSchoolModel" "stepsOf" "[I"), (Cond.soleField "ForgetSchoolModel" "stepsOf"), (Cond.laysFinal "ForgetSchoolModel" "ForgetSchoolModel" "newSteps" "[I"), (Cond.soleField "ForgetSchoolModel" "newSteps"), (Cond.laysFinal "ForgetSchoolModel" "ForgetSchoolModel" "artOf" "[I"), (Cond.soleField "ForgetSchoolModel" "artOf"), (Cond.lays "ForgetSchoolModel" "ForgetSchoolModel" "newMany" "I"), (Cond.soleField "ForgetSchoolModel" "newMany"), (Cond.lays "ForgetSchoolModel" "ForgetSchoolModel" "openMany" "I"), (Cond.soleField "ForgetSchoolModel" "openMany"), (Cond.lays "ForgetSchoolModel" "ForgetSchoolModel" "isBegun" "Z"), (Cond.soleField "ForgetSchoolModel" "isBegun"), (Cond.laysFinal "ForgetSchoolModel" "ForgetSchoolModel" "openFrom" "[I"), (Cond.soleField "ForgetSchoolModel" "openFrom"), (Cond.laysFinal "ForgetSchoolModel" "ForgetSchoolModel" "openTimes" "[I")]
def V_4_11 : List Cond := [(Cond.soleField "ForgetSchoolModel" "openTimes"), (Cond.laysFinal "ForgetSchoolModel" "ForgetSchoolModel" "openPlace" "[I"), (Cond.soleField "ForgetSchoolModel" "openPlace"), (Cond.laysFinal "ForgetSchoolModel" "ForgetSchoolModel" "clauseLetter" "[I"), (Cond.soleField "ForgetSchoolModel" "clauseLetter"), (Cond.laysFinal "ForgetSchoolModel" "ForgetSchoolModel" "sumFrom" "[I"), (Cond.soleField "ForgetSchoolModel" "sumFrom"), (Cond.laysFinal "ForgetSchoolModel" "ForgetSchoolModel" "codeFrom" "[I"), (Cond.soleField "ForgetSchoolModel" "codeFrom"), (Cond.laysFinal "ForgetSchoolModel" "ForgetSchoolModel" "codeTo" "[I"), (Cond.soleField "ForgetSchoolModel" "codeTo"), (Cond.laysFinal "ForgetSchoolModel" "ForgetSchoolModel" "code" "[I"), (Cond.soleField "ForgetSchoolModel" "code"), (Cond.laysFinal "ForgetSchoolModel" "ForgetSchoolModel" "codeArg" "[I"), (Cond.soleField "ForgetSchoolModel" "codeArg"), (Cond.laysFinal "ForgetSchoolModel" "ForgetSchoolModel" "clauseMany" "[I")]
def V_4_12 : List Cond := [(Cond.soleField "ForgetSchoolModel" "clauseMany"), (Cond.lays "ForgetSchoolModel" "ForgetSchoolModel" "lawNow" "I"), (Cond.soleField "ForgetSchoolModel" "lawNow"), (Cond.lays "ForgetSchoolModel" "ForgetSchoolModel" "codeMany" "I"), (Cond.soleField "ForgetSchoolModel" "codeMany"), (Cond.laysFinal "ForgetSchoolModel" "ForgetSchoolModel" "newLetter" "[I"), (Cond.soleField "ForgetSchoolModel" "newLetter"), (Cond.laysFinal "ForgetSchoolModel" "ForgetSchoolModel" "newSum" "[I"), (Cond.soleField "ForgetSchoolModel" "newSum"), (Cond.laysFinal "ForgetSchoolModel" "ForgetSchoolModel" "newFrom" "[I"), (Cond.soleField "ForgetSchoolModel" "newFrom"), (Cond.laysFinal "ForgetSchoolModel" "ForgetSchoolModel" "newTo" "[I"), (Cond.soleField "ForgetSchoolModel" "newTo"), (Cond.laysFinal "ForgetSchoolModel" "ForgetSchoolModel" "newCode" "[I"), (Cond.soleField "ForgetSchoolModel" "newCode"), (Cond.laysFinal "ForgetSchoolModel" "ForgetSchoolModel" "newArg" "[I")]
def V_4_13 : List Cond := [(Cond.soleField "ForgetSchoolModel" "newArg"), (Cond.lays "ForgetSchoolModel" "ForgetSchoolModel" "isOver" "Z"), (Cond.soleField "ForgetSchoolModel" "isOver"), (Cond.lays "ForgetSchoolModel" "ForgetSchoolModel" "isBehind" "Z"), (Cond.soleField "ForgetSchoolModel" "isBehind"), (Cond.laysFinal "ForgetSchoolModel" "ForgetSchoolModel" "stack" "[I"), (Cond.soleField "ForgetSchoolModel" "stack"), (Cond.lays "ForgetSchoolModel" "ForgetSchoolModel" "asFact" "I"), (Cond.soleField "ForgetSchoolModel" "asFact"), (Cond.lays "ForgetSchoolModel" "ForgetSchoolModel" "asKind" "I"), (Cond.soleField "ForgetSchoolModel" "asKind"), (Cond.lays "ForgetSchoolModel" "ForgetSchoolModel" "asStrength" "I"), (Cond.soleField "ForgetSchoolModel" "asStrength"), (Cond.lays "ForgetSchoolModel" "ForgetSchoolModel" "asPupil" "I"), (Cond.soleField "ForgetSchoolModel" "asPupil"), (Cond.lays "ForgetSchoolModel" "ForgetSchoolModel" "asGrade" "I")]
def V_4_14 : List Cond := [(Cond.soleField "ForgetSchoolModel" "asGrade"), (Cond.lays "ForgetSchoolModel" "ForgetSchoolModel" "asAge" "I"), (Cond.soleField "ForgetSchoolModel" "asAge"), (Cond.lays "ForgetSchoolModel" "ForgetSchoolModel" "asKnown" "I"), (Cond.soleField "ForgetSchoolModel" "asKnown"), (Cond.lays "ForgetSchoolModel" "ForgetSchoolModel" "asWeek" "I"), (Cond.soleField "ForgetSchoolModel" "asWeek"), (Cond.laysFinal "ForgetSchoolModel" "ForgetSchoolModel" "worths" "[I"), (Cond.soleField "ForgetSchoolModel" "worths"), (Cond.laysFinal "ForgetSchoolModel" "ForgetSchoolModel" "isRefused" "[Z"), (Cond.soleField "ForgetSchoolModel" "isRefused"), (Cond.laysFinal "ForgetSchoolModel" "ForgetSchoolModel" "isPupil" "[Z"), (Cond.soleField "ForgetSchoolModel" "isPupil"), (Cond.laysFinal "ForgetSchoolModel" "ForgetSchoolModel" "gradeOf" "[I"), (Cond.soleField "ForgetSchoolModel" "gradeOf"), (Cond.laysFinal "ForgetSchoolModel" "ForgetSchoolModel" "ages" "[I")]
set_option maxRecDepth 100000 in
theorem vT_4 : tables_1_5 = V_4_0 ++ (V_4_1 ++ (V_4_2 ++ (V_4_3 ++ (V_4_4 ++ (V_4_5 ++ (V_4_6 ++ (V_4_7 ++ (V_4_8 ++ (V_4_9 ++ (V_4_10 ++ (V_4_11 ++ (V_4_12 ++ (V_4_13 ++ (V_4_14)))))))))))))) := by rfl
theorem v_4_0 {w : Cond} (h : w ∈ V_4_0) : w ∈ lw_tbl := tb_t4 (by rw [vT_4]; exact List.mem_append_left _ h)
theorem v_4_1 {w : Cond} (h : w ∈ V_4_1) : w ∈ lw_tbl := tb_t4 (by rw [vT_4]; exact List.mem_append_right _ (List.mem_append_left _ h))
theorem v_4_2 {w : Cond} (h : w ∈ V_4_2) : w ∈ lw_tbl := tb_t4 (by rw [vT_4]; exact List.mem_append_right _ (List.mem_append_right _ (List.mem_append_left _ h)))
theorem v_4_3 {w : Cond} (h : w ∈ V_4_3) : w ∈ lw_tbl := tb_t4 (by rw [vT_4]; exact List.mem_append_right _ (List.mem_append_right _ (List.mem_append_right _ (List.mem_append_left _ h))))
theorem v_4_4 {w : Cond} (h : w ∈ V_4_4) : w ∈ lw_tbl := tb_t4 (by rw [vT_4]; exact List.mem_append_right _ (List.mem_append_right _ (List.mem_append_right _ (List.mem_append_right _ (List.mem_append_left _ h)))))
theorem v_4_5 {w : Cond} (h : w ∈ V_4_5) : w ∈ lw_tbl := tb_t4 (by rw [vT_4]; exact List.mem_append_right _ (List.mem_append_right _ (List.mem_append_right _ (List.mem_append_right _ (List.mem_append_right _ (List.mem_append_left _ h))))))
theorem v_4_6 {w : Cond} (h : w ∈ V_4_6) : w ∈ lw_tbl := tb_t4 (by rw [vT_4]; exact List.mem_append_right _ (List.mem_append_right _ (List.mem_append_right _ (List.mem_append_right _ (List.mem_append_right _ (List.mem_append_right _ (List.mem_append_left _ h)))))))
theorem v_4_7 {w : Cond} (h : w ∈ V_4_7) : w ∈ lw_tbl := tb_t4 (by rw [vT_4]; exact List.mem_append_right _ (List.mem_append_right _ (List.mem_append_right _ (List.mem_append_right _ (List.mem_append_right _ (List.mem_append_right _ (List.mem_append_right _ (List.mem_append_left _ h))))))))
theorem v_4_8 {w : Cond} (h : w ∈ V_4_8) : w ∈ lw_tbl := tb_t4 (by rw [vT_4]; exact List.mem_append_right _ (List.mem_append_right _ (List.mem_append_right _ (List.mem_append_right _ (List.mem_append_right _ (List.mem_append_right _ (List.mem_append_right _ (List.mem_append_right _ (List.mem_append_left _ h)))))))))
theorem v_4_9 {w : Cond} (h : w ∈ V_4_9) : w ∈ lw_tbl := tb_t4 (by rw [vT_4]; exact List.mem_append_right _ (List.mem_append_right _ (List.mem_append_right _ (List.mem_append_right _ (List.mem_append_right _ (List.mem_append_right _ (List.mem_append_right _ (List.mem_append_right _ (List.mem_append_right _ (List.mem_append_left _ h))))))))))
theorem v_4_10 {w : Cond} (h : w ∈ V_4_10) : w ∈ lw_tbl := tb_t4 (by rw [vT_4]; exact List.mem_append_right _ (List.mem_append_right _ (List.mem_append_right _ (List.mem_append_right _ (List.mem_append_right _ (List.mem_append_right _ (List.mem_append_right _ (List.mem_append_right _ (List.mem_append_right _ (List.mem_append_right _ (List.mem_append_left _ h)))))))))))
theorem v_4_11 {w : Cond} (h : w ∈ V_4_11) : w ∈ lw_tbl := tb_t4 (by rw [vT_4]; exact List.mem_append_right _ (List.mem_append_right _ (List.mem_append_right _ (List.mem_append_right _ (List.mem_append_right _ (List.mem_append_right _ (List.mem_append_right _ (List.mem_append_right _ (List.mem_append_right _ (List.mem_append_right _ (List.mem_append_right _ (List.mem_append_left _ h))))))))))))
theorem v_4_12 {w : Cond} (h : w ∈ V_4_12) : w ∈ lw_tbl := tb_t4 (by rw [vT_4]; exact List.mem_append_right _ (List.mem_append_right _ (List.mem_append_right _ (List.mem_append_right _ (List.mem_append_right _ (List.mem_append_right _ (List.mem_append_right _ (List.mem_append_right _ (List.mem_append_right _ (List.mem_append_right _ (List.mem_append_right _ (List.mem_append_right _ (List.mem_append_left _ h)))))))))))))
theorem v_4_13 {w : Cond} (h : w ∈ V_4_13) : w ∈ lw_tbl := tb_t4 (by rw [vT_4]; exact List.mem_append_right _ (List.mem_append_right _ (List.mem_append_right _ (List.mem_append_right _ (List.mem_append_right _ (List.mem_append_right _ (List.mem_append_right _ (List.mem_append_right _ (List.mem_append_right _ (List.mem_append_right _ (List.mem_append_right _ (List.mem_append_right _ (List.mem_append_right _ (List.mem_append_left _ h))))))))))))))
theorem v_4_14 {w : Cond} (h : w ∈ V_4_14) : w ∈ lw_tbl := tb_t4 (by rw [vT_4]; exact List.mem_append_right _ (List.mem_append_right _ (List.mem_append_right _ (List.mem_append_right _ (List.mem_append_right _ (List.mem_append_right _ (List.mem_append_right _ (List.mem_append_right _ (List.mem_append_right _ (List.mem_append_right _ (List.mem_append_right _ (List.mem_append_right _ (List.mem_append_right _ (List.mem_append_right _ (h)))))))))))))))
def V_5_0 : List Cond := [(Cond.soleField "ForgetSchoolModel" "ages"), (Cond.laysFinal "ForgetSchoolModel" "ForgetSchoolModel" "strengths" "[I"), (Cond.soleField "ForgetSchoolModel" "strengths"), (Cond.lays "ForgetSchoolModel" "ForgetSchoolModel" "week" "I"), (Cond.soleField "ForgetSchoolModel" "week"), (Cond.lays "ForgetSchoolModel" "ForgetSchoolModel" "passedMany" "I"), (Cond.soleField "ForgetSchoolModel" "passedMany"), (Cond.lays "ForgetSchoolModel" "ForgetSchoolModel" "recalledMany" "I"), (Cond.soleField "ForgetSchoolModel" "recalledMany"), (Cond.lays "ForgetSchoolModel" "ForgetSchoolModel" "examSet" "I"), (Cond.soleField "ForgetSchoolModel" "examSet"), (Cond.lays "ForgetSchoolModel" "ForgetSchoolModel" "limitNow" "I"), (Cond.soleField "ForgetSchoolModel" "limitNow"), (Cond.lays "ForgetSchoolModel" "ForgetSchoolModel" "passedThen" "I"), (Cond.soleField "ForgetSchoolModel" "passedThen"), (Cond.lays "ForgetSchoolModel" "ForgetSchoolModel" "outThen" "I")]
def V_5_1 : List Cond := [(Cond.soleField "ForgetSchoolModel" "outThen"), (Cond.lays "ForgetSchoolModel" "ForgetSchoolModel" "recalledThen" "I"), (Cond.soleField "ForgetSchoolModel" "recalledThen"), (Cond.lays "ForgetSchoolModel" "ForgetSchoolModel" "rememberedThen" "I"), (Cond.soleField "ForgetSchoolModel" "rememberedThen"), (Cond.lays "ForgetSchoolModel" "ForgetSchoolModel" "firstWho" "I"), (Cond.soleField "ForgetSchoolModel" "firstWho"), (Cond.lays "ForgetSchoolModel" "ForgetSchoolModel" "firstWhen" "I"), (Cond.soleField "ForgetSchoolModel" "firstWhen"), (Cond.laysFinal "ForgetSchoolModel" "ForgetSchoolModel" "asidePupil" "[Z"), (Cond.soleField "ForgetSchoolModel" "asidePupil"), (Cond.laysFinal "ForgetSchoolModel" "ForgetSchoolModel" "asideGrade" "[I"), (Cond.soleField "ForgetSchoolModel" "asideGrade"), (Cond.laysFinal "ForgetSchoolModel" "ForgetSchoolModel" "asideAge" "[I"), (Cond.soleField "ForgetSchoolModel" "asideAge"), (Cond.laysFinal "ForgetSchoolModel" "ForgetSchoolModel" "asideStrength" "[I")]
def V_5_2 : List Cond := [(Cond.soleField "ForgetSchoolModel" "asideStrength"), (Cond.laysFinal "ForgetSchoolModel" "ForgetSchoolModel" "asideWeek" "[I"), (Cond.soleField "ForgetSchoolModel" "asideWeek"), (Cond.laysFinal "ForgetSchoolModel" "ForgetSchoolModel" "asidePassed" "[I"), (Cond.soleField "ForgetSchoolModel" "asidePassed"), (Cond.laysFinal "ForgetSchoolModel" "ForgetSchoolModel" "asideRecalled" "[I"), (Cond.soleField "ForgetSchoolModel" "asideRecalled"), (Cond.laysFinal "ForgetSchoolModel" "ForgetSchoolModel" "asideLuck" "[I"), (Cond.soleField "ForgetSchoolModel" "asideLuck"), (Cond.lays "ForgetSchoolModel" "ForgetSchoolModel" "isKept" "Z"), (Cond.soleField "ForgetSchoolModel" "isKept"), (Cond.laysFinal "ForgetSchoolModel" "ForgetSchoolModel" "own" "[I"), (Cond.soleField "ForgetSchoolModel" "own"), (Cond.laysFinal "ForgetSchoolModel" "ForgetSchoolModel" "some" "[I"), (Cond.soleField "ForgetSchoolModel" "some"), (Cond.laysFinal "ForgetSchoolModel" "ForgetSchoolModel" "rowNow" "[I")]
def V_5_3 : List Cond := [(Cond.soleField "ForgetSchoolModel" "rowNow"), (Cond.laysFinal "ForgetSchoolModel" "ForgetSchoolModel" "bestRow" "[I"), (Cond.soleField "ForgetSchoolModel" "bestRow"), (Cond.laysFinal "ForgetSchoolModel" "ForgetSchoolModel" "before" "[I"), (Cond.soleField "ForgetSchoolModel" "before"), (Cond.laysFinal "ForgetSchoolModel" "ForgetSchoolModel" "reminding" "[I"), (Cond.soleField "ForgetSchoolModel" "reminding"), (Cond.laysFinal "ForgetSchoolModel" "ForgetSchoolModel" "isMaster" "[Z"), (Cond.soleField "ForgetSchoolModel" "isMaster"), (Cond.laysFinal "ForgetSchoolModel" "ForgetSchoolModel" "skills" "[I"), (Cond.soleField "ForgetSchoolModel" "skills"), (Cond.laysFinal "ForgetSchoolModel" "ForgetSchoolModel" "taughtArts" "[I"), (Cond.soleField "ForgetSchoolModel" "taughtArts"), (Cond.laysFinal "ForgetSchoolModel" "ForgetSchoolModel" "chances" "[I"), (Cond.soleField "ForgetSchoolModel" "chances"), (Cond.superclass "ForgetSchoolModel" "java/lang/Object")]
def V_5_4 : List Cond := [(Cond.arrayClass FieldType.boolean), (Cond.methodLink "ForgetSchoolLaw" (35) yX12_feed), (Cond.instanceMethod yX12_feed), (Cond.selects "ForgetSchoolModel" yX12_feed yX12_feed), (Cond.code yX12_feed prog_14_method_8_code (6) (Option.some FieldType.int)), (Cond.methodLink "ForgetSchoolModel" (169) yX12_push), (Cond.privateMethod yX12_push), (Cond.instanceMethod yX12_push), (Cond.code yX12_push prog_14_method_7_code (3) none), (Cond.methodLink "ForgetSchoolLaw" (17) yX12_fact), (Cond.instanceMethod yX12_fact), (Cond.selects "ForgetSchoolModel" yX12_fact yX12_fact), (Cond.code yX12_fact prog_14_method_17_code (3) (Option.some FieldType.boolean)), (Cond.constantLong "ForgetSchoolModel" (194) (11)), (Cond.methodLink "ForgetSchoolModel" (190) yX12_lies), (Cond.static yX12_lies)]
def V_5_5 : List Cond := [(Cond.code yX12_lies prog_14_method_2_code (6) (Option.some FieldType.boolean)), (Cond.constantLong "ForgetSchoolModel" (196) (8)), (Cond.methodLink "ForgetSchoolLaw" (22) yX12_link), (Cond.instanceMethod yX12_link), (Cond.selects "ForgetSchoolModel" yX12_link yX12_link), (Cond.code yX12_link prog_14_method_18_code (4) (Option.some FieldType.boolean)), (Cond.methodLink "ForgetSchoolModel" (198) yX12_isTold), (Cond.privateMethod yX12_isTold), (Cond.instanceMethod yX12_isTold), (Cond.code yX12_isTold prog_14_method_15_code (2) (Option.some FieldType.boolean)), (Cond.constantLong "ForgetSchoolModel" (202) (9)), (Cond.methodLink "ForgetSchoolLaw" (107) yX12_recalls), (Cond.instanceMethod yX12_recalls), (Cond.selects "ForgetSchoolModel" yX12_recalls yX12_recalls), (Cond.code yX12_recalls prog_14_method_21_code (2) (Option.some FieldType.int)), (Cond.methodLink "ForgetSchoolModel" (212) yX12_reachOf)]
def V_5_6 : List Cond := [(Cond.privateMethod yX12_reachOf), (Cond.instanceMethod yX12_reachOf), (Cond.code yX12_reachOf prog_14_method_20_code (5) (Option.some FieldType.int)), (Cond.methodLink "ForgetSchoolModel" (208) yX12_comesTo), (Cond.privateMethod yX12_comesTo), (Cond.instanceMethod yX12_comesTo), (Cond.code yX12_comesTo prog_14_method_19_code (6) (Option.some FieldType.int)), (Cond.methodLink "ForgetSchoolModel" (204) yX12_has), (Cond.static yX12_has), (Cond.code yX12_has prog_14_method_3_code (2) (Option.some FieldType.boolean)), (Cond.methodLink "ForgetSchoolLaw" (111) yX12_root), (Cond.instanceMethod yX12_root), (Cond.selects "ForgetSchoolModel" yX12_root yX12_root), (Cond.code yX12_root prog_14_method_22_code (4) (Option.some FieldType.int)), (Cond.methodLink "ForgetSchoolModel" (215) yX12_sizeOf), (Cond.static yX12_sizeOf)]
def V_5_7 : List Cond := [(Cond.code yX12_sizeOf prog_14_method_4_code (3) (Option.some FieldType.int)), (Cond.methodLink "ForgetSchoolLaw" (115) yX12_kin), (Cond.instanceMethod yX12_kin), (Cond.selects "ForgetSchoolModel" yX12_kin yX12_kin), (Cond.code yX12_kin prog_14_method_24_code (4) (Option.some FieldType.int)), (Cond.methodLink "ForgetSchoolModel" (219) yX12_kinOf), (Cond.privateMethod yX12_kinOf), (Cond.instanceMethod yX12_kinOf), (Cond.code yX12_kinOf prog_14_method_23_code (4) (Option.some FieldType.int)), (Cond.methodLink "ForgetSchoolLaw" (103) yX12_cut), (Cond.instanceMethod yX12_cut), (Cond.selects "ForgetSchoolModel" yX12_cut yX12_cut), (Cond.code yX12_cut prog_14_method_25_code (7) (Option.some FieldType.int)), (Cond.methodLink "ForgetSchoolModel" (222) yX12_toldFacts), (Cond.privateMethod yX12_toldFacts), (Cond.instanceMethod yX12_toldFacts)]
def V_5_8 : List Cond := [(Cond.code yX12_toldFacts prog_14_method_16_code (3) (Option.some FieldType.int)), (Cond.methodLink "ForgetSchoolLaw" (40) yX12_art), (Cond.instanceMethod yX12_art), (Cond.selects "ForgetSchoolModel" yX12_art yX12_art), (Cond.code yX12_art prog_14_method_32_code (4) (Option.some FieldType.int)), (Cond.constantLong "ForgetSchoolModel" (225) (5)), (Cond.constantLong "ForgetSchoolModel" (268) (60)), (Cond.methodLink "ForgetSchoolModel" (270) yX12_begins), (Cond.privateMethod yX12_begins), (Cond.instanceMethod yX12_begins), (Cond.code yX12_begins prog_14_method_14_code (2) none), (Cond.methodLink "ForgetSchoolModel" (234) yX12_isGood), (Cond.privateMethod yX12_isGood), (Cond.instanceMethod yX12_isGood), (Cond.code yX12_isGood prog_14_method_12_code (1) (Option.some FieldType.boolean)), (Cond.methodLink "ForgetSchoolModel" (273) yX12_stepTold)]
def V_5_9 : List Cond := [(Cond.privateMethod yX12_stepTold), (Cond.instanceMethod yX12_stepTold), (Cond.code yX12_stepTold prog_14_method_31_code (5) none), (Cond.methodLink "ForgetSchoolModel" (182) yX12_here), (Cond.privateMethod yX12_here), (Cond.instanceMethod yX12_here), (Cond.code yX12_here prog_14_method_10_code (1) (Option.some FieldType.int)), (Cond.methodLink "ForgetSchoolModel" (258) yX12_repeats), (Cond.privateMethod yX12_repeats), (Cond.instanceMethod yX12_repeats), (Cond.code yX12_repeats prog_14_method_27_code (6) none), (Cond.methodLink "ForgetSchoolModel" (230) yX12_wrongs), (Cond.privateMethod yX12_wrongs), (Cond.instanceMethod yX12_wrongs), (Cond.code yX12_wrongs prog_14_method_11_code (3) none), (Cond.methodLink "ForgetSchoolModel" (262) yX12_timesTold)]
def V_5_10 : List Cond := [(Cond.privateMethod yX12_timesTold), (Cond.instanceMethod yX12_timesTold), (Cond.code yX12_timesTold prog_14_method_28_code (1) (Option.some FieldType.int)), (Cond.constantLong "ForgetSchoolModel" (238) (50)), (Cond.constantLong "ForgetSchoolModel" (188) (57)), (Cond.methodLink "ForgetSchoolModel" (265) yX12_stepHere), (Cond.privateMethod yX12_stepHere), (Cond.instanceMethod yX12_stepHere), (Cond.code yX12_stepHere prog_14_method_30_code (2) (Option.some FieldType.int)), (Cond.methodLink "ForgetSchoolModel" (244) yX12_seesFact), (Cond.privateMethod yX12_seesFact), (Cond.instanceMethod yX12_seesFact), (Cond.code yX12_seesFact prog_14_method_29_code (1) (Option.some FieldType.boolean)), (Cond.constantLong "ForgetSchoolModel" (240) (97)), (Cond.constantLong "ForgetSchoolModel" (242) (108)), (Cond.constantLong "ForgetSchoolModel" (247) (65))]
def V_5_11 : List Cond := [(Cond.constantLong "ForgetSchoolModel" (249) (73)), (Cond.methodLink "ForgetSchoolLaw" (49) yX12_grade), (Cond.instanceMethod yX12_grade), (Cond.selects "ForgetSchoolModel" yX12_grade yX12_grade), (Cond.code yX12_grade prog_14_method_33_code (3) (Option.some FieldType.boolean)), (Cond.constantLong "ForgetSchoolModel" (276) (-1)), (Cond.methodLink "ForgetSchoolLaw" (45) yX12_law), (Cond.instanceMethod yX12_law), (Cond.selects "ForgetSchoolModel" yX12_law yX12_law), (Cond.code yX12_law prog_14_method_54_code (4) (Option.some FieldType.int)), (Cond.constantLong "ForgetSchoolModel" (357) (240)), (Cond.methodLink "ForgetSchoolModel" (359) yX12_clause), (Cond.privateMethod yX12_clause), (Cond.instanceMethod yX12_clause), (Cond.code yX12_clause prog_14_method_53_code (2) none), (Cond.methodLink "ForgetSchoolModel" (348) yX12_isClause)]
def V_5_12 : List Cond := [(Cond.static yX12_isClause), (Cond.code yX12_isClause prog_14_method_52_code (1) (Option.some FieldType.boolean)), (Cond.methodLink "ForgetSchoolModel" (327) yX12_value), (Cond.privateMethod yX12_value), (Cond.instanceMethod yX12_value), (Cond.code yX12_value prog_14_method_48_code (2) none), (Cond.methodLink "ForgetSchoolModel" (321) yX12_factor), (Cond.privateMethod yX12_factor), (Cond.instanceMethod yX12_factor), (Cond.code yX12_factor prog_14_method_46_code (1) none), (Cond.methodLink "ForgetSchoolModel" (305) yX12_opens), (Cond.privateMethod yX12_opens), (Cond.instanceMethod yX12_opens), (Cond.code yX12_opens prog_14_method_37_code (1) none), (Cond.methodLink "ForgetSchoolModel" (287) yX12_puts), (Cond.privateMethod yX12_puts)]
def V_5_13 : List Cond := [(Cond.instanceMethod yX12_puts), (Cond.code yX12_puts prog_14_method_36_code (2) none), (Cond.methodLink "ForgetSchoolModel" (290) yX12_seesDigit), (Cond.privateMethod yX12_seesDigit), (Cond.instanceMethod yX12_seesDigit), (Cond.code yX12_seesDigit prog_14_method_13_code (1) (Option.some FieldType.boolean)), (Cond.constantLong "ForgetSchoolModel" (186) (48)), (Cond.methodLink "ForgetSchoolModel" (308) yX12_reads), (Cond.privateMethod yX12_reads), (Cond.instanceMethod yX12_reads), (Cond.code yX12_reads prog_14_method_38_code (3) (Option.some FieldType.int)), (Cond.methodLink "ForgetSchoolModel" (302) yX12_emit), (Cond.privateMethod yX12_emit), (Cond.instanceMethod yX12_emit), (Cond.code yX12_emit prog_14_method_34_code (3) none), (Cond.methodLink "ForgetSchoolModel" (311) yX12_isValue)]
def V_5_14 : List Cond := [(Cond.static yX12_isValue), (Cond.code yX12_isValue prog_14_method_42_code (1) (Option.some FieldType.boolean)), (Cond.methodLink "ForgetSchoolModel" (324) yX12_stays), (Cond.privateMethod yX12_stays), (Cond.instanceMethod yX12_stays), (Cond.code yX12_stays prog_14_method_47_code (2) (Option.some FieldType.boolean)), (Cond.methodLink "ForgetSchoolModel" (296) yX12_isTimes), (Cond.static yX12_isTimes), (Cond.code yX12_isTimes prog_14_method_39_code (1) (Option.some FieldType.boolean)), (Cond.methodLink "ForgetSchoolModel" (299) yX12_isPlus), (Cond.static yX12_isPlus), (Cond.code yX12_isPlus prog_14_method_40_code (1) (Option.some FieldType.boolean)), (Cond.methodLink "ForgetSchoolModel" (314) yX12_sums), (Cond.privateMethod yX12_sums), (Cond.instanceMethod yX12_sums), (Cond.code yX12_sums prog_14_method_43_code (2) none)]
set_option maxRecDepth 100000 in
theorem vT_5 : tables_1_6 = V_5_0 ++ (V_5_1 ++ (V_5_2 ++ (V_5_3 ++ (V_5_4 ++ (V_5_5 ++ (V_5_6 ++ (V_5_7 ++ (V_5_8 ++ (V_5_9 ++ (V_5_10 ++ (V_5_11 ++ (V_5_12 ++ (V_5_13 ++ (V_5_14)))))))))))))) := by rfl
theorem v_5_0 {w : Cond} (h : w ∈ V_5_0) : w ∈ lw_tbl := tb_t5 (by rw [vT_5]; exact List.mem_append_left _ h)
theorem v_5_1 {w : Cond} (h : w ∈ V_5_1) : w ∈ lw_tbl := tb_t5 (by rw [vT_5]; exact List.mem_append_right _ (List.mem_append_left _ h))
theorem v_5_2 {w : Cond} (h : w ∈ V_5_2) : w ∈ lw_tbl := tb_t5 (by rw [vT_5]; exact List.mem_append_right _ (List.mem_append_right _ (List.mem_append_left _ h)))
theorem v_5_3 {w : Cond} (h : w ∈ V_5_3) : w ∈ lw_tbl := tb_t5 (by rw [vT_5]; exact List.mem_append_right _ (List.mem_append_right _ (List.mem_append_right _ (List.mem_append_left _ h))))
theorem v_5_4 {w : Cond} (h : w ∈ V_5_4) : w ∈ lw_tbl := tb_t5 (by rw [vT_5]; exact List.mem_append_right _ (List.mem_append_right _ (List.mem_append_right _ (List.mem_append_right _ (List.mem_append_left _ h)))))
theorem v_5_5 {w : Cond} (h : w ∈ V_5_5) : w ∈ lw_tbl := tb_t5 (by rw [vT_5]; exact List.mem_append_right _ (List.mem_append_right _ (List.mem_append_right _ (List.mem_append_right _ (List.mem_append_right _ (List.mem_append_left _ h))))))
theorem v_5_6 {w : Cond} (h : w ∈ V_5_6) : w ∈ lw_tbl := tb_t5 (by rw [vT_5]; exact List.mem_append_right _ (List.mem_append_right _ (List.mem_append_right _ (List.mem_append_right _ (List.mem_append_right _ (List.mem_append_right _ (List.mem_append_left _ h)))))))
theorem v_5_7 {w : Cond} (h : w ∈ V_5_7) : w ∈ lw_tbl := tb_t5 (by rw [vT_5]; exact List.mem_append_right _ (List.mem_append_right _ (List.mem_append_right _ (List.mem_append_right _ (List.mem_append_right _ (List.mem_append_right _ (List.mem_append_right _ (List.mem_append_left _ h))))))))
theorem v_5_8 {w : Cond} (h : w ∈ V_5_8) : w ∈ lw_tbl := tb_t5 (by rw [vT_5]; exact List.mem_append_right _ (List.mem_append_right _ (List.mem_append_right _ (List.mem_append_right _ (List.mem_append_right _ (List.mem_append_right _ (List.mem_append_right _ (List.mem_append_right _ (List.mem_append_left _ h)))))))))
theorem v_5_9 {w : Cond} (h : w ∈ V_5_9) : w ∈ lw_tbl := tb_t5 (by rw [vT_5]; exact List.mem_append_right _ (List.mem_append_right _ (List.mem_append_right _ (List.mem_append_right _ (List.mem_append_right _ (List.mem_append_right _ (List.mem_append_right _ (List.mem_append_right _ (List.mem_append_right _ (List.mem_append_left _ h))))))))))
theorem v_5_10 {w : Cond} (h : w ∈ V_5_10) : w ∈ lw_tbl := tb_t5 (by rw [vT_5]; exact List.mem_append_right _ (List.mem_append_right _ (List.mem_append_right _ (List.mem_append_right _ (List.mem_append_right _ (List.mem_append_right _ (List.mem_append_right _ (List.mem_append_right _ (List.mem_append_right _ (List.mem_append_right _ (List.mem_append_left _ h)))))))))))
theorem v_5_11 {w : Cond} (h : w ∈ V_5_11) : w ∈ lw_tbl := tb_t5 (by rw [vT_5]; exact List.mem_append_right _ (List.mem_append_right _ (List.mem_append_right _ (List.mem_append_right _ (List.mem_append_right _ (List.mem_append_right _ (List.mem_append_right _ (List.mem_append_right _ (List.mem_append_right _ (List.mem_append_right _ (List.mem_append_right _ (List.mem_append_left _ h))))))))))))
theorem v_5_12 {w : Cond} (h : w ∈ V_5_12) : w ∈ lw_tbl := tb_t5 (by rw [vT_5]; exact List.mem_append_right _ (List.mem_append_right _ (List.mem_append_right _ (List.mem_append_right _ (List.mem_append_right _ (List.mem_append_right _ (List.mem_append_right _ (List.mem_append_right _ (List.mem_append_right _ (List.mem_append_right _ (List.mem_append_right _ (List.mem_append_right _ (List.mem_append_left _ h)))))))))))))
theorem v_5_13 {w : Cond} (h : w ∈ V_5_13) : w ∈ lw_tbl := tb_t5 (by rw [vT_5]; exact List.mem_append_right _ (List.mem_append_right _ (List.mem_append_right _ (List.mem_append_right _ (List.mem_append_right _ (List.mem_append_right _ (List.mem_append_right _ (List.mem_append_right _ (List.mem_append_right _ (List.mem_append_right _ (List.mem_append_right _ (List.mem_append_right _ (List.mem_append_right _ (List.mem_append_left _ h))))))))))))))
theorem v_5_14 {w : Cond} (h : w ∈ V_5_14) : w ∈ lw_tbl := tb_t5 (by rw [vT_5]; exact List.mem_append_right _ (List.mem_append_right _ (List.mem_append_right _ (List.mem_append_right _ (List.mem_append_right _ (List.mem_append_right _ (List.mem_append_right _ (List.mem_append_right _ (List.mem_append_right _ (List.mem_append_right _ (List.mem_append_right _ (List.mem_append_right _ (List.mem_append_right _ (List.mem_append_right _ (h)))))))))))))))
def V_6_0 : List Cond := [(Cond.methodLink "ForgetSchoolModel" (293) yX12_top), (Cond.privateMethod yX12_top), (Cond.instanceMethod yX12_top), (Cond.code yX12_top prog_14_method_35_code (1) (Option.some FieldType.int)), (Cond.methodLink "ForgetSchoolModel" (354) yX12_condition), (Cond.privateMethod yX12_condition), (Cond.instanceMethod yX12_condition), (Cond.code yX12_condition prog_14_method_51_code (2) none), (Cond.methodLink "ForgetSchoolModel" (342) yX12_pieceOfC), (Cond.privateMethod yX12_pieceOfC), (Cond.instanceMethod yX12_pieceOfC), (Cond.code yX12_pieceOfC prog_14_method_49_code (2) none), (Cond.methodLink "ForgetSchoolModel" (330) yX12_isCompared), (Cond.static yX12_isCompared), (Cond.code yX12_isCompared prog_14_method_41_code (1) (Option.some FieldType.boolean)), (Cond.methodLink "ForgetSchoolModel" (333) yX12_ends)]
def V_6_1 : List Cond := [(Cond.privateMethod yX12_ends), (Cond.instanceMethod yX12_ends), (Cond.code yX12_ends prog_14_method_45_code (1) none), (Cond.methodLink "ForgetSchoolModel" (345) yX12_goesBehind), (Cond.privateMethod yX12_goesBehind), (Cond.instanceMethod yX12_goesBehind), (Cond.code yX12_goesBehind prog_14_method_50_code (2) (Option.some FieldType.boolean)), (Cond.methodLink "ForgetSchoolModel" (336) yX12_joins), (Cond.privateMethod yX12_joins), (Cond.instanceMethod yX12_joins), (Cond.code yX12_joins prog_14_method_44_code (2) none), (Cond.methodLink "ForgetSchoolLaw" (70) yX12_copy), (Cond.instanceMethod yX12_copy), (Cond.selects "ForgetSchoolModel" yX12_copy yX12_copy), (Cond.code yX12_copy prog_14_method_55_code (2) (Option.some FieldType.int)), (Cond.methodLink "ForgetSchoolLaw" (26) yX12_pupil)]
def V_6_2 : List Cond := [(Cond.instanceMethod yX12_pupil), (Cond.selects "ForgetSchoolModel" yX12_pupil yX12_pupil), (Cond.code yX12_pupil prog_14_method_66_code (5) (Option.some FieldType.boolean)), (Cond.constantLong "ForgetSchoolModel" (411) (7)), (Cond.constantLong "ForgetSchoolModel" (419) (99)), (Cond.methodLink "ForgetSchoolLaw" (30) yX12_knows), (Cond.instanceMethod yX12_knows), (Cond.selects "ForgetSchoolModel" yX12_knows yX12_knows), (Cond.code yX12_knows prog_14_method_67_code (4) (Option.some FieldType.boolean)), (Cond.methodLink "ForgetSchoolModel" (421) yX12_isThat), (Cond.privateMethod yX12_isThat), (Cond.instanceMethod yX12_isThat), (Cond.code yX12_isThat prog_14_method_63_code (2) (Option.some FieldType.boolean)), (Cond.methodLink "ForgetSchoolLaw" (53) yX12_exam), (Cond.instanceMethod yX12_exam), (Cond.selects "ForgetSchoolModel" yX12_exam yX12_exam)]
def V_6_3 : List Cond := [(Cond.code yX12_exam prog_14_method_68_code (3) (Option.some FieldType.boolean)), (Cond.constantLong "ForgetSchoolModel" (424) (4095)), (Cond.constantLong "ForgetSchoolModel" (426) (12)), (Cond.methodLink "ForgetSchoolLaw" (79) yX12_does), (Cond.instanceMethod yX12_does), (Cond.selects "ForgetSchoolModel" yX12_does yX12_does), (Cond.code yX12_does prog_14_method_73_code (3) (Option.some FieldType.int)), (Cond.methodLink "ForgetSchoolModel" (452) yX12_isThere), (Cond.privateMethod yX12_isThere), (Cond.instanceMethod yX12_isThere), (Cond.code yX12_isThere prog_14_method_26_code (2) (Option.some FieldType.boolean)), (Cond.methodLink "ForgetSchoolModel" (455) yX12_doesArt), (Cond.privateMethod yX12_doesArt), (Cond.instanceMethod yX12_doesArt), (Cond.code yX12_doesArt prog_14_method_72_code (4) none), (Cond.methodLink "ForgetSchoolModel" (449) yX12_doesStep)]
def V_6_4 : List Cond := [(Cond.privateMethod yX12_doesStep), (Cond.instanceMethod yX12_doesStep), (Cond.code yX12_doesStep prog_14_method_71_code (4) none), (Cond.methodLink "ForgetSchoolModel" (443) yX12_weakens), (Cond.privateMethod yX12_weakens), (Cond.instanceMethod yX12_weakens), (Cond.code yX12_weakens prog_14_method_69_code (5) none), (Cond.methodLink "ForgetSchoolModel" (434) yX12_standsReady), (Cond.privateMethod yX12_standsReady), (Cond.instanceMethod yX12_standsReady), (Cond.code yX12_standsReady prog_14_method_65_code (3) none), (Cond.methodLink "ForgetSchoolModel" (413) yX12_knownBy), (Cond.privateMethod yX12_knownBy), (Cond.instanceMethod yX12_knownBy), (Cond.code yX12_knownBy prog_14_method_64_code (4) (Option.some FieldType.int)), (Cond.methodLink "ForgetSchoolModel" (437) yX12_says)]
def V_6_5 : List Cond := [(Cond.privateMethod yX12_says), (Cond.instanceMethod yX12_says), (Cond.code yX12_says prog_14_method_62_code (3) (Option.some FieldType.boolean)), (Cond.methodLink "ForgetSchoolModel" (405) yX12_isSo), (Cond.privateMethod yX12_isSo), (Cond.instanceMethod yX12_isSo), (Cond.code yX12_isSo prog_14_method_60_code (2) (Option.some FieldType.boolean)), (Cond.methodLink "ForgetSchoolModel" (399) yX12_works), (Cond.privateMethod yX12_works), (Cond.instanceMethod yX12_works), (Cond.code yX12_works prog_14_method_59_code (5) none), (Cond.methodLink "ForgetSchoolModel" (393) yX12_workAt), (Cond.privateMethod yX12_workAt), (Cond.instanceMethod yX12_workAt), (Cond.code yX12_workAt prog_14_method_58_code (4) none), (Cond.methodLink "ForgetSchoolModel" (389) yX12_worked)]
def V_6_6 : List Cond := [(Cond.static yX12_worked), (Cond.code yX12_worked prog_14_method_57_code (3) (Option.some FieldType.int)), (Cond.methodLink "ForgetSchoolModel" (396) yX12_valueOf), (Cond.privateMethod yX12_valueOf), (Cond.instanceMethod yX12_valueOf), (Cond.code yX12_valueOf prog_14_method_56_code (2) (Option.some FieldType.int)), (Cond.methodLink "ForgetSchoolModel" (440) yX12_tells), (Cond.privateMethod yX12_tells), (Cond.instanceMethod yX12_tells), (Cond.code yX12_tells prog_14_method_61_code (5) (Option.some FieldType.int)), (Cond.methodLink "ForgetSchoolModel" (408) yX12_held), (Cond.static yX12_held), (Cond.code yX12_held prog_14_method_5_code (2) (Option.some FieldType.int)), (Cond.methodLink "ForgetSchoolModel" (446) yX12_strengthens), (Cond.privateMethod yX12_strengthens), (Cond.instanceMethod yX12_strengthens)]
def V_6_7 : List Cond := [(Cond.code yX12_strengthens prog_14_method_70_code (3) none), (Cond.methodLink "ForgetSchoolLaw" (91) yX12_heard), (Cond.instanceMethod yX12_heard), (Cond.selects "ForgetSchoolModel" yX12_heard yX12_heard), (Cond.code yX12_heard prog_14_method_75_code (3) (Option.some FieldType.int)), (Cond.methodLink "ForgetSchoolModel" (458) yX12_heardOf), (Cond.privateMethod yX12_heardOf), (Cond.instanceMethod yX12_heardOf), (Cond.code yX12_heardOf prog_14_method_74_code (5) (Option.some FieldType.int)), (Cond.methodLink "ForgetSchoolLaw" (57) yX12_weeks), (Cond.instanceMethod yX12_weeks), (Cond.selects "ForgetSchoolModel" yX12_weeks yX12_weeks), (Cond.code yX12_weeks prog_14_method_83_code (2) (Option.some FieldType.int)), (Cond.methodLink "ForgetSchoolModel" (504) yX12_go), (Cond.privateMethod yX12_go), (Cond.instanceMethod yX12_go)]
def V_6_8 : List Cond := [(Cond.code yX12_go prog_14_method_82_code (6) none), (Cond.methodLink "ForgetSchoolModel" (501) yX12_weekOf), (Cond.privateMethod yX12_weekOf), (Cond.instanceMethod yX12_weekOf), (Cond.code yX12_weekOf prog_14_method_81_code (4) none), (Cond.methodLink "ForgetSchoolModel" (480) yX12_rests), (Cond.privateMethod yX12_rests), (Cond.instanceMethod yX12_rests), (Cond.code yX12_rests prog_14_method_79_code (3) none), (Cond.methodLink "ForgetSchoolModel" (483) yX12_recallsAll), (Cond.privateMethod yX12_recallsAll), (Cond.instanceMethod yX12_recallsAll), (Cond.code yX12_recallsAll prog_14_method_76_code (5) (Option.some FieldType.int)), (Cond.methodLink "ForgetSchoolModel" (492) yX12_isExamined), (Cond.privateMethod yX12_isExamined), (Cond.instanceMethod yX12_isExamined)]
def V_6_9 : List Cond := [(Cond.code yX12_isExamined prog_14_method_80_code (4) none), (Cond.methodLink "ForgetSchoolModel" (462) yX12_draw), (Cond.privateMethod yX12_draw), (Cond.instanceMethod yX12_draw), (Cond.code yX12_draw prog_14_method_77_code (1) (Option.some FieldType.int)), (Cond.constant "ForgetSchoolModel" (461) (65536)), (Cond.methodLink "ForgetSchoolModel" (465) yX12_tenthsOf), (Cond.static yX12_tenthsOf), (Cond.code yX12_tenthsOf prog_14_method_78_code (1) (Option.some FieldType.int)), (Cond.methodLink "ForgetSchoolLaw" (61) yX12_tried), (Cond.instanceMethod yX12_tried), (Cond.selects "ForgetSchoolModel" yX12_tried yX12_tried), (Cond.code yX12_tried prog_14_method_88_code (3) (Option.some FieldType.int)), (Cond.methodLink "ForgetSchoolModel" (518) yX12_triedBy), (Cond.privateMethod yX12_triedBy), (Cond.instanceMethod yX12_triedBy)]
def V_6_10 : List Cond := [(Cond.code yX12_triedBy prog_14_method_87_code (5) (Option.some FieldType.int)), (Cond.constantLong "ForgetSchoolModel" (507) (3)), (Cond.methodLink "ForgetSchoolModel" (509) yX12_laysAside), (Cond.privateMethod yX12_laysAside), (Cond.instanceMethod yX12_laysAside), (Cond.code yX12_laysAside prog_14_method_84_code (3) none), (Cond.methodLink "ForgetSchoolModel" (512) yX12_whoKnows), (Cond.privateMethod yX12_whoKnows), (Cond.instanceMethod yX12_whoKnows), (Cond.code yX12_whoKnows prog_14_method_86_code (4) (Option.some FieldType.int)), (Cond.methodLink "ForgetSchoolModel" (515) yX12_bringsBack), (Cond.privateMethod yX12_bringsBack), (Cond.instanceMethod yX12_bringsBack), (Cond.code yX12_bringsBack prog_14_method_85_code (3) none), (Cond.methodLink "ForgetSchoolLaw" (65) yX12_other), (Cond.instanceMethod yX12_other)]
def V_6_11 : List Cond := [(Cond.selects "ForgetSchoolModel" yX12_other yX12_other), (Cond.code yX12_other prog_14_method_89_code (3) (Option.some FieldType.int)), (Cond.methodLink "ForgetSchoolLaw" (75) yX12_first), (Cond.instanceMethod yX12_first), (Cond.selects "ForgetSchoolModel" yX12_first yX12_first), (Cond.code yX12_first prog_14_method_90_code (4) (Option.some FieldType.int)), (Cond.methodLink "ForgetSchoolLaw" (83) yX12_pupilIs), (Cond.instanceMethod yX12_pupilIs), (Cond.selects "ForgetSchoolModel" yX12_pupilIs yX12_pupilIs), (Cond.code yX12_pupilIs prog_14_method_93_code (3) (Option.some FieldType.int)), (Cond.methodLink "ForgetSchoolModel" (521) yX12_strongestOf), (Cond.privateMethod yX12_strongestOf), (Cond.instanceMethod yX12_strongestOf), (Cond.code yX12_strongestOf prog_14_method_92_code (5) (Option.some FieldType.int)), (Cond.methodLink "ForgetSchoolModel" (524) yX12_togetherOf), (Cond.privateMethod yX12_togetherOf)]
def V_6_12 : List Cond := [(Cond.instanceMethod yX12_togetherOf), (Cond.code yX12_togetherOf prog_14_method_91_code (4) (Option.some FieldType.int)), (Cond.methodLink "ForgetSchoolLaw" (87) yX12_strength), (Cond.instanceMethod yX12_strength), (Cond.selects "ForgetSchoolModel" yX12_strength yX12_strength), (Cond.code yX12_strength prog_14_method_94_code (3) (Option.some FieldType.int)), (Cond.methodLink "ForgetSchoolLaw" (95) yX12_order), (Cond.instanceMethod yX12_order), (Cond.selects "ForgetSchoolModel" yX12_order yX12_order), (Cond.code yX12_order prog_14_method_104_code (7) (Option.some FieldType.int)), (Cond.methodLink "ForgetSchoolModel" (545) yX12_areArts), (Cond.privateMethod yX12_areArts), (Cond.instanceMethod yX12_areArts), (Cond.code yX12_areArts prog_14_method_102_code (3) (Option.some FieldType.boolean)), (Cond.constantLong "ForgetSchoolModel" (543) (63)), (Cond.methodLink "ForgetSchoolModel" (548) yX12_areFacts)]
def V_6_13 : List Cond := [(Cond.privateMethod yX12_areFacts), (Cond.instanceMethod yX12_areFacts), (Cond.code yX12_areFacts prog_14_method_103_code (2) (Option.some FieldType.boolean)), (Cond.methodLink "ForgetSchoolModel" (551) yX12_takesSome), (Cond.privateMethod yX12_takesSome), (Cond.instanceMethod yX12_takesSome), (Cond.code yX12_takesSome prog_14_method_97_code (4) (Option.some FieldType.int)), (Cond.methodLink "ForgetSchoolModel" (554) yX12_timesTill), (Cond.privateMethod yX12_timesTill), (Cond.instanceMethod yX12_timesTill), (Cond.code yX12_timesTill prog_14_method_101_code (7) (Option.some FieldType.int)), (Cond.methodLink "ForgetSchoolModel" (530) yX12_keepsOwn), (Cond.privateMethod yX12_keepsOwn), (Cond.instanceMethod yX12_keepsOwn), (Cond.code yX12_keepsOwn prog_14_method_95_code (3) none), (Cond.methodLink "ForgetSchoolModel" (533) yX12_powerOf)]
def V_6_14 : List Cond := [(Cond.static yX12_powerOf), (Cond.code yX12_powerOf prog_14_method_98_code (4) (Option.some FieldType.int)), (Cond.methodLink "ForgetSchoolModel" (536) yX12_opensRow), (Cond.privateMethod yX12_opensRow), (Cond.instanceMethod yX12_opensRow), (Cond.code yX12_opensRow prog_14_method_99_code (6) none), (Cond.methodLink "ForgetSchoolModel" (539) yX12_isBy), (Cond.privateMethod yX12_isBy), (Cond.instanceMethod yX12_isBy), (Cond.code yX12_isBy prog_14_method_100_code (7) (Option.some FieldType.boolean)), (Cond.methodLink "ForgetSchoolModel" (527) yX12_givesBack), (Cond.privateMethod yX12_givesBack), (Cond.instanceMethod yX12_givesBack), (Cond.code yX12_givesBack prog_14_method_96_code (3) none), (Cond.methodLink "ForgetSchoolLaw" (99) yX12_still), (Cond.instanceMethod yX12_still)]
set_option maxRecDepth 100000 in
theorem vT_6 : tables_1_7 = V_6_0 ++ (V_6_1 ++ (V_6_2 ++ (V_6_3 ++ (V_6_4 ++ (V_6_5 ++ (V_6_6 ++ (V_6_7 ++ (V_6_8 ++ (V_6_9 ++ (V_6_10 ++ (V_6_11 ++ (V_6_12 ++ (V_6_13 ++ (V_6_14)))))))))))))) := by rfl
theorem v_6_0 {w : Cond} (h : w ∈ V_6_0) : w ∈ lw_tbl := tb_t6 (by rw [vT_6]; exact List.mem_append_left _ h)
theorem v_6_1 {w : Cond} (h : w ∈ V_6_1) : w ∈ lw_tbl := tb_t6 (by rw [vT_6]; exact List.mem_append_right _ (List.mem_append_left _ h))
theorem v_6_2 {w : Cond} (h : w ∈ V_6_2) : w ∈ lw_tbl := tb_t6 (by rw [vT_6]; exact List.mem_append_right _ (List.mem_append_right _ (List.mem_append_left _ h)))
theorem v_6_3 {w : Cond} (h : w ∈ V_6_3) : w ∈ lw_tbl := tb_t6 (by rw [vT_6]; exact List.mem_append_right _ (List.mem_append_right _ (List.mem_append_right _ (List.mem_append_left _ h))))
theorem v_6_4 {w : Cond} (h : w ∈ V_6_4) : w ∈ lw_tbl := tb_t6 (by rw [vT_6]; exact List.mem_append_right _ (List.mem_append_right _ (List.mem_append_right _ (List.mem_append_right _ (List.mem_append_left _ h)))))
theorem v_6_5 {w : Cond} (h : w ∈ V_6_5) : w ∈ lw_tbl := tb_t6 (by rw [vT_6]; exact List.mem_append_right _ (List.mem_append_right _ (List.mem_append_right _ (List.mem_append_right _ (List.mem_append_right _ (List.mem_append_left _ h))))))
theorem v_6_6 {w : Cond} (h : w ∈ V_6_6) : w ∈ lw_tbl := tb_t6 (by rw [vT_6]; exact List.mem_append_right _ (List.mem_append_right _ (List.mem_append_right _ (List.mem_append_right _ (List.mem_append_right _ (List.mem_append_right _ (List.mem_append_left _ h)))))))
theorem v_6_7 {w : Cond} (h : w ∈ V_6_7) : w ∈ lw_tbl := tb_t6 (by rw [vT_6]; exact List.mem_append_right _ (List.mem_append_right _ (List.mem_append_right _ (List.mem_append_right _ (List.mem_append_right _ (List.mem_append_right _ (List.mem_append_right _ (List.mem_append_left _ h))))))))
theorem v_6_8 {w : Cond} (h : w ∈ V_6_8) : w ∈ lw_tbl := tb_t6 (by rw [vT_6]; exact List.mem_append_right _ (List.mem_append_right _ (List.mem_append_right _ (List.mem_append_right _ (List.mem_append_right _ (List.mem_append_right _ (List.mem_append_right _ (List.mem_append_right _ (List.mem_append_left _ h)))))))))
theorem v_6_9 {w : Cond} (h : w ∈ V_6_9) : w ∈ lw_tbl := tb_t6 (by rw [vT_6]; exact List.mem_append_right _ (List.mem_append_right _ (List.mem_append_right _ (List.mem_append_right _ (List.mem_append_right _ (List.mem_append_right _ (List.mem_append_right _ (List.mem_append_right _ (List.mem_append_right _ (List.mem_append_left _ h))))))))))
theorem v_6_10 {w : Cond} (h : w ∈ V_6_10) : w ∈ lw_tbl := tb_t6 (by rw [vT_6]; exact List.mem_append_right _ (List.mem_append_right _ (List.mem_append_right _ (List.mem_append_right _ (List.mem_append_right _ (List.mem_append_right _ (List.mem_append_right _ (List.mem_append_right _ (List.mem_append_right _ (List.mem_append_right _ (List.mem_append_left _ h)))))))))))
theorem v_6_11 {w : Cond} (h : w ∈ V_6_11) : w ∈ lw_tbl := tb_t6 (by rw [vT_6]; exact List.mem_append_right _ (List.mem_append_right _ (List.mem_append_right _ (List.mem_append_right _ (List.mem_append_right _ (List.mem_append_right _ (List.mem_append_right _ (List.mem_append_right _ (List.mem_append_right _ (List.mem_append_right _ (List.mem_append_right _ (List.mem_append_left _ h))))))))))))
theorem v_6_12 {w : Cond} (h : w ∈ V_6_12) : w ∈ lw_tbl := tb_t6 (by rw [vT_6]; exact List.mem_append_right _ (List.mem_append_right _ (List.mem_append_right _ (List.mem_append_right _ (List.mem_append_right _ (List.mem_append_right _ (List.mem_append_right _ (List.mem_append_right _ (List.mem_append_right _ (List.mem_append_right _ (List.mem_append_right _ (List.mem_append_right _ (List.mem_append_left _ h)))))))))))))
theorem v_6_13 {w : Cond} (h : w ∈ V_6_13) : w ∈ lw_tbl := tb_t6 (by rw [vT_6]; exact List.mem_append_right _ (List.mem_append_right _ (List.mem_append_right _ (List.mem_append_right _ (List.mem_append_right _ (List.mem_append_right _ (List.mem_append_right _ (List.mem_append_right _ (List.mem_append_right _ (List.mem_append_right _ (List.mem_append_right _ (List.mem_append_right _ (List.mem_append_right _ (List.mem_append_left _ h))))))))))))))
theorem v_6_14 {w : Cond} (h : w ∈ V_6_14) : w ∈ lw_tbl := tb_t6 (by rw [vT_6]; exact List.mem_append_right _ (List.mem_append_right _ (List.mem_append_right _ (List.mem_append_right _ (List.mem_append_right _ (List.mem_append_right _ (List.mem_append_right _ (List.mem_append_right _ (List.mem_append_right _ (List.mem_append_right _ (List.mem_append_right _ (List.mem_append_right _ (List.mem_append_right _ (List.mem_append_right _ (h)))))))))))))))
def V_7_0 : List Cond := [(Cond.selects "ForgetSchoolModel" yX12_still yX12_still), (Cond.code yX12_still prog_14_method_106_code (6) (Option.some FieldType.int)), (Cond.methodLink "ForgetSchoolModel" (558) yX12_changes), (Cond.privateMethod yX12_changes), (Cond.instanceMethod yX12_changes), (Cond.code yX12_changes prog_14_method_105_code (5) (Option.some FieldType.boolean)), (Cond.methodLink "ForgetSchoolLaw" (119) yX12_questions), (Cond.instanceMethod yX12_questions), (Cond.selects "ForgetSchoolModel" yX12_questions yX12_questions), (Cond.code yX12_questions prog_14_method_109_code (6) (Option.some FieldType.int)), (Cond.methodLink "ForgetSchoolModel" (563) yX12_arePupils), (Cond.privateMethod yX12_arePupils), (Cond.instanceMethod yX12_arePupils), (Cond.code yX12_arePupils prog_14_method_107_code (3) (Option.some FieldType.boolean)), (Cond.constantLong "ForgetSchoolModel" (561) (255)), (Cond.methodLink "ForgetSchoolModel" (566) yX12_areTold)]
def V_7_1 : List Cond := [(Cond.privateMethod yX12_areTold), (Cond.instanceMethod yX12_areTold), (Cond.code yX12_areTold prog_14_method_108_code (5) (Option.some FieldType.boolean)), (Cond.methodLink "ForgetSchoolLaw" (123) yX12_reminds), (Cond.instanceMethod yX12_reminds), (Cond.selects "ForgetSchoolModel" yX12_reminds yX12_reminds), (Cond.code yX12_reminds prog_14_method_110_code (4) (Option.some FieldType.boolean)), (Cond.methodLink "ForgetSchoolLaw" (127) yX12_parted), (Cond.instanceMethod yX12_parted), (Cond.selects "ForgetSchoolModel" yX12_parted yX12_parted), (Cond.code yX12_parted prog_14_method_112_code (8) (Option.some FieldType.int)), (Cond.constant "ForgetSchoolModel" (569) (1000000000)), (Cond.methodLink "ForgetSchoolModel" (570) yX12_remindedIn), (Cond.privateMethod yX12_remindedIn), (Cond.instanceMethod yX12_remindedIn), (Cond.code yX12_remindedIn prog_14_method_111_code (5) (Option.some FieldType.int))]
def V_7_2 : List Cond := [(Cond.methodLink "ForgetSchoolLaw" (131) yX12_skill), (Cond.instanceMethod yX12_skill), (Cond.selects "ForgetSchoolModel" yX12_skill yX12_skill), (Cond.code yX12_skill prog_14_method_113_code (4) (Option.some FieldType.boolean)), (Cond.constantLong "ForgetSchoolModel" (573) (4)), (Cond.methodLink "ForgetSchoolLaw" (135) yX12_taught), (Cond.instanceMethod yX12_taught), (Cond.selects "ForgetSchoolModel" yX12_taught yX12_taught), (Cond.code yX12_taught prog_14_method_116_code (10) (Option.some FieldType.int)), (Cond.constantLong "ForgetSchoolModel" (575) (31)), (Cond.methodLink "ForgetSchoolModel" (577) yX12_toldMasters), (Cond.privateMethod yX12_toldMasters), (Cond.instanceMethod yX12_toldMasters), (Cond.code yX12_toldMasters prog_14_method_114_code (3) (Option.some FieldType.int)), (Cond.methodLink "ForgetSchoolModel" (580) yX12_isOrder), (Cond.privateMethod yX12_isOrder)]
def V_7_3 : List Cond := [(Cond.instanceMethod yX12_isOrder), (Cond.code yX12_isOrder prog_14_method_115_code (4) (Option.some FieldType.boolean)), (Cond.methodLink "ForgetSchoolLaw" (139) yX12_hummed), (Cond.instanceMethod yX12_hummed), (Cond.selects "ForgetSchoolModel" yX12_hummed yX12_hummed), (Cond.code yX12_hummed prog_14_method_119_code (9) (Option.some FieldType.int)), (Cond.constantLong "ForgetSchoolModel" (587) (6)), (Cond.methodLink "ForgetSchoolModel" (589) yX12_byteAt), (Cond.privateMethod yX12_byteAt), (Cond.instanceMethod yX12_byteAt), (Cond.code yX12_byteAt prog_14_method_9_code (2) (Option.some FieldType.int)), (Cond.methodLink "ForgetSchoolModel" (592) yX12_between), (Cond.privateMethod yX12_between), (Cond.instanceMethod yX12_between), (Cond.code yX12_between prog_14_method_118_code (6) (Option.some FieldType.int)), (Cond.methodLink "ForgetSchoolModel" (583) yX12_isLinked)]
def V_7_4 : List Cond := [(Cond.privateMethod yX12_isLinked), (Cond.instanceMethod yX12_isLinked), (Cond.code yX12_isLinked prog_14_method_117_code (4) (Option.some FieldType.boolean)), (Cond.methodLink "ForgetSchoolLaw" (144) yX12_odds), (Cond.instanceMethod yX12_odds), (Cond.selects "ForgetSchoolModel" yX12_odds yX12_odds), (Cond.code yX12_odds prog_14_method_120_code (9) (Option.some FieldType.int)), (Cond.methodLink "ForgetSchoolModel" (595) yX12_dividing), (Cond.static yX12_dividing), (Cond.code yX12_dividing prog_14_method_6_code (5) (Option.some FieldType.int)), (Cond.methodLink "ForgetSchoolLaw" (148) yX12_crib), (Cond.instanceMethod yX12_crib), (Cond.selects "ForgetSchoolModel" yX12_crib yX12_crib), (Cond.code yX12_crib prog_14_method_122_code (6) (Option.some FieldType.int)), (Cond.methodLink "ForgetSchoolModel" (598) yX12_recalledBy), (Cond.privateMethod yX12_recalledBy)]
def V_7_5 : List Cond := [(Cond.instanceMethod yX12_recalledBy), (Cond.code yX12_recalledBy prog_14_method_121_code (4) (Option.some FieldType.int)), (Cond.methodLink "ForgetSchoolLaw" (153) yX12_seed), (Cond.instanceMethod yX12_seed), (Cond.selects "ForgetSchoolModel" yX12_seed yX12_seed), (Cond.code yX12_seed prog_14_method_123_code (2) (Option.some FieldType.boolean)), (Cond.constantLong "ForgetSchoolModel" (601) (65535)), (Cond.methodLink "ForgetSchoolLaw" (157) yX12_keep), (Cond.instanceMethod yX12_keep), (Cond.selects "ForgetSchoolModel" yX12_keep yX12_keep), (Cond.code yX12_keep prog_14_method_124_code (1) (Option.some FieldType.int)), (Cond.methodLink "ForgetSchoolLaw" (162) yX12_undo), (Cond.instanceMethod yX12_undo), (Cond.selects "ForgetSchoolModel" yX12_undo yX12_undo), (Cond.code yX12_undo prog_14_method_125_code (1) (Option.some FieldType.boolean)), (Cond.methodLink "ForgetSchoolLaw" (166) yX12_check)]
def V_7_6 : List Cond := [(Cond.instanceMethod yX12_check), (Cond.selects "ForgetSchoolModel" yX12_check yX12_check), (Cond.code yX12_check prog_14_method_126_code (4) (Option.some FieldType.int)), (Cond.methodLink "ForgetSchoolLaw" (170) yX12_count), (Cond.instanceMethod yX12_count), (Cond.selects "ForgetSchoolModel" yX12_count yX12_count), (Cond.code yX12_count prog_14_method_129_code (2) (Option.some FieldType.int)), (Cond.methodLink "ForgetSchoolModel" (606) yX12_toldPupils), (Cond.privateMethod yX12_toldPupils), (Cond.instanceMethod yX12_toldPupils), (Cond.code yX12_toldPupils prog_14_method_127_code (3) (Option.some FieldType.int)), (Cond.methodLink "ForgetSchoolModel" (609) yX12_toldArts), (Cond.privateMethod yX12_toldArts), (Cond.instanceMethod yX12_toldArts), (Cond.code yX12_toldArts prog_14_method_128_code (3) (Option.some FieldType.int)), (Cond.fieldLink "java/lang/String" (15) "java/lang/String" "coder" "B")]
def V_7_7 : List Cond := [(Cond.fieldLink "java/lang/String" (9) "java/lang/String" "value" "[B")]
set_option maxRecDepth 100000 in
theorem vT_7 : tables_1_8 = V_7_0 ++ (V_7_1 ++ (V_7_2 ++ (V_7_3 ++ (V_7_4 ++ (V_7_5 ++ (V_7_6 ++ (V_7_7))))))) := by rfl
theorem v_7_0 {w : Cond} (h : w ∈ V_7_0) : w ∈ lw_tbl := tb_t7 (by rw [vT_7]; exact List.mem_append_left _ h)
theorem v_7_1 {w : Cond} (h : w ∈ V_7_1) : w ∈ lw_tbl := tb_t7 (by rw [vT_7]; exact List.mem_append_right _ (List.mem_append_left _ h))
theorem v_7_2 {w : Cond} (h : w ∈ V_7_2) : w ∈ lw_tbl := tb_t7 (by rw [vT_7]; exact List.mem_append_right _ (List.mem_append_right _ (List.mem_append_left _ h)))
theorem v_7_3 {w : Cond} (h : w ∈ V_7_3) : w ∈ lw_tbl := tb_t7 (by rw [vT_7]; exact List.mem_append_right _ (List.mem_append_right _ (List.mem_append_right _ (List.mem_append_left _ h))))
theorem v_7_4 {w : Cond} (h : w ∈ V_7_4) : w ∈ lw_tbl := tb_t7 (by rw [vT_7]; exact List.mem_append_right _ (List.mem_append_right _ (List.mem_append_right _ (List.mem_append_right _ (List.mem_append_left _ h)))))
theorem v_7_5 {w : Cond} (h : w ∈ V_7_5) : w ∈ lw_tbl := tb_t7 (by rw [vT_7]; exact List.mem_append_right _ (List.mem_append_right _ (List.mem_append_right _ (List.mem_append_right _ (List.mem_append_right _ (List.mem_append_left _ h))))))
theorem v_7_6 {w : Cond} (h : w ∈ V_7_6) : w ∈ lw_tbl := tb_t7 (by rw [vT_7]; exact List.mem_append_right _ (List.mem_append_right _ (List.mem_append_right _ (List.mem_append_right _ (List.mem_append_right _ (List.mem_append_right _ (List.mem_append_left _ h)))))))
theorem v_7_7 {w : Cond} (h : w ∈ V_7_7) : w ∈ lw_tbl := tb_t7 (by rw [vT_7]; exact List.mem_append_right _ (List.mem_append_right _ (List.mem_append_right _ (List.mem_append_right _ (List.mem_append_right _ (List.mem_append_right _ (List.mem_append_right _ (h))))))))
theorem wX0 : ∀ w ∈ u_ws RX0 TX0 3, w ∈ AW := by
  show ∀ w ∈ [u_lay RX0 TX0 0, u_lay RX0 TX0 1, u_lay RX0 TX0 2], w ∈ AW
  exact List.forall_mem_cons.mpr ⟨kAW (v_0_10 (List.mem_of_getElem? (i := 7) rfl)) rfl, List.forall_mem_cons.mpr ⟨kAW (v_0_10 (List.mem_of_getElem? (i := 9) rfl)) rfl, List.forall_mem_cons.mpr ⟨kAW (v_0_10 (List.mem_of_getElem? (i := 11) rfl)) rfl, fun _ h => absurd h List.not_mem_nil⟩⟩⟩
theorem wX1 : ∀ w ∈ u_ws RX1 TX1 5, w ∈ AW := by
  show ∀ w ∈ [u_lay RX1 TX1 0, u_lay RX1 TX1 1, u_lay RX1 TX1 2, u_lay RX1 TX1 3, u_lay RX1 TX1 4], w ∈ AW
  exact List.forall_mem_cons.mpr ⟨kAW (v_0_11 (List.mem_of_getElem? (i := 9) rfl)) rfl, List.forall_mem_cons.mpr ⟨kAW (v_0_11 (List.mem_of_getElem? (i := 11) rfl)) rfl, List.forall_mem_cons.mpr ⟨kAW (v_0_11 (List.mem_of_getElem? (i := 13) rfl)) rfl, List.forall_mem_cons.mpr ⟨kAW (v_0_11 (List.mem_of_getElem? (i := 15) rfl)) rfl, List.forall_mem_cons.mpr ⟨kAW (v_0_12 (List.mem_of_getElem? (i := 1) rfl)) rfl, fun _ h => absurd h List.not_mem_nil⟩⟩⟩⟩⟩
theorem wX2 : ∀ w ∈ u_ws RX2 TX2 11, w ∈ AW := by
  show ∀ w ∈ [u_lay RX2 TX2 0, u_lay RX2 TX2 1, u_lay RX2 TX2 2, u_lay RX2 TX2 3, u_lay RX2 TX2 4, u_lay RX2 TX2 5, u_lay RX2 TX2 6, u_lay RX2 TX2 7, u_lay RX2 TX2 8, u_lay RX2 TX2 9, u_lay RX2 TX2 10], w ∈ AW
  exact List.forall_mem_cons.mpr ⟨kAW (v_1_0 (List.mem_of_getElem? (i := 7) rfl)) rfl, List.forall_mem_cons.mpr ⟨kAW (v_1_0 (List.mem_of_getElem? (i := 9) rfl)) rfl, List.forall_mem_cons.mpr ⟨kAW (v_1_0 (List.mem_of_getElem? (i := 11) rfl)) rfl, List.forall_mem_cons.mpr ⟨kAW (v_1_0 (List.mem_of_getElem? (i := 13) rfl)) rfl, List.forall_mem_cons.mpr ⟨kAW (v_1_0 (List.mem_of_getElem? (i := 15) rfl)) rfl, List.forall_mem_cons.mpr ⟨kAW (v_1_1 (List.mem_of_getElem? (i := 1) rfl)) rfl, List.forall_mem_cons.mpr ⟨kAW (v_1_1 (List.mem_of_getElem? (i := 3) rfl)) rfl, List.forall_mem_cons.mpr ⟨kAW (v_1_1 (List.mem_of_getElem? (i := 5) rfl)) rfl, List.forall_mem_cons.mpr ⟨kAW (v_1_1 (List.mem_of_getElem? (i := 7) rfl)) rfl, List.forall_mem_cons.mpr ⟨kAW (v_1_1 (List.mem_of_getElem? (i := 9) rfl)) rfl, List.forall_mem_cons.mpr ⟨kAW (v_1_1 (List.mem_of_getElem? (i := 11) rfl)) rfl, fun _ h => absurd h List.not_mem_nil⟩⟩⟩⟩⟩⟩⟩⟩⟩⟩⟩
theorem wX3 : ∀ w ∈ u_ws RX3 TX3 8, w ∈ AW := by
  show ∀ w ∈ [u_lay RX3 TX3 0, u_lay RX3 TX3 1, u_lay RX3 TX3 2, u_lay RX3 TX3 3, u_lay RX3 TX3 4, u_lay RX3 TX3 5, u_lay RX3 TX3 6, u_lay RX3 TX3 7], w ∈ AW
  exact List.forall_mem_cons.mpr ⟨kAW (v_0_8 (List.mem_of_getElem? (i := 8) rfl)) rfl, List.forall_mem_cons.mpr ⟨kAW (v_0_8 (List.mem_of_getElem? (i := 10) rfl)) rfl, List.forall_mem_cons.mpr ⟨kAW (v_0_8 (List.mem_of_getElem? (i := 12) rfl)) rfl, List.forall_mem_cons.mpr ⟨kAW (v_0_8 (List.mem_of_getElem? (i := 14) rfl)) rfl, List.forall_mem_cons.mpr ⟨kAW (v_0_9 (List.mem_of_getElem? (i := 0) rfl)) rfl, List.forall_mem_cons.mpr ⟨kAW (v_0_9 (List.mem_of_getElem? (i := 2) rfl)) rfl, List.forall_mem_cons.mpr ⟨kAW (v_0_9 (List.mem_of_getElem? (i := 4) rfl)) rfl, List.forall_mem_cons.mpr ⟨kAW (v_0_9 (List.mem_of_getElem? (i := 6) rfl)) rfl, fun _ h => absurd h List.not_mem_nil⟩⟩⟩⟩⟩⟩⟩⟩
theorem wX4 : ∀ w ∈ u_ws RX4 TX4 5, w ∈ AW := by
  show ∀ w ∈ [u_lay RX4 TX4 0, u_lay RX4 TX4 1, u_lay RX4 TX4 2, u_lay RX4 TX4 3, u_lay RX4 TX4 4], w ∈ AW
  exact List.forall_mem_cons.mpr ⟨kAW (v_0_12 (List.mem_of_getElem? (i := 15) rfl)) rfl, List.forall_mem_cons.mpr ⟨kAW (v_0_13 (List.mem_of_getElem? (i := 1) rfl)) rfl, List.forall_mem_cons.mpr ⟨kAW (v_0_13 (List.mem_of_getElem? (i := 3) rfl)) rfl, List.forall_mem_cons.mpr ⟨kAW (v_0_13 (List.mem_of_getElem? (i := 5) rfl)) rfl, List.forall_mem_cons.mpr ⟨kAW (v_0_13 (List.mem_of_getElem? (i := 7) rfl)) rfl, fun _ h => absurd h List.not_mem_nil⟩⟩⟩⟩⟩
theorem wX5 : ∀ w ∈ u_ws RX5 TX5 3, w ∈ AW := by
  show ∀ w ∈ [u_lay RX5 TX5 0, u_lay RX5 TX5 1, u_lay RX5 TX5 2], w ∈ AW
  exact List.forall_mem_cons.mpr ⟨kAW (v_0_3 (List.mem_of_getElem? (i := 13) rfl)) rfl, List.forall_mem_cons.mpr ⟨kAW (v_0_3 (List.mem_of_getElem? (i := 15) rfl)) rfl, List.forall_mem_cons.mpr ⟨kAW (v_0_4 (List.mem_of_getElem? (i := 1) rfl)) rfl, fun _ h => absurd h List.not_mem_nil⟩⟩⟩
theorem wX6 : ∀ w ∈ u_ws RX6 TX6 4, w ∈ AW := by
  show ∀ w ∈ [u_lay RX6 TX6 0, u_lay RX6 TX6 1, u_lay RX6 TX6 2, u_lay RX6 TX6 3], w ∈ AW
  exact List.forall_mem_cons.mpr ⟨kAW (v_1_6 (List.mem_of_getElem? (i := 3) rfl)) rfl, List.forall_mem_cons.mpr ⟨kAW (v_1_6 (List.mem_of_getElem? (i := 5) rfl)) rfl, List.forall_mem_cons.mpr ⟨kAW (v_1_6 (List.mem_of_getElem? (i := 7) rfl)) rfl, List.forall_mem_cons.mpr ⟨kAW (v_1_6 (List.mem_of_getElem? (i := 9) rfl)) rfl, fun _ h => absurd h List.not_mem_nil⟩⟩⟩⟩
theorem wX7 : ∀ w ∈ u_ws RX7 TX7 8, w ∈ AW := by
  show ∀ w ∈ [u_lay RX7 TX7 0, u_lay RX7 TX7 1, u_lay RX7 TX7 2, u_lay RX7 TX7 3, u_lay RX7 TX7 4, u_lay RX7 TX7 5, u_lay RX7 TX7 6, u_lay RX7 TX7 7], w ∈ AW
  exact List.forall_mem_cons.mpr ⟨kAW (v_0_6 (List.mem_of_getElem? (i := 3) rfl)) rfl, List.forall_mem_cons.mpr ⟨kAW (v_0_6 (List.mem_of_getElem? (i := 5) rfl)) rfl, List.forall_mem_cons.mpr ⟨kAW (v_0_6 (List.mem_of_getElem? (i := 7) rfl)) rfl, List.forall_mem_cons.mpr ⟨kAW (v_0_6 (List.mem_of_getElem? (i := 9) rfl)) rfl, List.forall_mem_cons.mpr ⟨kAW (v_0_6 (List.mem_of_getElem? (i := 11) rfl)) rfl, List.forall_mem_cons.mpr ⟨kAW (v_0_6 (List.mem_of_getElem? (i := 13) rfl)) rfl, List.forall_mem_cons.mpr ⟨kAW (v_0_6 (List.mem_of_getElem? (i := 15) rfl)) rfl, List.forall_mem_cons.mpr ⟨kAW (v_0_7 (List.mem_of_getElem? (i := 1) rfl)) rfl, fun _ h => absurd h List.not_mem_nil⟩⟩⟩⟩⟩⟩⟩⟩
theorem wX8 : ∀ w ∈ u_ws RX8 TX8 7, w ∈ AW := by
  show ∀ w ∈ [u_lay RX8 TX8 0, u_lay RX8 TX8 1, u_lay RX8 TX8 2, u_lay RX8 TX8 3, u_lay RX8 TX8 4, u_lay RX8 TX8 5, u_lay RX8 TX8 6], w ∈ AW
  exact List.forall_mem_cons.mpr ⟨kAW (v_1_4 (List.mem_of_getElem? (i := 7) rfl)) rfl, List.forall_mem_cons.mpr ⟨kAW (v_1_4 (List.mem_of_getElem? (i := 9) rfl)) rfl, List.forall_mem_cons.mpr ⟨kAW (v_1_4 (List.mem_of_getElem? (i := 11) rfl)) rfl, List.forall_mem_cons.mpr ⟨kAW (v_1_4 (List.mem_of_getElem? (i := 13) rfl)) rfl, List.forall_mem_cons.mpr ⟨kAW (v_1_4 (List.mem_of_getElem? (i := 15) rfl)) rfl, List.forall_mem_cons.mpr ⟨kAW (v_1_5 (List.mem_of_getElem? (i := 1) rfl)) rfl, List.forall_mem_cons.mpr ⟨kAW (v_1_5 (List.mem_of_getElem? (i := 3) rfl)) rfl, fun _ h => absurd h List.not_mem_nil⟩⟩⟩⟩⟩⟩⟩
theorem wX9 : ∀ w ∈ u_ws RX9 TX9 5, w ∈ AW := by
  show ∀ w ∈ [u_lay RX9 TX9 0, u_lay RX9 TX9 1, u_lay RX9 TX9 2, u_lay RX9 TX9 3, u_lay RX9 TX9 4], w ∈ AW
  exact List.forall_mem_cons.mpr ⟨kAW (v_1_2 (List.mem_of_getElem? (i := 14) rfl)) rfl, List.forall_mem_cons.mpr ⟨kAW (v_1_3 (List.mem_of_getElem? (i := 0) rfl)) rfl, List.forall_mem_cons.mpr ⟨kAW (v_1_3 (List.mem_of_getElem? (i := 2) rfl)) rfl, List.forall_mem_cons.mpr ⟨kAW (v_1_3 (List.mem_of_getElem? (i := 4) rfl)) rfl, List.forall_mem_cons.mpr ⟨kAW (v_1_3 (List.mem_of_getElem? (i := 6) rfl)) rfl, fun _ h => absurd h List.not_mem_nil⟩⟩⟩⟩⟩
theorem wX10 : ∀ w ∈ u_ws RX10 TX10 2, w ∈ AW := by
  show ∀ w ∈ [u_lay RX10 TX10 0, u_lay RX10 TX10 1], w ∈ AW
  exact List.forall_mem_cons.mpr ⟨kAW (v_0_2 (List.mem_of_getElem? (i := 7) rfl)) rfl, List.forall_mem_cons.mpr ⟨kAW (v_0_2 (List.mem_of_getElem? (i := 9) rfl)) rfl, fun _ h => absurd h List.not_mem_nil⟩⟩
theorem wX11 : ∀ w ∈ u_ws RX11 TX11 16, w ∈ AW := by
  show ∀ w ∈ [u_lay RX11 TX11 0, u_lay RX11 TX11 1, u_lay RX11 TX11 2, u_lay RX11 TX11 3, u_lay RX11 TX11 4, u_lay RX11 TX11 5, u_lay RX11 TX11 6, u_lay RX11 TX11 7, u_lay RX11 TX11 8, u_lay RX11 TX11 9, u_lay RX11 TX11 10, u_lay RX11 TX11 11, u_lay RX11 TX11 12, u_lay RX11 TX11 13, u_lay RX11 TX11 14, u_lay RX11 TX11 15], w ∈ AW
  exact List.forall_mem_cons.mpr ⟨kAW (v_1_7 (List.mem_of_getElem? (i := 12) rfl)) rfl, List.forall_mem_cons.mpr ⟨kAW (v_1_7 (List.mem_of_getElem? (i := 14) rfl)) rfl, List.forall_mem_cons.mpr ⟨kAW (v_1_8 (List.mem_of_getElem? (i := 0) rfl)) rfl, List.forall_mem_cons.mpr ⟨kAW (v_1_8 (List.mem_of_getElem? (i := 2) rfl)) rfl, List.forall_mem_cons.mpr ⟨kAW (v_1_8 (List.mem_of_getElem? (i := 4) rfl)) rfl, List.forall_mem_cons.mpr ⟨kAW (v_1_8 (List.mem_of_getElem? (i := 6) rfl)) rfl, List.forall_mem_cons.mpr ⟨kAW (v_1_8 (List.mem_of_getElem? (i := 8) rfl)) rfl, List.forall_mem_cons.mpr ⟨kAW (v_1_8 (List.mem_of_getElem? (i := 10) rfl)) rfl, List.forall_mem_cons.mpr ⟨kAW (v_1_8 (List.mem_of_getElem? (i := 12) rfl)) rfl, List.forall_mem_cons.mpr ⟨kAW (v_1_8 (List.mem_of_getElem? (i := 14) rfl)) rfl, List.forall_mem_cons.mpr ⟨kAW (v_1_9 (List.mem_of_getElem? (i := 0) rfl)) rfl, List.forall_mem_cons.mpr ⟨kAW (v_1_9 (List.mem_of_getElem? (i := 2) rfl)) rfl, List.forall_mem_cons.mpr ⟨kAW (v_1_9 (List.mem_of_getElem? (i := 4) rfl)) rfl, List.forall_mem_cons.mpr ⟨kAW (v_1_9 (List.mem_of_getElem? (i := 6) rfl)) rfl, List.forall_mem_cons.mpr ⟨kAW (v_1_9 (List.mem_of_getElem? (i := 8) rfl)) rfl, List.forall_mem_cons.mpr ⟨kAW (v_1_9 (List.mem_of_getElem? (i := 10) rfl)) rfl, fun _ h => absurd h List.not_mem_nil⟩⟩⟩⟩⟩⟩⟩⟩⟩⟩⟩⟩⟩⟩⟩⟩
theorem wX12 : ∀ w ∈ u_ws RX12 TX12 86, w ∈ AW := by
  show ∀ w ∈ [u_lay RX12 TX12 0, u_lay RX12 TX12 1, u_lay RX12 TX12 2, u_lay RX12 TX12 3, u_lay RX12 TX12 4, u_lay RX12 TX12 5, u_lay RX12 TX12 6, u_lay RX12 TX12 7, u_lay RX12 TX12 8, u_lay RX12 TX12 9, u_lay RX12 TX12 10, u_lay RX12 TX12 11, u_lay RX12 TX12 12, u_lay RX12 TX12 13, u_lay RX12 TX12 14, u_lay RX12 TX12 15, u_lay RX12 TX12 16, u_lay RX12 TX12 17, u_lay RX12 TX12 18, u_lay RX12 TX12 19, u_lay RX12 TX12 20, u_lay RX12 TX12 21, u_lay RX12 TX12 22, u_lay RX12 TX12 23, u_lay RX12 TX12 24, u_lay RX12 TX12 25, u_lay RX12 TX12 26, u_lay RX12 TX12 27, u_lay RX12 TX12 28, u_lay RX12 TX12 29, u_lay RX12 TX12 30, u_lay RX12 TX12 31, u_lay RX12 TX12 32, u_lay RX12 TX12 33, u_lay RX12 TX12 34, u_lay RX12 TX12 35, u_lay RX12 TX12 36, u_lay RX12 TX12 37, u_lay RX12 TX12 38, u_lay RX12 TX12 39, u_lay RX12 TX12 40, u_lay RX12 TX12 41, u_lay RX12 TX12 42, u_lay RX12 TX12 43, u_lay RX12 TX12 44, u_lay RX12 TX12 45, u_lay RX12 TX12 46, u_lay RX12 TX12 47, u_lay RX12 TX12 48, u_lay RX12 TX12 49, u_lay RX12 TX12 50, u_lay RX12 TX12 51, u_lay RX12 TX12 52, u_lay RX12 TX12 53, u_lay RX12 TX12 54, u_lay RX12 TX12 55, u_lay RX12 TX12 56, u_lay RX12 TX12 57, u_lay RX12 TX12 58, u_lay RX12 TX12 59, u_lay RX12 TX12 60, u_lay RX12 TX12 61, u_lay RX12 TX12 62, u_lay RX12 TX12 63, u_lay RX12 TX12 64, u_lay RX12 TX12 65, u_lay RX12 TX12 66, u_lay RX12 TX12 67, u_lay RX12 TX12 68, u_lay RX12 TX12 69, u_lay RX12 TX12 70, u_lay RX12 TX12 71, u_lay RX12 TX12 72, u_lay RX12 TX12 73, u_lay RX12 TX12 74, u_lay RX12 TX12 75, u_lay RX12 TX12 76, u_lay RX12 TX12 77, u_lay RX12 TX12 78, u_lay RX12 TX12 79, u_lay RX12 TX12 80, u_lay RX12 TX12 81, u_lay RX12 TX12 82, u_lay RX12 TX12 83, u_lay RX12 TX12 84, u_lay RX12 TX12 85], w ∈ AW
  exact List.forall_mem_cons.mpr ⟨kAW (v_4_8 (List.mem_of_getElem? (i := 3) rfl)) rfl, List.forall_mem_cons.mpr ⟨kAW (v_4_8 (List.mem_of_getElem? (i := 5) rfl)) rfl, List.forall_mem_cons.mpr ⟨kAW (v_4_8 (List.mem_of_getElem? (i := 7) rfl)) rfl, List.forall_mem_cons.mpr ⟨kAW (v_4_8 (List.mem_of_getElem? (i := 9) rfl)) rfl, List.forall_mem_cons.mpr ⟨kAW (v_4_8 (List.mem_of_getElem? (i := 11) rfl)) rfl, List.forall_mem_cons.mpr ⟨kAW (v_4_8 (List.mem_of_getElem? (i := 13) rfl)) rfl, List.forall_mem_cons.mpr ⟨kAW (v_4_8 (List.mem_of_getElem? (i := 15) rfl)) rfl, List.forall_mem_cons.mpr ⟨kAW (v_4_9 (List.mem_of_getElem? (i := 1) rfl)) rfl, List.forall_mem_cons.mpr ⟨kAW (v_4_9 (List.mem_of_getElem? (i := 3) rfl)) rfl, List.forall_mem_cons.mpr ⟨kAW (v_4_9 (List.mem_of_getElem? (i := 5) rfl)) rfl, List.forall_mem_cons.mpr ⟨kAW (v_4_9 (List.mem_of_getElem? (i := 7) rfl)) rfl, List.forall_mem_cons.mpr ⟨kAW (v_4_9 (List.mem_of_getElem? (i := 9) rfl)) rfl, List.forall_mem_cons.mpr ⟨kAW (v_4_9 (List.mem_of_getElem? (i := 11) rfl)) rfl, List.forall_mem_cons.mpr ⟨kAW (v_4_9 (List.mem_of_getElem? (i := 13) rfl)) rfl, List.forall_mem_cons.mpr ⟨kAW (v_4_9 (List.mem_of_getElem? (i := 15) rfl)) rfl, List.forall_mem_cons.mpr ⟨kAW (v_4_10 (List.mem_of_getElem? (i := 1) rfl)) rfl, List.forall_mem_cons.mpr ⟨kAW (v_4_10 (List.mem_of_getElem? (i := 3) rfl)) rfl, List.forall_mem_cons.mpr ⟨kAW (v_4_10 (List.mem_of_getElem? (i := 5) rfl)) rfl, List.forall_mem_cons.mpr ⟨kAW (v_4_10 (List.mem_of_getElem? (i := 7) rfl)) rfl, List.forall_mem_cons.mpr ⟨kAW (v_4_10 (List.mem_of_getElem? (i := 9) rfl)) rfl, List.forall_mem_cons.mpr ⟨kAW (v_4_10 (List.mem_of_getElem? (i := 11) rfl)) rfl, List.forall_mem_cons.mpr ⟨kAW (v_4_10 (List.mem_of_getElem? (i := 13) rfl)) rfl, List.forall_mem_cons.mpr ⟨kAW (v_4_10 (List.mem_of_getElem? (i := 15) rfl)) rfl, List.forall_mem_cons.mpr ⟨kAW (v_4_11 (List.mem_of_getElem? (i := 1) rfl)) rfl, List.forall_mem_cons.mpr ⟨kAW (v_4_11 (List.mem_of_getElem? (i := 3) rfl)) rfl, List.forall_mem_cons.mpr ⟨kAW (v_4_11 (List.mem_of_getElem? (i := 5) rfl)) rfl, List.forall_mem_cons.mpr ⟨kAW (v_4_11 (List.mem_of_getElem? (i := 7) rfl)) rfl, List.forall_mem_cons.mpr ⟨kAW (v_4_11 (List.mem_of_getElem? (i := 9) rfl)) rfl, List.forall_mem_cons.mpr ⟨kAW (v_4_11 (List.mem_of_getElem? (i := 11) rfl)) rfl, List.forall_mem_cons.mpr ⟨kAW (v_4_11 (List.mem_of_getElem? (i := 13) rfl)) rfl, List.forall_mem_cons.mpr ⟨kAW (v_4_11 (List.mem_of_getElem? (i := 15) rfl)) rfl, List.forall_mem_cons.mpr ⟨kAW (v_4_12 (List.mem_of_getElem? (i := 1) rfl)) rfl, List.forall_mem_cons.mpr ⟨kAW (v_4_12 (List.mem_of_getElem? (i := 3) rfl)) rfl, List.forall_mem_cons.mpr ⟨kAW (v_4_12 (List.mem_of_getElem? (i := 5) rfl)) rfl, List.forall_mem_cons.mpr ⟨kAW (v_4_12 (List.mem_of_getElem? (i := 7) rfl)) rfl, List.forall_mem_cons.mpr ⟨kAW (v_4_12 (List.mem_of_getElem? (i := 9) rfl)) rfl, List.forall_mem_cons.mpr ⟨kAW (v_4_12 (List.mem_of_getElem? (i := 11) rfl)) rfl, List.forall_mem_cons.mpr ⟨kAW (v_4_12 (List.mem_of_getElem? (i := 13) rfl)) rfl, List.forall_mem_cons.mpr ⟨kAW (v_4_12 (List.mem_of_getElem? (i := 15) rfl)) rfl, List.forall_mem_cons.mpr ⟨kAW (v_4_13 (List.mem_of_getElem? (i := 1) rfl)) rfl, List.forall_mem_cons.mpr ⟨kAW (v_4_13 (List.mem_of_getElem? (i := 3) rfl)) rfl, List.forall_mem_cons.mpr ⟨kAW (v_4_13 (List.mem_of_getElem? (i := 5) rfl)) rfl, List.forall_mem_cons.mpr ⟨kAW (v_4_13 (List.mem_of_getElem? (i := 7) rfl)) rfl, List.forall_mem_cons.mpr ⟨kAW (v_4_13 (List.mem_of_getElem? (i := 9) rfl)) rfl, List.forall_mem_cons.mpr ⟨kAW (v_4_13 (List.mem_of_getElem? (i := 11) rfl)) rfl, List.forall_mem_cons.mpr ⟨kAW (v_4_13 (List.mem_of_getElem? (i := 13) rfl)) rfl, List.forall_mem_cons.mpr ⟨kAW (v_4_13 (List.mem_of_getElem? (i := 15) rfl)) rfl, List.forall_mem_cons.mpr ⟨kAW (v_4_14 (List.mem_of_getElem? (i := 1) rfl)) rfl, List.forall_mem_cons.mpr ⟨kAW (v_4_14 (List.mem_of_getElem? (i := 3) rfl)) rfl, List.forall_mem_cons.mpr ⟨kAW (v_4_14 (List.mem_of_getElem? (i := 5) rfl)) rfl, List.forall_mem_cons.mpr ⟨kAW (v_4_14 (List.mem_of_getElem? (i := 7) rfl)) rfl, List.forall_mem_cons.mpr ⟨kAW (v_4_14 (List.mem_of_getElem? (i := 9) rfl)) rfl, List.forall_mem_cons.mpr ⟨kAW (v_4_14 (List.mem_of_getElem? (i := 11) rfl)) rfl, List.forall_mem_cons.mpr ⟨kAW (v_4_14 (List.mem_of_getElem? (i := 13) rfl)) rfl, List.forall_mem_cons.mpr ⟨kAW (v_4_14 (List.mem_of_getElem? (i := 15) rfl)) rfl, List.forall_mem_cons.mpr ⟨kAW (v_5_0 (List.mem_of_getElem? (i := 1) rfl)) rfl, List.forall_mem_cons.mpr ⟨kAW (v_5_0 (List.mem_of_getElem? (i := 3) rfl)) rfl, List.forall_mem_cons.mpr ⟨kAW (v_5_0 (List.mem_of_getElem? (i := 5) rfl)) rfl, List.forall_mem_cons.mpr ⟨kAW (v_5_0 (List.mem_of_getElem? (i := 7) rfl)) rfl, List.forall_mem_cons.mpr ⟨kAW (v_5_0 (List.mem_of_getElem? (i := 9) rfl)) rfl, List.forall_mem_cons.mpr ⟨kAW (v_5_0 (List.mem_of_getElem? (i := 11) rfl)) rfl, List.forall_mem_cons.mpr ⟨kAW (v_5_0 (List.mem_of_getElem? (i := 13) rfl)) rfl, List.forall_mem_cons.mpr ⟨kAW (v_5_0 (List.mem_of_getElem? (i := 15) rfl)) rfl, List.forall_mem_cons.mpr ⟨kAW (v_5_1 (List.mem_of_getElem? (i := 1) rfl)) rfl, List.forall_mem_cons.mpr ⟨kAW (v_5_1 (List.mem_of_getElem? (i := 3) rfl)) rfl, List.forall_mem_cons.mpr ⟨kAW (v_5_1 (List.mem_of_getElem? (i := 5) rfl)) rfl, List.forall_mem_cons.mpr ⟨kAW (v_5_1 (List.mem_of_getElem? (i := 7) rfl)) rfl, List.forall_mem_cons.mpr ⟨kAW (v_5_1 (List.mem_of_getElem? (i := 9) rfl)) rfl, List.forall_mem_cons.mpr ⟨kAW (v_5_1 (List.mem_of_getElem? (i := 11) rfl)) rfl, List.forall_mem_cons.mpr ⟨kAW (v_5_1 (List.mem_of_getElem? (i := 13) rfl)) rfl, List.forall_mem_cons.mpr ⟨kAW (v_5_1 (List.mem_of_getElem? (i := 15) rfl)) rfl, List.forall_mem_cons.mpr ⟨kAW (v_5_2 (List.mem_of_getElem? (i := 1) rfl)) rfl, List.forall_mem_cons.mpr ⟨kAW (v_5_2 (List.mem_of_getElem? (i := 3) rfl)) rfl, List.forall_mem_cons.mpr ⟨kAW (v_5_2 (List.mem_of_getElem? (i := 5) rfl)) rfl, List.forall_mem_cons.mpr ⟨kAW (v_5_2 (List.mem_of_getElem? (i := 7) rfl)) rfl, List.forall_mem_cons.mpr ⟨kAW (v_5_2 (List.mem_of_getElem? (i := 9) rfl)) rfl, List.forall_mem_cons.mpr ⟨kAW (v_5_2 (List.mem_of_getElem? (i := 11) rfl)) rfl, List.forall_mem_cons.mpr ⟨kAW (v_5_2 (List.mem_of_getElem? (i := 13) rfl)) rfl, List.forall_mem_cons.mpr ⟨kAW (v_5_2 (List.mem_of_getElem? (i := 15) rfl)) rfl, List.forall_mem_cons.mpr ⟨kAW (v_5_3 (List.mem_of_getElem? (i := 1) rfl)) rfl, List.forall_mem_cons.mpr ⟨kAW (v_5_3 (List.mem_of_getElem? (i := 3) rfl)) rfl, List.forall_mem_cons.mpr ⟨kAW (v_5_3 (List.mem_of_getElem? (i := 5) rfl)) rfl, List.forall_mem_cons.mpr ⟨kAW (v_5_3 (List.mem_of_getElem? (i := 7) rfl)) rfl, List.forall_mem_cons.mpr ⟨kAW (v_5_3 (List.mem_of_getElem? (i := 9) rfl)) rfl, List.forall_mem_cons.mpr ⟨kAW (v_5_3 (List.mem_of_getElem? (i := 11) rfl)) rfl, List.forall_mem_cons.mpr ⟨kAW (v_5_3 (List.mem_of_getElem? (i := 13) rfl)) rfl, fun _ h => absurd h List.not_mem_nil⟩⟩⟩⟩⟩⟩⟩⟩⟩⟩⟩⟩⟩⟩⟩⟩⟩⟩⟩⟩⟩⟩⟩⟩⟩⟩⟩⟩⟩⟩⟩⟩⟩⟩⟩⟩⟩⟩⟩⟩⟩⟩⟩⟩⟩⟩⟩⟩⟩⟩⟩⟩⟩⟩⟩⟩⟩⟩⟩⟩⟩⟩⟩⟩⟩⟩⟩⟩⟩⟩⟩⟩⟩⟩⟩⟩⟩⟩⟩⟩⟩⟩⟩⟩⟩⟩
/-- a field that its own class names: own class, pool number, kind of object, how many fields, which -/
def FG (own : String) (index ci n k : Nat) : Prop := ∃ (C : String) (T : u_T), vwCl[ci]? = some (C, T, n) ∧ (∀ w ∈ u_ws C T n, w ∈ AW) ∧ k < n ∧ Cond.fieldLink own index C (T k).2.1 (T k).2.2.1 ∈ AW ∧ (T k).1 = C
/-- .. and that may be written with values of a type -/
def FP (own : String) (index ci n k : Nat) (ty : FieldType) : Prop := ∃ (C : String) (T : u_T) (ty0 : Nat → FieldType), vwCl[ci]? = some (C, T, n) ∧ (∀ w ∈ u_ws C T n, w ∈ AW) ∧ k < n ∧ Cond.fieldLink own index C (T k).2.1 (T k).2.2.1 ∈ AW ∧ (T k).1 = C ∧ (∀ k, k < n → parseFieldDescriptor (T k).2.2.1 = some (ty0 k)) ∧ (∀ a, a < n → ∀ b, b < n → a ≠ b → (T a).2.1 ≠ (T b).2.1) ∧ parseFieldDescriptor (T k).2.2.1 = some ty ∧ (T k).2.2.2 = false
end
section
/-- what is fixed during a method's walk -/
abbrev KT : Type := Program × Launch × Env × Room × State × MethodId × Array Value × List Frame × Method × Code × (State → Prop) × va_G × (Nat → Prop) × Heap
/-- the goal of a walk: from here the method comes to its end -/
def XX (K : KT) (k n : Nat) (H : Heap) (locs : List Loc) (pc : Nat) (ls : Array Slot) (st : List Value) : Prop := match K with
  | (p, l, e, R, s, m, args, below, meth, c, Q, _, _, _) => W p l e R s m args below meth c H locs k n Q (F0 m pc ls st)
/-- the arrays' classes: of ints, of rows of ints, of Arts, of bytes, of booleans, of longs -/
def TY (cA : Nat → ClassId) : List (ClassId × FieldType) := [(cA 0, .int), (cA 1, .array .int), (cA 2, .object "ForgetSchool$Art"), (cA 3, .byte), (cA 4, .boolean), (cA 5, .long)]
/-- words that a callee can't take over by itself: links between nest mates -/
def NWL : List Cond := [(Cond.fieldLinkNest "ForgetSchool$Search" (35) "ForgetSchool$Course" "pupils" "LForgetSchool$Pupils;" "ForgetSchool"), (Cond.methodLinkNest "ForgetSchool$ArtReader" (55) yX11_within "ForgetSchool"), (Cond.methodLinkNest "ForgetSchool$LawReader" (98) yX11_within "ForgetSchool"), (Cond.methodLinkNest "ForgetSchool$Course" (61) yX11_has "ForgetSchool"), (Cond.methodLinkNest "ForgetSchool$Course" (147) yX11_tenths "ForgetSchool"), (Cond.methodLinkNest "ForgetSchool$Pupils" (39) yX11_has "ForgetSchool"), (Cond.methodLinkNest "ForgetSchool$Search" (79) yX11_areOf "ForgetSchool"), (Cond.methodLinkNest "ForgetSchool$Search" (59) yX11_has "ForgetSchool"), (Cond.methodLinkNest "ForgetSchool$Net" (32) yX11_areOf "ForgetSchool"), (Cond.methodLinkNest "ForgetSchool$Net" (28) yX11_has "ForgetSchool"), (Cond.methodLinkNest "ForgetSchool$Net" (47) yX11_lowestBit "ForgetSchool"), (Cond.methodLinkNest "ForgetSchool$Staff" (34) yX11_lowestBit "ForgetSchool"), (Cond.methodLinkNest "ForgetSchool$Staff" (30) yX11_has "ForgetSchool"), (Cond.methodLinkNest "ForgetSchool$Staff" (41) yX11_areOf "ForgetSchool")]
theorem NWL_kind : ∀ w ∈ NWL, (∃ a i x h, w = .methodLinkNest a i x h) ∨ (∃ a i b n d h, w = .fieldLinkNest a i b n d h) := by
  simp [NWL]
def KB (D : va_G) (cA : Nat → ClassId) (U : State) : Prop := va_K D vwCl (TY cA) U ∧ (∀ w ∈ NWL, va_Nw w U) ∧ va_AO "ForgetSchool$Art" U ∧ (Cond.arrayOver (.array .int)).before #[] U = true
theorem KB.moved {D : va_G} {cA : Nat → ClassId} {s U : State} (hW : s.WarmedH U.vm) (h : KB D cA s) : KB D cA U := by
  refine ⟨h.1.moved hW.alike, fun w hw => ?_, h.2.2.1.moved hW.alike, over_moved hW.alike h.2.2.2⟩
  rcases NWL_kind w hw with ⟨a, i, x, h9, rfl⟩ | ⟨a, i, b, n, d, h9, rfl⟩
  · exact va_Nw.warmM hW (h.2.1 _ hw)
  · exact va_Nw.warmF hW (h.2.1 _ hw)
theorem KB.calling {D : va_G} {cA : Nat → ClassId} {U : State} (a : Array Value) (g : JFrame) (mk : MethodId) (h : KB D cA U) : KB D cA (U.calling g mk a) := by
  refine ⟨va_K.moved (u := U) (U := U.calling g mk a) (Vm.Alike.refl U.vm) h.1, fun w hw => ?_, va_AO.moved (u := U) (U := U.calling g mk a) (Vm.Alike.refl U.vm) h.2.2.1, over_moved (u := U) (E := U.calling g mk a) (Vm.Alike.refl U.vm) h.2.2.2⟩
  rcases NWL_kind w hw with ⟨a, i, x, h9, rfl⟩ | ⟨a, i, b, n, d, h9, rfl⟩
  · exact va_Nw.same rfl rfl (h.2.1 _ hw)
  · exact va_Nw.same rfl rfl (h.2.1 _ hw)
/-- what holds all through a method: machine, code, words, tables -/
def MB (K : KT) (cA : Nat → ClassId) (cc : ByteArray) (nL : Nat) (own : String) : Prop := match K with
  | (p, _, _, _, s, m, args, _, meth, c, _, D, A, H0) => (p.tables.exec = Jvm.exec ∧ c.code = cc ∧ c.maxLocals = nL ∧ s.vm.findClass own = some m.cls ∧ ∀ w ∈ AW, w.before args s = true) ∧ KB D cA s ∧ meth.locks = false ∧ ∀ q, H0.size ≤ q → A q
/-- the world as a list of cells -/
def WL (K : KT) (ws : va_W) (H : Heap) (locs : List Loc) : Prop := match K with
  | (_, _, _, _, _, _, _, _, _, _, _, D, A, H0) => va_P D vwCl ws H ∧ va_D A ws ∧ va_S A H0 H locs
/-- cells: an object of n fields; arrays of ints (also bytes, booleans), of references, of longs -/
def ob (ci n : Nat) (fv : Nat → Value) : va_E := .inr (ci, (List.range n).map fv)
def ia (c : ClassId) (n : Nat) (f : Nat → Int32) : va_E := .inl (c, n, .inl f)
def qa (c : ClassId) (n : Nat) (f : Nat → Option Nat) : va_E := .inl (c, n, .inr (.inr (.inr (.inr f))))
def ja (c : ClassId) (n : Nat) (f : Nat → Int64) : va_E := .inl (c, n, .inr (.inl f))
def wd (N : Nat) (ad : Nat → Nat) (g : Nat → va_E) : va_W := (List.range N).map (fun i => (ad i, g i))
theorem wd_get {N i : Nat} {ad : Nat → Nat} {g : Nat → va_E} (h : i < N) : (wd N ad g)[i]? = some (ad i, g i) := by
  unfold wd
  rw [List.getElem?_map, List.getElem?_range h]
  rfl
theorem map_set {α : Type} (f : Nat → α) (N i : Nat) (v : α) : ((List.range N).map f).set i v = (List.range N).map (fun j => if j = i then v else f j) := by
  apply List.ext_getElem?
  intro j
  rw [List.getElem?_set, List.getElem?_map, List.getElem?_map, List.length_map, List.length_range]
  by_cases hj : j < N
  · rw [List.getElem?_range hj]
    by_cases e : i = j
    · subst e; simp [hj]
    · simp [e, Ne.symm e]
  · rw [List.getElem?_eq_none (by rw [List.length_range]; omega)]
    by_cases e : i = j
    · subst e; simp [hj]
    · simp [e]
theorem wd_set {N i : Nat} {ad : Nat → Nat} {g : Nat → va_E} (c : va_E) : (wd N ad g).set i (ad i, c) = wd N ad (va_up g i c) := by
  unfold wd
  rw [map_set]
  congr 1
  funext j
  by_cases e : j = i
  · subst e; simp [va_up]
  · simp [va_up, e]
theorem ob_get {n k : Nat} {fv : Nat → Value} (h : k < n) : ((List.range n).map fv)[k]? = some (fv k) := by
  rw [List.getElem?_map, List.getElem?_range h]
  rfl
/-- what stands in a field, in a row -/
def fld (g : Nat → va_E) (i k : Nat) : Value := match g i with
  | .inr (_, fs) => fs.getD k .null
  | .inl _ => .null
def fI (g : Nat → va_E) (i k : Nat) : Int32 := match fld g i k with
  | .int x => x
  | _ => 0
def arI (g : Nat → va_E) (i : Nat) : Nat → Int32 := match g i with
  | .inl (_, _, .inl f) => f
  | _ => fun _ => 0
def arQ (g : Nat → va_E) (i : Nat) : Nat → Option Nat := match g i with
  | .inl (_, _, .inr (.inr (.inr (.inr f)))) => f
  | _ => fun _ => none
def arJ (g : Nat → va_E) (i : Nat) : Nat → Int64 := match g i with
  | .inl (_, _, .inr (.inl f)) => f
  | _ => fun _ => 0
/-- writes -/
def stF (g : Nat → va_E) (i k : Nat) (v : Value) : Nat → va_E := va_up g i (match g i with
  | .inr (ci, fs) => .inr (ci, fs.set k v)
  | e => e)
def stA (g : Nat → va_E) (i j : Nat) (x : Int32) : Nat → va_E := va_up g i (match g i with
  | .inl (c, n, .inl f) => .inl (c, n, .inl (upd f j x))
  | e => e)
def stJ (g : Nat → va_E) (i j : Nat) (x : Int64) : Nat → va_E := va_up g i (match g i with
  | .inl (c, n, .inr (.inl f)) => .inl (c, n, .inr (.inl (vp_updL f j x)))
  | e => e)
theorem stF_ne {g : Nat → va_E} {i k j : Nat} {v : Value} (h : j ≠ i) : stF g i k v j = g j := va_up_ne _ _ h
theorem stA_ne {g : Nat → va_E} {i k j : Nat} {v : Int32} (h : j ≠ i) : stA g i k v j = g j := va_up_ne _ _ h
theorem stJ_ne {g : Nat → va_E} {i k j : Nat} {v : Int64} (h : j ≠ i) : stJ g i k v j = g j := va_up_ne _ _ h
theorem fld_eq {g g' : Nat → va_E} {i : Nat} (h : g' i = g i) (k : Nat) : fld g' i k = fld g i k := by unfold fld; rw [h]
theorem fI_eq {g g' : Nat → va_E} {i : Nat} (h : g' i = g i) (k : Nat) : fI g' i k = fI g i k := by unfold fI; rw [fld_eq h]
theorem arI_eq {g g' : Nat → va_E} {i : Nat} (h : g' i = g i) : arI g' i = arI g i := by unfold arI; rw [h]
theorem arQ_eq {g g' : Nat → va_E} {i : Nat} (h : g' i = g i) : arQ g' i = arQ g i := by unfold arQ; rw [h]
theorem arJ_eq {g g' : Nat → va_E} {i : Nat} (h : g' i = g i) : arJ g' i = arJ g i := by unfold arJ; rw [h]
theorem fld_stk {g : Nat → va_E} {i k k' : Nat} {v : Value} (h : k' ≠ k) : fld (stF g i k v) i k' = fld g i k' := by
  unfold fld stF
  rw [va_up_self]
  cases g i with
  | inl a => rfl
  | inr a =>
    obtain ⟨ci, fs⟩ := a
    simp [List.getD, List.getElem?_set, Ne.symm h]
theorem fld_st {g : Nat → va_E} {i ci n k : Nat} {v : Value} {fv : Nat → Value} (hg : g i = ob ci n fv) (h : k < n) : fld (stF g i k v) i k = v := by
  unfold fld stF
  rw [va_up_self, hg]
  simp [ob, List.getD, List.getElem?_set, h]
theorem fld_stA {g : Nat → va_E} {i j i' k : Nat} {x : Int32} : fld (stA g i j x) i' k = fld g i' k := by
  unfold fld stA
  by_cases e : i' = i
  · subst e
    rw [va_up_self]
    cases g i' with
    | inr a => rfl
    | inl a =>
      obtain ⟨c, n, f | f⟩ := a <;> rfl
  · rw [va_up_ne _ _ e]
theorem fld_stJ {g : Nat → va_E} {i j i' k : Nat} {x : Int64} : fld (stJ g i j x) i' k = fld g i' k := by
  unfold fld stJ
  by_cases e : i' = i
  · subst e
    rw [va_up_self]
    cases g i' with
    | inr a => rfl
    | inl a =>
      obtain ⟨c, n, f | f | f⟩ := a <;> rfl
  · rw [va_up_ne _ _ e]
theorem arI_stF {g : Nat → va_E} {i k i' : Nat} {v : Value} : arI (stF g i k v) i' = arI g i' := by
  unfold arI stF
  by_cases e : i' = i
  · subst e
    rw [va_up_self]
    cases g i' with
    | inr a => rfl
    | inl a => rfl
  · rw [va_up_ne _ _ e]
theorem arI_st {g : Nat → va_E} {i j : Nat} {x : Int32} {c : ClassId} {n : Nat} {f : Nat → Int32} (hg : g i = ia c n f) : arI (stA g i j x) i = upd (arI g i) j x := by
  unfold arI stA
  rw [va_up_self, hg]
  rfl
theorem ob_fld {g : Nat → va_E} {i ci n : Nat} {fv : Nat → Value} (hg : g i = ob ci n fv) : g i = ob ci n (fld g i) := by
  have : (List.range n).map fv = (List.range n).map (fld g i) := by
    apply List.map_congr_left
    intro k hk
    unfold fld
    rw [hg]
    simp [ob, List.getD, List.mem_range.mp hk]
  rw [show ob ci n (fld g i) = .inr (ci, (List.range n).map (fld g i)) from rfl, ← this, hg]
  rfl
theorem ia_arI {g : Nat → va_E} {i n : Nat} {c : ClassId} {f : Nat → Int32} (hg : g i = ia c n f) : g i = ia c n (arI g i) := by
  unfold arI; rw [hg]; rfl
theorem qa_arQ {g : Nat → va_E} {i n : Nat} {c : ClassId} {f : Nat → Option Nat} (hg : g i = qa c n f) : g i = qa c n (arQ g i) := by
  unfold arQ; rw [hg]; rfl
theorem ja_arJ {g : Nat → va_E} {i n : Nat} {c : ClassId} {f : Nat → Int64} (hg : g i = ja c n f) : g i = ja c n (arJ g i) := by
  unfold arJ; rw [hg]; rfl
end
section
section RW
variable {K : KT} {cA : Nat → ClassId} {cc : ByteArray} {nL : Nat} {own : String} {k n : Nat} {H : Heap} {locs : List Loc} {pc : Nat} {ls : Array Slot} {rest : List Value} {ad : Nat → Nat} {g : Nat → va_E} {N : Nat}
/-- the uniform world: N cells, the i-th at the address ad i, holding g i -/
def WB (N : Nat) (ad : Nat → Nat) (K : KT) (g : Nat → va_E) (H : Heap) (locs : List Loc) : Prop := WL K (wd N ad g) H locs
theorem q_getF {i ci nf kf index : Nat} {v : Value} (hM : MB K cA cc nL own) (hW : WB N ad K g H locs) (F : FG own index ci nf kf) (hi : i < N) (hg : g i = ob ci nf (fld g i)) (hv : fld g i kf = v) (hd : decode cc pc = .ok (.getfield index, 3))
    (kk : XX K k n H locs (pc + 3) ls (v :: rest)) : XX K k n H locs pc ls (.ref (ad i) :: rest) := by
  obtain ⟨p, l, e, R, s, m, args, below, meth, c, Q, D, A, H0⟩ := K
  obtain ⟨⟨hx, hb, hml, hown, hts⟩, ⟨hK, -⟩, -⟩ := hM
  obtain ⟨hP, hD, hS⟩ := hW
  obtain ⟨C, T, h1, h2, h3, h4, h5⟩ := F
  subst h5
  exact va_get (D := D) (ci := ci) hx hb hts h2 hown hK hP i ((wd_get hi).trans (by rw [hg]; rfl)) h1 kf h3 (hts _ h4) (fun _ h9 => h9) (by rw [ob_get h3, hv]) hd kk
theorem q_putF {i ci nf kf index : Nat} {v : Value} {ty : FieldType} (hM : MB K cA cc nL own) (hW : WB N ad K g H locs) (F : FP own index ci nf kf ty) (hi : i < N) (hg : g i = ob ci nf (fld g i)) (hn : narrow ty v = v) (hfit : fits ty v = true) (hd : decode cc pc = .ok (.putfield index, 3))
    (kk : ∀ H locs, WB N ad K (stF g i kf v) H locs → XX K k n H locs (pc + 3) ls rest) : XX K k n H locs pc ls (v :: .ref (ad i) :: rest) := by
  obtain ⟨p, l, e, R, s, m, args, below, meth, c, Q, D, A, H0⟩ := K
  obtain ⟨⟨hx, hb, hml, hown, hts⟩, ⟨hK, -⟩, -⟩ := hM
  obtain ⟨hP, hD, hS⟩ := hW
  obtain ⟨C, T, ty0, h1, h2, h3, h4, h5, h6, h7, h8, h9⟩ := F
  subst h5
  refine va_put (D := D) (ci := ci) hx hb hts h2 ty0 h6 h7 hown hK hP hD hS i ((wd_get hi).trans (by rw [hg]; rfl)) h1 kf h3 (hts _ h4) (fun _ h => h) h9 h8 hn hfit (by simpa using h3) hd (fun H1 locs1 a1 a2 a3 => ?_)
  have e : (wd N ad g).set i (ad i, .inr (ci, ((List.range nf).map (fld g i)).set kf v)) = wd N ad (stF g i kf v) := by
    rw [wd_set]
    unfold stF
    rw [hg]
    rfl
  rw [e] at a1 a2
  exact kk H1 locs1 ⟨a1, a2, a3⟩
theorem q_iald {i na : Nat} {j : Int32} (hM : MB K cA cc nL own) (hW : WB N ad K g H locs) (hi : i < N) (hg : g i = ia (cA 0) na (arI g i)) (hin : vp_in j na) (hd : decode cc pc = .ok (.iaload, 1))
    (kk : XX K k n H locs (pc + 1) ls (.int (arI g i j.toNatClampNeg) :: rest)) : XX K k n H locs pc ls (.int j :: .ref (ad i) :: rest) := by
  obtain ⟨p, l, e, R, s, m, args, below, meth, c, Q, D, A, H0⟩ := K
  obtain ⟨⟨hx, hb, hml, hown, hts⟩, ⟨hK, -⟩, -⟩ := hM
  obtain ⟨hP, hD, hS⟩ := hW
  exact va_iald (D := D) hx hb hK hP i 0 ((wd_get hi).trans (by rw [hg]; rfl)) rfl hin hd kk
theorem q_bald {i na : Nat} {j : Int32} (hM : MB K cA cc nL own) (hW : WB N ad K g H locs) (hi : i < N) (hg : g i = ia (cA 3) na (arI g i)) (hin : vp_in j na) (hd : decode cc pc = .ok (.baload, 1))
    (kk : XX K k n H locs (pc + 1) ls (.int (arI g i j.toNatClampNeg) :: rest)) : XX K k n H locs pc ls (.int j :: .ref (ad i) :: rest) := by
  obtain ⟨p, l, e, R, s, m, args, below, meth, c, Q, D, A, H0⟩ := K
  obtain ⟨⟨hx, hb, hml, hown, hts⟩, ⟨hK, -⟩, -⟩ := hM
  obtain ⟨hP, hD, hS⟩ := hW
  exact va_bald (D := D) hx hb hK hP i 3 ((wd_get hi).trans (by rw [hg]; rfl)) rfl hin hd kk
theorem q_zald {i na : Nat} {j : Int32} (hM : MB K cA cc nL own) (hW : WB N ad K g H locs) (hi : i < N) (hg : g i = ia (cA 4) na (arI g i)) (hin : vp_in j na) (hd : decode cc pc = .ok (.baload, 1))
    (kk : XX K k n H locs (pc + 1) ls (.int (arI g i j.toNatClampNeg) :: rest)) : XX K k n H locs pc ls (.int j :: .ref (ad i) :: rest) := by
  obtain ⟨p, l, e, R, s, m, args, below, meth, c, Q, D, A, H0⟩ := K
  obtain ⟨⟨hx, hb, hml, hown, hts⟩, ⟨hK, -⟩, -⟩ := hM
  obtain ⟨hP, hD, hS⟩ := hW
  exact va_zald (D := D) hx hb hK hP i 4 ((wd_get hi).trans (by rw [hg]; rfl)) rfl hin hd kk
theorem q_jald {i na : Nat} {j : Int32} (hM : MB K cA cc nL own) (hW : WB N ad K g H locs) (hi : i < N) (hg : g i = ja (cA 5) na (arJ g i)) (hin : vp_in j na) (hd : decode cc pc = .ok (.laload, 1))
    (kk : XX K k n H locs (pc + 1) ls (.long (arJ g i j.toNatClampNeg) :: rest)) : XX K k n H locs pc ls (.int j :: .ref (ad i) :: rest) := by
  obtain ⟨p, l, e, R, s, m, args, below, meth, c, Q, D, A, H0⟩ := K
  obtain ⟨⟨hx, hb, hml, hown, hts⟩, ⟨hK, -⟩, -⟩ := hM
  obtain ⟨hP, hD, hS⟩ := hW
  exact va_lald (D := D) hx hb hK hP i 5 ((wd_get hi).trans (by rw [hg]; rfl)) rfl hin hd kk
theorem q_aald {i na t0 b : Nat} {j : Int32} (hM : MB K cA cc nL own) (hW : WB N ad K g H locs) (hi : i < N) (hg : g i = qa (cA t0) na (arQ g i)) (ht : t0 = 1 ∨ t0 = 2) (hin : vp_in j na) (hv : arQ g i j.toNatClampNeg = some b) (hd : decode cc pc = .ok (.aaload, 1))
    (kk : XX K k n H locs (pc + 1) ls (.ref b :: rest)) : XX K k n H locs pc ls (.int j :: .ref (ad i) :: rest) := by
  obtain ⟨p, l, e, R, s, m, args, below, meth, c, Q, D, A, H0⟩ := K
  obtain ⟨⟨hx, hb, hml, hown, hts⟩, ⟨hK, -⟩, -⟩ := hM
  obtain ⟨hP, hD, hS⟩ := hW
  have hlt : j.toNatClampNeg < na := Nat.not_le.mp fun q => hin (Or.inr q)
  have ha : (wd N ad g)[i]? = some (ad i, .inl (cA t0, na, .inr (.inr (.inr (.inr (arQ g i)))))) := (wd_get hi).trans (by rw [hg]; rfl)
  have hc := hP i _ ha
  have kk : W p l e R s m args below meth c H locs k n Q (F0 m (pc + 1) ls (va_rf (arQ g i j.toNatClampNeg) :: rest)) := by rw [hv]; exact kk
  rcases ht with rfl | rfl
  · exact W.aald (v := va_rf (arQ g i j.toNatClampNeg)) (ty := .array .int) hx hb hc ((hK.2 1 _ rfl).1 na (fun j => va_rf (arQ g i j))) rfl (fun q => by cases q) (by show ¬ (j < 0 ∨ (arrV _ _ _).slots.size ≤ _); rw [arrV_size]; exact hin) (by show (arrV _ _ _).slots[_]? = _; rw [arrV_read _ _ hlt]) rfl rfl hd kk
  · exact W.aald (v := va_rf (arQ g i j.toNatClampNeg)) (ty := .object "ForgetSchool$Art") hx hb hc ((hK.2 2 _ rfl).1 na (fun j => va_rf (arQ g i j))) rfl (fun q => by cases q) (by show ¬ (j < 0 ∨ (arrV _ _ _).slots.size ≤ _); rw [arrV_size]; exact hin) (by show (arrV _ _ _).slots[_]? = _; rw [arrV_read _ _ hlt]) rfl rfl hd kk
theorem q_iast {i na : Nat} {j x : Int32} (hM : MB K cA cc nL own) (hW : WB N ad K g H locs) (hi : i < N) (hg : g i = ia (cA 0) na (arI g i)) (hin : vp_in j na) (hd : decode cc pc = .ok (.iastore, 1))
    (kk : ∀ H locs, WB N ad K (stA g i j.toNatClampNeg x) H locs → XX K k n H locs (pc + 1) ls rest) : XX K k n H locs pc ls (.int x :: .int j :: .ref (ad i) :: rest) := by
  obtain ⟨p, l, e, R, s, m, args, below, meth, c, Q, D, A, H0⟩ := K
  obtain ⟨⟨hx, hb, hml, hown, hts⟩, ⟨hK, -⟩, -⟩ := hM
  obtain ⟨hP, hD, hS⟩ := hW
  refine va_iast (D := D) hx hb hK hP hD hS i 0 ((wd_get hi).trans (by rw [hg]; rfl)) rfl hin hd (fun H1 locs1 a1 a2 a3 => ?_)
  have e : (wd N ad g).set i (ad i, .inl (cA 0, na, .inl (upd (arI g i) j.toNatClampNeg x))) = wd N ad (stA g i j.toNatClampNeg x) := by
    rw [wd_set]
    unfold stA
    rw [hg]
    rfl
  rw [e] at a1 a2
  exact kk H1 locs1 ⟨a1, a2, a3⟩
theorem q_bast {i na : Nat} {j x : Int32} (hM : MB K cA cc nL own) (hW : WB N ad K g H locs) (hi : i < N) (hg : g i = ia (cA 3) na (arI g i)) (hin : vp_in j na) (hd : decode cc pc = .ok (.bastore, 1))
    (kk : ∀ H locs, WB N ad K (stA g i j.toNatClampNeg (vp_nar .byte x)) H locs → XX K k n H locs (pc + 1) ls rest) : XX K k n H locs pc ls (.int x :: .int j :: .ref (ad i) :: rest) := by
  obtain ⟨p, l, e, R, s, m, args, below, meth, c, Q, D, A, H0⟩ := K
  obtain ⟨⟨hx, hb, hml, hown, hts⟩, ⟨hK, -⟩, -⟩ := hM
  obtain ⟨hP, hD, hS⟩ := hW
  refine va_bast (D := D) hx hb hK hP hD hS i 3 ((wd_get hi).trans (by rw [hg]; rfl)) rfl hin hd (fun H1 locs1 a1 a2 a3 => ?_)
  have e : (wd N ad g).set i (ad i, .inl (cA 3, na, .inl (upd (arI g i) j.toNatClampNeg (vp_nar .byte x)))) = wd N ad (stA g i j.toNatClampNeg (vp_nar .byte x)) := by
    rw [wd_set]
    unfold stA
    rw [hg]
    rfl
  rw [e] at a1 a2
  exact kk H1 locs1 ⟨a1, a2, a3⟩
theorem q_zast {i na : Nat} {j x : Int32} (hM : MB K cA cc nL own) (hW : WB N ad K g H locs) (hi : i < N) (hg : g i = ia (cA 4) na (arI g i)) (hin : vp_in j na) (hd : decode cc pc = .ok (.bastore, 1))
    (kk : ∀ H locs, WB N ad K (stA g i j.toNatClampNeg (vp_nar .boolean x)) H locs → XX K k n H locs (pc + 1) ls rest) : XX K k n H locs pc ls (.int x :: .int j :: .ref (ad i) :: rest) := by
  obtain ⟨p, l, e, R, s, m, args, below, meth, c, Q, D, A, H0⟩ := K
  obtain ⟨⟨hx, hb, hml, hown, hts⟩, ⟨hK, -⟩, -⟩ := hM
  obtain ⟨hP, hD, hS⟩ := hW
  refine va_zast (D := D) hx hb hK hP hD hS i 4 ((wd_get hi).trans (by rw [hg]; rfl)) rfl hin hd (fun H1 locs1 a1 a2 a3 => ?_)
  have e : (wd N ad g).set i (ad i, .inl (cA 4, na, .inl (upd (arI g i) j.toNatClampNeg (vp_nar .boolean x)))) = wd N ad (stA g i j.toNatClampNeg (vp_nar .boolean x)) := by
    rw [wd_set]
    unfold stA
    rw [hg]
    rfl
  rw [e] at a1 a2
  exact kk H1 locs1 ⟨a1, a2, a3⟩
theorem q_jast {i na : Nat} {j : Int32} {x : Int64} (hM : MB K cA cc nL own) (hW : WB N ad K g H locs) (hi : i < N) (hg : g i = ja (cA 5) na (arJ g i)) (hin : vp_in j na) (hd : decode cc pc = .ok (.lastore, 1))
    (kk : ∀ H locs, WB N ad K (stJ g i j.toNatClampNeg x) H locs → XX K k n H locs (pc + 1) ls rest) : XX K k n H locs pc ls (.long x :: .int j :: .ref (ad i) :: rest) := by
  obtain ⟨p, l, e, R, s, m, args, below, meth, c, Q, D, A, H0⟩ := K
  obtain ⟨⟨hx, hb, hml, hown, hts⟩, ⟨hK, -⟩, -⟩ := hM
  obtain ⟨hP, hD, hS⟩ := hW
  refine va_last (D := D) hx hb hK hP hD hS i 5 ((wd_get hi).trans (by rw [hg]; rfl)) rfl hin hd (fun H1 locs1 a1 a2 a3 => ?_)
  have e : (wd N ad g).set i (ad i, .inl (cA 5, na, .inr (.inl (vp_updL (arJ g i) j.toNatClampNeg x)))) = wd N ad (stJ g i j.toNatClampNeg x) := by
    rw [wd_set]
    unfold stJ
    rw [hg]
    rfl
  rw [e] at a1 a2
  exact kk H1 locs1 ⟨a1, a2, a3⟩
/-! calls -/
/-- which cells a method may change -/
def fr (N : Nat) (ad : Nat → Nat) (sz : Nat) : Nat → Prop := fun q => (∃ i, i < N ∧ q = ad i) ∨ sz ≤ q
def QX (N : Nat) (ad : Nat → Nat) (D : va_G) (sz : Nat) (P : Option Value → (Nat → va_E) → Prop) : Array Value → State → Outcome → State → Prop := fun _ st oc t => (∃ (v : Option Value) (g' : Nat → va_E), oc = .returned v ∧ P v g' ∧ va_P D vwCl (wd N ad g') t.heap) ∧ va_F (fr N ad sz) st t
def PX (N : Nat) (ad : Nat → Nat) (cA : Nat → ClassId) (D : va_G) (sz : Nat) (av : List Value) (g : Nat → va_E) : Array Value → State → Prop := va_Pc av (fun U => U.heap.size = sz ∧ va_P D vwCl (wd N ad g) U.heap ∧ KB D cA U ∧ va_D (fun _ => True) (wd N ad g))
/-- a method's contract over the uniform world -/
def CT (l : Launch) (N : Nat) (ad : Nat → Nat) (cA : Nat → ClassId) (D : va_G) (y : MethodName) (cc : ByteArray) (maxL : Nat) (ret : Option FieldType) (rm : Nat × Nat) (av : List Value) (g : Nat → va_E) (P : Option Value → (Nat → va_E) → Prop) : Prop :=
  ∀ sz : Nat, Met l y (.code y cc maxL ret :: AW) { frames := rm.1, cells := 0, slots := 0, locals := rm.2 } (PX N ad cA D sz av g) (QX N ad D sz P) 0 0 (fr N ad sz)
theorem PX_blind {D : va_G} {sz : Nat} {av : List Value} : FrameBlind (PX N ad cA D sz av g) := fun a U g9 mk h => ⟨h.1, h.2.1, h.2.2.1, h.2.2.2.1.calling a g9 mk, h.2.2.2.2⟩
theorem wd_at {j : Nat} {q : Nat × va_E} (h : (wd N ad g)[j]? = some q) : j < N ∧ q = (ad j, g j) := by
  have hlt : j < (wd N ad g).length := (List.getElem?_eq_some_iff.mp h).1
  have hj : j < N := by simpa [wd] using hlt
  exact ⟨hj, (Option.some.inj ((wd_get hj).symm.trans h)).symm⟩
theorem wdD_same {A : Nat → Prop} {g' : Nat → va_E} (h : va_D A (wd N ad g)) : va_D A (wd N ad g') := by
  refine ⟨fun i j p q hi hj hpq => ?_, fun j q hj => ?_⟩
  · obtain ⟨a1, rfl⟩ := wd_at hi
    obtain ⟨a2, rfl⟩ := wd_at hj
    exact h.1 i j (ad i, g i) (ad j, g j) (wd_get a1) (wd_get a2) hpq
  · obtain ⟨a1, rfl⟩ := wd_at hj
    exact h.2 j (ad j, g j) (wd_get a1)
theorem wd_fr {D : va_G} {A : Nat → Prop} {H0 : Heap} (hD : va_D A (wd N ad g)) (hS : va_S A H0 H locs) (hA : ∀ q, H0.size ≤ q → A q) : ∀ q, fr N ad H.size q → A q := by
  rintro q (⟨i, hi, rfl⟩ | h)
  · exact hD.2 i _ (wd_get hi)
  · exact hA q (Nat.le_trans hS.1 h)
/-- behind a call -/
theorem q_back {p : Program} {l : Launch} {e : Env} {R : Room} {s : State} {m : MethodId} {args : Array Value} {below : List Frame} {meth : Method} {c : Code} {Q : State → Prop} {D : va_G} {A : Nat → Prop} {H0 : Heap} {st0 : List Value} {P : Option Value → (Nat → va_E) → Prop} {a : Array Value}
    (hr : va_Run p l e R s m args below meth c H locs k n 0 0 (F0 m pc ls st0) rest (QX N ad D H.size P a) (fr N ad H.size)) (hA : ∀ q, H0.size ≤ q → A q) (hW : WB N ad (p, l, e, R, s, m, args, below, meth, c, Q, D, A, H0) g H locs)
    (kk : ∀ (v : Option Value) (g' : Nat → va_E) (H1 : Heap) (locs1 : List Loc), P v g' → WB N ad (p, l, e, R, s, m, args, below, meth, c, Q, D, A, H0) g' H1 locs1 → XX (p, l, e, R, s, m, args, below, meth, c, Q, D, A, H0) k n H1 locs1 (pc + 3) ls (v.toList ++ rest)) : XX (p, l, e, R, s, m, args, below, meth, c, Q, D, A, H0) k n H locs pc ls st0 := by
  obtain ⟨hP, hD, hS⟩ := hW
  have hf := wd_fr (D := D) hD hS hA
  intro T hT X
  obtain ⟨v, st₀, t, T', L, h0, X', hL, e1, e2, ⟨⟨v', g', hv, hp, hw⟩, hz, hk⟩, st⟩ := hr T hT X
  cases hv
  rw [h0] at hz hk
  obtain ⟨t2, a1, b1⟩ := kk v g' T'.heap (locs ++ L) hp ⟨by rw [e1]; exact hw, wdD_same hD, Nat.le_trans hS.1 (by rw [e1]; exact hz), fun q h1 h2 => by rw [e1, hk q (Nat.lt_of_lt_of_le h1 hS.1) (fun z => h2 (hf q z))]; exact hS.2.1 q h1 h2, fun q hq => by
      rcases List.mem_append.mp hq with h | h
      · exact hS.2.2 q h
      · exact hf _ (hL q h)⟩ T' rfl X'
  exact ⟨t2, st t2 a1, b1⟩
/-- what a call of a method needs of the words: of instances, of the class, constructors -/
def MI (y : MethodName) (cc : ByteArray) (maxL : Nat) (ret : Option FieldType) (na : Nat) : Prop := Cond.code y cc maxL ret ∈ AW ∧ Cond.initialized y.cls ∈ AW ∧ Cond.instanceMethod y ∈ AW ∧ Cond.selects y.cls y y ∈ AW ∧ (y.cls ≠ "java/lang/invoke/MethodHandle" ∧ y.cls ≠ "java/lang/invoke/VarHandle" ∧ (parseMethodDescriptor y.desc).map (fun d => d.parameters.length) = some na)
def MS (y : MethodName) (cc : ByteArray) (maxL : Nat) (ret : Option FieldType) (na : Nat) : Prop := Cond.code y cc maxL ret ∈ AW ∧ Cond.initialized y.cls ∈ AW ∧ Cond.static y ∈ AW ∧ (y.cls ≠ "java/lang/invoke/MethodHandle" ∧ y.cls ≠ "java/lang/invoke/VarHandle" ∧ (parseMethodDescriptor y.desc).map (fun d => d.parameters.length) = some na)
theorem goodCode {y : MethodName} {cc : ByteArray} {maxL : Nat} {ret : Option FieldType} (h : Cond.code y cc maxL ret ∈ AW) : GoodIn AW (.code y cc maxL ret :: AW) := fun w hw => by
  rcases List.mem_cons.mp hw with rfl | hw
  · exact gAW _ h
  · exact gAW _ hw
/-- a call's room -/
def RM (K : KT) (rm : Nat × Nat) (maxL : Nat) : Prop := match K with
  | (_, _, _, R, _, _, _, _, _, _, _, _, _, _) => rm.1 + 1 ≤ R.frames ∧ 8 + (maxL + 11) + rm.2 ≤ R.locals
def HasRoom (K : KT) (f lo : Nat) : Prop := match K with
  | (_, _, _, R, _, _, _, _, _, _, _, _, _, _) => f ≤ R.frames ∧ lo ≤ R.locals
def Lof (K : KT) : Launch := match K with
  | (_, l, _, _, _, _, _, _, _, _, _, _, _, _) => l
def Dof (K : KT) : va_G := match K with
  | (_, _, _, _, _, _, _, _, _, _, _, D, _, _) => D
def Cells (K : KT) (k n : Nat) : Prop := match K with
  | (_, _, _, R, _, _, _, _, _, _, _, _, _, _) => k ≤ R.cells ∧ n ≤ R.slots
theorem q_callV {index maxL na f lo : Nat} {y : MethodName} {bytes : ByteArray} {ret : Option FieldType} {rm : Nat × Nat} {i ci nf : Nat} {C : String} {T : u_T} {As st0 : List Value} {P : Option Value → (Nat → va_E) → Prop} (hM : MB K cA cc nL own) (hW : WB N ad K g H locs) (hR : HasRoom K f lo) (hC : Cells K k n)
    (M : MI y bytes maxL ret na) (hl : Cond.methodLink own index y ∈ AW) (hc : vwCl[ci]? = some (C, T, nf)) (hy : y.cls = C) (hi : i < N) (hg : g i = ob ci nf (fld g i)) (ct : CT (Lof K) N ad cA (Dof K) y bytes maxL ret rm (.ref (ad i) :: As) g P) (hf : rm.1 + 1 ≤ f ∧ 8 + (maxL + 11) + rm.2 ≤ lo) (hst : st0 = As.reverse ++ .ref (ad i) :: rest) (hn : As.length = na) (hLs : ls.size = nL) (hw : (rest.map fun v => v.category).sum ≤ 8) (hd : decode cc pc = .ok (.invokevirtual index, 3))
    (kk : ∀ (v : Option Value) (g : Nat → va_E) (H : Heap) (locs : List Loc), P v g → WB N ad K g H locs → XX K k n H locs (pc + 3) ls (v.toList ++ rest)) : XX K k n H locs pc ls st0 := by
  obtain ⟨p, l, e, R, s, m, args, below, meth, c, Q, D, A, H0⟩ := K
  obtain ⟨hF, hK, hlk, hA⟩ := hM
  obtain ⟨hx, hb, hml, hown, hts⟩ := hF
  obtain ⟨m1, m2, m3, m4, m5⟩ := M
  have hcw : CallW R s args own C index y bytes maxL ret (.code y bytes maxL ret :: AW) { frames := rm.1, cells := 0, slots := 0, locals := rm.2 } 0 0 na :=
    ⟨callB_of na hts (goodCode m1) rfl rfl rfl (hts _ m2) (hts _ hl) m5 ⟨Nat.le_trans hf.1 hR.1, Nat.le_trans hf.2 hR.2⟩, hts _ m3, by rw [← hy]; exact hts _ m4⟩
  have hcell : ∃ cellB : Cell, H[ad i]? = some cellB ∧ cellB.vm.isStatics = false ∧ s.vm.findClass C = some cellB.cls := va_recv hK.1 hW.1 hc ((wd_get hi).trans (by rw [hg]; rfl))
  exact q_back (a := (Value.ref (ad i) :: As).toArray) (va_runV (C := C) (b := ad i) (As := As) (rest := rest) ⟨hx, hb, hml, hown, hts⟩ (ct H.size) hcw ⟨PX_blind, hcell, fun U hU hWm => ⟨rfl, by rw [hU], by rw [hU]; exact hW.1, hK.moved hWm, hW.2.1.weaken (fun _ _ _ _ => trivial)⟩⟩ rfl hn hLs hst (by simpa [JFrame.monitorRoom, F0] using hw) hd hC) hA hW kk
theorem q_callS {index maxL na f lo : Nat} {y : MethodName} {bytes : ByteArray} {ret : Option FieldType} {rm : Nat × Nat} {As st0 : List Value} {P : Option Value → (Nat → va_E) → Prop} (hM : MB K cA cc nL own) (hW : WB N ad K g H locs) (hR : HasRoom K f lo) (hC : Cells K k n)
    (M : MS y bytes maxL ret na) (hl : Cond.methodLink own index y ∈ AW) (ct : CT (Lof K) N ad cA (Dof K) y bytes maxL ret rm As g P) (hf : rm.1 + 1 ≤ f ∧ 8 + (maxL + 11) + rm.2 ≤ lo) (hst : st0 = As.reverse ++ rest) (hn : As.length = na) (hLs : ls.size = nL) (hw : (rest.map fun v => v.category).sum ≤ 8) (hd : decode cc pc = .ok (.invokestatic index, 3))
    (kk : ∀ (v : Option Value) (g : Nat → va_E) (H : Heap) (locs : List Loc), P v g → WB N ad K g H locs → XX K k n H locs (pc + 3) ls (v.toList ++ rest)) : XX K k n H locs pc ls st0 := by
  obtain ⟨p, l, e, R, s, m, args, below, meth, c, Q, D, A, H0⟩ := K
  obtain ⟨hF, hK, hlk, hA⟩ := hM
  obtain ⟨hx, hb, hml, hown, hts⟩ := hF
  obtain ⟨m1, m2, m3, m5⟩ := M
  have hcw : CallB R s args own index y bytes maxL ret (.code y bytes maxL ret :: AW) { frames := rm.1, cells := 0, slots := 0, locals := rm.2 } 0 0 na ∧ (Cond.static y).before args s = true :=
    ⟨callB_of na hts (goodCode m1) rfl rfl rfl (hts _ m2) (hts _ hl) m5 ⟨Nat.le_trans hf.1 hR.1, Nat.le_trans hf.2 hR.2⟩, hts _ m3⟩
  exact q_back (a := As.toArray) (va_runS (As := As) (rest := rest) ⟨hx, hb, hml, hown, hts⟩ (ct H.size) hcw ⟨PX_blind, fun U hU hWm => ⟨rfl, by rw [hU], by rw [hU]; exact hW.1, hK.moved hWm, hW.2.1.weaken (fun _ _ _ _ => trivial)⟩⟩ rfl hn hLs hst (by simpa [JFrame.monitorRoom, F0] using hw) hd hC) hA hW kk
theorem q_callN {index maxL na f lo : Nat} {y : MethodName} {host : String} {bytes : ByteArray} {ret : Option FieldType} {rm : Nat × Nat} {As st0 : List Value} {P : Option Value → (Nat → va_E) → Prop} (hM : MB K cA cc nL own) (hW : WB N ad K g H locs) (hR : HasRoom K f lo) (hC : Cells K k n)
    (M : MS y bytes maxL ret na) (hl : Cond.methodLinkNest own index y host ∈ NWL) (ct : CT (Lof K) N ad cA (Dof K) y bytes maxL ret rm As g P) (hf : rm.1 + 1 ≤ f ∧ 8 + (maxL + 11) + rm.2 ≤ lo) (hst : st0 = As.reverse ++ rest) (hn : As.length = na) (hLs : ls.size = nL) (hw : (rest.map fun v => v.category).sum ≤ 8) (hd : decode cc pc = .ok (.invokestatic index, 3))
    (kk : ∀ (v : Option Value) (g : Nat → va_E) (H : Heap) (locs : List Loc), P v g → WB N ad K g H locs → XX K k n H locs (pc + 3) ls (v.toList ++ rest)) : XX K k n H locs pc ls st0 := by
  obtain ⟨p, l, e, R, s, m, args, below, meth, c, Q, D, A, H0⟩ := K
  obtain ⟨hF, hK, hlk, hA⟩ := hM
  obtain ⟨hx, hb, hml, hown, hts⟩ := hF
  obtain ⟨m1, m2, m3, m5⟩ := M
  have hcw : va_CN R s args own index y host bytes maxL ret (.code y bytes maxL ret :: AW) { frames := rm.1, cells := 0, slots := 0, locals := rm.2 } 0 0 na ∧ (Cond.static y).before args s = true ∧ True :=
    ⟨va_cnB na hts (goodCode m1) rfl rfl rfl (hK.2.1 _ hl) (hts _ m2) m5 ⟨Nat.le_trans hf.1 hR.1, Nat.le_trans hf.2 hR.2⟩, hts _ m3, trivial⟩
  exact q_back (a := As.toArray) (va_runSN (As := As) (rest := rest) ⟨hx, hb, hml, hown, hts⟩ (ct H.size) hcw ⟨PX_blind, fun U hU hWm => ⟨rfl, by rw [hU], by rw [hU]; exact hW.1, hK.moved hWm, hW.2.1.weaken (fun _ _ _ _ => trivial)⟩⟩ rfl hn hLs hst (by simpa [JFrame.monitorRoom, F0] using hw) hd hC) hA hW kk
/-! a method's start and its ends -/
/-- what the method's end must show, and that an end then is one -/
def Ends (N : Nat) (ad : Nat → Nat) (K : KT) (cc : ByteArray) (P : Option Value → (Nat → va_E) → Prop) : Prop :=
  (∀ g H locs pc ls v, WB N ad K g H locs → P (some (.int v)) g → decode cc pc = .ok (.ireturn, 1) → XX K 0 0 H locs pc ls [.int v])
def EndsV (N : Nat) (ad : Nat → Nat) (K : KT) (cc : ByteArray) (P : Option Value → (Nat → va_E) → Prop) : Prop :=
  (∀ g H locs pc ls, WB N ad K g H locs → P none g → decode cc pc = .ok (.return_, 1) → XX K 0 0 H locs pc ls [])
def EndsA (N : Nat) (ad : Nat → Nat) (K : KT) (cc : ByteArray) (P : Option Value → (Nat → va_E) → Prop) : Prop :=
  (∀ g H locs pc ls a, WB N ad K g H locs → P (some (.ref a)) g → decode cc pc = .ok (.areturn, 1) → XX K 0 0 H locs pc ls [.ref a])
def EndsJ (N : Nat) (ad : Nat → Nat) (K : KT) (cc : ByteArray) (P : Option Value → (Nat → va_E) → Prop) : Prop :=
  (∀ g H locs pc ls v, WB N ad K g H locs → P (some (.long v)) g → decode cc pc = .ok (.lreturn, 1) → XX K 0 0 H locs pc ls [.long v])
theorem q_enter {l : Launch} {D : va_G} {y : MethodName} {maxL : Nat} {ret : Option FieldType} {rm : Nat × Nat} {av : List Value} {P : Option Value → (Nat → va_E) → Prop} {En : KT → Prop} (hy : plainName y.cls = true) (hav : (lg_sl av).length ≤ maxL)
    (hE : ∀ p l e R s m args below meth c D (hx : p.tables.exec = Jvm.exec) (hb : c.code = cc) (hr : meth.sig.returnType = ret) (hlk : meth.locks = false), En (p, l, e, R, s, m, args, below, meth, c, MQ below (QX N ad D s.heap.size P) args s 0 0 (fr N ad s.heap.size), D, fr N ad s.heap.size, s.heap))
    (body : ∀ (K : KT) (H : Heap) (locs : List Loc) (ls : Array Slot), Lof K = l → Dof K = D → MB K cA cc maxL y.cls → WB N ad K g H locs → HasRoom K rm.1 rm.2 → Cells K 0 0 → En K → lv_has ls maxL (lv_args 0 av) → XX K 0 0 H locs 0 ls []) : CT l N ad cA D y cc maxL ret rm av g P := by
  intro sz
  refine Met.ofW (cc := cc) (maxL := maxL) (ret := ret) hy rfl ?_
  intro p e s m args below meth c s₁ B hml hv
  obtain ⟨rfl, hsz, hP, hK, hD0⟩ := hv
  have hts0 := atoms_spec (ws := .code y cc maxL ret :: AW) B.pre
  have hD : va_D (fr N ad s.heap.size) (wd N ad g) := ⟨hD0.1, fun j q hj => by
    obtain ⟨a1, rfl⟩ := wd_at hj
    exact Or.inl ⟨j, a1, rfl⟩⟩
  subst hsz
  rw [lg_entry_eq]
  exact body (p, l, e, _, s, m, av.toArray, below, meth, c, _, D, fr N ad s.heap.size, s.heap) s.heap [] _ rfl rfl ⟨⟨B.exec, B.bytes, hml, findClass_of_methodNamed B.named, fun w hw => hts0 w (List.mem_cons_of_mem _ hw)⟩, hK, B.notSynchronized, fun q h => Or.inr h⟩ ⟨hP, hD, va_S.rf⟩ ⟨Nat.le_refl _, Nat.le_refl _⟩ ⟨Nat.le_refl _, Nat.le_refl _⟩ (hE p l e _ s m av.toArray below meth c D B.exec B.bytes B.returns B.notSynchronized) (lv_entry av hav)
theorem q_enterI {l : Launch} {D : va_G} {y : MethodName} {maxL : Nat} {ret : Option FieldType} {rm : Nat × Nat} {av : List Value} {P : Option Value → (Nat → va_E) → Prop} (hy : plainName y.cls = true) (hav : (lg_sl av).length ≤ maxL) (hret : ret = some .int)
    (body : ∀ (K : KT) (H : Heap) (locs : List Loc) (ls : Array Slot), Lof K = l → Dof K = D → MB K cA cc maxL y.cls → WB N ad K g H locs → HasRoom K rm.1 rm.2 → Cells K 0 0 → Ends N ad K cc P → lv_has ls maxL (lv_args 0 av) → XX K 0 0 H locs 0 ls []) : CT l N ad cA D y cc maxL ret rm av g P :=
  q_enter (En := fun K => Ends N ad K cc P) hy hav (fun p l e R s m args below meth c D hx hb hr hlk g H locs pc ls v hW hp hd => W.iret (v := v) hx hb (hr.trans hret) (fun t ht hWm => ⟨⟨some (.int v), g, rfl, hp, by rw [ht]; exact hW.1⟩, hW.2.2.F ht⟩) hW.2.2.2.2 hd hlk) body
theorem q_enterV {l : Launch} {D : va_G} {y : MethodName} {maxL : Nat} {rm : Nat × Nat} {av : List Value} {P : Option Value → (Nat → va_E) → Prop} (hy : plainName y.cls = true) (hav : (lg_sl av).length ≤ maxL)
    (body : ∀ (K : KT) (H : Heap) (locs : List Loc) (ls : Array Slot), Lof K = l → Dof K = D → MB K cA cc maxL y.cls → WB N ad K g H locs → HasRoom K rm.1 rm.2 → Cells K 0 0 → EndsV N ad K cc P → lv_has ls maxL (lv_args 0 av) → XX K 0 0 H locs 0 ls []) : CT l N ad cA D y cc maxL none rm av g P :=
  q_enter (En := fun K => EndsV N ad K cc P) hy hav (fun p l e R s m args below meth c D hx hb hr hlk g H locs pc ls hW hp hd => W.vret hx hb hr (fun t ht hWm => ⟨⟨none, g, rfl, hp, by rw [ht]; exact hW.1⟩, hW.2.2.F ht⟩) hW.2.2.2.2 hd hlk) body
end RW
end
section
section RW2
variable {K : KT} {cA : Nat → ClassId} {cc : ByteArray} {nL : Nat} {own : String} {k n : Nat} {H : Heap} {locs : List Loc} {pc : Nat} {ls : Array Slot} {rest : List Value}
theorem q_iload_n {i : Fin 4} {x : Int32} (hM : MB K cA cc nL own) (hd : decode cc pc = .ok (.iload_n i, 1)) (hl : ls[(i : Nat)]? = some (.val (.int x))) (kk : XX K k n H locs (pc + 1) ls (.int x :: rest)) : XX K k n H locs (pc) ls (rest) := by
  obtain ⟨p, l, e, R, s, m, args, below, meth, c, Q, D, A, H0⟩ := K
  obtain ⟨⟨hx, hb, hml, hown, hts⟩, -⟩ := hM
  exact lv_iload_n hx hb hd rfl hl kk
theorem q_iload {i : Nat} {x : Int32} (hM : MB K cA cc nL own) (hd : decode cc pc = .ok (.iload i, 2)) (hl : ls[i]? = some (.val (.int x))) (kk : XX K k n H locs (pc + 2) ls (.int x :: rest)) : XX K k n H locs (pc) ls (rest) := by
  obtain ⟨p, l, e, R, s, m, args, below, meth, c, Q, D, A, H0⟩ := K
  obtain ⟨⟨hx, hb, hml, hown, hts⟩, -⟩ := hM
  exact lv_iload hx hb hd hl kk
theorem q_lload_n {i : Fin 4} {x : Int64} (hM : MB K cA cc nL own) (hd : decode cc pc = .ok (.lload_n i, 1)) (hl : ls[(i : Nat)]? = some (.val (.long x))) (kk : XX K k n H locs (pc + 1) ls (.long x :: rest)) : XX K k n H locs (pc) ls (rest) := by
  obtain ⟨p, l, e, R, s, m, args, below, meth, c, Q, D, A, H0⟩ := K
  obtain ⟨⟨hx, hb, hml, hown, hts⟩, -⟩ := hM
  exact lv_lload_n hx hb hd rfl hl kk
theorem q_lload {i : Nat} {x : Int64} (hM : MB K cA cc nL own) (hd : decode cc pc = .ok (.lload i, 2)) (hl : ls[i]? = some (.val (.long x))) (kk : XX K k n H locs (pc + 2) ls (.long x :: rest)) : XX K k n H locs (pc) ls (rest) := by
  obtain ⟨p, l, e, R, s, m, args, below, meth, c, Q, D, A, H0⟩ := K
  obtain ⟨⟨hx, hb, hml, hown, hts⟩, -⟩ := hM
  exact lv_lload hx hb hd hl kk
theorem q_aload_n {i : Fin 4} {x : Nat} (hM : MB K cA cc nL own) (hd : decode cc pc = .ok (.aload_n i, 1)) (hl : ls[(i : Nat)]? = some (.val (.ref x))) (kk : XX K k n H locs (pc + 1) ls (.ref x :: rest)) : XX K k n H locs (pc) ls (rest) := by
  obtain ⟨p, l, e, R, s, m, args, below, meth, c, Q, D, A, H0⟩ := K
  obtain ⟨⟨hx, hb, hml, hown, hts⟩, -⟩ := hM
  exact lv_aload_n hx hb hd rfl hl kk
theorem q_aload {i : Nat} {x : Nat} (hM : MB K cA cc nL own) (hd : decode cc pc = .ok (.aload i, 2)) (hl : ls[i]? = some (.val (.ref x))) (kk : XX K k n H locs (pc + 2) ls (.ref x :: rest)) : XX K k n H locs (pc) ls (rest) := by
  obtain ⟨p, l, e, R, s, m, args, below, meth, c, Q, D, A, H0⟩ := K
  obtain ⟨⟨hx, hb, hml, hown, hts⟩, -⟩ := hM
  exact lv_aload hx hb hd hl kk
theorem q_istore_n {i : Fin 4} {x : Int32} {lv lv9 : List (Nat × Value)} (hM : MB K cA cc nL own) (hd : decode cc pc = .ok (.istore_n i, 1)) (hl : lv_has ls nL lv) (hn : (i : Nat) < nL) (he : ((i : Nat), Value.int x) :: lv.filter (fun q => !(q.1 == (i : Nat)) && !(q.1 + 1 == (i : Nat) && q.2.category == 2)) = lv9) (kk : ∀ ls : Array Slot, lv_has ls nL lv9 → XX K k n H locs (pc + 1) ls (rest)) : XX K k n H locs (pc) ls (.int x :: rest) := by
  obtain ⟨p, l, e, R, s, m, args, below, meth, c, Q, D, A, H0⟩ := K
  obtain ⟨⟨hx, hb, hml, hown, hts⟩, -⟩ := hM
  exact lv_istore_n hx hb hd rfl hl hn he kk
theorem q_istore {i : Nat} {x : Int32} {lv lv9 : List (Nat × Value)} (hM : MB K cA cc nL own) (hd : decode cc pc = .ok (.istore i, 2)) (hl : lv_has ls nL lv) (hn : i < nL) (he : (i, Value.int x) :: lv.filter (fun q => !(q.1 == i) && !(q.1 + 1 == i && q.2.category == 2)) = lv9) (kk : ∀ ls : Array Slot, lv_has ls nL lv9 → XX K k n H locs (pc + 2) ls (rest)) : XX K k n H locs (pc) ls (.int x :: rest) := by
  obtain ⟨p, l, e, R, s, m, args, below, meth, c, Q, D, A, H0⟩ := K
  obtain ⟨⟨hx, hb, hml, hown, hts⟩, -⟩ := hM
  exact lv_istore hx hb hd hl hn he kk
theorem q_astore_n {i : Fin 4} {x : Nat} {lv lv9 : List (Nat × Value)} (hM : MB K cA cc nL own) (hd : decode cc pc = .ok (.astore_n i, 1)) (hl : lv_has ls nL lv) (hn : (i : Nat) < nL) (he : ((i : Nat), Value.ref x) :: lv.filter (fun q => !(q.1 == (i : Nat)) && !(q.1 + 1 == (i : Nat) && q.2.category == 2)) = lv9) (kk : ∀ ls : Array Slot, lv_has ls nL lv9 → XX K k n H locs (pc + 1) ls (rest)) : XX K k n H locs (pc) ls (.ref x :: rest) := by
  obtain ⟨p, l, e, R, s, m, args, below, meth, c, Q, D, A, H0⟩ := K
  obtain ⟨⟨hx, hb, hml, hown, hts⟩, -⟩ := hM
  exact lv_astore_n hx hb hd rfl hl hn he kk
theorem q_astore {i : Nat} {x : Nat} {lv lv9 : List (Nat × Value)} (hM : MB K cA cc nL own) (hd : decode cc pc = .ok (.astore i, 2)) (hl : lv_has ls nL lv) (hn : i < nL) (he : (i, Value.ref x) :: lv.filter (fun q => !(q.1 == i) && !(q.1 + 1 == i && q.2.category == 2)) = lv9) (kk : ∀ ls : Array Slot, lv_has ls nL lv9 → XX K k n H locs (pc + 2) ls (rest)) : XX K k n H locs (pc) ls (.ref x :: rest) := by
  obtain ⟨p, l, e, R, s, m, args, below, meth, c, Q, D, A, H0⟩ := K
  obtain ⟨⟨hx, hb, hml, hown, hts⟩, -⟩ := hM
  exact lv_astore hx hb hd hl hn he kk
theorem q_lstore {i : Nat} {x : Int64} {lv lv9 : List (Nat × Value)} (hM : MB K cA cc nL own) (hd : decode cc pc = .ok (.lstore i, 2)) (hl : lv_has ls nL lv) (hn : i + 1 < nL) (he : (i, Value.long x) :: lv.filter (fun q => !(q.1 == i) && (!(q.1 == i + 1) && !(q.1 + 1 == i && q.2.category == 2))) = lv9) (kk : ∀ ls : Array Slot, lv_has ls nL lv9 → XX K k n H locs (pc + 2) ls (rest)) : XX K k n H locs (pc) ls (.long x :: rest) := by
  obtain ⟨p, l, e, R, s, m, args, below, meth, c, Q, D, A, H0⟩ := K
  obtain ⟨⟨hx, hb, hml, hown, hts⟩, -⟩ := hM
  exact lv_lstore hx hb hd hl hn he kk
theorem q_lstore_n {i : Fin 4} {x : Int64} {lv lv9 : List (Nat × Value)} (hM : MB K cA cc nL own) (hd : decode cc pc = .ok (.lstore_n i, 1)) (hl : lv_has ls nL lv) (hn : (i : Nat) + 1 < nL) (he : ((i : Nat), Value.long x) :: lv.filter (fun q => !(q.1 == (i : Nat)) && (!(q.1 == (i : Nat) + 1) && !(q.1 + 1 == (i : Nat) && q.2.category == 2))) = lv9) (kk : ∀ ls : Array Slot, lv_has ls nL lv9 → XX K k n H locs (pc + 1) ls (rest)) : XX K k n H locs (pc) ls (.long x :: rest) := by
  obtain ⟨p, l, e, R, s, m, args, below, meth, c, Q, D, A, H0⟩ := K
  obtain ⟨⟨hx, hb, hml, hown, hts⟩, -⟩ := hM
  exact lv_lstore_n hx hb hd rfl hl hn he kk
theorem i_addT {x y z : Int32} (h : x + y = z) {a b : Int} (hx : x.toInt = a) (hy : y.toInt = b) (h1 : -2147483648 ≤ a + b) (h2 : a + b ≤ 2147483647) : z.toInt = a + b := by
  subst h; subst hx; subst hy
  rw [Int32.toInt_add, Int.bmod_def]
  omega
theorem i_subT {x y z : Int32} (h : x - y = z) {a b : Int} (hx : x.toInt = a) (hy : y.toInt = b) (h1 : -2147483648 ≤ a - b) (h2 : a - b ≤ 2147483647) : z.toInt = a - b := by
  subst h; subst hx; subst hy
  rw [Int32.toInt_sub, Int.bmod_def]
  omega
theorem i_mulT {x y z : Int32} (h : x * y = z) {a b : Int} (hx : x.toInt = a) (hy : y.toInt = b) (h1 : -2147483648 ≤ a * b) (h2 : a * b ≤ 2147483647) : z.toInt = a * b := by
  subst h; subst hx; subst hy
  rw [Int32.toInt_mul, Int.bmod_def]
  omega
theorem i_divT {x y z : Int32} (h : x / y = z) {a b : Int} (hx : x.toInt = a) (hy : y.toInt = b) (h1 : 0 ≤ a) (h2 : 0 < b) : z.toInt = a / b := by
  subst h
  have hxx : x.toInt ≤ 2147483647 := Int32.toInt_le x
  rw [Int32.toInt_div, hx, hy, Int.tdiv_eq_ediv_of_nonneg h1]
  have h3 : 0 ≤ a / b := Int.ediv_nonneg h1 (by omega)
  have h4 : a / b ≤ a := Int.ediv_le_self _ h1
  rw [Int.bmod_def]
  omega
theorem i_remT {x y z : Int32} (h : x - x / y * y = z) {a b : Int} (hx : x.toInt = a) (hy : y.toInt = b) (h1 : 0 ≤ a) (h2 : 0 < b) : z.toInt = a % b := by
  have hxx : x.toInt ≤ 2147483647 := Int32.toInt_le x
  have hd := i_divT (rfl : x / y = x / y) hx hy h1 h2
  have h3 : 0 ≤ a / b := Int.ediv_nonneg h1 (by omega)
  have h6 : a / b * b ≤ a := Int.ediv_mul_le a (by omega)
  have h7 : 0 ≤ a / b * b := Int.mul_nonneg h3 (by omega)
  have hm := i_mulT (rfl : x / y * y = x / y * y) hd hy (by omega) (by omega)
  have := i_subT h hx hm (by omega) (by omega)
  rw [this]
  have := Int.mul_ediv_add_emod a b
  rw [Int.mul_comm] at this
  omega
theorem i_rng (x : Int32) : -2147483648 ≤ x.toInt ∧ x.toInt ≤ 2147483647 := ⟨Int32.le_toInt x, Int32.toInt_le x⟩
theorem i_in {x : Int32} {N : Nat} (h1 : 0 ≤ x.toInt) (h2 : x.toInt < N) : vp_in x N := vp_in_iff.mpr ⟨h1, h2⟩
theorem i_cl {x : Int32} {a : Nat} (h : x.toInt = a) : x.toNatClampNeg = a := by
  show x.toInt.toNat = a
  rw [h]
  rfl
theorem i_lt {x y : Int32} {a b : Int} (hx : x.toInt = a) (hy : y.toInt = b) : x < y ↔ a < b := by rw [Int32.lt_iff_toInt_lt, hx, hy]
theorem i_le {x y : Int32} {a b : Int} (hx : x.toInt = a) (hy : y.toInt = b) : x ≤ y ↔ a ≤ b := by rw [Int32.le_iff_toInt_le, hx, hy]
theorem i_eq {x y : Int32} {a b : Int} (hx : x.toInt = a) (hy : y.toInt = b) : x = y ↔ a = b := by rw [← Int32.toInt_inj, hx, hy]

theorem q_iconst {c9 : Int} {v : Int32} (hM : MB K cA cc nL own) (hd : decode cc pc = .ok (.iconst c9, 1)) (hv : Int32.ofInt c9 = v) (kk : XX K k n H locs (pc + 1) ls (.int v :: rest)) : XX K k n H locs (pc) ls (rest) := by
  obtain ⟨p, l, e, R, s, m, args, below, meth, c, Q, D, A, H0⟩ := K
  obtain ⟨⟨hx, hb, hml, hown, hts⟩, -⟩ := hM
  exact lv_iconst hx hb hd hv kk
theorem q_bipush {c9 : Int} {v : Int32} (hM : MB K cA cc nL own) (hd : decode cc pc = .ok (.bipush c9, 2)) (hv : (Int8.ofInt c9).toInt32 = v) (kk : XX K k n H locs (pc + 2) ls (.int v :: rest)) : XX K k n H locs (pc) ls (rest) := by
  obtain ⟨p, l, e, R, s, m, args, below, meth, c, Q, D, A, H0⟩ := K
  obtain ⟨⟨hx, hb, hml, hown, hts⟩, -⟩ := hM
  exact lv_bipush hx hb hd hv kk
theorem q_sipush {c9 : Int} {v : Int32} (hM : MB K cA cc nL own) (hd : decode cc pc = .ok (.sipush c9, 3)) (hv : (Int16.ofInt c9).toInt32 = v) (kk : XX K k n H locs (pc + 3) ls (.int v :: rest)) : XX K k n H locs (pc) ls (rest) := by
  obtain ⟨p, l, e, R, s, m, args, below, meth, c, Q, D, A, H0⟩ := K
  obtain ⟨⟨hx, hb, hml, hown, hts⟩, -⟩ := hM
  exact lv_sipush hx hb hd hv kk
theorem q_lconst {c9 : Fin 2} {v : Int64} (hM : MB K cA cc nL own) (hd : decode cc pc = .ok (.lconst c9, 1)) (hv : Int64.ofNat (c9 : Nat) = v) (kk : XX K k n H locs (pc + 1) ls (.long v :: rest)) : XX K k n H locs (pc) ls (rest) := by
  obtain ⟨p, l, e, R, s, m, args, below, meth, c, Q, D, A, H0⟩ := K
  obtain ⟨⟨hx, hb, hml, hown, hts⟩, -⟩ := hM
  exact lv_lconst hx hb hd hv kk
theorem q_ldc {index : Nat} {v : Int32} (hM : MB K cA cc nL own) (hw : Cond.constant own index v ∈ AW) (hd : decode cc pc = .ok (.ldc index, 2)) (kk : XX K k n H locs (pc + 2) ls (.int v :: rest)) : XX K k n H locs (pc) ls (rest) := by
  obtain ⟨p, l, e, R, s, m, args, below, meth, c, Q, D, A, H0⟩ := K
  obtain ⟨⟨hx, hb, hml, hown, hts⟩, -⟩ := hM
  exact lv_ldc hx hb hown (hts _ hw) hd kk
theorem q_ldcw {index : Nat} {v : Int32} (hM : MB K cA cc nL own) (hw : Cond.constant own index v ∈ AW) (hd : decode cc pc = .ok (.ldc_w index, 3)) (kk : XX K k n H locs (pc + 3) ls (.int v :: rest)) : XX K k n H locs (pc) ls (rest) := by
  obtain ⟨p, l, e, R, s, m, args, below, meth, c, Q, D, A, H0⟩ := K
  obtain ⟨⟨hx, hb, hml, hown, hts⟩, -⟩ := hM
  exact lv_ldcw hx hb hown (hts _ hw) hd kk
theorem q_ldc2 {index : Nat} {v : Int64} (hM : MB K cA cc nL own) (hw : Cond.constantLong own index v ∈ AW) (hd : decode cc pc = .ok (.ldc2_w index, 3)) (kk : XX K k n H locs (pc + 3) ls (.long v :: rest)) : XX K k n H locs (pc) ls (rest) := by
  obtain ⟨p, l, e, R, s, m, args, below, meth, c, Q, D, A, H0⟩ := K
  obtain ⟨⟨hx, hb, hml, hown, hts⟩, -⟩ := hM
  exact lv_ldc2 hx hb hown (hts _ hw) hd kk
theorem q_iadd {x y : Int32} (hM : MB K cA cc nL own) (hd : decode cc pc = .ok (.iadd, 1)) (kk : ∀ z : Int32, x + y = z → XX K k n H locs (pc + 1) ls (.int z :: rest)) : XX K k n H locs (pc) ls (.int y :: .int x :: rest) := by
  obtain ⟨p, l, e, R, s, m, args, below, meth, c, Q, D, A, H0⟩ := K
  obtain ⟨⟨hx, hb, hml, hown, hts⟩, -⟩ := hM
  exact lv_iadd hx hb hd (kk _ rfl)
theorem q_isub {x y : Int32} (hM : MB K cA cc nL own) (hd : decode cc pc = .ok (.isub, 1)) (kk : ∀ z : Int32, x - y = z → XX K k n H locs (pc + 1) ls (.int z :: rest)) : XX K k n H locs (pc) ls (.int y :: .int x :: rest) := by
  obtain ⟨p, l, e, R, s, m, args, below, meth, c, Q, D, A, H0⟩ := K
  obtain ⟨⟨hx, hb, hml, hown, hts⟩, -⟩ := hM
  exact lv_isub hx hb hd (kk _ rfl)
theorem q_imul {x y : Int32} (hM : MB K cA cc nL own) (hd : decode cc pc = .ok (.imul, 1)) (kk : ∀ z : Int32, x * y = z → XX K k n H locs (pc + 1) ls (.int z :: rest)) : XX K k n H locs (pc) ls (.int y :: .int x :: rest) := by
  obtain ⟨p, l, e, R, s, m, args, below, meth, c, Q, D, A, H0⟩ := K
  obtain ⟨⟨hx, hb, hml, hown, hts⟩, -⟩ := hM
  exact lv_imul hx hb hd (kk _ rfl)
theorem q_iand {x y : Int32} (hM : MB K cA cc nL own) (hd : decode cc pc = .ok (.iand, 1)) (kk : ∀ z : Int32, x &&& y = z → XX K k n H locs (pc + 1) ls (.int z :: rest)) : XX K k n H locs (pc) ls (.int y :: .int x :: rest) := by
  obtain ⟨p, l, e, R, s, m, args, below, meth, c, Q, D, A, H0⟩ := K
  obtain ⟨⟨hx, hb, hml, hown, hts⟩, -⟩ := hM
  exact lv_iand hx hb hd (kk _ rfl)
theorem q_ior {x y : Int32} (hM : MB K cA cc nL own) (hd : decode cc pc = .ok (.ior, 1)) (kk : ∀ z : Int32, x ||| y = z → XX K k n H locs (pc + 1) ls (.int z :: rest)) : XX K k n H locs (pc) ls (.int y :: .int x :: rest) := by
  obtain ⟨p, l, e, R, s, m, args, below, meth, c, Q, D, A, H0⟩ := K
  obtain ⟨⟨hx, hb, hml, hown, hts⟩, -⟩ := hM
  exact lv_ior hx hb hd (kk _ rfl)
theorem q_ixor {x y : Int32} (hM : MB K cA cc nL own) (hd : decode cc pc = .ok (.ixor, 1)) (kk : ∀ z : Int32, x ^^^ y = z → XX K k n H locs (pc + 1) ls (.int z :: rest)) : XX K k n H locs (pc) ls (.int y :: .int x :: rest) := by
  obtain ⟨p, l, e, R, s, m, args, below, meth, c, Q, D, A, H0⟩ := K
  obtain ⟨⟨hx, hb, hml, hown, hts⟩, -⟩ := hM
  exact lv_ixor hx hb hd (kk _ rfl)
theorem q_ishl {x y : Int32} (hM : MB K cA cc nL own) (hd : decode cc pc = .ok (.ishl, 1)) (kk : ∀ z : Int32, x <<< (y &&& 31) = z → XX K k n H locs (pc + 1) ls (.int z :: rest)) : XX K k n H locs (pc) ls (.int y :: .int x :: rest) := by
  obtain ⟨p, l, e, R, s, m, args, below, meth, c, Q, D, A, H0⟩ := K
  obtain ⟨⟨hx, hb, hml, hown, hts⟩, -⟩ := hM
  exact lv_ishl hx hb hd (kk _ rfl)
theorem q_ishr {x y : Int32} (hM : MB K cA cc nL own) (hd : decode cc pc = .ok (.ishr, 1)) (kk : ∀ z : Int32, x >>> (y &&& 31) = z → XX K k n H locs (pc + 1) ls (.int z :: rest)) : XX K k n H locs (pc) ls (.int y :: .int x :: rest) := by
  obtain ⟨p, l, e, R, s, m, args, below, meth, c, Q, D, A, H0⟩ := K
  obtain ⟨⟨hx, hb, hml, hown, hts⟩, -⟩ := hM
  exact lv_ishr hx hb hd (kk _ rfl)
theorem q_idiv {x y : Int32} (hM : MB K cA cc nL own) (hne : ¬ y = 0) (hd : decode cc pc = .ok (.idiv, 1)) (kk : ∀ z : Int32, x / y = z → XX K k n H locs (pc + 1) ls (.int z :: rest)) : XX K k n H locs (pc) ls (.int y :: .int x :: rest) := by
  obtain ⟨p, l, e, R, s, m, args, below, meth, c, Q, D, A, H0⟩ := K
  obtain ⟨⟨hx, hb, hml, hown, hts⟩, -⟩ := hM
  exact lv_idiv hx hb hd hne (kk _ rfl)
theorem q_irem {x y : Int32} (hM : MB K cA cc nL own) (hne : ¬ y = 0) (hd : decode cc pc = .ok (.irem, 1)) (kk : ∀ z : Int32, x - x / y * y = z → XX K k n H locs (pc + 1) ls (.int z :: rest)) : XX K k n H locs (pc) ls (.int y :: .int x :: rest) := by
  obtain ⟨p, l, e, R, s, m, args, below, meth, c, Q, D, A, H0⟩ := K
  obtain ⟨⟨hx, hb, hml, hown, hts⟩, -⟩ := hM
  exact lv_irem hx hb hd hne (kk _ rfl)
theorem q_iushr {x y : Int32} (hM : MB K cA cc nL own) (hd : decode cc pc = .ok (.iushr, 1)) (kk : ∀ z : Int32, (x.toUInt32 >>> (y.toUInt32 &&& Int32.toUInt32 31)).toInt32 = z → XX K k n H locs (pc + 1) ls (.int z :: rest)) : XX K k n H locs (pc) ls (.int y :: .int x :: rest) := by
  obtain ⟨p, l, e, R, s, m, args, below, meth, c, Q, D, A, H0⟩ := K
  obtain ⟨⟨hx, hb, hml, hown, hts⟩, -⟩ := hM
  exact lv_iushr hx hb hd rfl (kk _ rfl)
theorem q_ineg {x : Int32} (hM : MB K cA cc nL own) (hd : decode cc pc = .ok (.ineg, 1)) (kk : ∀ z : Int32, -x = z → XX K k n H locs (pc + 1) ls (.int z :: rest)) : XX K k n H locs (pc) ls (.int x :: rest) := by
  obtain ⟨p, l, e, R, s, m, args, below, meth, c, Q, D, A, H0⟩ := K
  obtain ⟨⟨hx, hb, hml, hown, hts⟩, -⟩ := hM
  exact lv_ineg hx hb hd (kk _ rfl)
theorem q_i2l {x : Int32} (hM : MB K cA cc nL own) (hd : decode cc pc = .ok (.i2l, 1)) (kk : XX K k n H locs (pc + 1) ls (.long x.toInt64 :: rest)) : XX K k n H locs (pc) ls (.int x :: rest) := by
  obtain ⟨p, l, e, R, s, m, args, below, meth, c, Q, D, A, H0⟩ := K
  obtain ⟨⟨hx, hb, hml, hown, hts⟩, -⟩ := hM
  exact lv_i2l hx hb hd rfl kk
theorem q_l2i {x : Int64} (hM : MB K cA cc nL own) (hd : decode cc pc = .ok (.l2i, 1)) (kk : XX K k n H locs (pc + 1) ls (.int x.toInt32 :: rest)) : XX K k n H locs (pc) ls (.long x :: rest) := by
  obtain ⟨p, l, e, R, s, m, args, below, meth, c, Q, D, A, H0⟩ := K
  obtain ⟨⟨hx, hb, hml, hown, hts⟩, -⟩ := hM
  exact lv_l2i hx hb hd rfl kk
theorem q_i2b {x : Int32} (hM : MB K cA cc nL own) (hd : decode cc pc = .ok (.i2b, 1)) (kk : XX K k n H locs (pc + 1) ls (.int x.toInt8.toInt32 :: rest)) : XX K k n H locs (pc) ls (.int x :: rest) := by
  obtain ⟨p, l, e, R, s, m, args, below, meth, c, Q, D, A, H0⟩ := K
  obtain ⟨⟨hx, hb, hml, hown, hts⟩, -⟩ := hM
  exact lv_i2b hx hb hd rfl kk
theorem q_i2c {x : Int32} (hM : MB K cA cc nL own) (hd : decode cc pc = .ok (.i2c, 1)) (kk : XX K k n H locs (pc + 1) ls (.int (x.toUInt32 % 65536).toInt32 :: rest)) : XX K k n H locs (pc) ls (.int x :: rest) := by
  obtain ⟨p, l, e, R, s, m, args, below, meth, c, Q, D, A, H0⟩ := K
  obtain ⟨⟨hx, hb, hml, hown, hts⟩, -⟩ := hM
  exact lv_i2c hx hb hd rfl kk
theorem q_lcmp {x y : Int64} (hM : MB K cA cc nL own) (hd : decode cc pc = .ok (.lcmp, 1)) (kk : XX K k n H locs (pc + 1) ls (.int (lg_cmp x y) :: rest)) : XX K k n H locs (pc) ls (.long y :: .long x :: rest) := by
  obtain ⟨p, l, e, R, s, m, args, below, meth, c, Q, D, A, H0⟩ := K
  obtain ⟨⟨hx, hb, hml, hown, hts⟩, -⟩ := hM
  exact W.lcmp hx hb hd kk
theorem q_lshl {x : Int64} {y : Int32} (hM : MB K cA cc nL own) (hd : decode cc pc = .ok (.lshl, 1)) (kk : XX K k n H locs (pc + 1) ls (.long (x <<< (y.toInt64 &&& 63)) :: rest)) : XX K k n H locs (pc) ls (.int y :: .long x :: rest) := by
  obtain ⟨p, l, e, R, s, m, args, below, meth, c, Q, D, A, H0⟩ := K
  obtain ⟨⟨hx, hb, hml, hown, hts⟩, -⟩ := hM
  exact lv_lshl hx hb hd rfl kk
theorem q_lshr {x : Int64} {y : Int32} (hM : MB K cA cc nL own) (hd : decode cc pc = .ok (.lshr, 1)) (kk : XX K k n H locs (pc + 1) ls (.long (x >>> (y.toInt64 &&& 63)) :: rest)) : XX K k n H locs (pc) ls (.int y :: .long x :: rest) := by
  obtain ⟨p, l, e, R, s, m, args, below, meth, c, Q, D, A, H0⟩ := K
  obtain ⟨⟨hx, hb, hml, hown, hts⟩, -⟩ := hM
  exact lv_lshr hx hb hd rfl kk
theorem q_land {x y : Int64} (hM : MB K cA cc nL own) (hd : decode cc pc = .ok (.land, 1)) (kk : XX K k n H locs (pc + 1) ls (.long (x &&& y) :: rest)) : XX K k n H locs (pc) ls (.long y :: .long x :: rest) := by
  obtain ⟨p, l, e, R, s, m, args, below, meth, c, Q, D, A, H0⟩ := K
  obtain ⟨⟨hx, hb, hml, hown, hts⟩, -⟩ := hM
  exact lv_land hx hb hd kk
theorem q_lor {x y : Int64} (hM : MB K cA cc nL own) (hd : decode cc pc = .ok (.lor, 1)) (kk : XX K k n H locs (pc + 1) ls (.long (x ||| y) :: rest)) : XX K k n H locs (pc) ls (.long y :: .long x :: rest) := by
  obtain ⟨p, l, e, R, s, m, args, below, meth, c, Q, D, A, H0⟩ := K
  obtain ⟨⟨hx, hb, hml, hown, hts⟩, -⟩ := hM
  exact lv_lor hx hb hd kk
theorem q_dup {v : Value} (hM : MB K cA cc nL own) (hd : decode cc pc = .ok (.dup, 1)) (hv : v.category = 1) (kk : XX K k n H locs (pc + 1) ls (v :: v :: rest)) : XX K k n H locs (pc) ls (v :: rest) := by
  obtain ⟨p, l, e, R, s, m, args, below, meth, c, Q, D, A, H0⟩ := K
  obtain ⟨⟨hx, hb, hml, hown, hts⟩, -⟩ := hM
  exact lv_dup hx hb hd hv kk
theorem q_pop {v : Value} (hM : MB K cA cc nL own) (hd : decode cc pc = .ok (.pop, 1)) (hv : v.category = 1) (kk : XX K k n H locs (pc + 1) ls (rest)) : XX K k n H locs (pc) ls (v :: rest) := by
  obtain ⟨p, l, e, R, s, m, args, below, meth, c, Q, D, A, H0⟩ := K
  obtain ⟨⟨hx, hb, hml, hown, hts⟩, -⟩ := hM
  exact lv_pop hx hb hd hv kk
theorem q_dup2 {v w : Value} (hM : MB K cA cc nL own) (hd : decode cc pc = .ok (.dup2, 1)) (hv : v.category = 1) (hw : w.category = 1) (kk : XX K k n H locs (pc + 1) ls (v :: w :: v :: w :: rest)) : XX K k n H locs (pc) ls (v :: w :: rest) := by
  obtain ⟨p, l, e, R, s, m, args, below, meth, c, Q, D, A, H0⟩ := K
  obtain ⟨⟨hx, hb, hml, hown, hts⟩, -⟩ := hM
  exact lv_dup2_11 hx hb hd hv hw kk
theorem q_iinc {i : Nat} {kq : Nat} {c9 : Int} {x : Int32} {lv : List (Nat × Value)} {lv9 : Int32 → List (Nat × Value)} (hM : MB K cA cc nL own) (hd : decode cc pc = .ok (.iinc i c9, 3)) (hl : lv_has ls nL lv) (hk : lv[kq]? = some (i, .int x)) (hn : i < nL) (he : ∀ z : Int32, (i, Value.int z) :: lv.filter (fun q => !(q.1 == i) && !(q.1 + 1 == i && q.2.category == 2)) = lv9 z) (kk : ∀ (z : Int32) (ls : Array Slot), x + Int32.ofInt c9 = z → lv_has ls nL (lv9 z) → XX K k n H locs (pc + 3) ls (rest)) : XX K k n H locs (pc) ls (rest) := by
  obtain ⟨p, l, e, R, s, m, args, below, meth, c, Q, D, A, H0⟩ := K
  obtain ⟨⟨hx, hb, hml, hown, hts⟩, -⟩ := hM
  exact lv_iinc (v := x + Int32.ofInt c9) hx hb hd hl hk rfl hn (he _) (fun ls h => kk _ ls rfl h)
theorem q_goto {off : Int} {tgt : Nat} (hM : MB K cA cc nL own) (hd : decode cc pc = .ok (.goto off, 3)) (ht : (pc : Int) + off = (tgt : Int)) (kk : XX K k n H locs (tgt) ls (rest)) : XX K k n H locs (pc) ls (rest) := by
  obtain ⟨p, l, e, R, s, m, args, below, meth, c, Q, D, A, H0⟩ := K
  obtain ⟨⟨hx, hb, hml, hown, hts⟩, -⟩ := hM
  exact lv_goto hx hb hd ht kk
theorem q_icmp_eq {off : Int} {tgt : Nat} {x y : Int32} {a b : Int} (hM : MB K cA cc nL own) (hd : decode cc pc = .ok (.if_icmp .eq off, 3)) (ht : (pc : Int) + off = (tgt : Int)) (hp : x.toInt = a) (hq : y.toInt = b) (kt : a = b → XX K k n H locs (tgt) ls (rest)) (kf : ¬ a = b → XX K k n H locs (pc + 3) ls (rest)) : XX K k n H locs (pc) ls (.int y :: .int x :: rest) := by
  obtain ⟨p, l, e, R, s, m, args, below, meth, c, Q, D, A, H0⟩ := K
  obtain ⟨⟨hx, hb, hml, hown, hts⟩, -⟩ := hM
  exact lv_icmp_eq hx hb hd ht (fun h => kt ((i_eq hp hq).mp h)) (fun h => kf (fun h2 => h ((i_eq hp hq).mpr h2)))
theorem q_if_eq {off : Int} {tgt : Nat} {x : Int32} {a : Int} (hM : MB K cA cc nL own) (hd : decode cc pc = .ok (.ifCond .eq off, 3)) (ht : (pc : Int) + off = (tgt : Int)) (hp : x.toInt = a) (kt : a = 0 → XX K k n H locs (tgt) ls (rest)) (kf : ¬ a = 0 → XX K k n H locs (pc + 3) ls (rest)) : XX K k n H locs (pc) ls (.int x :: rest) := by
  obtain ⟨p, l, e, R, s, m, args, below, meth, c, Q, D, A, H0⟩ := K
  obtain ⟨⟨hx, hb, hml, hown, hts⟩, -⟩ := hM
  have hq : (0 : Int32).toInt = 0 := rfl
  exact lv_if_eq hx hb hd ht (fun h => kt ((i_eq hp hq).mp h)) (fun h => kf (fun h2 => h ((i_eq hp hq).mpr h2)))
theorem q_icmp_ne {off : Int} {tgt : Nat} {x y : Int32} {a b : Int} (hM : MB K cA cc nL own) (hd : decode cc pc = .ok (.if_icmp .ne off, 3)) (ht : (pc : Int) + off = (tgt : Int)) (hp : x.toInt = a) (hq : y.toInt = b) (kt : ¬ a = b → XX K k n H locs (tgt) ls (rest)) (kf : a = b → XX K k n H locs (pc + 3) ls (rest)) : XX K k n H locs (pc) ls (.int y :: .int x :: rest) := by
  obtain ⟨p, l, e, R, s, m, args, below, meth, c, Q, D, A, H0⟩ := K
  obtain ⟨⟨hx, hb, hml, hown, hts⟩, -⟩ := hM
  exact lv_icmp_ne hx hb hd ht (fun h => kt (fun h2 => h ((i_eq hp hq).mpr h2))) (fun h => kf ((i_eq hp hq).mp h))
theorem q_if_ne {off : Int} {tgt : Nat} {x : Int32} {a : Int} (hM : MB K cA cc nL own) (hd : decode cc pc = .ok (.ifCond .ne off, 3)) (ht : (pc : Int) + off = (tgt : Int)) (hp : x.toInt = a) (kt : ¬ a = 0 → XX K k n H locs (tgt) ls (rest)) (kf : a = 0 → XX K k n H locs (pc + 3) ls (rest)) : XX K k n H locs (pc) ls (.int x :: rest) := by
  obtain ⟨p, l, e, R, s, m, args, below, meth, c, Q, D, A, H0⟩ := K
  obtain ⟨⟨hx, hb, hml, hown, hts⟩, -⟩ := hM
  have hq : (0 : Int32).toInt = 0 := rfl
  exact lv_if_ne hx hb hd ht (fun h => kt (fun h2 => h ((i_eq hp hq).mpr h2))) (fun h => kf ((i_eq hp hq).mp h))
theorem q_icmp_lt {off : Int} {tgt : Nat} {x y : Int32} {a b : Int} (hM : MB K cA cc nL own) (hd : decode cc pc = .ok (.if_icmp .lt off, 3)) (ht : (pc : Int) + off = (tgt : Int)) (hp : x.toInt = a) (hq : y.toInt = b) (kt : a < b → XX K k n H locs (tgt) ls (rest)) (kf : b ≤ a → XX K k n H locs (pc + 3) ls (rest)) : XX K k n H locs (pc) ls (.int y :: .int x :: rest) := by
  obtain ⟨p, l, e, R, s, m, args, below, meth, c, Q, D, A, H0⟩ := K
  obtain ⟨⟨hx, hb, hml, hown, hts⟩, -⟩ := hM
  exact lv_icmp_lt hx hb hd ht (fun h => kt ((i_lt hp hq).mp h)) (fun h => kf (Int.not_lt.mp (fun h2 => h ((i_lt hp hq).mpr h2))))
theorem q_if_lt {off : Int} {tgt : Nat} {x : Int32} {a : Int} (hM : MB K cA cc nL own) (hd : decode cc pc = .ok (.ifCond .lt off, 3)) (ht : (pc : Int) + off = (tgt : Int)) (hp : x.toInt = a) (kt : a < 0 → XX K k n H locs (tgt) ls (rest)) (kf : 0 ≤ a → XX K k n H locs (pc + 3) ls (rest)) : XX K k n H locs (pc) ls (.int x :: rest) := by
  obtain ⟨p, l, e, R, s, m, args, below, meth, c, Q, D, A, H0⟩ := K
  obtain ⟨⟨hx, hb, hml, hown, hts⟩, -⟩ := hM
  have hq : (0 : Int32).toInt = 0 := rfl
  exact lv_if_lt hx hb hd ht (fun h => kt ((i_lt hp hq).mp h)) (fun h => kf (Int.not_lt.mp (fun h2 => h ((i_lt hp hq).mpr h2))))
theorem q_icmp_ge {off : Int} {tgt : Nat} {x y : Int32} {a b : Int} (hM : MB K cA cc nL own) (hd : decode cc pc = .ok (.if_icmp .ge off, 3)) (ht : (pc : Int) + off = (tgt : Int)) (hp : x.toInt = a) (hq : y.toInt = b) (kt : b ≤ a → XX K k n H locs (tgt) ls (rest)) (kf : a < b → XX K k n H locs (pc + 3) ls (rest)) : XX K k n H locs (pc) ls (.int y :: .int x :: rest) := by
  obtain ⟨p, l, e, R, s, m, args, below, meth, c, Q, D, A, H0⟩ := K
  obtain ⟨⟨hx, hb, hml, hown, hts⟩, -⟩ := hM
  exact lv_icmp_ge hx hb hd ht (fun h => kt ((i_le hq hp).mp h)) (fun h => kf (Int.not_le.mp (fun h2 => h ((i_le hq hp).mpr h2))))
theorem q_if_ge {off : Int} {tgt : Nat} {x : Int32} {a : Int} (hM : MB K cA cc nL own) (hd : decode cc pc = .ok (.ifCond .ge off, 3)) (ht : (pc : Int) + off = (tgt : Int)) (hp : x.toInt = a) (kt : 0 ≤ a → XX K k n H locs (tgt) ls (rest)) (kf : a < 0 → XX K k n H locs (pc + 3) ls (rest)) : XX K k n H locs (pc) ls (.int x :: rest) := by
  obtain ⟨p, l, e, R, s, m, args, below, meth, c, Q, D, A, H0⟩ := K
  obtain ⟨⟨hx, hb, hml, hown, hts⟩, -⟩ := hM
  have hq : (0 : Int32).toInt = 0 := rfl
  exact lv_if_ge hx hb hd ht (fun h => kt ((i_le hq hp).mp h)) (fun h => kf (Int.not_le.mp (fun h2 => h ((i_le hq hp).mpr h2))))
theorem q_icmp_gt {off : Int} {tgt : Nat} {x y : Int32} {a b : Int} (hM : MB K cA cc nL own) (hd : decode cc pc = .ok (.if_icmp .gt off, 3)) (ht : (pc : Int) + off = (tgt : Int)) (hp : x.toInt = a) (hq : y.toInt = b) (kt : b < a → XX K k n H locs (tgt) ls (rest)) (kf : a ≤ b → XX K k n H locs (pc + 3) ls (rest)) : XX K k n H locs (pc) ls (.int y :: .int x :: rest) := by
  obtain ⟨p, l, e, R, s, m, args, below, meth, c, Q, D, A, H0⟩ := K
  obtain ⟨⟨hx, hb, hml, hown, hts⟩, -⟩ := hM
  exact lv_icmp_gt hx hb hd ht (fun h => kt ((i_lt hq hp).mp h)) (fun h => kf (Int.not_lt.mp (fun h2 => h ((i_lt hq hp).mpr h2))))
theorem q_if_gt {off : Int} {tgt : Nat} {x : Int32} {a : Int} (hM : MB K cA cc nL own) (hd : decode cc pc = .ok (.ifCond .gt off, 3)) (ht : (pc : Int) + off = (tgt : Int)) (hp : x.toInt = a) (kt : 0 < a → XX K k n H locs (tgt) ls (rest)) (kf : a ≤ 0 → XX K k n H locs (pc + 3) ls (rest)) : XX K k n H locs (pc) ls (.int x :: rest) := by
  obtain ⟨p, l, e, R, s, m, args, below, meth, c, Q, D, A, H0⟩ := K
  obtain ⟨⟨hx, hb, hml, hown, hts⟩, -⟩ := hM
  have hq : (0 : Int32).toInt = 0 := rfl
  exact lv_if_gt hx hb hd ht (fun h => kt ((i_lt hq hp).mp h)) (fun h => kf (Int.not_lt.mp (fun h2 => h ((i_lt hq hp).mpr h2))))
theorem q_icmp_le {off : Int} {tgt : Nat} {x y : Int32} {a b : Int} (hM : MB K cA cc nL own) (hd : decode cc pc = .ok (.if_icmp .le off, 3)) (ht : (pc : Int) + off = (tgt : Int)) (hp : x.toInt = a) (hq : y.toInt = b) (kt : a ≤ b → XX K k n H locs (tgt) ls (rest)) (kf : b < a → XX K k n H locs (pc + 3) ls (rest)) : XX K k n H locs (pc) ls (.int y :: .int x :: rest) := by
  obtain ⟨p, l, e, R, s, m, args, below, meth, c, Q, D, A, H0⟩ := K
  obtain ⟨⟨hx, hb, hml, hown, hts⟩, -⟩ := hM
  exact lv_icmp_le hx hb hd ht (fun h => kt ((i_le hp hq).mp h)) (fun h => kf (Int.not_le.mp (fun h2 => h ((i_le hp hq).mpr h2))))
theorem q_if_le {off : Int} {tgt : Nat} {x : Int32} {a : Int} (hM : MB K cA cc nL own) (hd : decode cc pc = .ok (.ifCond .le off, 3)) (ht : (pc : Int) + off = (tgt : Int)) (hp : x.toInt = a) (kt : a ≤ 0 → XX K k n H locs (tgt) ls (rest)) (kf : 0 < a → XX K k n H locs (pc + 3) ls (rest)) : XX K k n H locs (pc) ls (.int x :: rest) := by
  obtain ⟨p, l, e, R, s, m, args, below, meth, c, Q, D, A, H0⟩ := K
  obtain ⟨⟨hx, hb, hml, hown, hts⟩, -⟩ := hM
  have hq : (0 : Int32).toInt = 0 := rfl
  exact lv_if_le hx hb hd ht (fun h => kt ((i_le hp hq).mp h)) (fun h => kf (Int.not_le.mp (fun h2 => h ((i_le hp hq).mpr h2))))
theorem q_tableOut {dflt lo hi : Int} {offs : Array Int} {len : Nat} {x : Int32} {a : Int} {tgt : Nat} (hM : MB K cA cc nL own) (hd : decode cc pc = .ok (.tableswitch dflt lo hi offs, len)) (hp : x.toInt = a) (h : a < lo ∨ hi < a) (ht : (pc : Int) + dflt = (tgt : Int)) (kk : XX K k n H locs (tgt) ls (rest)) : XX K k n H locs (pc) ls (.int x :: rest) := by
  obtain ⟨p, l, e, R, s, m, args, below, meth, c, Q, D, A, H0⟩ := K
  obtain ⟨⟨hx, hb, hml, hown, hts⟩, -⟩ := hM
  exact lv_tableOut hx hb hd (by rw [hp]; exact h) ht kk
theorem q_tableIn {dflt lo hi : Int} {offs : Array Int} {len : Nat} {x : Int32} {a : Int} {off : Int} {tgt : Nat} (hM : MB K cA cc nL own) (hd : decode cc pc = .ok (.tableswitch dflt lo hi offs, len)) (hp : x.toInt = a) (h1 : lo ≤ a) (h2 : a ≤ hi) (ho : offs[(a - lo).toNat]? = some off) (ht : (pc : Int) + off = (tgt : Int)) (kk : XX K k n H locs (tgt) ls (rest)) : XX K k n H locs (pc) ls (.int x :: rest) := by
  obtain ⟨p, l, e, R, s, m, args, below, meth, c, Q, D, A, H0⟩ := K
  obtain ⟨⟨hx, hb, hml, hown, hts⟩, -⟩ := hM
  exact lv_tableIn hx hb hd (by rw [hp]; omega) (by rw [hp]; omega) (by rw [hp]; exact ho) ht kk
theorem q_lookup {dflt : Int} {ps : Array (Int × Int)} {len : Nat} {x : Int32} {off : Int} {tgt : Nat} (hM : MB K cA cc nL own) (hd : decode cc pc = .ok (.lookupswitch dflt ps, len)) (hp : (ps.toList.zip (ps.toList.drop 1)).all (fun (a, next) => a.1 < next.1) = true) (ho : Op.lookupswitch.offset ps.toList dflt x.toInt = off) (ht : (pc : Int) + off = (tgt : Int)) (kk : XX K k n H locs (tgt) ls (rest)) : XX K k n H locs (pc) ls (.int x :: rest) := by
  obtain ⟨p, l, e, R, s, m, args, below, meth, c, Q, D, A, H0⟩ := K
  obtain ⟨⟨hx, hb, hml, hown, hts⟩, -⟩ := hM
  exact lv_lookup hx hb hd hp ho ht kk
end RW2
end
section
/-! the world: labels 0 .. 128 of the class, 129 .. 179 of the reference -/
def NN : Nat := 180
/-- shapes: kind (0 object, 1 ints, 2 references, 3 longs), class, size -/
def shL : List (Nat × Nat × Nat) := [(0, 11, 16), (0, 10, 2), (1, 0, 260), (0, 5, 3), (1, 0, 12), (2, 1, 12), (1, 0, 12), (1, 0, 12), (1, 0, 12), (1, 0, 12), (1, 0, 12), (1, 0, 12), (1, 0, 12), (1, 0, 12), (1, 0, 12), (1, 0, 12), (1, 0, 12), (1, 0, 12), (0, 7, 8), (1, 0, 8), (1, 0, 8), (2, 1, 8), (1, 0, 12), (1, 0, 12), (1, 0, 12), (1, 0, 12), (1, 0, 12), (1, 0, 12), (1, 0, 12), (1, 0, 12), (0, 7, 8), (1, 0, 8), (1, 0, 8), (2, 1, 8), (1, 0, 12), (1, 0, 12), (1, 0, 12), (1, 0, 12), (1, 0, 12), (1, 0, 12), (1, 0, 12), (1, 0, 12), (0, 7, 8), (1, 0, 8), (1, 0, 8), (2, 1, 8), (1, 0, 12), (1, 0, 12), (1, 0, 12), (1, 0, 12), (1, 0, 12), (1, 0, 12), (1, 0, 12), (1, 0, 12), (0, 3, 8), (1, 0, 16), (1, 0, 16), (1, 0, 16), (1, 0, 256), (1, 0, 256), (1, 0, 64), (0, 3, 8), (1, 0, 16), (1, 0, 16), (1, 0, 16), (1, 0, 256), (1, 0, 256), (1, 0, 64), (0, 3, 8), (1, 0, 16), (1, 0, 16), (1, 0, 16), (1, 0, 256), (1, 0, 256), (1, 0, 64), (0, 0, 3), (1, 0, 48), (1, 0, 48), (0, 1, 5), (0, 4, 5), (0, 2, 11), (2, 2, 6), (1, 0, 10), (1, 0, 8), (0, 0, 3), (1, 0, 48), (1, 0, 48), (0, 0, 3), (1, 0, 48), (1, 0, 48), (0, 0, 3), (1, 0, 48), (1, 0, 48), (0, 0, 3), (1, 0, 48), (1, 0, 48), (0, 0, 3), (1, 0, 48), (1, 0, 48), (0, 0, 3), (1, 0, 48), (1, 0, 48), (0, 9, 5), (2, 1, 8), (1, 0, 8), (1, 0, 8), (1, 0, 8), (1, 0, 8), (1, 0, 8), (1, 0, 8), (1, 0, 8), (1, 0, 8), (2, 1, 5), (1, 0, 6), (1, 0, 6), (1, 0, 6), (1, 0, 6), (1, 0, 6), (1, 0, 6), (1, 0, 6), (0, 8, 7), (1, 0, 5), (3, 5, 341), (3, 5, 341), (1, 0, 341), (1, 0, 341), (1, 0, 341), (0, 6, 4), (1, 0, 9), (0, 12, 86), (1, 3, 260), (1, 4, 12), (1, 0, 12), (1, 0, 144), (1, 4, 6), (1, 0, 6), (1, 0, 288), (1, 0, 48), (1, 0, 10), (1, 0, 2), (1, 0, 2), (1, 0, 2), (1, 0, 32), (1, 0, 32), (1, 0, 32), (1, 0, 32), (1, 0, 480), (1, 0, 480), (1, 0, 2), (1, 0, 16), (1, 0, 16), (1, 0, 16), (1, 0, 16), (1, 0, 240), (1, 0, 240), (1, 0, 240), (1, 0, 240), (1, 4, 240), (1, 4, 8), (1, 0, 8), (1, 0, 8), (1, 0, 96), (1, 4, 16), (1, 0, 16), (1, 0, 16), (1, 0, 192), (1, 0, 2), (1, 0, 2), (1, 0, 2), (1, 0, 2), (1, 0, 12), (1, 0, 12), (1, 0, 8), (1, 0, 8), (1, 0, 12), (1, 0, 64), (1, 4, 5), (1, 0, 30), (1, 0, 6), (1, 0, 9)]
def shk (i : Nat) : Nat × Nat × Nat := shL.getD i (9, 0, 0)
/-- which fields of a kind of object hold ints -/
def iFs (ci : Nat) : List Nat := match ci with
  | 0 => [2]
  | 1 => [1, 2, 3]
  | 2 => [4, 5, 6, 7, 8]
  | 3 => [6, 7]
  | 4 => [1, 2, 3]
  | 5 => [2]
  | 6 => [1, 2, 3]
  | 7 => [3, 4, 5, 6, 7]
  | 8 => [6]
  | 9 => [4]
  | 10 => [1]
  | 11 => [15]
  | 12 => [1, 2, 3, 4, 5, 6, 7, 8, 9, 18, 19, 20, 31, 32, 39, 40, 42, 43, 44, 45, 46, 47, 48, 49, 56, 57, 58, 59, 60, 61, 62, 63, 64, 65, 66, 75]
  | _ => []
def shOK (cA : Nat → ClassId) (t : Nat × Nat × Nat) (e : va_E) : Prop := match t.1 with
  | 0 => ∃ fv : Nat → Value, e = ob t.2.1 t.2.2 fv ∧ ∀ k ∈ iFs t.2.1, ∃ x : Int32, fv k = .int x
  | 1 => ∃ f, e = ia (cA t.2.1) t.2.2 f
  | 2 => ∃ f, e = qa (cA t.2.1) t.2.2 f
  | _ => ∃ f, e = ja (cA t.2.1) t.2.2 f
def Shp0 (cA : Nat → ClassId) (g : Nat → va_E) : Prop := ∀ i, i < NN → shOK cA (shk i) (g i)
/-- the references that never change: label, field, label -/
def rfL : List (Nat × Nat × Nat) := [(0, 0, 1), (0, 1, 3), (0, 2, 80), (0, 3, 102), (0, 4, 120), (0, 5, 127), (0, 6, 78), (0, 7, 79), (0, 8, 75), (0, 9, 61), (0, 10, 18), (0, 11, 30), (0, 12, 42), (1, 0, 2), (3, 0, 4), (3, 1, 5), (18, 0, 19), (18, 1, 20), (18, 2, 21), (30, 0, 31), (30, 1, 32), (30, 2, 33), (42, 0, 43), (42, 1, 44), (42, 2, 45), (54, 0, 55), (54, 1, 56), (54, 2, 57), (54, 3, 58), (54, 4, 59), (54, 5, 60), (61, 0, 62), (61, 1, 63), (61, 2, 64), (61, 3, 65), (61, 4, 66), (61, 5, 67), (68, 0, 69), (68, 1, 70), (68, 2, 71), (68, 3, 72), (68, 4, 73), (68, 5, 74), (75, 0, 76), (75, 1, 77), (78, 0, 2), (79, 0, 2), (80, 0, 3), (80, 1, 81), (80, 2, 82), (80, 3, 83), (84, 0, 85), (84, 1, 86), (87, 0, 88), (87, 1, 89), (90, 0, 91), (90, 1, 92), (93, 0, 94), (93, 1, 95), (96, 0, 97), (96, 1, 98), (99, 0, 100), (99, 1, 101), (102, 0, 103), (102, 1, 112), (102, 2, 118), (102, 3, 119), (120, 0, 121), (120, 1, 122), (120, 2, 123), (120, 3, 124), (120, 4, 125), (120, 5, 126), (127, 0, 128), (129, 0, 130), (129, 10, 131), (129, 11, 132), (129, 12, 133), (129, 13, 134), (129, 14, 135), (129, 15, 136), (129, 16, 137), (129, 17, 138), (129, 21, 139), (129, 22, 140), (129, 23, 141), (129, 24, 142), (129, 25, 143), (129, 26, 144), (129, 27, 145), (129, 28, 146), (129, 29, 147), (129, 30, 148), (129, 33, 149), (129, 34, 150), (129, 35, 151), (129, 36, 152), (129, 37, 153), (129, 38, 154), (129, 41, 155), (129, 50, 156), (129, 51, 157), (129, 52, 158), (129, 53, 159), (129, 54, 160), (129, 55, 161), (129, 67, 162), (129, 68, 163), (129, 69, 164), (129, 70, 165), (129, 71, 166), (129, 72, 167), (129, 73, 168), (129, 74, 169), (129, 76, 170), (129, 77, 171), (129, 78, 172), (129, 79, 173), (129, 80, 174), (129, 81, 175), (129, 82, 176), (129, 83, 177), (129, 84, 178), (129, 85, 179)]
/-- .. and the rows of references -/
def aqL : List (Nat × Nat × Nat × Nat) := [(5, 12, 6, 1), (21, 8, 22, 1), (33, 8, 34, 1), (45, 8, 46, 1), (81, 6, 84, 3), (103, 8, 104, 1), (112, 5, 113, 1)]
def Shp (ad : Nat → Nat) (cA : Nat → ClassId) (g : Nat → va_E) : Prop := Shp0 cA g ∧ (∀ q ∈ rfL, fld g q.1 q.2.1 = .ref (ad q.2.2)) ∧ ∀ q ∈ aqL, arQ g q.1 = fun j => if j < q.2.1 then some (ad (q.2.2.1 + q.2.2.2 * j)) else none
def FPX (own : String) (index ci n k : Nat) (ty : FieldType) : Prop := FP own index ci n k ty ∧ ∀ q ∈ rfL, shk q.1 = (0, ci, n) → q.2.1 ≠ k
/-- a label of an object, of ints, of references, of longs -/
def LO (i ci nf : Nat) : Prop := i < NN ∧ shk i = (0, ci, nf)
def LA (i t n : Nat) : Prop := i < NN ∧ shk i = (1, t, n)
def LQ (i t n : Nat) : Prop := i < NN ∧ shk i = (2, t, n)
def LJ (i t n : Nat) : Prop := i < NN ∧ shk i = (3, t, n)
theorem iFs_lt : ∀ ci, ci < 13 → ∀ k ∈ iFs ci, k < ((vwCl[ci]?).map (fun q => q.2.2)).getD 0 := by decide +kernel
theorem fld_ob {g : Nat → va_E} {i ci nf k : Nat} {fv : Nat → Value} (h : g i = ob ci nf fv) (hk : k < nf) : fld g i k = fv k := by
  unfold fld
  rw [h]
  simp [ob, List.getD, hk]
theorem arQ_stF {g : Nat → va_E} {i k i' : Nat} {v : Value} : arQ (stF g i k v) i' = arQ g i' := by
  unfold arQ stF
  by_cases e : i' = i
  · subst e
    rw [va_up_self]
    cases g i' with
    | inr a => rfl
    | inl a => rfl
  · rw [va_up_ne _ _ e]
theorem arQ_stA {g : Nat → va_E} {i j i' : Nat} {x : Int32} : arQ (stA g i j x) i' = arQ g i' := by
  unfold arQ stA
  by_cases e : i' = i
  · subst e
    rw [va_up_self]
    cases g i' with
    | inr a => rfl
    | inl a => obtain ⟨c, n, f | f⟩ := a <;> rfl
  · rw [va_up_ne _ _ e]
theorem arQ_stJ {g : Nat → va_E} {i j i' : Nat} {x : Int64} : arQ (stJ g i j x) i' = arQ g i' := by
  unfold arQ stJ
  by_cases e : i' = i
  · subst e
    rw [va_up_self]
    cases g i' with
    | inr a => rfl
    | inl a => obtain ⟨c, n, f | f | f⟩ := a <;> rfl
  · rw [va_up_ne _ _ e]
theorem shO {ad : Nat → Nat} {cA : Nat → ClassId} {g : Nat → va_E} {i ci nf : Nat} (h : Shp ad cA g) (L : LO i ci nf) : g i = ob ci nf (fld g i) := by
  have := h.1 i L.1
  rw [L.2] at this
  obtain ⟨fv, h1, -⟩ := this
  exact ob_fld h1
theorem shA {ad : Nat → Nat} {cA : Nat → ClassId} {g : Nat → va_E} {i t n : Nat} (h : Shp ad cA g) (L : LA i t n) : g i = ia (cA t) n (arI g i) := by
  have := h.1 i L.1
  rw [L.2] at this
  obtain ⟨fv, h1⟩ := this
  exact ia_arI h1
theorem shQ {ad : Nat → Nat} {cA : Nat → ClassId} {g : Nat → va_E} {i t n : Nat} (h : Shp ad cA g) (L : LQ i t n) : g i = qa (cA t) n (arQ g i) := by
  have := h.1 i L.1
  rw [L.2] at this
  obtain ⟨fv, h1⟩ := this
  exact qa_arQ h1
theorem shJ {ad : Nat → Nat} {cA : Nat → ClassId} {g : Nat → va_E} {i t n : Nat} (h : Shp ad cA g) (L : LJ i t n) : g i = ja (cA t) n (arJ g i) := by
  have := h.1 i L.1
  rw [L.2] at this
  obtain ⟨fv, h1⟩ := this
  exact ja_arJ h1
theorem shI {ad : Nat → Nat} {cA : Nat → ClassId} {g : Nat → va_E} {i ci nf k : Nat} (h : Shp ad cA g) (L : LO i ci nf) (hk : k ∈ iFs ci) (hn : k < nf) : fld g i k = .int (fI g i k) := by
  have := h.1 i L.1
  rw [L.2] at this
  obtain ⟨fv, h1, h2⟩ := this
  obtain ⟨x, hx⟩ := h2 k hk
  have e := (fld_ob h1 hn).trans hx
  unfold fI
  rw [e]
theorem Shp_stF {ad : Nat → Nat} {cA : Nat → ClassId} {g : Nat → va_E} {i ci nf k : Nat} {v : Value} (h : Shp ad cA g) (L : LO i ci nf) (hv : (∃ x : Int32, v = .int x) ∨ k ∉ iFs ci) (hr : ∀ q ∈ rfL, shk q.1 = (0, ci, nf) → q.2.1 ≠ k) : Shp ad cA (stF g i k v) := by
  refine ⟨?_, fun q hq => ?_, fun q hq => (arQ_stF).trans (h.2.2 q hq)⟩
  case refine_2 =>
    rw [← h.2.1 q hq]
    by_cases e : q.1 = i
    · rw [e]
      exact fld_stk (hr q hq (by rw [e]; exact L.2))
    · exact fld_eq (stF_ne e) _
  intro j hj
  by_cases e : j = i
  · subst e
    have := h.1 j hj
    rw [L.2] at this ⊢
    obtain ⟨fv, h1, h2⟩ := this
    refine ⟨fun q => if q = k then v else fv q, ?_, fun q hq => ?_⟩
    · unfold stF
      rw [va_up_self, h1]
      show (Sum.inr (ci, ((List.range nf).map fv).set k v) : va_E) = ob ci nf _
      rw [map_set]
      rfl
    · by_cases e2 : q = k
      · subst e2
        rcases hv with ⟨x, hx⟩ | hv
        · exact ⟨x, by simp [hx]⟩
        · exact absurd hq hv
      · obtain ⟨x, hx⟩ := h2 q hq
        exact ⟨x, by simp [e2, hx]⟩
  · rw [stF_ne e]
    exact h.1 j hj
theorem Shp_stA {ad : Nat → Nat} {cA : Nat → ClassId} {g : Nat → va_E} {i t n j : Nat} {x : Int32} (h : Shp ad cA g) (L : LA i t n) : Shp ad cA (stA g i j x) := by
  refine ⟨?_, fun q hq => (fld_stA).trans (h.2.1 q hq), fun q hq => (arQ_stA).trans (h.2.2 q hq)⟩
  intro q hq
  by_cases e : q = i
  · subst e
    rw [L.2]
    exact ⟨upd (arI g q) j x, by unfold stA; rw [va_up_self, shA h L]; rfl⟩
  · rw [stA_ne e]
    exact h.1 q hq
theorem Shp_stJ {ad : Nat → Nat} {cA : Nat → ClassId} {g : Nat → va_E} {i t n j : Nat} {x : Int64} (h : Shp ad cA g) (L : LJ i t n) : Shp ad cA (stJ g i j x) := by
  refine ⟨?_, fun q hq => (fld_stJ).trans (h.2.1 q hq), fun q hq => (arQ_stJ).trans (h.2.2 q hq)⟩
  intro q hq
  by_cases e : q = i
  · subst e
    rw [L.2]
    exact ⟨vp_updL (arJ g q) j x, by unfold stJ; rw [va_up_self, shJ h L]; rfl⟩
  · rw [stJ_ne e]
    exact h.1 q hq
/-- what stands in g1 as in g, but for what T names: (label, field), and (label, 0) for a row of ints -/
def FR (T : Nat → Nat → Prop) (g g1 : Nat → va_E) : Prop := (∀ i k, ¬ T i k → fld g1 i k = fld g i k) ∧ (∀ i, ¬ T i 0 → arI g1 i = arI g i) ∧ ∀ i, arQ g1 i = arQ g i
theorem FR.rf {T : Nat → Nat → Prop} {g : Nat → va_E} : FR T g g := ⟨fun _ _ _ => rfl, fun _ _ => rfl, fun _ => rfl⟩
theorem FR.tr {T T1 : Nat → Nat → Prop} {g g1 g2 : Nat → va_E} (h : FR T g g1) (h1 : FR T1 g1 g2) (hs : ∀ i k, T1 i k → T i k) : FR T g g2 :=
  ⟨fun i k hn => (h1.1 i k (fun q => hn (hs i k q))).trans (h.1 i k hn), fun i hn => (h1.2.1 i (fun q => hn (hs i 0 q))).trans (h.2.1 i hn), fun i => (h1.2.2 i).trans (h.2.2 i)⟩
/-- the state of a walk: the world, its shapes, and what stands as it stood at the method's start -/
def WS (ad : Nat → Nat) (cA : Nat → ClassId) (T : Nat → Nat → Prop) (g0 : Nat → va_E) (K : KT) (g : Nat → va_E) (H : Heap) (locs : List Loc) : Prop := WB NN ad K g H locs ∧ Shp ad cA g ∧ FR T g0 g
theorem arI_stJ {g : Nat → va_E} {i j i' : Nat} {x : Int64} : arI (stJ g i j x) i' = arI g i' := by
  unfold arI stJ
  by_cases e : i' = i
  · subst e
    rw [va_up_self]
    cases g i' with
    | inr a => rfl
    | inl a => obtain ⟨c, n, f | f | f⟩ := a <;> rfl
  · rw [va_up_ne _ _ e]
/-- one write's frame -/
def Only (i k : Nat) : Nat → Nat → Prop := fun a b => a = i ∧ b = k
theorem FR_stF {g : Nat → va_E} {i k : Nat} {v : Value} : FR (Only i k) g (stF g i k v) := by
  refine ⟨fun a b h => ?_, fun _ _ => arI_stF, fun _ => arQ_stF⟩
  by_cases e : a = i
  · subst e
    exact fld_stk (fun q => h ⟨rfl, q⟩)
  · exact fld_eq (stF_ne e) b
theorem FR_stA {g : Nat → va_E} {i j : Nat} {x : Int32} : FR (Only i 0) g (stA g i j x) :=
  ⟨fun _ _ _ => fld_stA, fun a h => arI_eq (stA_ne (fun e => h ⟨e, rfl⟩)), fun _ => arQ_stA⟩
theorem FR_stJ {g : Nat → va_E} {i j : Nat} {x : Int64} : FR (Only i 0) g (stJ g i j x) := ⟨fun _ _ _ => fld_stJ, fun _ _ => arI_stJ, fun _ => arQ_stJ⟩
section WR
variable {K : KT} {cA : Nat → ClassId} {cc : ByteArray} {nL : Nat} {own : String} {k n : Nat} {H : Heap} {locs : List Loc} {pc : Nat} {ls : Array Slot} {rest : List Value} {ad : Nat → Nat} {g g0 : Nat → va_E} {T : Nat → Nat → Prop}
theorem w_get {i ci nf kf index : Nat} {v : Value} (hM : MB K cA cc nL own) (hW : WS ad cA T g0 K g H locs) (F : FG own index ci nf kf) (L : LO i ci nf) (hv : fld g i kf = v) (hd : decode cc pc = .ok (.getfield index, 3))
    (kk : XX K k n H locs (pc + 3) ls (v :: rest)) : XX K k n H locs pc ls (.ref (ad i) :: rest) := q_getF hM hW.1 F L.1 (shO hW.2.1 L) hv hd kk
/-- an int field: its value gets a name -/
theorem w_getI {i ci nf kf index : Nat} (hM : MB K cA cc nL own) (hW : WS ad cA T g0 K g H locs) (F : FG own index ci nf kf) (L : LO i ci nf) (hk : kf ∈ iFs ci) (hn : kf < nf) (hd : decode cc pc = .ok (.getfield index, 3))
    (kk : ∀ x : Int32, fld g i kf = .int x → XX K k n H locs (pc + 3) ls (.int x :: rest)) : XX K k n H locs pc ls (.ref (ad i) :: rest) := q_getF hM hW.1 F L.1 (shO hW.2.1 L) (shI hW.2.1 L hk hn) hd (kk _ (shI hW.2.1 L hk hn))
theorem w_put {i ci nf kf index : Nat} {v : Value} {ty : FieldType} (hM : MB K cA cc nL own) (hW : WS ad cA T g0 K g H locs) (F : FPX own index ci nf kf ty) (L : LO i ci nf) (hT : T i kf) (hs : (∃ x : Int32, v = .int x) ∨ kf ∉ iFs ci) (hn : narrow ty v = v) (hfit : fits ty v = true) (hd : decode cc pc = .ok (.putfield index, 3))
    (kk : ∀ (g1 : Nat → va_E) (H : Heap) (locs : List Loc), WS ad cA T g0 K g1 H locs → fld g1 i kf = v → FR (Only i kf) g g1 → XX K k n H locs (pc + 3) ls rest) : XX K k n H locs pc ls (v :: .ref (ad i) :: rest) := by
  have hkf : kf < nf := by obtain ⟨⟨_, _, _, _, _, h, _⟩, _⟩ := F; exact h
  refine q_putF hM hW.1 F.1 L.1 (shO hW.2.1 L) hn hfit hd (fun H locs h1 => kk _ H locs ⟨h1, Shp_stF hW.2.1 L hs F.2, hW.2.2.tr FR_stF (fun a b h => ?_)⟩ (fld_st (shO hW.2.1 L) hkf) FR_stF)
  obtain ⟨rfl, rfl⟩ := h
  exact hT
theorem w_iald {i na : Nat} {j : Int32} (hM : MB K cA cc nL own) (hW : WS ad cA T g0 K g H locs) (L : LA i 0 na) (hin : vp_in j na) (hd : decode cc pc = .ok (.iaload, 1))
    (kk : XX K k n H locs (pc + 1) ls (.int (arI g i j.toNatClampNeg) :: rest)) : XX K k n H locs pc ls (.int j :: .ref (ad i) :: rest) := q_iald hM hW.1 L.1 (shA hW.2.1 L) hin hd kk
theorem w_bald {i na : Nat} {j : Int32} (hM : MB K cA cc nL own) (hW : WS ad cA T g0 K g H locs) (L : LA i 3 na) (hin : vp_in j na) (hd : decode cc pc = .ok (.baload, 1))
    (kk : XX K k n H locs (pc + 1) ls (.int (arI g i j.toNatClampNeg) :: rest)) : XX K k n H locs pc ls (.int j :: .ref (ad i) :: rest) := q_bald hM hW.1 L.1 (shA hW.2.1 L) hin hd kk
theorem w_zald {i na : Nat} {j : Int32} (hM : MB K cA cc nL own) (hW : WS ad cA T g0 K g H locs) (L : LA i 4 na) (hin : vp_in j na) (hd : decode cc pc = .ok (.baload, 1))
    (kk : XX K k n H locs (pc + 1) ls (.int (arI g i j.toNatClampNeg) :: rest)) : XX K k n H locs pc ls (.int j :: .ref (ad i) :: rest) := q_zald hM hW.1 L.1 (shA hW.2.1 L) hin hd kk
theorem w_jald {i na : Nat} {j : Int32} (hM : MB K cA cc nL own) (hW : WS ad cA T g0 K g H locs) (L : LJ i 5 na) (hin : vp_in j na) (hd : decode cc pc = .ok (.laload, 1))
    (kk : XX K k n H locs (pc + 1) ls (.long (arJ g i j.toNatClampNeg) :: rest)) : XX K k n H locs pc ls (.int j :: .ref (ad i) :: rest) := q_jald hM hW.1 L.1 (shJ hW.2.1 L) hin hd kk
theorem w_aald {i t0 na b : Nat} {j : Int32} (hM : MB K cA cc nL own) (hW : WS ad cA T g0 K g H locs) (L : LQ i t0 na) (ht : t0 = 1 ∨ t0 = 2) (hin : vp_in j na) (hv : arQ g i j.toNatClampNeg = some b) (hd : decode cc pc = .ok (.aaload, 1))
    (kk : XX K k n H locs (pc + 1) ls (.ref b :: rest)) : XX K k n H locs pc ls (.int j :: .ref (ad i) :: rest) := q_aald hM hW.1 L.1 (shQ hW.2.1 L) ht hin hv hd kk
theorem w_iast {i na : Nat} {j x : Int32} (hM : MB K cA cc nL own) (hW : WS ad cA T g0 K g H locs) (L : LA i 0 na) (hT : T i 0) (hin : vp_in j na) (hd : decode cc pc = .ok (.iastore, 1))
    (kk : ∀ (g1 : Nat → va_E) (H : Heap) (locs : List Loc), WS ad cA T g0 K g1 H locs → arI g1 i = upd (arI g i) j.toNatClampNeg x → FR (Only i 0) g g1 → XX K k n H locs (pc + 1) ls rest) : XX K k n H locs pc ls (.int x :: .int j :: .ref (ad i) :: rest) :=
  q_iast hM hW.1 L.1 (shA hW.2.1 L) hin hd (fun H locs h1 => kk _ H locs ⟨h1, Shp_stA hW.2.1 L, hW.2.2.tr FR_stA (fun a b h => by obtain ⟨rfl, rfl⟩ := h; exact hT)⟩ (arI_st (shA hW.2.1 L)) FR_stA)
theorem w_bast {i na : Nat} {j x : Int32} (hM : MB K cA cc nL own) (hW : WS ad cA T g0 K g H locs) (L : LA i 3 na) (hT : T i 0) (hin : vp_in j na) (hd : decode cc pc = .ok (.bastore, 1))
    (kk : ∀ (g1 : Nat → va_E) (H : Heap) (locs : List Loc), WS ad cA T g0 K g1 H locs → arI g1 i = upd (arI g i) j.toNatClampNeg (vp_nar .byte x) → FR (Only i 0) g g1 → XX K k n H locs (pc + 1) ls rest) : XX K k n H locs pc ls (.int x :: .int j :: .ref (ad i) :: rest) :=
  q_bast hM hW.1 L.1 (shA hW.2.1 L) hin hd (fun H locs h1 => kk _ H locs ⟨h1, Shp_stA hW.2.1 L, hW.2.2.tr FR_stA (fun a b h => by obtain ⟨rfl, rfl⟩ := h; exact hT)⟩ (arI_st (shA hW.2.1 L)) FR_stA)
theorem w_zast {i na : Nat} {j x : Int32} (hM : MB K cA cc nL own) (hW : WS ad cA T g0 K g H locs) (L : LA i 4 na) (hT : T i 0) (hin : vp_in j na) (hd : decode cc pc = .ok (.bastore, 1))
    (kk : ∀ (g1 : Nat → va_E) (H : Heap) (locs : List Loc), WS ad cA T g0 K g1 H locs → arI g1 i = upd (arI g i) j.toNatClampNeg (vp_nar .boolean x) → FR (Only i 0) g g1 → XX K k n H locs (pc + 1) ls rest) : XX K k n H locs pc ls (.int x :: .int j :: .ref (ad i) :: rest) :=
  q_zast hM hW.1 L.1 (shA hW.2.1 L) hin hd (fun H locs h1 => kk _ H locs ⟨h1, Shp_stA hW.2.1 L, hW.2.2.tr FR_stA (fun a b h => by obtain ⟨rfl, rfl⟩ := h; exact hT)⟩ (arI_st (shA hW.2.1 L)) FR_stA)
theorem w_jast {i na : Nat} {j : Int32} {x : Int64} (hM : MB K cA cc nL own) (hW : WS ad cA T g0 K g H locs) (L : LJ i 5 na) (hT : T i 0) (hin : vp_in j na) (hd : decode cc pc = .ok (.lastore, 1))
    (kk : ∀ (g1 : Nat → va_E) (H : Heap) (locs : List Loc), WS ad cA T g0 K g1 H locs → FR (Only i 0) g g1 → XX K k n H locs (pc + 1) ls rest) : XX K k n H locs pc ls (.long x :: .int j :: .ref (ad i) :: rest) :=
  q_jast hM hW.1 L.1 (shJ hW.2.1 L) hin hd (fun H locs h1 => kk _ H locs ⟨h1, Shp_stJ hW.2.1 L, hW.2.2.tr FR_stJ (fun a b h => by obtain ⟨rfl, rfl⟩ := h; exact hT)⟩ FR_stJ)
/-- a row of references whose places are labels one behind the other -/
theorem aq {i m b st : Nat} (h : arQ g i = fun j => if j < m then some (ad (b + st * j)) else none) {j : Int32} (h0 : 0 ≤ j.toInt) (h1 : j.toInt < m) : arQ g i j.toNatClampNeg = some (ad (b + st * j.toInt.toNat)) := by
  rw [h]
  have : j.toInt.toNat < m := by omega
  exact if_pos this
end WR
theorem rf_0_0 {ad : Nat → Nat} {cA : Nat → ClassId} {g : Nat → va_E} (h : Shp ad cA g) : fld g 0 0 = .ref (ad 1) := h.2.1 (0, 0, 1) (List.mem_of_getElem? (i := 0) rfl)
theorem rf_0_1 {ad : Nat → Nat} {cA : Nat → ClassId} {g : Nat → va_E} (h : Shp ad cA g) : fld g 0 1 = .ref (ad 3) := h.2.1 (0, 1, 3) (List.mem_of_getElem? (i := 1) rfl)
theorem rf_0_2 {ad : Nat → Nat} {cA : Nat → ClassId} {g : Nat → va_E} (h : Shp ad cA g) : fld g 0 2 = .ref (ad 80) := h.2.1 (0, 2, 80) (List.mem_of_getElem? (i := 2) rfl)
theorem rf_0_3 {ad : Nat → Nat} {cA : Nat → ClassId} {g : Nat → va_E} (h : Shp ad cA g) : fld g 0 3 = .ref (ad 102) := h.2.1 (0, 3, 102) (List.mem_of_getElem? (i := 3) rfl)
theorem rf_0_4 {ad : Nat → Nat} {cA : Nat → ClassId} {g : Nat → va_E} (h : Shp ad cA g) : fld g 0 4 = .ref (ad 120) := h.2.1 (0, 4, 120) (List.mem_of_getElem? (i := 4) rfl)
theorem rf_0_5 {ad : Nat → Nat} {cA : Nat → ClassId} {g : Nat → va_E} (h : Shp ad cA g) : fld g 0 5 = .ref (ad 127) := h.2.1 (0, 5, 127) (List.mem_of_getElem? (i := 5) rfl)
theorem rf_0_6 {ad : Nat → Nat} {cA : Nat → ClassId} {g : Nat → va_E} (h : Shp ad cA g) : fld g 0 6 = .ref (ad 78) := h.2.1 (0, 6, 78) (List.mem_of_getElem? (i := 6) rfl)
theorem rf_0_7 {ad : Nat → Nat} {cA : Nat → ClassId} {g : Nat → va_E} (h : Shp ad cA g) : fld g 0 7 = .ref (ad 79) := h.2.1 (0, 7, 79) (List.mem_of_getElem? (i := 7) rfl)
theorem rf_0_8 {ad : Nat → Nat} {cA : Nat → ClassId} {g : Nat → va_E} (h : Shp ad cA g) : fld g 0 8 = .ref (ad 75) := h.2.1 (0, 8, 75) (List.mem_of_getElem? (i := 8) rfl)
theorem rf_0_9 {ad : Nat → Nat} {cA : Nat → ClassId} {g : Nat → va_E} (h : Shp ad cA g) : fld g 0 9 = .ref (ad 61) := h.2.1 (0, 9, 61) (List.mem_of_getElem? (i := 9) rfl)
theorem rf_0_10 {ad : Nat → Nat} {cA : Nat → ClassId} {g : Nat → va_E} (h : Shp ad cA g) : fld g 0 10 = .ref (ad 18) := h.2.1 (0, 10, 18) (List.mem_of_getElem? (i := 10) rfl)
theorem rf_0_11 {ad : Nat → Nat} {cA : Nat → ClassId} {g : Nat → va_E} (h : Shp ad cA g) : fld g 0 11 = .ref (ad 30) := h.2.1 (0, 11, 30) (List.mem_of_getElem? (i := 11) rfl)
theorem rf_0_12 {ad : Nat → Nat} {cA : Nat → ClassId} {g : Nat → va_E} (h : Shp ad cA g) : fld g 0 12 = .ref (ad 42) := h.2.1 (0, 12, 42) (List.mem_of_getElem? (i := 12) rfl)
theorem rf_1_0 {ad : Nat → Nat} {cA : Nat → ClassId} {g : Nat → va_E} (h : Shp ad cA g) : fld g 1 0 = .ref (ad 2) := h.2.1 (1, 0, 2) (List.mem_of_getElem? (i := 13) rfl)
theorem rf_3_0 {ad : Nat → Nat} {cA : Nat → ClassId} {g : Nat → va_E} (h : Shp ad cA g) : fld g 3 0 = .ref (ad 4) := h.2.1 (3, 0, 4) (List.mem_of_getElem? (i := 14) rfl)
theorem rf_3_1 {ad : Nat → Nat} {cA : Nat → ClassId} {g : Nat → va_E} (h : Shp ad cA g) : fld g 3 1 = .ref (ad 5) := h.2.1 (3, 1, 5) (List.mem_of_getElem? (i := 15) rfl)
theorem rf_18_0 {ad : Nat → Nat} {cA : Nat → ClassId} {g : Nat → va_E} (h : Shp ad cA g) : fld g 18 0 = .ref (ad 19) := h.2.1 (18, 0, 19) (List.mem_of_getElem? (i := 16) rfl)
theorem rf_18_1 {ad : Nat → Nat} {cA : Nat → ClassId} {g : Nat → va_E} (h : Shp ad cA g) : fld g 18 1 = .ref (ad 20) := h.2.1 (18, 1, 20) (List.mem_of_getElem? (i := 17) rfl)
theorem rf_18_2 {ad : Nat → Nat} {cA : Nat → ClassId} {g : Nat → va_E} (h : Shp ad cA g) : fld g 18 2 = .ref (ad 21) := h.2.1 (18, 2, 21) (List.mem_of_getElem? (i := 18) rfl)
theorem rf_30_0 {ad : Nat → Nat} {cA : Nat → ClassId} {g : Nat → va_E} (h : Shp ad cA g) : fld g 30 0 = .ref (ad 31) := h.2.1 (30, 0, 31) (List.mem_of_getElem? (i := 19) rfl)
theorem rf_30_1 {ad : Nat → Nat} {cA : Nat → ClassId} {g : Nat → va_E} (h : Shp ad cA g) : fld g 30 1 = .ref (ad 32) := h.2.1 (30, 1, 32) (List.mem_of_getElem? (i := 20) rfl)
theorem rf_30_2 {ad : Nat → Nat} {cA : Nat → ClassId} {g : Nat → va_E} (h : Shp ad cA g) : fld g 30 2 = .ref (ad 33) := h.2.1 (30, 2, 33) (List.mem_of_getElem? (i := 21) rfl)
theorem rf_42_0 {ad : Nat → Nat} {cA : Nat → ClassId} {g : Nat → va_E} (h : Shp ad cA g) : fld g 42 0 = .ref (ad 43) := h.2.1 (42, 0, 43) (List.mem_of_getElem? (i := 22) rfl)
theorem rf_42_1 {ad : Nat → Nat} {cA : Nat → ClassId} {g : Nat → va_E} (h : Shp ad cA g) : fld g 42 1 = .ref (ad 44) := h.2.1 (42, 1, 44) (List.mem_of_getElem? (i := 23) rfl)
theorem rf_42_2 {ad : Nat → Nat} {cA : Nat → ClassId} {g : Nat → va_E} (h : Shp ad cA g) : fld g 42 2 = .ref (ad 45) := h.2.1 (42, 2, 45) (List.mem_of_getElem? (i := 24) rfl)
theorem rf_54_0 {ad : Nat → Nat} {cA : Nat → ClassId} {g : Nat → va_E} (h : Shp ad cA g) : fld g 54 0 = .ref (ad 55) := h.2.1 (54, 0, 55) (List.mem_of_getElem? (i := 25) rfl)
theorem rf_54_1 {ad : Nat → Nat} {cA : Nat → ClassId} {g : Nat → va_E} (h : Shp ad cA g) : fld g 54 1 = .ref (ad 56) := h.2.1 (54, 1, 56) (List.mem_of_getElem? (i := 26) rfl)
theorem rf_54_2 {ad : Nat → Nat} {cA : Nat → ClassId} {g : Nat → va_E} (h : Shp ad cA g) : fld g 54 2 = .ref (ad 57) := h.2.1 (54, 2, 57) (List.mem_of_getElem? (i := 27) rfl)
theorem rf_54_3 {ad : Nat → Nat} {cA : Nat → ClassId} {g : Nat → va_E} (h : Shp ad cA g) : fld g 54 3 = .ref (ad 58) := h.2.1 (54, 3, 58) (List.mem_of_getElem? (i := 28) rfl)
theorem rf_54_4 {ad : Nat → Nat} {cA : Nat → ClassId} {g : Nat → va_E} (h : Shp ad cA g) : fld g 54 4 = .ref (ad 59) := h.2.1 (54, 4, 59) (List.mem_of_getElem? (i := 29) rfl)
theorem rf_54_5 {ad : Nat → Nat} {cA : Nat → ClassId} {g : Nat → va_E} (h : Shp ad cA g) : fld g 54 5 = .ref (ad 60) := h.2.1 (54, 5, 60) (List.mem_of_getElem? (i := 30) rfl)
theorem rf_61_0 {ad : Nat → Nat} {cA : Nat → ClassId} {g : Nat → va_E} (h : Shp ad cA g) : fld g 61 0 = .ref (ad 62) := h.2.1 (61, 0, 62) (List.mem_of_getElem? (i := 31) rfl)
theorem rf_61_1 {ad : Nat → Nat} {cA : Nat → ClassId} {g : Nat → va_E} (h : Shp ad cA g) : fld g 61 1 = .ref (ad 63) := h.2.1 (61, 1, 63) (List.mem_of_getElem? (i := 32) rfl)
theorem rf_61_2 {ad : Nat → Nat} {cA : Nat → ClassId} {g : Nat → va_E} (h : Shp ad cA g) : fld g 61 2 = .ref (ad 64) := h.2.1 (61, 2, 64) (List.mem_of_getElem? (i := 33) rfl)
theorem rf_61_3 {ad : Nat → Nat} {cA : Nat → ClassId} {g : Nat → va_E} (h : Shp ad cA g) : fld g 61 3 = .ref (ad 65) := h.2.1 (61, 3, 65) (List.mem_of_getElem? (i := 34) rfl)
theorem rf_61_4 {ad : Nat → Nat} {cA : Nat → ClassId} {g : Nat → va_E} (h : Shp ad cA g) : fld g 61 4 = .ref (ad 66) := h.2.1 (61, 4, 66) (List.mem_of_getElem? (i := 35) rfl)
theorem rf_61_5 {ad : Nat → Nat} {cA : Nat → ClassId} {g : Nat → va_E} (h : Shp ad cA g) : fld g 61 5 = .ref (ad 67) := h.2.1 (61, 5, 67) (List.mem_of_getElem? (i := 36) rfl)
theorem rf_68_0 {ad : Nat → Nat} {cA : Nat → ClassId} {g : Nat → va_E} (h : Shp ad cA g) : fld g 68 0 = .ref (ad 69) := h.2.1 (68, 0, 69) (List.mem_of_getElem? (i := 37) rfl)
theorem rf_68_1 {ad : Nat → Nat} {cA : Nat → ClassId} {g : Nat → va_E} (h : Shp ad cA g) : fld g 68 1 = .ref (ad 70) := h.2.1 (68, 1, 70) (List.mem_of_getElem? (i := 38) rfl)
theorem rf_68_2 {ad : Nat → Nat} {cA : Nat → ClassId} {g : Nat → va_E} (h : Shp ad cA g) : fld g 68 2 = .ref (ad 71) := h.2.1 (68, 2, 71) (List.mem_of_getElem? (i := 39) rfl)
theorem rf_68_3 {ad : Nat → Nat} {cA : Nat → ClassId} {g : Nat → va_E} (h : Shp ad cA g) : fld g 68 3 = .ref (ad 72) := h.2.1 (68, 3, 72) (List.mem_of_getElem? (i := 40) rfl)
theorem rf_68_4 {ad : Nat → Nat} {cA : Nat → ClassId} {g : Nat → va_E} (h : Shp ad cA g) : fld g 68 4 = .ref (ad 73) := h.2.1 (68, 4, 73) (List.mem_of_getElem? (i := 41) rfl)
theorem rf_68_5 {ad : Nat → Nat} {cA : Nat → ClassId} {g : Nat → va_E} (h : Shp ad cA g) : fld g 68 5 = .ref (ad 74) := h.2.1 (68, 5, 74) (List.mem_of_getElem? (i := 42) rfl)
theorem rf_75_0 {ad : Nat → Nat} {cA : Nat → ClassId} {g : Nat → va_E} (h : Shp ad cA g) : fld g 75 0 = .ref (ad 76) := h.2.1 (75, 0, 76) (List.mem_of_getElem? (i := 43) rfl)
theorem rf_75_1 {ad : Nat → Nat} {cA : Nat → ClassId} {g : Nat → va_E} (h : Shp ad cA g) : fld g 75 1 = .ref (ad 77) := h.2.1 (75, 1, 77) (List.mem_of_getElem? (i := 44) rfl)
theorem rf_78_0 {ad : Nat → Nat} {cA : Nat → ClassId} {g : Nat → va_E} (h : Shp ad cA g) : fld g 78 0 = .ref (ad 2) := h.2.1 (78, 0, 2) (List.mem_of_getElem? (i := 45) rfl)
theorem rf_79_0 {ad : Nat → Nat} {cA : Nat → ClassId} {g : Nat → va_E} (h : Shp ad cA g) : fld g 79 0 = .ref (ad 2) := h.2.1 (79, 0, 2) (List.mem_of_getElem? (i := 46) rfl)
theorem rf_80_0 {ad : Nat → Nat} {cA : Nat → ClassId} {g : Nat → va_E} (h : Shp ad cA g) : fld g 80 0 = .ref (ad 3) := h.2.1 (80, 0, 3) (List.mem_of_getElem? (i := 47) rfl)
theorem rf_80_1 {ad : Nat → Nat} {cA : Nat → ClassId} {g : Nat → va_E} (h : Shp ad cA g) : fld g 80 1 = .ref (ad 81) := h.2.1 (80, 1, 81) (List.mem_of_getElem? (i := 48) rfl)
theorem rf_80_2 {ad : Nat → Nat} {cA : Nat → ClassId} {g : Nat → va_E} (h : Shp ad cA g) : fld g 80 2 = .ref (ad 82) := h.2.1 (80, 2, 82) (List.mem_of_getElem? (i := 49) rfl)
theorem rf_80_3 {ad : Nat → Nat} {cA : Nat → ClassId} {g : Nat → va_E} (h : Shp ad cA g) : fld g 80 3 = .ref (ad 83) := h.2.1 (80, 3, 83) (List.mem_of_getElem? (i := 50) rfl)
theorem rf_84_0 {ad : Nat → Nat} {cA : Nat → ClassId} {g : Nat → va_E} (h : Shp ad cA g) : fld g 84 0 = .ref (ad 85) := h.2.1 (84, 0, 85) (List.mem_of_getElem? (i := 51) rfl)
theorem rf_84_1 {ad : Nat → Nat} {cA : Nat → ClassId} {g : Nat → va_E} (h : Shp ad cA g) : fld g 84 1 = .ref (ad 86) := h.2.1 (84, 1, 86) (List.mem_of_getElem? (i := 52) rfl)
theorem rf_87_0 {ad : Nat → Nat} {cA : Nat → ClassId} {g : Nat → va_E} (h : Shp ad cA g) : fld g 87 0 = .ref (ad 88) := h.2.1 (87, 0, 88) (List.mem_of_getElem? (i := 53) rfl)
theorem rf_87_1 {ad : Nat → Nat} {cA : Nat → ClassId} {g : Nat → va_E} (h : Shp ad cA g) : fld g 87 1 = .ref (ad 89) := h.2.1 (87, 1, 89) (List.mem_of_getElem? (i := 54) rfl)
theorem rf_90_0 {ad : Nat → Nat} {cA : Nat → ClassId} {g : Nat → va_E} (h : Shp ad cA g) : fld g 90 0 = .ref (ad 91) := h.2.1 (90, 0, 91) (List.mem_of_getElem? (i := 55) rfl)
theorem rf_90_1 {ad : Nat → Nat} {cA : Nat → ClassId} {g : Nat → va_E} (h : Shp ad cA g) : fld g 90 1 = .ref (ad 92) := h.2.1 (90, 1, 92) (List.mem_of_getElem? (i := 56) rfl)
theorem rf_93_0 {ad : Nat → Nat} {cA : Nat → ClassId} {g : Nat → va_E} (h : Shp ad cA g) : fld g 93 0 = .ref (ad 94) := h.2.1 (93, 0, 94) (List.mem_of_getElem? (i := 57) rfl)
theorem rf_93_1 {ad : Nat → Nat} {cA : Nat → ClassId} {g : Nat → va_E} (h : Shp ad cA g) : fld g 93 1 = .ref (ad 95) := h.2.1 (93, 1, 95) (List.mem_of_getElem? (i := 58) rfl)
theorem rf_96_0 {ad : Nat → Nat} {cA : Nat → ClassId} {g : Nat → va_E} (h : Shp ad cA g) : fld g 96 0 = .ref (ad 97) := h.2.1 (96, 0, 97) (List.mem_of_getElem? (i := 59) rfl)
theorem rf_96_1 {ad : Nat → Nat} {cA : Nat → ClassId} {g : Nat → va_E} (h : Shp ad cA g) : fld g 96 1 = .ref (ad 98) := h.2.1 (96, 1, 98) (List.mem_of_getElem? (i := 60) rfl)
theorem rf_99_0 {ad : Nat → Nat} {cA : Nat → ClassId} {g : Nat → va_E} (h : Shp ad cA g) : fld g 99 0 = .ref (ad 100) := h.2.1 (99, 0, 100) (List.mem_of_getElem? (i := 61) rfl)
theorem rf_99_1 {ad : Nat → Nat} {cA : Nat → ClassId} {g : Nat → va_E} (h : Shp ad cA g) : fld g 99 1 = .ref (ad 101) := h.2.1 (99, 1, 101) (List.mem_of_getElem? (i := 62) rfl)
theorem rf_102_0 {ad : Nat → Nat} {cA : Nat → ClassId} {g : Nat → va_E} (h : Shp ad cA g) : fld g 102 0 = .ref (ad 103) := h.2.1 (102, 0, 103) (List.mem_of_getElem? (i := 63) rfl)
theorem rf_102_1 {ad : Nat → Nat} {cA : Nat → ClassId} {g : Nat → va_E} (h : Shp ad cA g) : fld g 102 1 = .ref (ad 112) := h.2.1 (102, 1, 112) (List.mem_of_getElem? (i := 64) rfl)
theorem rf_102_2 {ad : Nat → Nat} {cA : Nat → ClassId} {g : Nat → va_E} (h : Shp ad cA g) : fld g 102 2 = .ref (ad 118) := h.2.1 (102, 2, 118) (List.mem_of_getElem? (i := 65) rfl)
theorem rf_102_3 {ad : Nat → Nat} {cA : Nat → ClassId} {g : Nat → va_E} (h : Shp ad cA g) : fld g 102 3 = .ref (ad 119) := h.2.1 (102, 3, 119) (List.mem_of_getElem? (i := 66) rfl)
theorem rf_120_0 {ad : Nat → Nat} {cA : Nat → ClassId} {g : Nat → va_E} (h : Shp ad cA g) : fld g 120 0 = .ref (ad 121) := h.2.1 (120, 0, 121) (List.mem_of_getElem? (i := 67) rfl)
theorem rf_120_1 {ad : Nat → Nat} {cA : Nat → ClassId} {g : Nat → va_E} (h : Shp ad cA g) : fld g 120 1 = .ref (ad 122) := h.2.1 (120, 1, 122) (List.mem_of_getElem? (i := 68) rfl)
theorem rf_120_2 {ad : Nat → Nat} {cA : Nat → ClassId} {g : Nat → va_E} (h : Shp ad cA g) : fld g 120 2 = .ref (ad 123) := h.2.1 (120, 2, 123) (List.mem_of_getElem? (i := 69) rfl)
theorem rf_120_3 {ad : Nat → Nat} {cA : Nat → ClassId} {g : Nat → va_E} (h : Shp ad cA g) : fld g 120 3 = .ref (ad 124) := h.2.1 (120, 3, 124) (List.mem_of_getElem? (i := 70) rfl)
theorem rf_120_4 {ad : Nat → Nat} {cA : Nat → ClassId} {g : Nat → va_E} (h : Shp ad cA g) : fld g 120 4 = .ref (ad 125) := h.2.1 (120, 4, 125) (List.mem_of_getElem? (i := 71) rfl)
theorem rf_120_5 {ad : Nat → Nat} {cA : Nat → ClassId} {g : Nat → va_E} (h : Shp ad cA g) : fld g 120 5 = .ref (ad 126) := h.2.1 (120, 5, 126) (List.mem_of_getElem? (i := 72) rfl)
theorem rf_127_0 {ad : Nat → Nat} {cA : Nat → ClassId} {g : Nat → va_E} (h : Shp ad cA g) : fld g 127 0 = .ref (ad 128) := h.2.1 (127, 0, 128) (List.mem_of_getElem? (i := 73) rfl)
theorem rf_129_0 {ad : Nat → Nat} {cA : Nat → ClassId} {g : Nat → va_E} (h : Shp ad cA g) : fld g 129 0 = .ref (ad 130) := h.2.1 (129, 0, 130) (List.mem_of_getElem? (i := 74) rfl)
theorem rf_129_10 {ad : Nat → Nat} {cA : Nat → ClassId} {g : Nat → va_E} (h : Shp ad cA g) : fld g 129 10 = .ref (ad 131) := h.2.1 (129, 10, 131) (List.mem_of_getElem? (i := 75) rfl)
theorem rf_129_11 {ad : Nat → Nat} {cA : Nat → ClassId} {g : Nat → va_E} (h : Shp ad cA g) : fld g 129 11 = .ref (ad 132) := h.2.1 (129, 11, 132) (List.mem_of_getElem? (i := 76) rfl)
theorem rf_129_12 {ad : Nat → Nat} {cA : Nat → ClassId} {g : Nat → va_E} (h : Shp ad cA g) : fld g 129 12 = .ref (ad 133) := h.2.1 (129, 12, 133) (List.mem_of_getElem? (i := 77) rfl)
theorem rf_129_13 {ad : Nat → Nat} {cA : Nat → ClassId} {g : Nat → va_E} (h : Shp ad cA g) : fld g 129 13 = .ref (ad 134) := h.2.1 (129, 13, 134) (List.mem_of_getElem? (i := 78) rfl)
theorem rf_129_14 {ad : Nat → Nat} {cA : Nat → ClassId} {g : Nat → va_E} (h : Shp ad cA g) : fld g 129 14 = .ref (ad 135) := h.2.1 (129, 14, 135) (List.mem_of_getElem? (i := 79) rfl)
theorem rf_129_15 {ad : Nat → Nat} {cA : Nat → ClassId} {g : Nat → va_E} (h : Shp ad cA g) : fld g 129 15 = .ref (ad 136) := h.2.1 (129, 15, 136) (List.mem_of_getElem? (i := 80) rfl)
theorem rf_129_16 {ad : Nat → Nat} {cA : Nat → ClassId} {g : Nat → va_E} (h : Shp ad cA g) : fld g 129 16 = .ref (ad 137) := h.2.1 (129, 16, 137) (List.mem_of_getElem? (i := 81) rfl)
theorem rf_129_17 {ad : Nat → Nat} {cA : Nat → ClassId} {g : Nat → va_E} (h : Shp ad cA g) : fld g 129 17 = .ref (ad 138) := h.2.1 (129, 17, 138) (List.mem_of_getElem? (i := 82) rfl)
theorem rf_129_21 {ad : Nat → Nat} {cA : Nat → ClassId} {g : Nat → va_E} (h : Shp ad cA g) : fld g 129 21 = .ref (ad 139) := h.2.1 (129, 21, 139) (List.mem_of_getElem? (i := 83) rfl)
theorem rf_129_22 {ad : Nat → Nat} {cA : Nat → ClassId} {g : Nat → va_E} (h : Shp ad cA g) : fld g 129 22 = .ref (ad 140) := h.2.1 (129, 22, 140) (List.mem_of_getElem? (i := 84) rfl)
theorem rf_129_23 {ad : Nat → Nat} {cA : Nat → ClassId} {g : Nat → va_E} (h : Shp ad cA g) : fld g 129 23 = .ref (ad 141) := h.2.1 (129, 23, 141) (List.mem_of_getElem? (i := 85) rfl)
theorem rf_129_24 {ad : Nat → Nat} {cA : Nat → ClassId} {g : Nat → va_E} (h : Shp ad cA g) : fld g 129 24 = .ref (ad 142) := h.2.1 (129, 24, 142) (List.mem_of_getElem? (i := 86) rfl)
theorem rf_129_25 {ad : Nat → Nat} {cA : Nat → ClassId} {g : Nat → va_E} (h : Shp ad cA g) : fld g 129 25 = .ref (ad 143) := h.2.1 (129, 25, 143) (List.mem_of_getElem? (i := 87) rfl)
theorem rf_129_26 {ad : Nat → Nat} {cA : Nat → ClassId} {g : Nat → va_E} (h : Shp ad cA g) : fld g 129 26 = .ref (ad 144) := h.2.1 (129, 26, 144) (List.mem_of_getElem? (i := 88) rfl)
theorem rf_129_27 {ad : Nat → Nat} {cA : Nat → ClassId} {g : Nat → va_E} (h : Shp ad cA g) : fld g 129 27 = .ref (ad 145) := h.2.1 (129, 27, 145) (List.mem_of_getElem? (i := 89) rfl)
theorem rf_129_28 {ad : Nat → Nat} {cA : Nat → ClassId} {g : Nat → va_E} (h : Shp ad cA g) : fld g 129 28 = .ref (ad 146) := h.2.1 (129, 28, 146) (List.mem_of_getElem? (i := 90) rfl)
theorem rf_129_29 {ad : Nat → Nat} {cA : Nat → ClassId} {g : Nat → va_E} (h : Shp ad cA g) : fld g 129 29 = .ref (ad 147) := h.2.1 (129, 29, 147) (List.mem_of_getElem? (i := 91) rfl)
theorem rf_129_30 {ad : Nat → Nat} {cA : Nat → ClassId} {g : Nat → va_E} (h : Shp ad cA g) : fld g 129 30 = .ref (ad 148) := h.2.1 (129, 30, 148) (List.mem_of_getElem? (i := 92) rfl)
theorem rf_129_33 {ad : Nat → Nat} {cA : Nat → ClassId} {g : Nat → va_E} (h : Shp ad cA g) : fld g 129 33 = .ref (ad 149) := h.2.1 (129, 33, 149) (List.mem_of_getElem? (i := 93) rfl)
theorem rf_129_34 {ad : Nat → Nat} {cA : Nat → ClassId} {g : Nat → va_E} (h : Shp ad cA g) : fld g 129 34 = .ref (ad 150) := h.2.1 (129, 34, 150) (List.mem_of_getElem? (i := 94) rfl)
theorem rf_129_35 {ad : Nat → Nat} {cA : Nat → ClassId} {g : Nat → va_E} (h : Shp ad cA g) : fld g 129 35 = .ref (ad 151) := h.2.1 (129, 35, 151) (List.mem_of_getElem? (i := 95) rfl)
theorem rf_129_36 {ad : Nat → Nat} {cA : Nat → ClassId} {g : Nat → va_E} (h : Shp ad cA g) : fld g 129 36 = .ref (ad 152) := h.2.1 (129, 36, 152) (List.mem_of_getElem? (i := 96) rfl)
theorem rf_129_37 {ad : Nat → Nat} {cA : Nat → ClassId} {g : Nat → va_E} (h : Shp ad cA g) : fld g 129 37 = .ref (ad 153) := h.2.1 (129, 37, 153) (List.mem_of_getElem? (i := 97) rfl)
theorem rf_129_38 {ad : Nat → Nat} {cA : Nat → ClassId} {g : Nat → va_E} (h : Shp ad cA g) : fld g 129 38 = .ref (ad 154) := h.2.1 (129, 38, 154) (List.mem_of_getElem? (i := 98) rfl)
theorem rf_129_41 {ad : Nat → Nat} {cA : Nat → ClassId} {g : Nat → va_E} (h : Shp ad cA g) : fld g 129 41 = .ref (ad 155) := h.2.1 (129, 41, 155) (List.mem_of_getElem? (i := 99) rfl)
theorem rf_129_50 {ad : Nat → Nat} {cA : Nat → ClassId} {g : Nat → va_E} (h : Shp ad cA g) : fld g 129 50 = .ref (ad 156) := h.2.1 (129, 50, 156) (List.mem_of_getElem? (i := 100) rfl)
theorem rf_129_51 {ad : Nat → Nat} {cA : Nat → ClassId} {g : Nat → va_E} (h : Shp ad cA g) : fld g 129 51 = .ref (ad 157) := h.2.1 (129, 51, 157) (List.mem_of_getElem? (i := 101) rfl)
theorem rf_129_52 {ad : Nat → Nat} {cA : Nat → ClassId} {g : Nat → va_E} (h : Shp ad cA g) : fld g 129 52 = .ref (ad 158) := h.2.1 (129, 52, 158) (List.mem_of_getElem? (i := 102) rfl)
theorem rf_129_53 {ad : Nat → Nat} {cA : Nat → ClassId} {g : Nat → va_E} (h : Shp ad cA g) : fld g 129 53 = .ref (ad 159) := h.2.1 (129, 53, 159) (List.mem_of_getElem? (i := 103) rfl)
theorem rf_129_54 {ad : Nat → Nat} {cA : Nat → ClassId} {g : Nat → va_E} (h : Shp ad cA g) : fld g 129 54 = .ref (ad 160) := h.2.1 (129, 54, 160) (List.mem_of_getElem? (i := 104) rfl)
theorem rf_129_55 {ad : Nat → Nat} {cA : Nat → ClassId} {g : Nat → va_E} (h : Shp ad cA g) : fld g 129 55 = .ref (ad 161) := h.2.1 (129, 55, 161) (List.mem_of_getElem? (i := 105) rfl)
theorem rf_129_67 {ad : Nat → Nat} {cA : Nat → ClassId} {g : Nat → va_E} (h : Shp ad cA g) : fld g 129 67 = .ref (ad 162) := h.2.1 (129, 67, 162) (List.mem_of_getElem? (i := 106) rfl)
theorem rf_129_68 {ad : Nat → Nat} {cA : Nat → ClassId} {g : Nat → va_E} (h : Shp ad cA g) : fld g 129 68 = .ref (ad 163) := h.2.1 (129, 68, 163) (List.mem_of_getElem? (i := 107) rfl)
theorem rf_129_69 {ad : Nat → Nat} {cA : Nat → ClassId} {g : Nat → va_E} (h : Shp ad cA g) : fld g 129 69 = .ref (ad 164) := h.2.1 (129, 69, 164) (List.mem_of_getElem? (i := 108) rfl)
theorem rf_129_70 {ad : Nat → Nat} {cA : Nat → ClassId} {g : Nat → va_E} (h : Shp ad cA g) : fld g 129 70 = .ref (ad 165) := h.2.1 (129, 70, 165) (List.mem_of_getElem? (i := 109) rfl)
theorem rf_129_71 {ad : Nat → Nat} {cA : Nat → ClassId} {g : Nat → va_E} (h : Shp ad cA g) : fld g 129 71 = .ref (ad 166) := h.2.1 (129, 71, 166) (List.mem_of_getElem? (i := 110) rfl)
theorem rf_129_72 {ad : Nat → Nat} {cA : Nat → ClassId} {g : Nat → va_E} (h : Shp ad cA g) : fld g 129 72 = .ref (ad 167) := h.2.1 (129, 72, 167) (List.mem_of_getElem? (i := 111) rfl)
theorem rf_129_73 {ad : Nat → Nat} {cA : Nat → ClassId} {g : Nat → va_E} (h : Shp ad cA g) : fld g 129 73 = .ref (ad 168) := h.2.1 (129, 73, 168) (List.mem_of_getElem? (i := 112) rfl)
theorem rf_129_74 {ad : Nat → Nat} {cA : Nat → ClassId} {g : Nat → va_E} (h : Shp ad cA g) : fld g 129 74 = .ref (ad 169) := h.2.1 (129, 74, 169) (List.mem_of_getElem? (i := 113) rfl)
theorem rf_129_76 {ad : Nat → Nat} {cA : Nat → ClassId} {g : Nat → va_E} (h : Shp ad cA g) : fld g 129 76 = .ref (ad 170) := h.2.1 (129, 76, 170) (List.mem_of_getElem? (i := 114) rfl)
theorem rf_129_77 {ad : Nat → Nat} {cA : Nat → ClassId} {g : Nat → va_E} (h : Shp ad cA g) : fld g 129 77 = .ref (ad 171) := h.2.1 (129, 77, 171) (List.mem_of_getElem? (i := 115) rfl)
theorem rf_129_78 {ad : Nat → Nat} {cA : Nat → ClassId} {g : Nat → va_E} (h : Shp ad cA g) : fld g 129 78 = .ref (ad 172) := h.2.1 (129, 78, 172) (List.mem_of_getElem? (i := 116) rfl)
theorem rf_129_79 {ad : Nat → Nat} {cA : Nat → ClassId} {g : Nat → va_E} (h : Shp ad cA g) : fld g 129 79 = .ref (ad 173) := h.2.1 (129, 79, 173) (List.mem_of_getElem? (i := 117) rfl)
theorem rf_129_80 {ad : Nat → Nat} {cA : Nat → ClassId} {g : Nat → va_E} (h : Shp ad cA g) : fld g 129 80 = .ref (ad 174) := h.2.1 (129, 80, 174) (List.mem_of_getElem? (i := 118) rfl)
theorem rf_129_81 {ad : Nat → Nat} {cA : Nat → ClassId} {g : Nat → va_E} (h : Shp ad cA g) : fld g 129 81 = .ref (ad 175) := h.2.1 (129, 81, 175) (List.mem_of_getElem? (i := 119) rfl)
theorem rf_129_82 {ad : Nat → Nat} {cA : Nat → ClassId} {g : Nat → va_E} (h : Shp ad cA g) : fld g 129 82 = .ref (ad 176) := h.2.1 (129, 82, 176) (List.mem_of_getElem? (i := 120) rfl)
theorem rf_129_83 {ad : Nat → Nat} {cA : Nat → ClassId} {g : Nat → va_E} (h : Shp ad cA g) : fld g 129 83 = .ref (ad 177) := h.2.1 (129, 83, 177) (List.mem_of_getElem? (i := 121) rfl)
theorem rf_129_84 {ad : Nat → Nat} {cA : Nat → ClassId} {g : Nat → va_E} (h : Shp ad cA g) : fld g 129 84 = .ref (ad 178) := h.2.1 (129, 84, 178) (List.mem_of_getElem? (i := 122) rfl)
theorem rf_129_85 {ad : Nat → Nat} {cA : Nat → ClassId} {g : Nat → va_E} (h : Shp ad cA g) : fld g 129 85 = .ref (ad 179) := h.2.1 (129, 85, 179) (List.mem_of_getElem? (i := 123) rfl)
theorem aq_5 {ad : Nat → Nat} {cA : Nat → ClassId} {g : Nat → va_E} (h : Shp ad cA g) : arQ g 5 = fun j => if j < 12 then some (ad (6 + 1 * j)) else none := h.2.2 (5, 12, 6, 1) (List.mem_of_getElem? (i := 0) rfl)
theorem aq_21 {ad : Nat → Nat} {cA : Nat → ClassId} {g : Nat → va_E} (h : Shp ad cA g) : arQ g 21 = fun j => if j < 8 then some (ad (22 + 1 * j)) else none := h.2.2 (21, 8, 22, 1) (List.mem_of_getElem? (i := 1) rfl)
theorem aq_33 {ad : Nat → Nat} {cA : Nat → ClassId} {g : Nat → va_E} (h : Shp ad cA g) : arQ g 33 = fun j => if j < 8 then some (ad (34 + 1 * j)) else none := h.2.2 (33, 8, 34, 1) (List.mem_of_getElem? (i := 2) rfl)
theorem aq_45 {ad : Nat → Nat} {cA : Nat → ClassId} {g : Nat → va_E} (h : Shp ad cA g) : arQ g 45 = fun j => if j < 8 then some (ad (46 + 1 * j)) else none := h.2.2 (45, 8, 46, 1) (List.mem_of_getElem? (i := 3) rfl)
theorem aq_81 {ad : Nat → Nat} {cA : Nat → ClassId} {g : Nat → va_E} (h : Shp ad cA g) : arQ g 81 = fun j => if j < 6 then some (ad (84 + 3 * j)) else none := h.2.2 (81, 6, 84, 3) (List.mem_of_getElem? (i := 4) rfl)
theorem aq_103 {ad : Nat → Nat} {cA : Nat → ClassId} {g : Nat → va_E} (h : Shp ad cA g) : arQ g 103 = fun j => if j < 8 then some (ad (104 + 1 * j)) else none := h.2.2 (103, 8, 104, 1) (List.mem_of_getElem? (i := 5) rfl)
theorem aq_112 {ad : Nat → Nat} {cA : Nat → ClassId} {g : Nat → va_E} (h : Shp ad cA g) : arQ g 112 = fun j => if j < 5 then some (ad (113 + 1 * j)) else none := h.2.2 (112, 5, 113, 1) (List.mem_of_getElem? (i := 6) rfl)
theorem lb_0 : LO 0 11 16 := ⟨by decide, rfl⟩
theorem lb_1 : LO 1 10 2 := ⟨by decide, rfl⟩
theorem lb_2 : LA 2 0 260 := ⟨by decide, rfl⟩
theorem lb_3 : LO 3 5 3 := ⟨by decide, rfl⟩
theorem lb_4 : LA 4 0 12 := ⟨by decide, rfl⟩
theorem lb_5 : LQ 5 1 12 := ⟨by decide, rfl⟩
theorem lb_6 : LA 6 0 12 := ⟨by decide, rfl⟩
theorem lb_7 : LA 7 0 12 := ⟨by decide, rfl⟩
theorem lb_8 : LA 8 0 12 := ⟨by decide, rfl⟩
theorem lb_9 : LA 9 0 12 := ⟨by decide, rfl⟩
theorem lb_10 : LA 10 0 12 := ⟨by decide, rfl⟩
theorem lb_11 : LA 11 0 12 := ⟨by decide, rfl⟩
theorem lb_12 : LA 12 0 12 := ⟨by decide, rfl⟩
theorem lb_13 : LA 13 0 12 := ⟨by decide, rfl⟩
theorem lb_14 : LA 14 0 12 := ⟨by decide, rfl⟩
theorem lb_15 : LA 15 0 12 := ⟨by decide, rfl⟩
theorem lb_16 : LA 16 0 12 := ⟨by decide, rfl⟩
theorem lb_17 : LA 17 0 12 := ⟨by decide, rfl⟩
theorem lb_18 : LO 18 7 8 := ⟨by decide, rfl⟩
theorem lb_19 : LA 19 0 8 := ⟨by decide, rfl⟩
theorem lb_20 : LA 20 0 8 := ⟨by decide, rfl⟩
theorem lb_21 : LQ 21 1 8 := ⟨by decide, rfl⟩
theorem lb_22 : LA 22 0 12 := ⟨by decide, rfl⟩
theorem lb_23 : LA 23 0 12 := ⟨by decide, rfl⟩
theorem lb_24 : LA 24 0 12 := ⟨by decide, rfl⟩
theorem lb_25 : LA 25 0 12 := ⟨by decide, rfl⟩
theorem lb_26 : LA 26 0 12 := ⟨by decide, rfl⟩
theorem lb_27 : LA 27 0 12 := ⟨by decide, rfl⟩
theorem lb_28 : LA 28 0 12 := ⟨by decide, rfl⟩
theorem lb_29 : LA 29 0 12 := ⟨by decide, rfl⟩
theorem lb_30 : LO 30 7 8 := ⟨by decide, rfl⟩
theorem lb_31 : LA 31 0 8 := ⟨by decide, rfl⟩
theorem lb_32 : LA 32 0 8 := ⟨by decide, rfl⟩
theorem lb_33 : LQ 33 1 8 := ⟨by decide, rfl⟩
theorem lb_34 : LA 34 0 12 := ⟨by decide, rfl⟩
theorem lb_35 : LA 35 0 12 := ⟨by decide, rfl⟩
theorem lb_36 : LA 36 0 12 := ⟨by decide, rfl⟩
theorem lb_37 : LA 37 0 12 := ⟨by decide, rfl⟩
theorem lb_38 : LA 38 0 12 := ⟨by decide, rfl⟩
theorem lb_39 : LA 39 0 12 := ⟨by decide, rfl⟩
theorem lb_40 : LA 40 0 12 := ⟨by decide, rfl⟩
theorem lb_41 : LA 41 0 12 := ⟨by decide, rfl⟩
theorem lb_42 : LO 42 7 8 := ⟨by decide, rfl⟩
theorem lb_43 : LA 43 0 8 := ⟨by decide, rfl⟩
theorem lb_44 : LA 44 0 8 := ⟨by decide, rfl⟩
theorem lb_45 : LQ 45 1 8 := ⟨by decide, rfl⟩
theorem lb_46 : LA 46 0 12 := ⟨by decide, rfl⟩
theorem lb_47 : LA 47 0 12 := ⟨by decide, rfl⟩
theorem lb_48 : LA 48 0 12 := ⟨by decide, rfl⟩
theorem lb_49 : LA 49 0 12 := ⟨by decide, rfl⟩
theorem lb_50 : LA 50 0 12 := ⟨by decide, rfl⟩
theorem lb_51 : LA 51 0 12 := ⟨by decide, rfl⟩
theorem lb_52 : LA 52 0 12 := ⟨by decide, rfl⟩
theorem lb_53 : LA 53 0 12 := ⟨by decide, rfl⟩
theorem lb_54 : LO 54 3 8 := ⟨by decide, rfl⟩
theorem lb_55 : LA 55 0 16 := ⟨by decide, rfl⟩
theorem lb_56 : LA 56 0 16 := ⟨by decide, rfl⟩
theorem lb_57 : LA 57 0 16 := ⟨by decide, rfl⟩
theorem lb_58 : LA 58 0 256 := ⟨by decide, rfl⟩
theorem lb_59 : LA 59 0 256 := ⟨by decide, rfl⟩
theorem lb_60 : LA 60 0 64 := ⟨by decide, rfl⟩
theorem lb_61 : LO 61 3 8 := ⟨by decide, rfl⟩
theorem lb_62 : LA 62 0 16 := ⟨by decide, rfl⟩
theorem lb_63 : LA 63 0 16 := ⟨by decide, rfl⟩
theorem lb_64 : LA 64 0 16 := ⟨by decide, rfl⟩
theorem lb_65 : LA 65 0 256 := ⟨by decide, rfl⟩
theorem lb_66 : LA 66 0 256 := ⟨by decide, rfl⟩
theorem lb_67 : LA 67 0 64 := ⟨by decide, rfl⟩
theorem lb_68 : LO 68 3 8 := ⟨by decide, rfl⟩
theorem lb_69 : LA 69 0 16 := ⟨by decide, rfl⟩
theorem lb_70 : LA 70 0 16 := ⟨by decide, rfl⟩
theorem lb_71 : LA 71 0 16 := ⟨by decide, rfl⟩
theorem lb_72 : LA 72 0 256 := ⟨by decide, rfl⟩
theorem lb_73 : LA 73 0 256 := ⟨by decide, rfl⟩
theorem lb_74 : LA 74 0 64 := ⟨by decide, rfl⟩
theorem lb_75 : LO 75 0 3 := ⟨by decide, rfl⟩
theorem lb_76 : LA 76 0 48 := ⟨by decide, rfl⟩
theorem lb_77 : LA 77 0 48 := ⟨by decide, rfl⟩
theorem lb_78 : LO 78 1 5 := ⟨by decide, rfl⟩
theorem lb_79 : LO 79 4 5 := ⟨by decide, rfl⟩
theorem lb_80 : LO 80 2 11 := ⟨by decide, rfl⟩
theorem lb_81 : LQ 81 2 6 := ⟨by decide, rfl⟩
theorem lb_82 : LA 82 0 10 := ⟨by decide, rfl⟩
theorem lb_83 : LA 83 0 8 := ⟨by decide, rfl⟩
theorem lb_84 : LO 84 0 3 := ⟨by decide, rfl⟩
theorem lb_85 : LA 85 0 48 := ⟨by decide, rfl⟩
theorem lb_86 : LA 86 0 48 := ⟨by decide, rfl⟩
theorem lb_87 : LO 87 0 3 := ⟨by decide, rfl⟩
theorem lb_88 : LA 88 0 48 := ⟨by decide, rfl⟩
theorem lb_89 : LA 89 0 48 := ⟨by decide, rfl⟩
theorem lb_90 : LO 90 0 3 := ⟨by decide, rfl⟩
theorem lb_91 : LA 91 0 48 := ⟨by decide, rfl⟩
theorem lb_92 : LA 92 0 48 := ⟨by decide, rfl⟩
theorem lb_93 : LO 93 0 3 := ⟨by decide, rfl⟩
theorem lb_94 : LA 94 0 48 := ⟨by decide, rfl⟩
theorem lb_95 : LA 95 0 48 := ⟨by decide, rfl⟩
theorem lb_96 : LO 96 0 3 := ⟨by decide, rfl⟩
theorem lb_97 : LA 97 0 48 := ⟨by decide, rfl⟩
theorem lb_98 : LA 98 0 48 := ⟨by decide, rfl⟩
theorem lb_99 : LO 99 0 3 := ⟨by decide, rfl⟩
theorem lb_100 : LA 100 0 48 := ⟨by decide, rfl⟩
theorem lb_101 : LA 101 0 48 := ⟨by decide, rfl⟩
theorem lb_102 : LO 102 9 5 := ⟨by decide, rfl⟩
theorem lb_103 : LQ 103 1 8 := ⟨by decide, rfl⟩
theorem lb_104 : LA 104 0 8 := ⟨by decide, rfl⟩
theorem lb_105 : LA 105 0 8 := ⟨by decide, rfl⟩
theorem lb_106 : LA 106 0 8 := ⟨by decide, rfl⟩
theorem lb_107 : LA 107 0 8 := ⟨by decide, rfl⟩
theorem lb_108 : LA 108 0 8 := ⟨by decide, rfl⟩
theorem lb_109 : LA 109 0 8 := ⟨by decide, rfl⟩
theorem lb_110 : LA 110 0 8 := ⟨by decide, rfl⟩
theorem lb_111 : LA 111 0 8 := ⟨by decide, rfl⟩
theorem lb_112 : LQ 112 1 5 := ⟨by decide, rfl⟩
theorem lb_113 : LA 113 0 6 := ⟨by decide, rfl⟩
theorem lb_114 : LA 114 0 6 := ⟨by decide, rfl⟩
theorem lb_115 : LA 115 0 6 := ⟨by decide, rfl⟩
theorem lb_116 : LA 116 0 6 := ⟨by decide, rfl⟩
theorem lb_117 : LA 117 0 6 := ⟨by decide, rfl⟩
theorem lb_118 : LA 118 0 6 := ⟨by decide, rfl⟩
theorem lb_119 : LA 119 0 6 := ⟨by decide, rfl⟩
theorem lb_120 : LO 120 8 7 := ⟨by decide, rfl⟩
theorem lb_121 : LA 121 0 5 := ⟨by decide, rfl⟩
theorem lb_122 : LJ 122 5 341 := ⟨by decide, rfl⟩
theorem lb_123 : LJ 123 5 341 := ⟨by decide, rfl⟩
theorem lb_124 : LA 124 0 341 := ⟨by decide, rfl⟩
theorem lb_125 : LA 125 0 341 := ⟨by decide, rfl⟩
theorem lb_126 : LA 126 0 341 := ⟨by decide, rfl⟩
theorem lb_127 : LO 127 6 4 := ⟨by decide, rfl⟩
theorem lb_128 : LA 128 0 9 := ⟨by decide, rfl⟩
theorem lb_129 : LO 129 12 86 := ⟨by decide, rfl⟩
theorem lb_130 : LA 130 3 260 := ⟨by decide, rfl⟩
theorem lb_131 : LA 131 4 12 := ⟨by decide, rfl⟩
theorem lb_132 : LA 132 0 12 := ⟨by decide, rfl⟩
theorem lb_133 : LA 133 0 144 := ⟨by decide, rfl⟩
theorem lb_134 : LA 134 4 6 := ⟨by decide, rfl⟩
theorem lb_135 : LA 135 0 6 := ⟨by decide, rfl⟩
theorem lb_136 : LA 136 0 288 := ⟨by decide, rfl⟩
theorem lb_137 : LA 137 0 48 := ⟨by decide, rfl⟩
theorem lb_138 : LA 138 0 10 := ⟨by decide, rfl⟩
theorem lb_139 : LA 139 0 2 := ⟨by decide, rfl⟩
theorem lb_140 : LA 140 0 2 := ⟨by decide, rfl⟩
theorem lb_141 : LA 141 0 2 := ⟨by decide, rfl⟩
theorem lb_142 : LA 142 0 32 := ⟨by decide, rfl⟩
theorem lb_143 : LA 143 0 32 := ⟨by decide, rfl⟩
theorem lb_144 : LA 144 0 32 := ⟨by decide, rfl⟩
theorem lb_145 : LA 145 0 32 := ⟨by decide, rfl⟩
theorem lb_146 : LA 146 0 480 := ⟨by decide, rfl⟩
theorem lb_147 : LA 147 0 480 := ⟨by decide, rfl⟩
theorem lb_148 : LA 148 0 2 := ⟨by decide, rfl⟩
theorem lb_149 : LA 149 0 16 := ⟨by decide, rfl⟩
theorem lb_150 : LA 150 0 16 := ⟨by decide, rfl⟩
theorem lb_151 : LA 151 0 16 := ⟨by decide, rfl⟩
theorem lb_152 : LA 152 0 16 := ⟨by decide, rfl⟩
theorem lb_153 : LA 153 0 240 := ⟨by decide, rfl⟩
theorem lb_154 : LA 154 0 240 := ⟨by decide, rfl⟩
theorem lb_155 : LA 155 0 240 := ⟨by decide, rfl⟩
theorem lb_156 : LA 156 0 240 := ⟨by decide, rfl⟩
theorem lb_157 : LA 157 4 240 := ⟨by decide, rfl⟩
theorem lb_158 : LA 158 4 8 := ⟨by decide, rfl⟩
theorem lb_159 : LA 159 0 8 := ⟨by decide, rfl⟩
theorem lb_160 : LA 160 0 8 := ⟨by decide, rfl⟩
theorem lb_161 : LA 161 0 96 := ⟨by decide, rfl⟩
theorem lb_162 : LA 162 4 16 := ⟨by decide, rfl⟩
theorem lb_163 : LA 163 0 16 := ⟨by decide, rfl⟩
theorem lb_164 : LA 164 0 16 := ⟨by decide, rfl⟩
theorem lb_165 : LA 165 0 192 := ⟨by decide, rfl⟩
theorem lb_166 : LA 166 0 2 := ⟨by decide, rfl⟩
theorem lb_167 : LA 167 0 2 := ⟨by decide, rfl⟩
theorem lb_168 : LA 168 0 2 := ⟨by decide, rfl⟩
theorem lb_169 : LA 169 0 2 := ⟨by decide, rfl⟩
theorem lb_170 : LA 170 0 12 := ⟨by decide, rfl⟩
theorem lb_171 : LA 171 0 12 := ⟨by decide, rfl⟩
theorem lb_172 : LA 172 0 8 := ⟨by decide, rfl⟩
theorem lb_173 : LA 173 0 8 := ⟨by decide, rfl⟩
theorem lb_174 : LA 174 0 12 := ⟨by decide, rfl⟩
theorem lb_175 : LA 175 0 64 := ⟨by decide, rfl⟩
theorem lb_176 : LA 176 4 5 := ⟨by decide, rfl⟩
theorem lb_177 : LA 177 0 30 := ⟨by decide, rfl⟩
theorem lb_178 : LA 178 0 6 := ⟨by decide, rfl⟩
theorem lb_179 : LA 179 0 9 := ⟨by decide, rfl⟩
theorem lr_6 {q : Nat} (h : q < 12) : LA (6 + 1 * q) 0 12 := by
  revert q
  show ∀ q, q < 12 → (6 + 1 * q) < NN ∧ shk (6 + 1 * q) = (1, 0, 12)
  decide +kernel
theorem lr_22 {q : Nat} (h : q < 8) : LA (22 + 1 * q) 0 12 := by
  revert q
  show ∀ q, q < 8 → (22 + 1 * q) < NN ∧ shk (22 + 1 * q) = (1, 0, 12)
  decide +kernel
theorem lr_34 {q : Nat} (h : q < 8) : LA (34 + 1 * q) 0 12 := by
  revert q
  show ∀ q, q < 8 → (34 + 1 * q) < NN ∧ shk (34 + 1 * q) = (1, 0, 12)
  decide +kernel
theorem lr_46 {q : Nat} (h : q < 8) : LA (46 + 1 * q) 0 12 := by
  revert q
  show ∀ q, q < 8 → (46 + 1 * q) < NN ∧ shk (46 + 1 * q) = (1, 0, 12)
  decide +kernel
theorem lr_104 {q : Nat} (h : q < 8) : LA (104 + 1 * q) 0 8 := by
  revert q
  show ∀ q, q < 8 → (104 + 1 * q) < NN ∧ shk (104 + 1 * q) = (1, 0, 8)
  decide +kernel
theorem lr_113 {q : Nat} (h : q < 5) : LA (113 + 1 * q) 0 6 := by
  revert q
  show ∀ q, q < 5 → (113 + 1 * q) < NN ∧ shk (113 + 1 * q) = (1, 0, 6)
  decide +kernel
theorem lo_art {q : Nat} (h : q < 6) : LO (84 + 3 * q) 0 3 := by
  revert q
  show ∀ q, q < 6 → (84 + 3 * q) < NN ∧ shk (84 + 3 * q) = (0, 0, 3)
  decide +kernel
end
section
section EN
variable {K : KT} {cA : Nat → ClassId} {cc : ByteArray} {nL : Nat} {own : String} {k n : Nat} {H : Heap} {locs : List Loc} {pc : Nat} {ls : Array Slot} {rest : List Value} {ad : Nat → Nat} {g : Nat → va_E} {N : Nat}
def EndsZ (N : Nat) (ad : Nat → Nat) (K : KT) (cc : ByteArray) (ty : FieldType) (P : Option Value → (Nat → va_E) → Prop) : Prop :=
  (∀ g H locs pc ls v, WB N ad K g H locs → narrow ty (.int v) = .int v → P (some (.int v)) g → decode cc pc = .ok (.ireturn, 1) → XX K 0 0 H locs pc ls [.int v])
theorem q_enterZ {l : Launch} {D : va_G} {y : MethodName} {maxL : Nat} {ty : FieldType} {rm : Nat × Nat} {av : List Value} {P : Option Value → (Nat → va_E) → Prop} (hy : plainName y.cls = true) (hav : (lg_sl av).length ≤ maxL)
    (body : ∀ (K : KT) (H : Heap) (locs : List Loc) (ls : Array Slot), Lof K = l → Dof K = D → MB K cA cc maxL y.cls → WB N ad K g H locs → HasRoom K rm.1 rm.2 → Cells K 0 0 → EndsZ N ad K cc ty P → lv_has ls maxL (lv_args 0 av) → XX K 0 0 H locs 0 ls []) : CT l N ad cA D y cc maxL (some ty) rm av g P :=
  q_enter (En := fun K => EndsZ N ad K cc ty P) hy hav (fun p l e R s m args below meth c D hx hb hr hlk g H locs pc ls v hW hn hp hd => W.zret (v := v) (ty := ty) hx hb hr hn (fun t ht hWm => ⟨⟨some (.int v), g, rfl, hp, by rw [ht]; exact hW.1⟩, hW.2.2.F ht⟩) hW.2.2.2.2 hd hlk) body
theorem q_enterA {l : Launch} {D : va_G} {y : MethodName} {maxL : Nat} {ty : FieldType} {rm : Nat × Nat} {av : List Value} {P : Option Value → (Nat → va_E) → Prop} (hy : plainName y.cls = true) (hav : (lg_sl av).length ≤ maxL)
    (body : ∀ (K : KT) (H : Heap) (locs : List Loc) (ls : Array Slot), Lof K = l → Dof K = D → MB K cA cc maxL y.cls → WB N ad K g H locs → HasRoom K rm.1 rm.2 → Cells K 0 0 → EndsA N ad K cc P → lv_has ls maxL (lv_args 0 av) → XX K 0 0 H locs 0 ls []) : CT l N ad cA D y cc maxL (some (.array ty)) rm av g P :=
  q_enter (En := fun K => EndsA N ad K cc P) hy hav (fun p l e R s m args below meth c D hx hb hr hlk g H locs pc ls v hW hp hd => W.aret (v := .ref v) hx hb hr (Or.inr ⟨ty, rfl⟩) (Or.inr ⟨v, rfl⟩) (fun t ht hWm => ⟨⟨some (.ref v), g, rfl, hp, by rw [ht]; exact hW.1⟩, hW.2.2.F ht⟩) hW.2.2.2.2 hd hlk) body
theorem q_enterJ {l : Launch} {D : va_G} {y : MethodName} {maxL : Nat} {rm : Nat × Nat} {av : List Value} {P : Option Value → (Nat → va_E) → Prop} (hy : plainName y.cls = true) (hav : (lg_sl av).length ≤ maxL)
    (body : ∀ (K : KT) (H : Heap) (locs : List Loc) (ls : Array Slot), Lof K = l → Dof K = D → MB K cA cc maxL y.cls → WB N ad K g H locs → HasRoom K rm.1 rm.2 → Cells K 0 0 → EndsJ N ad K cc P → lv_has ls maxL (lv_args 0 av) → XX K 0 0 H locs 0 ls []) : CT l N ad cA D y cc maxL (some .long) rm av g P :=
  q_enter (En := fun K => EndsJ N ad K cc P) hy hav (fun p l e R s m args below meth c D hx hb hr hlk g H locs pc ls v hW hp hd => W.lret (v := v) hx hb hr (fun t ht hWm => ⟨⟨some (.long v), g, rfl, hp, by rw [ht]; exact hW.1⟩, hW.2.2.F ht⟩) hW.2.2.2.2 hd hlk) body
/-- a number on the stack gets a name -/
theorem q_top {x : Int32} (kk : ∀ y : Int32, y = x → XX K k n H locs pc ls (.int y :: rest)) : XX K k n H locs pc ls (.int x :: rest) := kk x rfl
end EN
theorem nz_0 : narrow .boolean (.int 0) = .int 0 := rfl
theorem nz_1 : narrow .boolean (.int 1) = .int 1 := rfl
theorem nz_or {r : Int32} (h : r.toInt = 0 ∨ r.toInt = 1) : narrow .boolean (.int r) = .int r := by
  rcases h with h | h
  · rw [show r = 0 from Int32.toInt_inj.mp h]; rfl
  · rw [show r = 1 from Int32.toInt_inj.mp h]; rfl
/-- a pure method: an int, nothing changed -/
def PU (g : Nat → va_E) (Φ : Int32 → Prop) : Option Value → (Nat → va_E) → Prop := fun v g' => ∃ r : Int32, v = some (.int r) ∧ Φ r ∧ g = g'
theorem kc_m1000 : ((-1000) : Int32).toInt = (-1000) := by decide +kernel
theorem kc_m30 : ((-30) : Int32).toInt = (-30) := by decide +kernel
theorem kc_m29 : ((-29) : Int32).toInt = (-29) := by decide +kernel
theorem kc_m28 : ((-28) : Int32).toInt = (-28) := by decide +kernel
theorem kc_m27 : ((-27) : Int32).toInt = (-27) := by decide +kernel
theorem kc_m26 : ((-26) : Int32).toInt = (-26) := by decide +kernel
theorem kc_m25 : ((-25) : Int32).toInt = (-25) := by decide +kernel
theorem kc_m24 : ((-24) : Int32).toInt = (-24) := by decide +kernel
theorem kc_m23 : ((-23) : Int32).toInt = (-23) := by decide +kernel
theorem kc_m22 : ((-22) : Int32).toInt = (-22) := by decide +kernel
theorem kc_m21 : ((-21) : Int32).toInt = (-21) := by decide +kernel
theorem kc_m20 : ((-20) : Int32).toInt = (-20) := by decide +kernel
theorem kc_m19 : ((-19) : Int32).toInt = (-19) := by decide +kernel
theorem kc_m18 : ((-18) : Int32).toInt = (-18) := by decide +kernel
theorem kc_m17 : ((-17) : Int32).toInt = (-17) := by decide +kernel
theorem kc_m16 : ((-16) : Int32).toInt = (-16) := by decide +kernel
theorem kc_m15 : ((-15) : Int32).toInt = (-15) := by decide +kernel
theorem kc_m14 : ((-14) : Int32).toInt = (-14) := by decide +kernel
theorem kc_m13 : ((-13) : Int32).toInt = (-13) := by decide +kernel
theorem kc_m12 : ((-12) : Int32).toInt = (-12) := by decide +kernel
theorem kc_m11 : ((-11) : Int32).toInt = (-11) := by decide +kernel
theorem kc_m10 : ((-10) : Int32).toInt = (-10) := by decide +kernel
theorem kc_m9 : ((-9) : Int32).toInt = (-9) := by decide +kernel
theorem kc_m8 : ((-8) : Int32).toInt = (-8) := by decide +kernel
theorem kc_m7 : ((-7) : Int32).toInt = (-7) := by decide +kernel
theorem kc_m6 : ((-6) : Int32).toInt = (-6) := by decide +kernel
theorem kc_m5 : ((-5) : Int32).toInt = (-5) := by decide +kernel
theorem kc_m4 : ((-4) : Int32).toInt = (-4) := by decide +kernel
theorem kc_m3 : ((-3) : Int32).toInt = (-3) := by decide +kernel
theorem kc_m2 : ((-2) : Int32).toInt = (-2) := by decide +kernel
theorem kc_m1 : ((-1) : Int32).toInt = (-1) := by decide +kernel
theorem kc_0 : (0 : Int32).toInt = 0 := by decide +kernel
theorem kc_1 : (1 : Int32).toInt = 1 := by decide +kernel
theorem kc_2 : (2 : Int32).toInt = 2 := by decide +kernel
theorem kc_3 : (3 : Int32).toInt = 3 := by decide +kernel
theorem kc_4 : (4 : Int32).toInt = 4 := by decide +kernel
theorem kc_5 : (5 : Int32).toInt = 5 := by decide +kernel
theorem kc_6 : (6 : Int32).toInt = 6 := by decide +kernel
theorem kc_7 : (7 : Int32).toInt = 7 := by decide +kernel
theorem kc_8 : (8 : Int32).toInt = 8 := by decide +kernel
theorem kc_9 : (9 : Int32).toInt = 9 := by decide +kernel
theorem kc_10 : (10 : Int32).toInt = 10 := by decide +kernel
theorem kc_11 : (11 : Int32).toInt = 11 := by decide +kernel
theorem kc_12 : (12 : Int32).toInt = 12 := by decide +kernel
theorem kc_13 : (13 : Int32).toInt = 13 := by decide +kernel
theorem kc_14 : (14 : Int32).toInt = 14 := by decide +kernel
theorem kc_15 : (15 : Int32).toInt = 15 := by decide +kernel
theorem kc_16 : (16 : Int32).toInt = 16 := by decide +kernel
theorem kc_17 : (17 : Int32).toInt = 17 := by decide +kernel
theorem kc_18 : (18 : Int32).toInt = 18 := by decide +kernel
theorem kc_19 : (19 : Int32).toInt = 19 := by decide +kernel
theorem kc_20 : (20 : Int32).toInt = 20 := by decide +kernel
theorem kc_21 : (21 : Int32).toInt = 21 := by decide +kernel
theorem kc_22 : (22 : Int32).toInt = 22 := by decide +kernel
theorem kc_23 : (23 : Int32).toInt = 23 := by decide +kernel
theorem kc_24 : (24 : Int32).toInt = 24 := by decide +kernel
theorem kc_25 : (25 : Int32).toInt = 25 := by decide +kernel
theorem kc_26 : (26 : Int32).toInt = 26 := by decide +kernel
theorem kc_27 : (27 : Int32).toInt = 27 := by decide +kernel
theorem kc_28 : (28 : Int32).toInt = 28 := by decide +kernel
theorem kc_29 : (29 : Int32).toInt = 29 := by decide +kernel
theorem kc_30 : (30 : Int32).toInt = 30 := by decide +kernel
theorem kc_31 : (31 : Int32).toInt = 31 := by decide +kernel
theorem kc_32 : (32 : Int32).toInt = 32 := by decide +kernel
theorem kc_33 : (33 : Int32).toInt = 33 := by decide +kernel
theorem kc_34 : (34 : Int32).toInt = 34 := by decide +kernel
theorem kc_35 : (35 : Int32).toInt = 35 := by decide +kernel
theorem kc_36 : (36 : Int32).toInt = 36 := by decide +kernel
theorem kc_37 : (37 : Int32).toInt = 37 := by decide +kernel
theorem kc_38 : (38 : Int32).toInt = 38 := by decide +kernel
theorem kc_39 : (39 : Int32).toInt = 39 := by decide +kernel
theorem kc_40 : (40 : Int32).toInt = 40 := by decide +kernel
theorem kc_41 : (41 : Int32).toInt = 41 := by decide +kernel
theorem kc_42 : (42 : Int32).toInt = 42 := by decide +kernel
theorem kc_43 : (43 : Int32).toInt = 43 := by decide +kernel
theorem kc_44 : (44 : Int32).toInt = 44 := by decide +kernel
theorem kc_45 : (45 : Int32).toInt = 45 := by decide +kernel
theorem kc_46 : (46 : Int32).toInt = 46 := by decide +kernel
theorem kc_47 : (47 : Int32).toInt = 47 := by decide +kernel
theorem kc_48 : (48 : Int32).toInt = 48 := by decide +kernel
theorem kc_49 : (49 : Int32).toInt = 49 := by decide +kernel
theorem kc_50 : (50 : Int32).toInt = 50 := by decide +kernel
theorem kc_51 : (51 : Int32).toInt = 51 := by decide +kernel
theorem kc_52 : (52 : Int32).toInt = 52 := by decide +kernel
theorem kc_53 : (53 : Int32).toInt = 53 := by decide +kernel
theorem kc_54 : (54 : Int32).toInt = 54 := by decide +kernel
theorem kc_55 : (55 : Int32).toInt = 55 := by decide +kernel
theorem kc_56 : (56 : Int32).toInt = 56 := by decide +kernel
theorem kc_57 : (57 : Int32).toInt = 57 := by decide +kernel
theorem kc_58 : (58 : Int32).toInt = 58 := by decide +kernel
theorem kc_59 : (59 : Int32).toInt = 59 := by decide +kernel
theorem kc_60 : (60 : Int32).toInt = 60 := by decide +kernel
theorem kc_61 : (61 : Int32).toInt = 61 := by decide +kernel
theorem kc_62 : (62 : Int32).toInt = 62 := by decide +kernel
theorem kc_63 : (63 : Int32).toInt = 63 := by decide +kernel
theorem kc_64 : (64 : Int32).toInt = 64 := by decide +kernel
theorem kc_65 : (65 : Int32).toInt = 65 := by decide +kernel
theorem kc_66 : (66 : Int32).toInt = 66 := by decide +kernel
theorem kc_67 : (67 : Int32).toInt = 67 := by decide +kernel
theorem kc_68 : (68 : Int32).toInt = 68 := by decide +kernel
theorem kc_69 : (69 : Int32).toInt = 69 := by decide +kernel
theorem kc_70 : (70 : Int32).toInt = 70 := by decide +kernel
theorem kc_71 : (71 : Int32).toInt = 71 := by decide +kernel
theorem kc_72 : (72 : Int32).toInt = 72 := by decide +kernel
theorem kc_73 : (73 : Int32).toInt = 73 := by decide +kernel
theorem kc_74 : (74 : Int32).toInt = 74 := by decide +kernel
theorem kc_75 : (75 : Int32).toInt = 75 := by decide +kernel
theorem kc_76 : (76 : Int32).toInt = 76 := by decide +kernel
theorem kc_77 : (77 : Int32).toInt = 77 := by decide +kernel
theorem kc_78 : (78 : Int32).toInt = 78 := by decide +kernel
theorem kc_79 : (79 : Int32).toInt = 79 := by decide +kernel
theorem kc_80 : (80 : Int32).toInt = 80 := by decide +kernel
theorem kc_81 : (81 : Int32).toInt = 81 := by decide +kernel
theorem kc_82 : (82 : Int32).toInt = 82 := by decide +kernel
theorem kc_83 : (83 : Int32).toInt = 83 := by decide +kernel
theorem kc_84 : (84 : Int32).toInt = 84 := by decide +kernel
theorem kc_85 : (85 : Int32).toInt = 85 := by decide +kernel
theorem kc_86 : (86 : Int32).toInt = 86 := by decide +kernel
theorem kc_87 : (87 : Int32).toInt = 87 := by decide +kernel
theorem kc_88 : (88 : Int32).toInt = 88 := by decide +kernel
theorem kc_89 : (89 : Int32).toInt = 89 := by decide +kernel
theorem kc_90 : (90 : Int32).toInt = 90 := by decide +kernel
theorem kc_91 : (91 : Int32).toInt = 91 := by decide +kernel
theorem kc_92 : (92 : Int32).toInt = 92 := by decide +kernel
theorem kc_93 : (93 : Int32).toInt = 93 := by decide +kernel
theorem kc_94 : (94 : Int32).toInt = 94 := by decide +kernel
theorem kc_95 : (95 : Int32).toInt = 95 := by decide +kernel
theorem kc_96 : (96 : Int32).toInt = 96 := by decide +kernel
theorem kc_97 : (97 : Int32).toInt = 97 := by decide +kernel
theorem kc_98 : (98 : Int32).toInt = 98 := by decide +kernel
theorem kc_99 : (99 : Int32).toInt = 99 := by decide +kernel
theorem kc_100 : (100 : Int32).toInt = 100 := by decide +kernel
theorem kc_101 : (101 : Int32).toInt = 101 := by decide +kernel
theorem kc_102 : (102 : Int32).toInt = 102 := by decide +kernel
theorem kc_103 : (103 : Int32).toInt = 103 := by decide +kernel
theorem kc_104 : (104 : Int32).toInt = 104 := by decide +kernel
theorem kc_105 : (105 : Int32).toInt = 105 := by decide +kernel
theorem kc_106 : (106 : Int32).toInt = 106 := by decide +kernel
theorem kc_107 : (107 : Int32).toInt = 107 := by decide +kernel
theorem kc_108 : (108 : Int32).toInt = 108 := by decide +kernel
theorem kc_109 : (109 : Int32).toInt = 109 := by decide +kernel
theorem kc_110 : (110 : Int32).toInt = 110 := by decide +kernel
theorem kc_111 : (111 : Int32).toInt = 111 := by decide +kernel
theorem kc_112 : (112 : Int32).toInt = 112 := by decide +kernel
theorem kc_113 : (113 : Int32).toInt = 113 := by decide +kernel
theorem kc_114 : (114 : Int32).toInt = 114 := by decide +kernel
theorem kc_115 : (115 : Int32).toInt = 115 := by decide +kernel
theorem kc_116 : (116 : Int32).toInt = 116 := by decide +kernel
theorem kc_117 : (117 : Int32).toInt = 117 := by decide +kernel
theorem kc_118 : (118 : Int32).toInt = 118 := by decide +kernel
theorem kc_119 : (119 : Int32).toInt = 119 := by decide +kernel
theorem kc_120 : (120 : Int32).toInt = 120 := by decide +kernel
theorem kc_121 : (121 : Int32).toInt = 121 := by decide +kernel
theorem kc_122 : (122 : Int32).toInt = 122 := by decide +kernel
theorem kc_123 : (123 : Int32).toInt = 123 := by decide +kernel
theorem kc_124 : (124 : Int32).toInt = 124 := by decide +kernel
theorem kc_125 : (125 : Int32).toInt = 125 := by decide +kernel
theorem kc_126 : (126 : Int32).toInt = 126 := by decide +kernel
theorem kc_127 : (127 : Int32).toInt = 127 := by decide +kernel
theorem kc_128 : (128 : Int32).toInt = 128 := by decide +kernel
theorem kc_129 : (129 : Int32).toInt = 129 := by decide +kernel
theorem kc_144 : (144 : Int32).toInt = 144 := by decide +kernel
theorem kc_192 : (192 : Int32).toInt = 192 := by decide +kernel
theorem kc_200 : (200 : Int32).toInt = 200 := by decide +kernel
theorem kc_240 : (240 : Int32).toInt = 240 := by decide +kernel
theorem kc_255 : (255 : Int32).toInt = 255 := by decide +kernel
theorem kc_256 : (256 : Int32).toInt = 256 := by decide +kernel
theorem kc_260 : (260 : Int32).toInt = 260 := by decide +kernel
theorem kc_288 : (288 : Int32).toInt = 288 := by decide +kernel
theorem kc_341 : (341 : Int32).toInt = 341 := by decide +kernel
theorem kc_480 : (480 : Int32).toInt = 480 := by decide +kernel
theorem kc_999 : (999 : Int32).toInt = 999 := by decide +kernel
theorem kc_1000 : (1000 : Int32).toInt = 1000 := by decide +kernel
theorem kc_4095 : (4095 : Int32).toInt = 4095 := by decide +kernel
theorem kc_4096 : (4096 : Int32).toInt = 4096 := by decide +kernel
theorem kc_9999 : (9999 : Int32).toInt = 9999 := by decide +kernel
theorem kc_13849 : (13849 : Int32).toInt = 13849 := by decide +kernel
theorem kc_25173 : (25173 : Int32).toInt = 25173 := by decide +kernel
theorem kc_65535 : (65535 : Int32).toInt = 65535 := by decide +kernel
theorem kc_65536 : (65536 : Int32).toInt = 65536 := by decide +kernel
theorem kc_100000 : (100000 : Int32).toInt = 100000 := by decide +kernel
theorem kc_252645135 : (252645135 : Int32).toInt = 252645135 := by decide +kernel
theorem kc_858993459 : (858993459 : Int32).toInt = 858993459 := by decide +kernel
theorem kc_1000000000 : (1000000000 : Int32).toInt = 1000000000 := by decide +kernel
theorem kc_1431655765 : (1431655765 : Int32).toInt = 1431655765 := by decide +kernel
theorem i_and (x y : Int32) : (x &&& y).toBitVec = x.toBitVec &&& y.toBitVec := rfl
/-- bit i of a number -/
def tb (x : Int32) (i : Nat) : Bool := x.toBitVec.getLsbD i
theorem tb_0 (i : Nat) : tb 0 i = false := by simp [tb]
end
section
/-! ===== Int32 by its bits: bt x i ===== -/
def bt (x : Int32) (i : Nat) : Bool := x.toBitVec.getLsbD i
theorem b_ext {x y : Int32} (h : ∀ i, i < 32 → bt x i = bt y i) : x = y := Int32.toBitVec_inj.mp (BitVec.eq_of_getLsbD_eq (fun i hi => h i hi))
theorem b_or (x y : Int32) (i : Nat) : bt (x ||| y) i = (bt x i || bt y i) := by unfold bt; rw [Int32.toBitVec_or, BitVec.getLsbD_or]
theorem b_and (x y : Int32) (i : Nat) : bt (x &&& y) i = (bt x i && bt y i) := by unfold bt; rw [Int32.toBitVec_and, BitVec.getLsbD_and]
theorem b_xor (x y : Int32) (i : Nat) : bt (x ^^^ y) i = (bt x i ^^ bt y i) := by unfold bt; rw [Int32.toBitVec_xor, BitVec.getLsbD_xor]
theorem b_big {x : Int32} {i : Nat} (h : 32 ≤ i) : bt x i = false := BitVec.getLsbD_of_ge _ _ h
theorem b_255 (i : Nat) : bt 255 i = decide (i < 8) := by
  rcases Nat.lt_or_ge i 32 with h | h
  · exact (by decide +kernel : ∀ i, i < 32 → bt 255 i = decide (i < 8)) i h
  · rw [b_big h, decide_eq_false (by omega)]
theorem b_65535 (i : Nat) : bt 65535 i = decide (i < 16) := by
  rcases Nat.lt_or_ge i 32 with h | h
  · exact (by decide +kernel : ∀ i, i < 32 → bt 65535 i = decide (i < 16)) i h
  · rw [b_big h, decide_eq_false (by omega)]
theorem b_m1 : ∀ i, i < 32 → bt (-1) i = true := by decide +kernel
theorem b_0 (i : Nat) : bt 0 i = false := BitVec.getLsbD_zero
theorem s_l : ∀ n, n < 32 → ((nI n &&& 31).toBitVec.smod 32).toNat = n := by decide +kernel
theorem s_u : ∀ n, n < 32 → (((nI n).toUInt32 &&& Int32.toUInt32 31).toBitVec % 32).toNat = n := by decide +kernel
theorem b_shl (n : Nat) (hn : n < 32) (x : Int32) {i : Nat} (hi : i < 32) : bt (x <<< (nI n &&& 31)) i = (decide (n ≤ i) && bt x (i - n)) := by
  unfold bt
  rw [Int32.toBitVec_shiftLeft]
  show (x.toBitVec <<< ((nI n &&& 31).toBitVec.smod 32).toNat).getLsbD i = _
  rw [s_l n hn, BitVec.getLsbD_shiftLeft]
  rcases Nat.lt_or_ge i n with h | h
  · simp [h, Nat.not_le.mpr h]
  · simp [hi, h, Nat.not_lt.mpr h]
theorem b_ushr (n : Nat) (hn : n < 32) (x : Int32) (i : Nat) : bt ((x.toUInt32 >>> ((nI n).toUInt32 &&& Int32.toUInt32 31)).toInt32) i = bt x (n + i) := by
  show (x.toUInt32 >>> ((nI n).toUInt32 &&& Int32.toUInt32 31)).toBitVec.getLsbD i = x.toUInt32.toBitVec.getLsbD (n + i)
  rw [UInt32.toBitVec_shiftRight]
  show (x.toUInt32.toBitVec >>> (((nI n).toUInt32 &&& Int32.toUInt32 31).toBitVec % 32).toNat).getLsbD i = _
  rw [s_u n hn, BitVec.getLsbD_ushiftRight]
theorem b_sshr (n : Nat) (hn : n < 32) (x : Int32) {i : Nat} (hi : i < 32) : bt (x >>> (nI n &&& 31)) i = if n + i < 32 then bt x (n + i) else bt x 31 := by
  unfold bt
  rw [Int32.toBitVec_shiftRight]
  show (x.toBitVec.sshiftRight ((nI n &&& 31).toBitVec.smod 32).toNat).getLsbD i = _
  rw [s_l n hn, BitVec.getLsbD_sshiftRight, BitVec.msb_eq_getLsbD_last]
  simp [hi]
theorem b_shl8 (x : Int32) {i : Nat} (hi : i < 32) : bt (x <<< ((8 : Int32) &&& 31)) i = (decide (8 ≤ i) && bt x (i - 8)) := b_shl 8 (by omega) x hi
theorem b_shl16 (x : Int32) {i : Nat} (hi : i < 32) : bt (x <<< ((16 : Int32) &&& 31)) i = (decide (16 ≤ i) && bt x (i - 16)) := b_shl 16 (by omega) x hi
theorem b_shl24 (x : Int32) {i : Nat} (hi : i < 32) : bt (x <<< ((24 : Int32) &&& 31)) i = (decide (24 ≤ i) && bt x (i - 24)) := b_shl 24 (by omega) x hi
theorem b_sshr8 (x : Int32) {i : Nat} (hi : i < 32) : bt (x >>> ((8 : Int32) &&& 31)) i = if 8 + i < 32 then bt x (8 + i) else bt x 31 := b_sshr 8 (by omega) x hi
theorem b_1 (i : Nat) : bt 1 i = decide (i = 0) := by
  rcases Nat.lt_or_ge i 32 with h | h
  · exact (by decide +kernel : ∀ i, i < 32 → bt 1 i = decide (i = 0)) i h
  · rw [b_big h, decide_eq_false (by omega)]
theorem nI_k {x : Int32} {k : Nat} (h : x.toInt = k) (hk : k < 2 ^ 31) : x = nI k := Int32.toInt_inj.mp (h.trans (nI_toInt hk).symm)
/-- one bit of a number, by >> and & -/
theorem has_bt {b i : Int32} (h0 : 0 ≤ i.toInt) (h1 : i.toInt < 31) : ((b >>> (i &&& 31)) &&& 1).toInt = if bt b i.toInt.toNat then 1 else 0 := by
  obtain ⟨k, hk⟩ : ∃ k : Nat, i.toInt = k := ⟨i.toInt.toNat, by omega⟩
  have hi : i = nI k := nI_k hk (by omega)
  have hkk : i.toInt.toNat = k := by omega
  rw [hkk]
  have e : (b >>> (i &&& 31)) &&& 1 = if bt b k then 1 else 0 := by
    apply b_ext
    intro j hj
    rw [b_and, hi, b_sshr k (by omega) b hj, b_1]
    by_cases hj0 : j = 0
    · subst hj0
      by_cases hb : bt b k = true
      · simp [hb, b_1]
        omega
      · have hb : bt b k = false := by simpa using hb
        simp [hb, b_0]
        omega
    · by_cases hb : bt b k = true
      · simp [hb, b_1, hj0]
      · have hb : bt b k = false := by simpa using hb
        simp [hb, b_0, hj0]
  rw [e]
  by_cases hb : bt b k = true
  · simp [hb]
  · simp [hb]
theorem has_b1 {b i : Int32} (h0 : 0 ≤ i.toInt) (h1 : i.toInt < 31) (h : bt b i.toInt.toNat = true) : ((b >>> (i &&& 31)) &&& 1).toInt = 1 := by rw [has_bt h0 h1, h]; rfl
theorem has_b0 {b i : Int32} (h0 : 0 ≤ i.toInt) (h1 : i.toInt < 31) (h : bt b i.toInt.toNat = false) : ((b >>> (i &&& 31)) &&& 1).toInt = 0 := by rw [has_bt h0 h1, h]; rfl
theorem has_is1 {b i : Int32} (h0 : 0 ≤ i.toInt) (h1 : i.toInt < 31) (h : ((b >>> (i &&& 31)) &&& 1).toInt = 1) : bt b i.toInt.toNat = true := by
  cases hb : bt b i.toInt.toNat with
  | true => rfl
  | false => have := has_b0 h0 h1 hb; omega
theorem has_is0 {b i : Int32} (h0 : 0 ≤ i.toInt) (h1 : i.toInt < 31) (h : ¬ ((b >>> (i &&& 31)) &&& 1).toInt = 1) : bt b i.toInt.toNat = false := by
  cases hb : bt b i.toInt.toNat with
  | false => rfl
  | true => exact absurd (has_b1 h0 h1 hb) h
theorem has_0 (i : Nat) : bt 0 i = false := b_0 i
/-- comparing longs -/
theorem lc_all (x y : Int64) : ((lg_cmp x y).toInt < 0 ∧ x.toInt < y.toInt) ∨ ((lg_cmp x y).toInt = 0 ∧ x.toInt = y.toInt) ∨ (0 < (lg_cmp x y).toInt ∧ y.toInt < x.toInt) := by
  have h1 := lg_cmp_lt x y
  have h2 := lg_cmp_eq x y
  have h3 := lg_cmp_gt x y
  rw [Int32.lt_iff_toInt_lt, Int64.lt_iff_toInt_lt] at h1 h3
  rw [← Int32.toInt_inj, ← Int64.toInt_inj] at h2
  have h0 : (0 : Int32).toInt = 0 := rfl
  rw [h0] at h1 h2 h3
  omega
theorem l_i2l (x : Int32) : x.toInt64.toInt = x.toInt := Int32.toInt_toInt64 x
theorem kl_m2 : ((-2) : Int64).toInt = (-2) := by decide +kernel
theorem kl_m1 : ((-1) : Int64).toInt = (-1) := by decide +kernel
theorem kl_0 : (0 : Int64).toInt = 0 := by decide +kernel
theorem kl_1 : (1 : Int64).toInt = 1 := by decide +kernel
theorem kl_2 : (2 : Int64).toInt = 2 := by decide +kernel
theorem kl_3 : (3 : Int64).toInt = 3 := by decide +kernel
theorem kl_4 : (4 : Int64).toInt = 4 := by decide +kernel
theorem kl_5 : (5 : Int64).toInt = 5 := by decide +kernel
theorem kl_6 : (6 : Int64).toInt = 6 := by decide +kernel
theorem kl_7 : (7 : Int64).toInt = 7 := by decide +kernel
theorem kl_8 : (8 : Int64).toInt = 8 := by decide +kernel
theorem kl_9 : (9 : Int64).toInt = 9 := by decide +kernel
theorem kl_10 : (10 : Int64).toInt = 10 := by decide +kernel
theorem kl_11 : (11 : Int64).toInt = 11 := by decide +kernel
theorem kl_12 : (12 : Int64).toInt = 12 := by decide +kernel
theorem kl_16 : (16 : Int64).toInt = 16 := by decide +kernel
theorem kl_20 : (20 : Int64).toInt = 20 := by decide +kernel
theorem kl_31 : (31 : Int64).toInt = 31 := by decide +kernel
theorem kl_60 : (60 : Int64).toInt = 60 := by decide +kernel
theorem kl_63 : (63 : Int64).toInt = 63 := by decide +kernel
theorem kl_99 : (99 : Int64).toInt = 99 := by decide +kernel
theorem kl_240 : (240 : Int64).toInt = 240 := by decide +kernel
theorem kl_255 : (255 : Int64).toInt = 255 := by decide +kernel
theorem kl_260 : (260 : Int64).toInt = 260 := by decide +kernel
theorem kl_4095 : (4095 : Int64).toInt = 4095 := by decide +kernel
theorem kl_65535 : (65535 : Int64).toInt = 65535 := by decide +kernel
theorem kl_65536 : (65536 : Int64).toInt = 65536 := by decide +kernel
end
section
/-- the cells of a new class object and a new reference, by their labels -/
def gF_0 (ad : Nat → Nat) : Nat → Value := fun k => match k with
  | 0 => .ref (ad 1)
  | 1 => .ref (ad 3)
  | 2 => .ref (ad 80)
  | 3 => .ref (ad 102)
  | 4 => .ref (ad 120)
  | 5 => .ref (ad 127)
  | 6 => .ref (ad 78)
  | 7 => .ref (ad 79)
  | 8 => .ref (ad 75)
  | 9 => .ref (ad 61)
  | 10 => .ref (ad 18)
  | 11 => .ref (ad 30)
  | 12 => .ref (ad 42)
  | 13 => .ref (ad 54)
  | 14 => .ref (ad 68)
  | 15 => .int 0
  | _ => .null
def gF_1 (ad : Nat → Nat) : Nat → Value := fun k => match k with
  | 0 => .ref (ad 2)
  | 1 => .int 0
  | _ => .null
def gF_3 (ad : Nat → Nat) : Nat → Value := fun k => match k with
  | 0 => .ref (ad 4)
  | 1 => .ref (ad 5)
  | 2 => .int 0
  | _ => .null
def gF_18 (ad : Nat → Nat) : Nat → Value := fun k => match k with
  | 0 => .ref (ad 19)
  | 1 => .ref (ad 20)
  | 2 => .ref (ad 21)
  | 3 => .int 0
  | 4 => .int 0
  | 5 => .int 0
  | 6 => .int 0
  | 7 => .int 1
  | _ => .null
def gF_30 (ad : Nat → Nat) : Nat → Value := fun k => match k with
  | 0 => .ref (ad 31)
  | 1 => .ref (ad 32)
  | 2 => .ref (ad 33)
  | 3 => .int 0
  | 4 => .int 0
  | 5 => .int 0
  | 6 => .int 0
  | 7 => .int 1
  | _ => .null
def gF_42 (ad : Nat → Nat) : Nat → Value := fun k => match k with
  | 0 => .ref (ad 43)
  | 1 => .ref (ad 44)
  | 2 => .ref (ad 45)
  | 3 => .int 0
  | 4 => .int 0
  | 5 => .int 0
  | 6 => .int 0
  | 7 => .int 1
  | _ => .null
def gF_54 (ad : Nat → Nat) : Nat → Value := fun k => match k with
  | 0 => .ref (ad 55)
  | 1 => .ref (ad 56)
  | 2 => .ref (ad 57)
  | 3 => .ref (ad 58)
  | 4 => .ref (ad 59)
  | 5 => .ref (ad 60)
  | 6 => .int 0
  | 7 => .int 0
  | _ => .null
def gF_61 (ad : Nat → Nat) : Nat → Value := fun k => match k with
  | 0 => .ref (ad 62)
  | 1 => .ref (ad 63)
  | 2 => .ref (ad 64)
  | 3 => .ref (ad 65)
  | 4 => .ref (ad 66)
  | 5 => .ref (ad 67)
  | 6 => .int 0
  | 7 => .int 0
  | _ => .null
def gF_68 (ad : Nat → Nat) : Nat → Value := fun k => match k with
  | 0 => .ref (ad 69)
  | 1 => .ref (ad 70)
  | 2 => .ref (ad 71)
  | 3 => .ref (ad 72)
  | 4 => .ref (ad 73)
  | 5 => .ref (ad 74)
  | 6 => .int 0
  | 7 => .int 0
  | _ => .null
def gF_75 (ad : Nat → Nat) : Nat → Value := fun k => match k with
  | 0 => .ref (ad 76)
  | 1 => .ref (ad 77)
  | 2 => .int 0
  | _ => .null
def gF_78 (ad : Nat → Nat) : Nat → Value := fun k => match k with
  | 0 => .ref (ad 2)
  | 1 => .int 0
  | 2 => .int 0
  | 3 => .int 0
  | 4 => .ref (ad 75)
  | _ => .null
def gF_79 (ad : Nat → Nat) : Nat → Value := fun k => match k with
  | 0 => .ref (ad 2)
  | 1 => .int 0
  | 2 => .int 0
  | 3 => .int 0
  | 4 => .ref (ad 68)
  | _ => .null
def gF_80 (ad : Nat → Nat) : Nat → Value := fun k => match k with
  | 0 => .ref (ad 3)
  | 1 => .ref (ad 81)
  | 2 => .ref (ad 82)
  | 3 => .ref (ad 83)
  | 4 => .int 0
  | 5 => .int 0
  | 6 => .int 0
  | 7 => .int 0
  | 8 => .int 0
  | 9 => .ref (ad 54)
  | 10 => .ref (ad 18)
  | _ => .null
def gF_84 (ad : Nat → Nat) : Nat → Value := fun k => match k with
  | 0 => .ref (ad 85)
  | 1 => .ref (ad 86)
  | 2 => .int 0
  | _ => .null
def gF_87 (ad : Nat → Nat) : Nat → Value := fun k => match k with
  | 0 => .ref (ad 88)
  | 1 => .ref (ad 89)
  | 2 => .int 0
  | _ => .null
def gF_90 (ad : Nat → Nat) : Nat → Value := fun k => match k with
  | 0 => .ref (ad 91)
  | 1 => .ref (ad 92)
  | 2 => .int 0
  | _ => .null
def gF_93 (ad : Nat → Nat) : Nat → Value := fun k => match k with
  | 0 => .ref (ad 94)
  | 1 => .ref (ad 95)
  | 2 => .int 0
  | _ => .null
def gF_96 (ad : Nat → Nat) : Nat → Value := fun k => match k with
  | 0 => .ref (ad 97)
  | 1 => .ref (ad 98)
  | 2 => .int 0
  | _ => .null
def gF_99 (ad : Nat → Nat) : Nat → Value := fun k => match k with
  | 0 => .ref (ad 100)
  | 1 => .ref (ad 101)
  | 2 => .int 0
  | _ => .null
def gF_102 (ad : Nat → Nat) : Nat → Value := fun k => match k with
  | 0 => .ref (ad 103)
  | 1 => .ref (ad 112)
  | 2 => .ref (ad 118)
  | 3 => .ref (ad 119)
  | 4 => .int 0
  | _ => .null
def gF_120 (ad : Nat → Nat) : Nat → Value := fun k => match k with
  | 0 => .ref (ad 121)
  | 1 => .ref (ad 122)
  | 2 => .ref (ad 123)
  | 3 => .ref (ad 124)
  | 4 => .ref (ad 125)
  | 5 => .ref (ad 126)
  | 6 => .int 0
  | _ => .null
def gF_127 (ad : Nat → Nat) : Nat → Value := fun k => match k with
  | 0 => .ref (ad 128)
  | 1 => .int 0
  | 2 => .int 0
  | 3 => .int 1
  | _ => .null
def gF_129 (ad : Nat → Nat) : Nat → Value := fun k => match k with
  | 0 => .ref (ad 130)
  | 1 => .int 0
  | 2 => .int 1
  | 3 => .int 0
  | 4 => .int 0
  | 5 => .int 0
  | 6 => .int 0
  | 7 => .int 0
  | 8 => .int 0
  | 9 => .int 0
  | 10 => .ref (ad 131)
  | 11 => .ref (ad 132)
  | 12 => .ref (ad 133)
  | 13 => .ref (ad 134)
  | 14 => .ref (ad 135)
  | 15 => .ref (ad 136)
  | 16 => .ref (ad 137)
  | 17 => .ref (ad 138)
  | 18 => .int 0
  | 19 => .int 0
  | 20 => .int 0
  | 21 => .ref (ad 139)
  | 22 => .ref (ad 140)
  | 23 => .ref (ad 141)
  | 24 => .ref (ad 142)
  | 25 => .ref (ad 143)
  | 26 => .ref (ad 144)
  | 27 => .ref (ad 145)
  | 28 => .ref (ad 146)
  | 29 => .ref (ad 147)
  | 30 => .ref (ad 148)
  | 31 => .int 0
  | 32 => .int 0
  | 33 => .ref (ad 149)
  | 34 => .ref (ad 150)
  | 35 => .ref (ad 151)
  | 36 => .ref (ad 152)
  | 37 => .ref (ad 153)
  | 38 => .ref (ad 154)
  | 39 => .int 0
  | 40 => .int 0
  | 41 => .ref (ad 155)
  | 42 => .int 0
  | 43 => .int 0
  | 44 => .int 0
  | 45 => .int 0
  | 46 => .int 0
  | 47 => .int 0
  | 48 => .int 0
  | 49 => .int 0
  | 50 => .ref (ad 156)
  | 51 => .ref (ad 157)
  | 52 => .ref (ad 158)
  | 53 => .ref (ad 159)
  | 54 => .ref (ad 160)
  | 55 => .ref (ad 161)
  | 56 => .int 0
  | 57 => .int 0
  | 58 => .int 0
  | 59 => .int 0
  | 60 => .int 0
  | 61 => .int 0
  | 62 => .int 0
  | 63 => .int 0
  | 64 => .int 0
  | 65 => .int 0
  | 66 => .int 0
  | 67 => .ref (ad 162)
  | 68 => .ref (ad 163)
  | 69 => .ref (ad 164)
  | 70 => .ref (ad 165)
  | 71 => .ref (ad 166)
  | 72 => .ref (ad 167)
  | 73 => .ref (ad 168)
  | 74 => .ref (ad 169)
  | 75 => .int 0
  | 76 => .ref (ad 170)
  | 77 => .ref (ad 171)
  | 78 => .ref (ad 172)
  | 79 => .ref (ad 173)
  | 80 => .ref (ad 174)
  | 81 => .ref (ad 175)
  | 82 => .ref (ad 176)
  | 83 => .ref (ad 177)
  | 84 => .ref (ad 178)
  | 85 => .ref (ad 179)
  | _ => .null
def gFl (ad : Nat → Nat) (cA : Nat → ClassId) : List va_E := [ob 11 16 (gF_0 ad),
  ob 10 2 (gF_1 ad),
  ia (cA 0) 260 (fun _ => 0),
  ob 5 3 (gF_3 ad),
  ia (cA 0) 12 (fun _ => 0),
  qa (cA 1) 12 (fun j => if j < 12 then some (ad (6 + 1 * j)) else none),
  ia (cA 0) 12 (fun _ => 0),
  ia (cA 0) 12 (fun _ => 0),
  ia (cA 0) 12 (fun _ => 0),
  ia (cA 0) 12 (fun _ => 0),
  ia (cA 0) 12 (fun _ => 0),
  ia (cA 0) 12 (fun _ => 0),
  ia (cA 0) 12 (fun _ => 0),
  ia (cA 0) 12 (fun _ => 0),
  ia (cA 0) 12 (fun _ => 0),
  ia (cA 0) 12 (fun _ => 0),
  ia (cA 0) 12 (fun _ => 0),
  ia (cA 0) 12 (fun _ => 0),
  ob 7 8 (gF_18 ad),
  ia (cA 0) 8 (fun _ => 0),
  ia (cA 0) 8 (fun _ => 0),
  qa (cA 1) 8 (fun j => if j < 8 then some (ad (22 + 1 * j)) else none),
  ia (cA 0) 12 (fun _ => 0),
  ia (cA 0) 12 (fun _ => 0),
  ia (cA 0) 12 (fun _ => 0),
  ia (cA 0) 12 (fun _ => 0),
  ia (cA 0) 12 (fun _ => 0),
  ia (cA 0) 12 (fun _ => 0),
  ia (cA 0) 12 (fun _ => 0),
  ia (cA 0) 12 (fun _ => 0),
  ob 7 8 (gF_30 ad),
  ia (cA 0) 8 (fun _ => 0),
  ia (cA 0) 8 (fun _ => 0),
  qa (cA 1) 8 (fun j => if j < 8 then some (ad (34 + 1 * j)) else none),
  ia (cA 0) 12 (fun _ => 0),
  ia (cA 0) 12 (fun _ => 0),
  ia (cA 0) 12 (fun _ => 0),
  ia (cA 0) 12 (fun _ => 0),
  ia (cA 0) 12 (fun _ => 0),
  ia (cA 0) 12 (fun _ => 0),
  ia (cA 0) 12 (fun _ => 0),
  ia (cA 0) 12 (fun _ => 0),
  ob 7 8 (gF_42 ad),
  ia (cA 0) 8 (fun _ => 0),
  ia (cA 0) 8 (fun _ => 0),
  qa (cA 1) 8 (fun j => if j < 8 then some (ad (46 + 1 * j)) else none),
  ia (cA 0) 12 (fun _ => 0),
  ia (cA 0) 12 (fun _ => 0),
  ia (cA 0) 12 (fun _ => 0),
  ia (cA 0) 12 (fun _ => 0),
  ia (cA 0) 12 (fun _ => 0),
  ia (cA 0) 12 (fun _ => 0),
  ia (cA 0) 12 (fun _ => 0),
  ia (cA 0) 12 (fun _ => 0),
  ob 3 8 (gF_54 ad),
  ia (cA 0) 16 (fun _ => 0),
  ia (cA 0) 16 (fun _ => 0),
  ia (cA 0) 16 (fun _ => 0),
  ia (cA 0) 256 (fun _ => 0),
  ia (cA 0) 256 (fun _ => 0),
  ia (cA 0) 64 (fun _ => 0),
  ob 3 8 (gF_61 ad),
  ia (cA 0) 16 (fun _ => 0),
  ia (cA 0) 16 (fun _ => 0),
  ia (cA 0) 16 (fun _ => 0),
  ia (cA 0) 256 (fun _ => 0),
  ia (cA 0) 256 (fun _ => 0),
  ia (cA 0) 64 (fun _ => 0),
  ob 3 8 (gF_68 ad),
  ia (cA 0) 16 (fun _ => 0),
  ia (cA 0) 16 (fun _ => 0),
  ia (cA 0) 16 (fun _ => 0),
  ia (cA 0) 256 (fun _ => 0),
  ia (cA 0) 256 (fun _ => 0),
  ia (cA 0) 64 (fun _ => 0),
  ob 0 3 (gF_75 ad),
  ia (cA 0) 48 (fun _ => 0),
  ia (cA 0) 48 (fun _ => 0),
  ob 1 5 (gF_78 ad),
  ob 4 5 (gF_79 ad),
  ob 2 11 (gF_80 ad),
  qa (cA 2) 6 (fun j => if j < 6 then some (ad (84 + 3 * j)) else none),
  ia (cA 0) 10 (fun _ => (-1)),
  ia (cA 0) 8 (fun _ => 0),
  ob 0 3 (gF_84 ad),
  ia (cA 0) 48 (fun _ => 0),
  ia (cA 0) 48 (fun _ => 0),
  ob 0 3 (gF_87 ad),
  ia (cA 0) 48 (fun _ => 0),
  ia (cA 0) 48 (fun _ => 0),
  ob 0 3 (gF_90 ad),
  ia (cA 0) 48 (fun _ => 0),
  ia (cA 0) 48 (fun _ => 0),
  ob 0 3 (gF_93 ad),
  ia (cA 0) 48 (fun _ => 0),
  ia (cA 0) 48 (fun _ => 0),
  ob 0 3 (gF_96 ad),
  ia (cA 0) 48 (fun _ => 0),
  ia (cA 0) 48 (fun _ => 0),
  ob 0 3 (gF_99 ad),
  ia (cA 0) 48 (fun _ => 0),
  ia (cA 0) 48 (fun _ => 0),
  ob 9 5 (gF_102 ad),
  qa (cA 1) 8 (fun j => if j < 8 then some (ad (104 + 1 * j)) else none),
  ia (cA 0) 8 (fun _ => 0),
  ia (cA 0) 8 (fun _ => 0),
  ia (cA 0) 8 (fun _ => 0),
  ia (cA 0) 8 (fun _ => 0),
  ia (cA 0) 8 (fun _ => 0),
  ia (cA 0) 8 (fun _ => 0),
  ia (cA 0) 8 (fun _ => 0),
  ia (cA 0) 8 (fun _ => 0),
  qa (cA 1) 5 (fun j => if j < 5 then some (ad (113 + 1 * j)) else none),
  ia (cA 0) 6 (fun _ => 0),
  ia (cA 0) 6 (fun _ => 0),
  ia (cA 0) 6 (fun _ => 0),
  ia (cA 0) 6 (fun _ => 0),
  ia (cA 0) 6 (fun _ => 0),
  ia (cA 0) 6 (fun _ => 0),
  ia (cA 0) 6 (fun _ => 0),
  ob 8 7 (gF_120 ad),
  ia (cA 0) 5 (fun _ => 0),
  ja (cA 5) 341 (fun _ => 0),
  ja (cA 5) 341 (fun _ => 0),
  ia (cA 0) 341 (fun _ => 0),
  ia (cA 0) 341 (fun _ => 0),
  ia (cA 0) 341 (fun _ => 0),
  ob 6 4 (gF_127 ad),
  ia (cA 0) 9 (fun _ => 0),
  ob 12 86 (gF_129 ad),
  ia (cA 3) 260 (fun _ => 0),
  ia (cA 4) 12 (fun _ => 0),
  ia (cA 0) 12 (fun _ => 0),
  ia (cA 0) 144 (fun _ => 0),
  ia (cA 4) 6 (fun _ => 0),
  ia (cA 0) 6 (fun _ => 0),
  ia (cA 0) 288 (fun _ => 0),
  ia (cA 0) 48 (fun _ => 0),
  ia (cA 0) 10 (fun _ => (-1)),
  ia (cA 0) 2 (fun _ => 0),
  ia (cA 0) 2 (fun _ => 0),
  ia (cA 0) 2 (fun _ => 0),
  ia (cA 0) 32 (fun _ => 0),
  ia (cA 0) 32 (fun _ => 0),
  ia (cA 0) 32 (fun _ => 0),
  ia (cA 0) 32 (fun _ => 0),
  ia (cA 0) 480 (fun _ => 0),
  ia (cA 0) 480 (fun _ => 0),
  ia (cA 0) 2 (fun _ => 0),
  ia (cA 0) 16 (fun _ => 0),
  ia (cA 0) 16 (fun _ => 0),
  ia (cA 0) 16 (fun _ => 0),
  ia (cA 0) 16 (fun _ => 0),
  ia (cA 0) 240 (fun _ => 0),
  ia (cA 0) 240 (fun _ => 0),
  ia (cA 0) 240 (fun _ => 0),
  ia (cA 0) 240 (fun _ => 0),
  ia (cA 4) 240 (fun _ => 0),
  ia (cA 4) 8 (fun _ => 0),
  ia (cA 0) 8 (fun _ => 0),
  ia (cA 0) 8 (fun _ => 0),
  ia (cA 0) 96 (fun _ => 0),
  ia (cA 4) 16 (fun _ => 0),
  ia (cA 0) 16 (fun _ => 0),
  ia (cA 0) 16 (fun _ => 0),
  ia (cA 0) 192 (fun _ => 0),
  ia (cA 0) 2 (fun _ => 0),
  ia (cA 0) 2 (fun _ => 0),
  ia (cA 0) 2 (fun _ => 0),
  ia (cA 0) 2 (fun _ => 0),
  ia (cA 0) 12 (fun _ => 0),
  ia (cA 0) 12 (fun _ => 0),
  ia (cA 0) 8 (fun _ => 0),
  ia (cA 0) 8 (fun _ => 0),
  ia (cA 0) 12 (fun _ => 0),
  ia (cA 0) 64 (fun _ => 0),
  ia (cA 4) 5 (fun _ => 0),
  ia (cA 0) 30 (fun _ => 0),
  ia (cA 0) 6 (fun _ => 0),
  ia (cA 0) 9 (fun _ => 0)]
def gF (ad : Nat → Nat) (cA : Nat → ClassId) (i : Nat) : va_E := (gFl ad cA).getD i (.inr (0, []))
theorem zf {ad : Nat → Nat} {cA : Nat → ClassId} {g : Nat → va_E} {i k : Nat} {v : Value} (hF : ∀ j, j < NN → g j = gF ad cA j) (hi : i < NN) (e : fld (gF ad cA) i k = v) : fld g i k = v := (fld_eq (hF i hi) k).trans e
theorem za {ad : Nat → Nat} {cA : Nat → ClassId} {g : Nat → va_E} {i : Nat} {f : Nat → Int32} (hF : ∀ j, j < NN → g j = gF ad cA j) (hi : i < NN) (e : arI (gF ad cA) i = f) : arI g i = f := (arI_eq (hF i hi)).trans e
theorem zq {ad : Nat → Nat} {cA : Nat → ClassId} {g : Nat → va_E} {i : Nat} {f : Nat → Option Nat} (hF : ∀ j, j < NN → g j = gF ad cA j) (hi : i < NN) (e : arQ (gF ad cA) i = f) : arQ g i = f := (arQ_eq (hF i hi)).trans e

theorem gFi_0 (ad : Nat → Nat) : ∀ k ∈ iFs 11, ∃ x : Int32, gF_0 ad k = .int x := by
  show ∀ k ∈ [15], ∃ x : Int32, gF_0 ad k = .int x
  exact List.forall_mem_cons.mpr ⟨⟨_, rfl⟩, fun _ h => absurd h List.not_mem_nil⟩
theorem gFi_1 (ad : Nat → Nat) : ∀ k ∈ iFs 10, ∃ x : Int32, gF_1 ad k = .int x := by
  show ∀ k ∈ [1], ∃ x : Int32, gF_1 ad k = .int x
  exact List.forall_mem_cons.mpr ⟨⟨_, rfl⟩, fun _ h => absurd h List.not_mem_nil⟩
theorem gFi_3 (ad : Nat → Nat) : ∀ k ∈ iFs 5, ∃ x : Int32, gF_3 ad k = .int x := by
  show ∀ k ∈ [2], ∃ x : Int32, gF_3 ad k = .int x
  exact List.forall_mem_cons.mpr ⟨⟨_, rfl⟩, fun _ h => absurd h List.not_mem_nil⟩
theorem gFi_18 (ad : Nat → Nat) : ∀ k ∈ iFs 7, ∃ x : Int32, gF_18 ad k = .int x := by
  show ∀ k ∈ [3, 4, 5, 6, 7], ∃ x : Int32, gF_18 ad k = .int x
  exact List.forall_mem_cons.mpr ⟨⟨_, rfl⟩, List.forall_mem_cons.mpr ⟨⟨_, rfl⟩, List.forall_mem_cons.mpr ⟨⟨_, rfl⟩, List.forall_mem_cons.mpr ⟨⟨_, rfl⟩, List.forall_mem_cons.mpr ⟨⟨_, rfl⟩, fun _ h => absurd h List.not_mem_nil⟩⟩⟩⟩⟩
theorem gFi_30 (ad : Nat → Nat) : ∀ k ∈ iFs 7, ∃ x : Int32, gF_30 ad k = .int x := by
  show ∀ k ∈ [3, 4, 5, 6, 7], ∃ x : Int32, gF_30 ad k = .int x
  exact List.forall_mem_cons.mpr ⟨⟨_, rfl⟩, List.forall_mem_cons.mpr ⟨⟨_, rfl⟩, List.forall_mem_cons.mpr ⟨⟨_, rfl⟩, List.forall_mem_cons.mpr ⟨⟨_, rfl⟩, List.forall_mem_cons.mpr ⟨⟨_, rfl⟩, fun _ h => absurd h List.not_mem_nil⟩⟩⟩⟩⟩
theorem gFi_42 (ad : Nat → Nat) : ∀ k ∈ iFs 7, ∃ x : Int32, gF_42 ad k = .int x := by
  show ∀ k ∈ [3, 4, 5, 6, 7], ∃ x : Int32, gF_42 ad k = .int x
  exact List.forall_mem_cons.mpr ⟨⟨_, rfl⟩, List.forall_mem_cons.mpr ⟨⟨_, rfl⟩, List.forall_mem_cons.mpr ⟨⟨_, rfl⟩, List.forall_mem_cons.mpr ⟨⟨_, rfl⟩, List.forall_mem_cons.mpr ⟨⟨_, rfl⟩, fun _ h => absurd h List.not_mem_nil⟩⟩⟩⟩⟩
theorem gFi_54 (ad : Nat → Nat) : ∀ k ∈ iFs 3, ∃ x : Int32, gF_54 ad k = .int x := by
  show ∀ k ∈ [6, 7], ∃ x : Int32, gF_54 ad k = .int x
  exact List.forall_mem_cons.mpr ⟨⟨_, rfl⟩, List.forall_mem_cons.mpr ⟨⟨_, rfl⟩, fun _ h => absurd h List.not_mem_nil⟩⟩
theorem gFi_61 (ad : Nat → Nat) : ∀ k ∈ iFs 3, ∃ x : Int32, gF_61 ad k = .int x := by
  show ∀ k ∈ [6, 7], ∃ x : Int32, gF_61 ad k = .int x
  exact List.forall_mem_cons.mpr ⟨⟨_, rfl⟩, List.forall_mem_cons.mpr ⟨⟨_, rfl⟩, fun _ h => absurd h List.not_mem_nil⟩⟩
theorem gFi_68 (ad : Nat → Nat) : ∀ k ∈ iFs 3, ∃ x : Int32, gF_68 ad k = .int x := by
  show ∀ k ∈ [6, 7], ∃ x : Int32, gF_68 ad k = .int x
  exact List.forall_mem_cons.mpr ⟨⟨_, rfl⟩, List.forall_mem_cons.mpr ⟨⟨_, rfl⟩, fun _ h => absurd h List.not_mem_nil⟩⟩
theorem gFi_75 (ad : Nat → Nat) : ∀ k ∈ iFs 0, ∃ x : Int32, gF_75 ad k = .int x := by
  show ∀ k ∈ [2], ∃ x : Int32, gF_75 ad k = .int x
  exact List.forall_mem_cons.mpr ⟨⟨_, rfl⟩, fun _ h => absurd h List.not_mem_nil⟩
theorem gFi_78 (ad : Nat → Nat) : ∀ k ∈ iFs 1, ∃ x : Int32, gF_78 ad k = .int x := by
  show ∀ k ∈ [1, 2, 3], ∃ x : Int32, gF_78 ad k = .int x
  exact List.forall_mem_cons.mpr ⟨⟨_, rfl⟩, List.forall_mem_cons.mpr ⟨⟨_, rfl⟩, List.forall_mem_cons.mpr ⟨⟨_, rfl⟩, fun _ h => absurd h List.not_mem_nil⟩⟩⟩
theorem gFi_79 (ad : Nat → Nat) : ∀ k ∈ iFs 4, ∃ x : Int32, gF_79 ad k = .int x := by
  show ∀ k ∈ [1, 2, 3], ∃ x : Int32, gF_79 ad k = .int x
  exact List.forall_mem_cons.mpr ⟨⟨_, rfl⟩, List.forall_mem_cons.mpr ⟨⟨_, rfl⟩, List.forall_mem_cons.mpr ⟨⟨_, rfl⟩, fun _ h => absurd h List.not_mem_nil⟩⟩⟩
theorem gFi_80 (ad : Nat → Nat) : ∀ k ∈ iFs 2, ∃ x : Int32, gF_80 ad k = .int x := by
  show ∀ k ∈ [4, 5, 6, 7, 8], ∃ x : Int32, gF_80 ad k = .int x
  exact List.forall_mem_cons.mpr ⟨⟨_, rfl⟩, List.forall_mem_cons.mpr ⟨⟨_, rfl⟩, List.forall_mem_cons.mpr ⟨⟨_, rfl⟩, List.forall_mem_cons.mpr ⟨⟨_, rfl⟩, List.forall_mem_cons.mpr ⟨⟨_, rfl⟩, fun _ h => absurd h List.not_mem_nil⟩⟩⟩⟩⟩
theorem gFi_84 (ad : Nat → Nat) : ∀ k ∈ iFs 0, ∃ x : Int32, gF_84 ad k = .int x := by
  show ∀ k ∈ [2], ∃ x : Int32, gF_84 ad k = .int x
  exact List.forall_mem_cons.mpr ⟨⟨_, rfl⟩, fun _ h => absurd h List.not_mem_nil⟩
theorem gFi_87 (ad : Nat → Nat) : ∀ k ∈ iFs 0, ∃ x : Int32, gF_87 ad k = .int x := by
  show ∀ k ∈ [2], ∃ x : Int32, gF_87 ad k = .int x
  exact List.forall_mem_cons.mpr ⟨⟨_, rfl⟩, fun _ h => absurd h List.not_mem_nil⟩
theorem gFi_90 (ad : Nat → Nat) : ∀ k ∈ iFs 0, ∃ x : Int32, gF_90 ad k = .int x := by
  show ∀ k ∈ [2], ∃ x : Int32, gF_90 ad k = .int x
  exact List.forall_mem_cons.mpr ⟨⟨_, rfl⟩, fun _ h => absurd h List.not_mem_nil⟩
theorem gFi_93 (ad : Nat → Nat) : ∀ k ∈ iFs 0, ∃ x : Int32, gF_93 ad k = .int x := by
  show ∀ k ∈ [2], ∃ x : Int32, gF_93 ad k = .int x
  exact List.forall_mem_cons.mpr ⟨⟨_, rfl⟩, fun _ h => absurd h List.not_mem_nil⟩
theorem gFi_96 (ad : Nat → Nat) : ∀ k ∈ iFs 0, ∃ x : Int32, gF_96 ad k = .int x := by
  show ∀ k ∈ [2], ∃ x : Int32, gF_96 ad k = .int x
  exact List.forall_mem_cons.mpr ⟨⟨_, rfl⟩, fun _ h => absurd h List.not_mem_nil⟩
theorem gFi_99 (ad : Nat → Nat) : ∀ k ∈ iFs 0, ∃ x : Int32, gF_99 ad k = .int x := by
  show ∀ k ∈ [2], ∃ x : Int32, gF_99 ad k = .int x
  exact List.forall_mem_cons.mpr ⟨⟨_, rfl⟩, fun _ h => absurd h List.not_mem_nil⟩
theorem gFi_102 (ad : Nat → Nat) : ∀ k ∈ iFs 9, ∃ x : Int32, gF_102 ad k = .int x := by
  show ∀ k ∈ [4], ∃ x : Int32, gF_102 ad k = .int x
  exact List.forall_mem_cons.mpr ⟨⟨_, rfl⟩, fun _ h => absurd h List.not_mem_nil⟩
theorem gFi_120 (ad : Nat → Nat) : ∀ k ∈ iFs 8, ∃ x : Int32, gF_120 ad k = .int x := by
  show ∀ k ∈ [6], ∃ x : Int32, gF_120 ad k = .int x
  exact List.forall_mem_cons.mpr ⟨⟨_, rfl⟩, fun _ h => absurd h List.not_mem_nil⟩
theorem gFi_127 (ad : Nat → Nat) : ∀ k ∈ iFs 6, ∃ x : Int32, gF_127 ad k = .int x := by
  show ∀ k ∈ [1, 2, 3], ∃ x : Int32, gF_127 ad k = .int x
  exact List.forall_mem_cons.mpr ⟨⟨_, rfl⟩, List.forall_mem_cons.mpr ⟨⟨_, rfl⟩, List.forall_mem_cons.mpr ⟨⟨_, rfl⟩, fun _ h => absurd h List.not_mem_nil⟩⟩⟩
theorem gFi_129 (ad : Nat → Nat) : ∀ k ∈ iFs 12, ∃ x : Int32, gF_129 ad k = .int x := by
  show ∀ k ∈ [1, 2, 3, 4, 5, 6, 7, 8, 9, 18, 19, 20, 31, 32, 39, 40, 42, 43, 44, 45, 46, 47, 48, 49, 56, 57, 58, 59, 60, 61, 62, 63, 64, 65, 66, 75], ∃ x : Int32, gF_129 ad k = .int x
  exact List.forall_mem_cons.mpr ⟨⟨_, rfl⟩, List.forall_mem_cons.mpr ⟨⟨_, rfl⟩, List.forall_mem_cons.mpr ⟨⟨_, rfl⟩, List.forall_mem_cons.mpr ⟨⟨_, rfl⟩, List.forall_mem_cons.mpr ⟨⟨_, rfl⟩, List.forall_mem_cons.mpr ⟨⟨_, rfl⟩, List.forall_mem_cons.mpr ⟨⟨_, rfl⟩, List.forall_mem_cons.mpr ⟨⟨_, rfl⟩, List.forall_mem_cons.mpr ⟨⟨_, rfl⟩, List.forall_mem_cons.mpr ⟨⟨_, rfl⟩, List.forall_mem_cons.mpr ⟨⟨_, rfl⟩, List.forall_mem_cons.mpr ⟨⟨_, rfl⟩, List.forall_mem_cons.mpr ⟨⟨_, rfl⟩, List.forall_mem_cons.mpr ⟨⟨_, rfl⟩, List.forall_mem_cons.mpr ⟨⟨_, rfl⟩, List.forall_mem_cons.mpr ⟨⟨_, rfl⟩, List.forall_mem_cons.mpr ⟨⟨_, rfl⟩, List.forall_mem_cons.mpr ⟨⟨_, rfl⟩, List.forall_mem_cons.mpr ⟨⟨_, rfl⟩, List.forall_mem_cons.mpr ⟨⟨_, rfl⟩, List.forall_mem_cons.mpr ⟨⟨_, rfl⟩, List.forall_mem_cons.mpr ⟨⟨_, rfl⟩, List.forall_mem_cons.mpr ⟨⟨_, rfl⟩, List.forall_mem_cons.mpr ⟨⟨_, rfl⟩, List.forall_mem_cons.mpr ⟨⟨_, rfl⟩, List.forall_mem_cons.mpr ⟨⟨_, rfl⟩, List.forall_mem_cons.mpr ⟨⟨_, rfl⟩, List.forall_mem_cons.mpr ⟨⟨_, rfl⟩, List.forall_mem_cons.mpr ⟨⟨_, rfl⟩, List.forall_mem_cons.mpr ⟨⟨_, rfl⟩, List.forall_mem_cons.mpr ⟨⟨_, rfl⟩, List.forall_mem_cons.mpr ⟨⟨_, rfl⟩, List.forall_mem_cons.mpr ⟨⟨_, rfl⟩, List.forall_mem_cons.mpr ⟨⟨_, rfl⟩, List.forall_mem_cons.mpr ⟨⟨_, rfl⟩, List.forall_mem_cons.mpr ⟨⟨_, rfl⟩, fun _ h => absurd h List.not_mem_nil⟩⟩⟩⟩⟩⟩⟩⟩⟩⟩⟩⟩⟩⟩⟩⟩⟩⟩⟩⟩⟩⟩⟩⟩⟩⟩⟩⟩⟩⟩⟩⟩⟩⟩⟩⟩
theorem gF_shp0 (ad : Nat → Nat) (cA : Nat → ClassId) : Shp0 cA (gF ad cA) := by
  intro i hi
  unfold NN at hi
  match i, hi with
  | 0, _ => exact ⟨_, rfl, gFi_0 ad⟩
  | 1, _ => exact ⟨_, rfl, gFi_1 ad⟩
  | 2, _ => exact ⟨_, rfl⟩
  | 3, _ => exact ⟨_, rfl, gFi_3 ad⟩
  | 4, _ => exact ⟨_, rfl⟩
  | 5, _ => exact ⟨_, rfl⟩
  | 6, _ => exact ⟨_, rfl⟩
  | 7, _ => exact ⟨_, rfl⟩
  | 8, _ => exact ⟨_, rfl⟩
  | 9, _ => exact ⟨_, rfl⟩
  | 10, _ => exact ⟨_, rfl⟩
  | 11, _ => exact ⟨_, rfl⟩
  | 12, _ => exact ⟨_, rfl⟩
  | 13, _ => exact ⟨_, rfl⟩
  | 14, _ => exact ⟨_, rfl⟩
  | 15, _ => exact ⟨_, rfl⟩
  | 16, _ => exact ⟨_, rfl⟩
  | 17, _ => exact ⟨_, rfl⟩
  | 18, _ => exact ⟨_, rfl, gFi_18 ad⟩
  | 19, _ => exact ⟨_, rfl⟩
  | 20, _ => exact ⟨_, rfl⟩
  | 21, _ => exact ⟨_, rfl⟩
  | 22, _ => exact ⟨_, rfl⟩
  | 23, _ => exact ⟨_, rfl⟩
  | 24, _ => exact ⟨_, rfl⟩
  | 25, _ => exact ⟨_, rfl⟩
  | 26, _ => exact ⟨_, rfl⟩
  | 27, _ => exact ⟨_, rfl⟩
  | 28, _ => exact ⟨_, rfl⟩
  | 29, _ => exact ⟨_, rfl⟩
  | 30, _ => exact ⟨_, rfl, gFi_30 ad⟩
  | 31, _ => exact ⟨_, rfl⟩
  | 32, _ => exact ⟨_, rfl⟩
  | 33, _ => exact ⟨_, rfl⟩
  | 34, _ => exact ⟨_, rfl⟩
  | 35, _ => exact ⟨_, rfl⟩
  | 36, _ => exact ⟨_, rfl⟩
  | 37, _ => exact ⟨_, rfl⟩
  | 38, _ => exact ⟨_, rfl⟩
  | 39, _ => exact ⟨_, rfl⟩
  | 40, _ => exact ⟨_, rfl⟩
  | 41, _ => exact ⟨_, rfl⟩
  | 42, _ => exact ⟨_, rfl, gFi_42 ad⟩
  | 43, _ => exact ⟨_, rfl⟩
  | 44, _ => exact ⟨_, rfl⟩
  | 45, _ => exact ⟨_, rfl⟩
  | 46, _ => exact ⟨_, rfl⟩
  | 47, _ => exact ⟨_, rfl⟩
  | 48, _ => exact ⟨_, rfl⟩
  | 49, _ => exact ⟨_, rfl⟩
  | 50, _ => exact ⟨_, rfl⟩
  | 51, _ => exact ⟨_, rfl⟩
  | 52, _ => exact ⟨_, rfl⟩
  | 53, _ => exact ⟨_, rfl⟩
  | 54, _ => exact ⟨_, rfl, gFi_54 ad⟩
  | 55, _ => exact ⟨_, rfl⟩
  | 56, _ => exact ⟨_, rfl⟩
  | 57, _ => exact ⟨_, rfl⟩
  | 58, _ => exact ⟨_, rfl⟩
  | 59, _ => exact ⟨_, rfl⟩
  | 60, _ => exact ⟨_, rfl⟩
  | 61, _ => exact ⟨_, rfl, gFi_61 ad⟩
  | 62, _ => exact ⟨_, rfl⟩
  | 63, _ => exact ⟨_, rfl⟩
  | 64, _ => exact ⟨_, rfl⟩
  | 65, _ => exact ⟨_, rfl⟩
  | 66, _ => exact ⟨_, rfl⟩
  | 67, _ => exact ⟨_, rfl⟩
  | 68, _ => exact ⟨_, rfl, gFi_68 ad⟩
  | 69, _ => exact ⟨_, rfl⟩
  | 70, _ => exact ⟨_, rfl⟩
  | 71, _ => exact ⟨_, rfl⟩
  | 72, _ => exact ⟨_, rfl⟩
  | 73, _ => exact ⟨_, rfl⟩
  | 74, _ => exact ⟨_, rfl⟩
  | 75, _ => exact ⟨_, rfl, gFi_75 ad⟩
  | 76, _ => exact ⟨_, rfl⟩
  | 77, _ => exact ⟨_, rfl⟩
  | 78, _ => exact ⟨_, rfl, gFi_78 ad⟩
  | 79, _ => exact ⟨_, rfl, gFi_79 ad⟩
  | 80, _ => exact ⟨_, rfl, gFi_80 ad⟩
  | 81, _ => exact ⟨_, rfl⟩
  | 82, _ => exact ⟨_, rfl⟩
  | 83, _ => exact ⟨_, rfl⟩
  | 84, _ => exact ⟨_, rfl, gFi_84 ad⟩
  | 85, _ => exact ⟨_, rfl⟩
  | 86, _ => exact ⟨_, rfl⟩
  | 87, _ => exact ⟨_, rfl, gFi_87 ad⟩
  | 88, _ => exact ⟨_, rfl⟩
  | 89, _ => exact ⟨_, rfl⟩
  | 90, _ => exact ⟨_, rfl, gFi_90 ad⟩
  | 91, _ => exact ⟨_, rfl⟩
  | 92, _ => exact ⟨_, rfl⟩
  | 93, _ => exact ⟨_, rfl, gFi_93 ad⟩
  | 94, _ => exact ⟨_, rfl⟩
  | 95, _ => exact ⟨_, rfl⟩
  | 96, _ => exact ⟨_, rfl, gFi_96 ad⟩
  | 97, _ => exact ⟨_, rfl⟩
  | 98, _ => exact ⟨_, rfl⟩
  | 99, _ => exact ⟨_, rfl, gFi_99 ad⟩
  | 100, _ => exact ⟨_, rfl⟩
  | 101, _ => exact ⟨_, rfl⟩
  | 102, _ => exact ⟨_, rfl, gFi_102 ad⟩
  | 103, _ => exact ⟨_, rfl⟩
  | 104, _ => exact ⟨_, rfl⟩
  | 105, _ => exact ⟨_, rfl⟩
  | 106, _ => exact ⟨_, rfl⟩
  | 107, _ => exact ⟨_, rfl⟩
  | 108, _ => exact ⟨_, rfl⟩
  | 109, _ => exact ⟨_, rfl⟩
  | 110, _ => exact ⟨_, rfl⟩
  | 111, _ => exact ⟨_, rfl⟩
  | 112, _ => exact ⟨_, rfl⟩
  | 113, _ => exact ⟨_, rfl⟩
  | 114, _ => exact ⟨_, rfl⟩
  | 115, _ => exact ⟨_, rfl⟩
  | 116, _ => exact ⟨_, rfl⟩
  | 117, _ => exact ⟨_, rfl⟩
  | 118, _ => exact ⟨_, rfl⟩
  | 119, _ => exact ⟨_, rfl⟩
  | 120, _ => exact ⟨_, rfl, gFi_120 ad⟩
  | 121, _ => exact ⟨_, rfl⟩
  | 122, _ => exact ⟨_, rfl⟩
  | 123, _ => exact ⟨_, rfl⟩
  | 124, _ => exact ⟨_, rfl⟩
  | 125, _ => exact ⟨_, rfl⟩
  | 126, _ => exact ⟨_, rfl⟩
  | 127, _ => exact ⟨_, rfl, gFi_127 ad⟩
  | 128, _ => exact ⟨_, rfl⟩
  | 129, _ => exact ⟨_, rfl, gFi_129 ad⟩
  | 130, _ => exact ⟨_, rfl⟩
  | 131, _ => exact ⟨_, rfl⟩
  | 132, _ => exact ⟨_, rfl⟩
  | 133, _ => exact ⟨_, rfl⟩
  | 134, _ => exact ⟨_, rfl⟩
  | 135, _ => exact ⟨_, rfl⟩
  | 136, _ => exact ⟨_, rfl⟩
  | 137, _ => exact ⟨_, rfl⟩
  | 138, _ => exact ⟨_, rfl⟩
  | 139, _ => exact ⟨_, rfl⟩
  | 140, _ => exact ⟨_, rfl⟩
  | 141, _ => exact ⟨_, rfl⟩
  | 142, _ => exact ⟨_, rfl⟩
  | 143, _ => exact ⟨_, rfl⟩
  | 144, _ => exact ⟨_, rfl⟩
  | 145, _ => exact ⟨_, rfl⟩
  | 146, _ => exact ⟨_, rfl⟩
  | 147, _ => exact ⟨_, rfl⟩
  | 148, _ => exact ⟨_, rfl⟩
  | 149, _ => exact ⟨_, rfl⟩
  | 150, _ => exact ⟨_, rfl⟩
  | 151, _ => exact ⟨_, rfl⟩
  | 152, _ => exact ⟨_, rfl⟩
  | 153, _ => exact ⟨_, rfl⟩
  | 154, _ => exact ⟨_, rfl⟩
  | 155, _ => exact ⟨_, rfl⟩
  | 156, _ => exact ⟨_, rfl⟩
  | 157, _ => exact ⟨_, rfl⟩
  | 158, _ => exact ⟨_, rfl⟩
  | 159, _ => exact ⟨_, rfl⟩
  | 160, _ => exact ⟨_, rfl⟩
  | 161, _ => exact ⟨_, rfl⟩
  | 162, _ => exact ⟨_, rfl⟩
  | 163, _ => exact ⟨_, rfl⟩
  | 164, _ => exact ⟨_, rfl⟩
  | 165, _ => exact ⟨_, rfl⟩
  | 166, _ => exact ⟨_, rfl⟩
  | 167, _ => exact ⟨_, rfl⟩
  | 168, _ => exact ⟨_, rfl⟩
  | 169, _ => exact ⟨_, rfl⟩
  | 170, _ => exact ⟨_, rfl⟩
  | 171, _ => exact ⟨_, rfl⟩
  | 172, _ => exact ⟨_, rfl⟩
  | 173, _ => exact ⟨_, rfl⟩
  | 174, _ => exact ⟨_, rfl⟩
  | 175, _ => exact ⟨_, rfl⟩
  | 176, _ => exact ⟨_, rfl⟩
  | 177, _ => exact ⟨_, rfl⟩
  | 178, _ => exact ⟨_, rfl⟩
  | 179, _ => exact ⟨_, rfl⟩
  | n + 180, h => exact absurd h (by omega)
set_option maxRecDepth 100000 in
theorem gF_rf (ad : Nat → Nat) (cA : Nat → ClassId) : ∀ q ∈ rfL, fld (gF ad cA) q.1 q.2.1 = .ref (ad q.2.2) := by
  show ∀ q ∈ [(0, 0, 1), (0, 1, 3), (0, 2, 80), (0, 3, 102), (0, 4, 120), (0, 5, 127), (0, 6, 78), (0, 7, 79), (0, 8, 75), (0, 9, 61), (0, 10, 18), (0, 11, 30), (0, 12, 42), (1, 0, 2), (3, 0, 4), (3, 1, 5), (18, 0, 19), (18, 1, 20), (18, 2, 21), (30, 0, 31), (30, 1, 32), (30, 2, 33), (42, 0, 43), (42, 1, 44), (42, 2, 45), (54, 0, 55), (54, 1, 56), (54, 2, 57), (54, 3, 58), (54, 4, 59), (54, 5, 60), (61, 0, 62), (61, 1, 63), (61, 2, 64), (61, 3, 65), (61, 4, 66), (61, 5, 67), (68, 0, 69), (68, 1, 70), (68, 2, 71), (68, 3, 72), (68, 4, 73), (68, 5, 74), (75, 0, 76), (75, 1, 77), (78, 0, 2), (79, 0, 2), (80, 0, 3), (80, 1, 81), (80, 2, 82), (80, 3, 83), (84, 0, 85), (84, 1, 86), (87, 0, 88), (87, 1, 89), (90, 0, 91), (90, 1, 92), (93, 0, 94), (93, 1, 95), (96, 0, 97), (96, 1, 98), (99, 0, 100), (99, 1, 101), (102, 0, 103), (102, 1, 112), (102, 2, 118), (102, 3, 119), (120, 0, 121), (120, 1, 122), (120, 2, 123), (120, 3, 124), (120, 4, 125), (120, 5, 126), (127, 0, 128), (129, 0, 130), (129, 10, 131), (129, 11, 132), (129, 12, 133), (129, 13, 134), (129, 14, 135), (129, 15, 136), (129, 16, 137), (129, 17, 138), (129, 21, 139), (129, 22, 140), (129, 23, 141), (129, 24, 142), (129, 25, 143), (129, 26, 144), (129, 27, 145), (129, 28, 146), (129, 29, 147), (129, 30, 148), (129, 33, 149), (129, 34, 150), (129, 35, 151), (129, 36, 152), (129, 37, 153), (129, 38, 154), (129, 41, 155), (129, 50, 156), (129, 51, 157), (129, 52, 158), (129, 53, 159), (129, 54, 160), (129, 55, 161), (129, 67, 162), (129, 68, 163), (129, 69, 164), (129, 70, 165), (129, 71, 166), (129, 72, 167), (129, 73, 168), (129, 74, 169), (129, 76, 170), (129, 77, 171), (129, 78, 172), (129, 79, 173), (129, 80, 174), (129, 81, 175), (129, 82, 176), (129, 83, 177), (129, 84, 178), (129, 85, 179)], fld (gF ad cA) q.1 q.2.1 = .ref (ad q.2.2)
  exact List.forall_mem_cons.mpr ⟨rfl, List.forall_mem_cons.mpr ⟨rfl, List.forall_mem_cons.mpr ⟨rfl, List.forall_mem_cons.mpr ⟨rfl, List.forall_mem_cons.mpr ⟨rfl, List.forall_mem_cons.mpr ⟨rfl, List.forall_mem_cons.mpr ⟨rfl, List.forall_mem_cons.mpr ⟨rfl, List.forall_mem_cons.mpr ⟨rfl, List.forall_mem_cons.mpr ⟨rfl, List.forall_mem_cons.mpr ⟨rfl, List.forall_mem_cons.mpr ⟨rfl, List.forall_mem_cons.mpr ⟨rfl, List.forall_mem_cons.mpr ⟨rfl, List.forall_mem_cons.mpr ⟨rfl, List.forall_mem_cons.mpr ⟨rfl, List.forall_mem_cons.mpr ⟨rfl, List.forall_mem_cons.mpr ⟨rfl, List.forall_mem_cons.mpr ⟨rfl, List.forall_mem_cons.mpr ⟨rfl, List.forall_mem_cons.mpr ⟨rfl, List.forall_mem_cons.mpr ⟨rfl, List.forall_mem_cons.mpr ⟨rfl, List.forall_mem_cons.mpr ⟨rfl, List.forall_mem_cons.mpr ⟨rfl, List.forall_mem_cons.mpr ⟨rfl, List.forall_mem_cons.mpr ⟨rfl, List.forall_mem_cons.mpr ⟨rfl, List.forall_mem_cons.mpr ⟨rfl, List.forall_mem_cons.mpr ⟨rfl, List.forall_mem_cons.mpr ⟨rfl, List.forall_mem_cons.mpr ⟨rfl, List.forall_mem_cons.mpr ⟨rfl, List.forall_mem_cons.mpr ⟨rfl, List.forall_mem_cons.mpr ⟨rfl, List.forall_mem_cons.mpr ⟨rfl, List.forall_mem_cons.mpr ⟨rfl, List.forall_mem_cons.mpr ⟨rfl, List.forall_mem_cons.mpr ⟨rfl, List.forall_mem_cons.mpr ⟨rfl, List.forall_mem_cons.mpr ⟨rfl, List.forall_mem_cons.mpr ⟨rfl, List.forall_mem_cons.mpr ⟨rfl, List.forall_mem_cons.mpr ⟨rfl, List.forall_mem_cons.mpr ⟨rfl, List.forall_mem_cons.mpr ⟨rfl, List.forall_mem_cons.mpr ⟨rfl, List.forall_mem_cons.mpr ⟨rfl, List.forall_mem_cons.mpr ⟨rfl, List.forall_mem_cons.mpr ⟨rfl, List.forall_mem_cons.mpr ⟨rfl, List.forall_mem_cons.mpr ⟨rfl, List.forall_mem_cons.mpr ⟨rfl, List.forall_mem_cons.mpr ⟨rfl, List.forall_mem_cons.mpr ⟨rfl, List.forall_mem_cons.mpr ⟨rfl, List.forall_mem_cons.mpr ⟨rfl, List.forall_mem_cons.mpr ⟨rfl, List.forall_mem_cons.mpr ⟨rfl, List.forall_mem_cons.mpr ⟨rfl, List.forall_mem_cons.mpr ⟨rfl, List.forall_mem_cons.mpr ⟨rfl, List.forall_mem_cons.mpr ⟨rfl, List.forall_mem_cons.mpr ⟨rfl, List.forall_mem_cons.mpr ⟨rfl, List.forall_mem_cons.mpr ⟨rfl, List.forall_mem_cons.mpr ⟨rfl, List.forall_mem_cons.mpr ⟨rfl, List.forall_mem_cons.mpr ⟨rfl, List.forall_mem_cons.mpr ⟨rfl, List.forall_mem_cons.mpr ⟨rfl, List.forall_mem_cons.mpr ⟨rfl, List.forall_mem_cons.mpr ⟨rfl, List.forall_mem_cons.mpr ⟨rfl, List.forall_mem_cons.mpr ⟨rfl, List.forall_mem_cons.mpr ⟨rfl, List.forall_mem_cons.mpr ⟨rfl, List.forall_mem_cons.mpr ⟨rfl, List.forall_mem_cons.mpr ⟨rfl, List.forall_mem_cons.mpr ⟨rfl, List.forall_mem_cons.mpr ⟨rfl, List.forall_mem_cons.mpr ⟨rfl, List.forall_mem_cons.mpr ⟨rfl, List.forall_mem_cons.mpr ⟨rfl, List.forall_mem_cons.mpr ⟨rfl, List.forall_mem_cons.mpr ⟨rfl, List.forall_mem_cons.mpr ⟨rfl, List.forall_mem_cons.mpr ⟨rfl, List.forall_mem_cons.mpr ⟨rfl, List.forall_mem_cons.mpr ⟨rfl, List.forall_mem_cons.mpr ⟨rfl, List.forall_mem_cons.mpr ⟨rfl, List.forall_mem_cons.mpr ⟨rfl, List.forall_mem_cons.mpr ⟨rfl, List.forall_mem_cons.mpr ⟨rfl, List.forall_mem_cons.mpr ⟨rfl, List.forall_mem_cons.mpr ⟨rfl, List.forall_mem_cons.mpr ⟨rfl, List.forall_mem_cons.mpr ⟨rfl, List.forall_mem_cons.mpr ⟨rfl, List.forall_mem_cons.mpr ⟨rfl, List.forall_mem_cons.mpr ⟨rfl, List.forall_mem_cons.mpr ⟨rfl, List.forall_mem_cons.mpr ⟨rfl, List.forall_mem_cons.mpr ⟨rfl, List.forall_mem_cons.mpr ⟨rfl, List.forall_mem_cons.mpr ⟨rfl, List.forall_mem_cons.mpr ⟨rfl, List.forall_mem_cons.mpr ⟨rfl, List.forall_mem_cons.mpr ⟨rfl, List.forall_mem_cons.mpr ⟨rfl, List.forall_mem_cons.mpr ⟨rfl, List.forall_mem_cons.mpr ⟨rfl, List.forall_mem_cons.mpr ⟨rfl, List.forall_mem_cons.mpr ⟨rfl, List.forall_mem_cons.mpr ⟨rfl, List.forall_mem_cons.mpr ⟨rfl, List.forall_mem_cons.mpr ⟨rfl, List.forall_mem_cons.mpr ⟨rfl, List.forall_mem_cons.mpr ⟨rfl, List.forall_mem_cons.mpr ⟨rfl, List.forall_mem_cons.mpr ⟨rfl, List.forall_mem_cons.mpr ⟨rfl, List.forall_mem_cons.mpr ⟨rfl, fun _ h => absurd h List.not_mem_nil⟩⟩⟩⟩⟩⟩⟩⟩⟩⟩⟩⟩⟩⟩⟩⟩⟩⟩⟩⟩⟩⟩⟩⟩⟩⟩⟩⟩⟩⟩⟩⟩⟩⟩⟩⟩⟩⟩⟩⟩⟩⟩⟩⟩⟩⟩⟩⟩⟩⟩⟩⟩⟩⟩⟩⟩⟩⟩⟩⟩⟩⟩⟩⟩⟩⟩⟩⟩⟩⟩⟩⟩⟩⟩⟩⟩⟩⟩⟩⟩⟩⟩⟩⟩⟩⟩⟩⟩⟩⟩⟩⟩⟩⟩⟩⟩⟩⟩⟩⟩⟩⟩⟩⟩⟩⟩⟩⟩⟩⟩⟩⟩⟩⟩⟩⟩⟩⟩⟩⟩⟩⟩⟩⟩
theorem gF_shp (ad : Nat → Nat) (cA : Nat → ClassId) : Shp ad cA (gF ad cA) := by
  refine ⟨gF_shp0 ad cA, gF_rf ad cA, ?_⟩
  show ∀ q ∈ [(5, 12, 6, 1), (21, 8, 22, 1), (33, 8, 34, 1), (45, 8, 46, 1), (81, 6, 84, 3), (103, 8, 104, 1), (112, 5, 113, 1)], arQ (gF ad cA) q.1 = fun j => if j < q.2.1 then some (ad (q.2.2.1 + q.2.2.2 * j)) else none
  exact List.forall_mem_cons.mpr ⟨rfl, List.forall_mem_cons.mpr ⟨rfl, List.forall_mem_cons.mpr ⟨rfl, List.forall_mem_cons.mpr ⟨rfl, List.forall_mem_cons.mpr ⟨rfl, List.forall_mem_cons.mpr ⟨rfl, List.forall_mem_cons.mpr ⟨rfl, fun _ h => absurd h List.not_mem_nil⟩⟩⟩⟩⟩⟩⟩
end
section
theorem dX11_within_0 : decode cX11_within 0 = .ok (.iload_n 0, 1) := by decide +kernel
theorem dX11_within_1 : decode cX11_within 1 = .ok (.iload_n 1, 1) := by decide +kernel
theorem dX11_within_2 : decode cX11_within 2 = .ok (.if_icmp .lt 12, 3) := by decide +kernel
theorem dX11_within_5 : decode cX11_within 5 = .ok (.iload_n 0, 1) := by decide +kernel
theorem dX11_within_6 : decode cX11_within 6 = .ok (.iload_n 2, 1) := by decide +kernel
theorem dX11_within_7 : decode cX11_within 7 = .ok (.if_icmp .gt 7, 3) := by decide +kernel
theorem dX11_within_10 : decode cX11_within 10 = .ok (.iconst 1, 1) := by decide +kernel
theorem dX11_within_11 : decode cX11_within 11 = .ok (.goto 4, 3) := by decide +kernel
theorem dX11_within_14 : decode cX11_within 14 = .ok (.iconst 0, 1) := by decide +kernel
theorem dX11_within_15 : decode cX11_within 15 = .ok (.ireturn, 1) := by decide +kernel
set_option maxRecDepth 100000 in
set_option maxHeartbeats 4000000 in
theorem c_X11_within (l : Launch) (D : va_G) (cA : Nat → ClassId) (ad : Nat → Nat) (g0 : Nat → va_E) (n a b : Int32) (hSh : Shp ad cA g0) : CT l NN ad cA D yX11_within cX11_within 3 (some FieldType.boolean) (0, 0) [.int n, .int a, .int b] g0 (PU g0 (fun r => (r.toInt = 1 ∧ a.toInt ≤ n.toInt ∧ n.toInt ≤ b.toInt) ∨ (r.toInt = 0 ∧ (n.toInt < a.toInt ∨ b.toInt < n.toInt)))) := by
  refine q_enterZ (by decide) (Nat.le_of_ble_eq_true rfl) (fun K H locs ls _ _ hM hW0 hR hC hE hl => ?_)
  have hl : lv_has ls 3 [(0, .int n), (1, .int a), (2, .int b)] := hl
  have hW : WS ad cA (fun i k => False) g0 K g0 H locs := ⟨hW0, hSh, FR.rf⟩
  refine q_iload_n hM dX11_within_0 (lv_at hl 0 rfl) ?_
  refine q_iload_n hM dX11_within_1 (lv_at hl 1 rfl) ?_
  refine q_icmp_lt (tgt := 14) hM dX11_within_2 (by decide) (rfl : n.toInt = n.toInt) (rfl : a.toInt = a.toInt) (fun h2 => ?_) (fun h2 => ?_)
  · refine q_iconst (v := (0 : Int32)) hM dX11_within_14 (by decide) ?_
    exact hE _ _ _ _ _ _ hW.1 nz_0 ⟨_, rfl, (by have := kc_0; omega), rfl⟩ dX11_within_15
  · refine q_iload_n hM dX11_within_5 (lv_at hl 0 rfl) ?_
    refine q_iload_n hM dX11_within_6 (lv_at hl 2 rfl) ?_
    refine q_icmp_gt (tgt := 14) hM dX11_within_7 (by decide) (rfl : n.toInt = n.toInt) (rfl : b.toInt = b.toInt) (fun h7 => ?_) (fun h7 => ?_)
    · refine q_iconst (v := (0 : Int32)) hM dX11_within_14 (by decide) ?_
      exact hE _ _ _ _ _ _ hW.1 nz_0 ⟨_, rfl, (by have := kc_0; omega), rfl⟩ dX11_within_15
    · refine q_iconst (v := (1 : Int32)) hM dX11_within_10 (by decide) ?_
      refine q_goto (tgt := 15) hM dX11_within_11 (by decide) ?_
      exact hE _ _ _ _ _ _ hW.1 nz_1 ⟨_, rfl, (by have := kc_1; omega), rfl⟩ dX11_within_15

theorem dX11_has_0 : decode cX11_has 0 = .ok (.iload_n 1, 1) := by decide +kernel
theorem dX11_has_1 : decode cX11_has 1 = .ok (.ifCond .lt 22, 3) := by decide +kernel
theorem dX11_has_4 : decode cX11_has 4 = .ok (.iload_n 1, 1) := by decide +kernel
theorem dX11_has_5 : decode cX11_has 5 = .ok (.bipush 31, 2) := by decide +kernel
theorem dX11_has_7 : decode cX11_has 7 = .ok (.if_icmp .ge 16, 3) := by decide +kernel
theorem dX11_has_10 : decode cX11_has 10 = .ok (.iload_n 0, 1) := by decide +kernel
theorem dX11_has_11 : decode cX11_has 11 = .ok (.iload_n 1, 1) := by decide +kernel
theorem dX11_has_12 : decode cX11_has 12 = .ok (.ishr, 1) := by decide +kernel
theorem dX11_has_13 : decode cX11_has 13 = .ok (.iconst 1, 1) := by decide +kernel
theorem dX11_has_14 : decode cX11_has 14 = .ok (.iand, 1) := by decide +kernel
theorem dX11_has_15 : decode cX11_has 15 = .ok (.iconst 1, 1) := by decide +kernel
theorem dX11_has_16 : decode cX11_has 16 = .ok (.if_icmp .ne 7, 3) := by decide +kernel
theorem dX11_has_19 : decode cX11_has 19 = .ok (.iconst 1, 1) := by decide +kernel
theorem dX11_has_20 : decode cX11_has 20 = .ok (.goto 4, 3) := by decide +kernel
theorem dX11_has_23 : decode cX11_has 23 = .ok (.iconst 0, 1) := by decide +kernel
theorem dX11_has_24 : decode cX11_has 24 = .ok (.ireturn, 1) := by decide +kernel
set_option maxRecDepth 100000 in
set_option maxHeartbeats 4000000 in
theorem c_X11_has (l : Launch) (D : va_G) (cA : Nat → ClassId) (ad : Nat → Nat) (g0 : Nat → va_E) (b i : Int32) (hSh : Shp ad cA g0) : CT l NN ad cA D yX11_has cX11_has 2 (some FieldType.boolean) (0, 0) [.int b, .int i] g0 (PU g0 (fun r => (r.toInt = 1 ∧ 0 ≤ i.toInt ∧ i.toInt < 31 ∧ bt b i.toInt.toNat = true) ∨ (r.toInt = 0 ∧ (i.toInt < 0 ∨ 31 ≤ i.toInt ∨ bt b i.toInt.toNat = false)))) := by
  refine q_enterZ (by decide) (Nat.le_of_ble_eq_true rfl) (fun K H locs ls _ _ hM hW0 hR hC hE hl => ?_)
  have hl : lv_has ls 2 [(0, .int b), (1, .int i)] := hl
  have hW : WS ad cA (fun i k => False) g0 K g0 H locs := ⟨hW0, hSh, FR.rf⟩
  refine q_iload_n hM dX11_has_0 (lv_at hl 1 rfl) ?_
  refine q_if_lt (tgt := 23) hM dX11_has_1 (by decide) (rfl : i.toInt = i.toInt) (fun h1 => ?_) (fun h1 => ?_)
  · refine q_iconst (v := (0 : Int32)) hM dX11_has_23 (by decide) ?_
    exact hE _ _ _ _ _ _ hW.1 nz_0 ⟨_, rfl, (Or.inr ⟨kc_0, by first | exact Or.inl (by omega) | exact Or.inr (Or.inl (by omega)) | exact Or.inr (Or.inr (has_is0 (by omega) (by omega) (by subst_vars; assumption)))⟩), rfl⟩ dX11_has_24
  · refine q_iload_n hM dX11_has_4 (lv_at hl 1 rfl) ?_
    refine q_bipush (v := (31 : Int32)) hM dX11_has_5 (by decide) ?_
    refine q_icmp_ge (tgt := 23) hM dX11_has_7 (by decide) (rfl : i.toInt = i.toInt) (kc_31 : (31 : Int32).toInt = 31) (fun h7 => ?_) (fun h7 => ?_)
    · refine q_iconst (v := (0 : Int32)) hM dX11_has_23 (by decide) ?_
      exact hE _ _ _ _ _ _ hW.1 nz_0 ⟨_, rfl, (Or.inr ⟨kc_0, by first | exact Or.inl (by omega) | exact Or.inr (Or.inl (by omega)) | exact Or.inr (Or.inr (has_is0 (by omega) (by omega) (by subst_vars; assumption)))⟩), rfl⟩ dX11_has_24
    · refine q_iload_n hM dX11_has_10 (lv_at hl 0 rfl) ?_
      refine q_iload_n hM dX11_has_11 (lv_at hl 1 rfl) ?_
      refine q_ishr hM dX11_has_12 (fun z1 hz1 => ?_)
      refine q_iconst (v := (1 : Int32)) hM dX11_has_13 (by decide) ?_
      refine q_iand hM dX11_has_14 (fun z2 hz2 => ?_)
      refine q_iconst (v := (1 : Int32)) hM dX11_has_15 (by decide) ?_
      refine q_icmp_ne (tgt := 23) hM dX11_has_16 (by decide) (rfl : z2.toInt = z2.toInt) (kc_1 : (1 : Int32).toInt = 1) (fun h16 => ?_) (fun h16 => ?_)
      · refine q_iconst (v := (0 : Int32)) hM dX11_has_23 (by decide) ?_
        exact hE _ _ _ _ _ _ hW.1 nz_0 ⟨_, rfl, (Or.inr ⟨kc_0, by first | exact Or.inl (by omega) | exact Or.inr (Or.inl (by omega)) | exact Or.inr (Or.inr (has_is0 (by omega) (by omega) (by subst_vars; assumption)))⟩), rfl⟩ dX11_has_24
      · refine q_iconst (v := (1 : Int32)) hM dX11_has_19 (by decide) ?_
        refine q_goto (tgt := 24) hM dX11_has_20 (by decide) ?_
        exact hE _ _ _ _ _ _ hW.1 nz_1 ⟨_, rfl, (Or.inl ⟨kc_1, by omega, by omega, has_is1 (by omega) (by omega) (by subst_vars; assumption)⟩), rfl⟩ dX11_has_24

theorem dX11_areOf_0 : decode cX11_areOf 0 = .ok (.iload_n 0, 1) := by decide +kernel
theorem dX11_areOf_1 : decode cX11_areOf 1 = .ok (.iload_n 1, 1) := by decide +kernel
theorem dX11_areOf_2 : decode cX11_areOf 2 = .ok (.iconst (-1), 1) := by decide +kernel
theorem dX11_areOf_3 : decode cX11_areOf 3 = .ok (.ixor, 1) := by decide +kernel
theorem dX11_areOf_4 : decode cX11_areOf 4 = .ok (.iand, 1) := by decide +kernel
theorem dX11_areOf_5 : decode cX11_areOf 5 = .ok (.ifCond .ne 7, 3) := by decide +kernel
theorem dX11_areOf_8 : decode cX11_areOf 8 = .ok (.iconst 1, 1) := by decide +kernel
theorem dX11_areOf_9 : decode cX11_areOf 9 = .ok (.goto 4, 3) := by decide +kernel
theorem dX11_areOf_12 : decode cX11_areOf 12 = .ok (.iconst 0, 1) := by decide +kernel
theorem dX11_areOf_13 : decode cX11_areOf 13 = .ok (.ireturn, 1) := by decide +kernel
set_option maxRecDepth 100000 in
set_option maxHeartbeats 4000000 in
theorem c_X11_areOf (l : Launch) (D : va_G) (cA : Nat → ClassId) (ad : Nat → Nat) (g0 : Nat → va_E) (b t : Int32) (hSh : Shp ad cA g0) : CT l NN ad cA D yX11_areOf cX11_areOf 2 (some FieldType.boolean) (0, 0) [.int b, .int t] g0 (PU g0 (fun r => (r.toInt = 1 ∧ b &&& (t ^^^ (-1)) = 0) ∨ (r.toInt = 0 ∧ ¬ b &&& (t ^^^ (-1)) = 0))) := by
  refine q_enterZ (by decide) (Nat.le_of_ble_eq_true rfl) (fun K H locs ls _ _ hM hW0 hR hC hE hl => ?_)
  have hl : lv_has ls 2 [(0, .int b), (1, .int t)] := hl
  have hW : WS ad cA (fun i k => False) g0 K g0 H locs := ⟨hW0, hSh, FR.rf⟩
  refine q_iload_n hM dX11_areOf_0 (lv_at hl 0 rfl) ?_
  refine q_iload_n hM dX11_areOf_1 (lv_at hl 1 rfl) ?_
  refine q_iconst (v := ((-1) : Int32)) hM dX11_areOf_2 (by decide) ?_
  refine q_ixor hM dX11_areOf_3 (fun z3 hz3 => ?_)
  refine q_iand hM dX11_areOf_4 (fun z4 hz4 => ?_)
  refine q_if_ne (tgt := 12) hM dX11_areOf_5 (by decide) (rfl : z4.toInt = z4.toInt) (fun h5 => ?_) (fun h5 => ?_)
  · refine q_iconst (v := (0 : Int32)) hM dX11_areOf_12 (by decide) ?_
    exact hE _ _ _ _ _ _ hW.1 nz_0 ⟨_, rfl, (Or.inr ⟨kc_0, fun hh => h5 (by subst_vars; rw [hh]; rfl)⟩), rfl⟩ dX11_areOf_13
  · refine q_iconst (v := (1 : Int32)) hM dX11_areOf_8 (by decide) ?_
    refine q_goto (tgt := 13) hM dX11_areOf_9 (by decide) ?_
    exact hE _ _ _ _ _ _ hW.1 nz_1 ⟨_, rfl, (Or.inl ⟨kc_1, Int32.toInt_inj.mp (by subst_vars; exact h5.trans kc_0.symm)⟩), rfl⟩ dX11_areOf_13

def bcF (i : Int32) : Int32 :=
  let sh (x s : Int32) : Int32 := (x.toUInt32 >>> (s.toUInt32 &&& Int32.toUInt32 31)).toInt32
  let a := i - (sh i 1 &&& 1431655765)
  let b := (a &&& 858993459) + (sh a 2 &&& 858993459)
  let c := (b + sh b 4) &&& 252645135
  let d := c + sh c 8
  let e := d + sh d 16
  e &&& 63
theorem bcF_0 : bcF 0 = 0 := by decide +kernel
theorem bcF_pos : ∀ n : Nat, n < 64 → n ≠ 0 → bcF (nI n) ≠ 0 := by decide +kernel

theorem dJ6_bitCount_0f7a4_0 : decode cJ6_bitCount_0f7a4 0 = .ok (.iload_n 0, 1) := by decide +kernel
theorem dJ6_bitCount_0f7a4_1 : decode cJ6_bitCount_0f7a4 1 = .ok (.iload_n 0, 1) := by decide +kernel
theorem dJ6_bitCount_0f7a4_2 : decode cJ6_bitCount_0f7a4 2 = .ok (.iconst 1, 1) := by decide +kernel
theorem dJ6_bitCount_0f7a4_3 : decode cJ6_bitCount_0f7a4 3 = .ok (.iushr, 1) := by decide +kernel
theorem dJ6_bitCount_0f7a4_4 : decode cJ6_bitCount_0f7a4 4 = .ok (.ldc_w 265, 3) := by decide +kernel
theorem dJ6_bitCount_0f7a4_7 : decode cJ6_bitCount_0f7a4 7 = .ok (.iand, 1) := by decide +kernel
theorem dJ6_bitCount_0f7a4_8 : decode cJ6_bitCount_0f7a4 8 = .ok (.isub, 1) := by decide +kernel
theorem dJ6_bitCount_0f7a4_9 : decode cJ6_bitCount_0f7a4 9 = .ok (.istore_n 0, 1) := by decide +kernel
theorem dJ6_bitCount_0f7a4_10 : decode cJ6_bitCount_0f7a4 10 = .ok (.iload_n 0, 1) := by decide +kernel
theorem dJ6_bitCount_0f7a4_11 : decode cJ6_bitCount_0f7a4 11 = .ok (.ldc_w 266, 3) := by decide +kernel
theorem dJ6_bitCount_0f7a4_14 : decode cJ6_bitCount_0f7a4 14 = .ok (.iand, 1) := by decide +kernel
theorem dJ6_bitCount_0f7a4_15 : decode cJ6_bitCount_0f7a4 15 = .ok (.iload_n 0, 1) := by decide +kernel
theorem dJ6_bitCount_0f7a4_16 : decode cJ6_bitCount_0f7a4 16 = .ok (.iconst 2, 1) := by decide +kernel
theorem dJ6_bitCount_0f7a4_17 : decode cJ6_bitCount_0f7a4 17 = .ok (.iushr, 1) := by decide +kernel
theorem dJ6_bitCount_0f7a4_18 : decode cJ6_bitCount_0f7a4 18 = .ok (.ldc_w 266, 3) := by decide +kernel
theorem dJ6_bitCount_0f7a4_21 : decode cJ6_bitCount_0f7a4 21 = .ok (.iand, 1) := by decide +kernel
theorem dJ6_bitCount_0f7a4_22 : decode cJ6_bitCount_0f7a4 22 = .ok (.iadd, 1) := by decide +kernel
theorem dJ6_bitCount_0f7a4_23 : decode cJ6_bitCount_0f7a4 23 = .ok (.istore_n 0, 1) := by decide +kernel
theorem dJ6_bitCount_0f7a4_24 : decode cJ6_bitCount_0f7a4 24 = .ok (.iload_n 0, 1) := by decide +kernel
theorem dJ6_bitCount_0f7a4_25 : decode cJ6_bitCount_0f7a4 25 = .ok (.iload_n 0, 1) := by decide +kernel
theorem dJ6_bitCount_0f7a4_26 : decode cJ6_bitCount_0f7a4 26 = .ok (.iconst 4, 1) := by decide +kernel
theorem dJ6_bitCount_0f7a4_27 : decode cJ6_bitCount_0f7a4 27 = .ok (.iushr, 1) := by decide +kernel
theorem dJ6_bitCount_0f7a4_28 : decode cJ6_bitCount_0f7a4 28 = .ok (.iadd, 1) := by decide +kernel
theorem dJ6_bitCount_0f7a4_29 : decode cJ6_bitCount_0f7a4 29 = .ok (.ldc_w 267, 3) := by decide +kernel
theorem dJ6_bitCount_0f7a4_32 : decode cJ6_bitCount_0f7a4 32 = .ok (.iand, 1) := by decide +kernel
theorem dJ6_bitCount_0f7a4_33 : decode cJ6_bitCount_0f7a4 33 = .ok (.istore_n 0, 1) := by decide +kernel
theorem dJ6_bitCount_0f7a4_34 : decode cJ6_bitCount_0f7a4 34 = .ok (.iload_n 0, 1) := by decide +kernel
theorem dJ6_bitCount_0f7a4_35 : decode cJ6_bitCount_0f7a4 35 = .ok (.iload_n 0, 1) := by decide +kernel
theorem dJ6_bitCount_0f7a4_36 : decode cJ6_bitCount_0f7a4 36 = .ok (.bipush 8, 2) := by decide +kernel
theorem dJ6_bitCount_0f7a4_38 : decode cJ6_bitCount_0f7a4 38 = .ok (.iushr, 1) := by decide +kernel
theorem dJ6_bitCount_0f7a4_39 : decode cJ6_bitCount_0f7a4 39 = .ok (.iadd, 1) := by decide +kernel
theorem dJ6_bitCount_0f7a4_40 : decode cJ6_bitCount_0f7a4 40 = .ok (.istore_n 0, 1) := by decide +kernel
theorem dJ6_bitCount_0f7a4_41 : decode cJ6_bitCount_0f7a4 41 = .ok (.iload_n 0, 1) := by decide +kernel
theorem dJ6_bitCount_0f7a4_42 : decode cJ6_bitCount_0f7a4 42 = .ok (.iload_n 0, 1) := by decide +kernel
theorem dJ6_bitCount_0f7a4_43 : decode cJ6_bitCount_0f7a4 43 = .ok (.bipush 16, 2) := by decide +kernel
theorem dJ6_bitCount_0f7a4_45 : decode cJ6_bitCount_0f7a4 45 = .ok (.iushr, 1) := by decide +kernel
theorem dJ6_bitCount_0f7a4_46 : decode cJ6_bitCount_0f7a4 46 = .ok (.iadd, 1) := by decide +kernel
theorem dJ6_bitCount_0f7a4_47 : decode cJ6_bitCount_0f7a4 47 = .ok (.istore_n 0, 1) := by decide +kernel
theorem dJ6_bitCount_0f7a4_48 : decode cJ6_bitCount_0f7a4 48 = .ok (.iload_n 0, 1) := by decide +kernel
theorem dJ6_bitCount_0f7a4_49 : decode cJ6_bitCount_0f7a4 49 = .ok (.bipush 63, 2) := by decide +kernel
theorem dJ6_bitCount_0f7a4_51 : decode cJ6_bitCount_0f7a4 51 = .ok (.iand, 1) := by decide +kernel
theorem dJ6_bitCount_0f7a4_52 : decode cJ6_bitCount_0f7a4 52 = .ok (.ireturn, 1) := by decide +kernel
set_option maxRecDepth 100000 in
set_option maxHeartbeats 4000000 in
theorem c_J6_bitCount_0f7a4 (l : Launch) (D : va_G) (cA : Nat → ClassId) (ad : Nat → Nat) (g0 : Nat → va_E) (i : Int32) (hSh : Shp ad cA g0) : CT l NN ad cA D yJ6_bitCount_0f7a4 cJ6_bitCount_0f7a4 1 (some FieldType.int) (0, 0) [.int i] g0 (PU g0 (fun r => r = bcF i)) := by
  refine q_enterI (by decide) (Nat.le_of_ble_eq_true rfl) rfl (fun K H locs ls _ _ hM hW0 hR hC hE hl => ?_)
  have hl : lv_has ls 1 [(0, .int i)] := hl
  have hW : WS ad cA (fun i k => False) g0 K g0 H locs := ⟨hW0, hSh, FR.rf⟩
  refine q_iload_n hM dJ6_bitCount_0f7a4_0 (lv_at hl 0 rfl) ?_
  refine q_iload_n hM dJ6_bitCount_0f7a4_1 (lv_at hl 0 rfl) ?_
  refine q_iconst (v := (1 : Int32)) hM dJ6_bitCount_0f7a4_2 (by decide) ?_
  refine q_iushr hM dJ6_bitCount_0f7a4_3 (fun z5 hz5 => ?_)
  refine q_ldcw (v := (1431655765 : Int32)) hM (kAW (v_2_11 (List.mem_of_getElem? (i := 7) rfl)) rfl) dJ6_bitCount_0f7a4_4 ?_
  refine q_iand hM dJ6_bitCount_0f7a4_7 (fun z6 hz6 => ?_)
  refine q_isub hM dJ6_bitCount_0f7a4_8 (fun z7 hz7 => ?_)
  refine q_istore_n (lv9 := [(0, .int z7)]) hM dJ6_bitCount_0f7a4_9 hl (by decide) rfl (fun ls hl => ?_)
  refine q_iload_n hM dJ6_bitCount_0f7a4_10 (lv_at hl 0 rfl) ?_
  refine q_ldcw (v := (858993459 : Int32)) hM (kAW (v_2_11 (List.mem_of_getElem? (i := 8) rfl)) rfl) dJ6_bitCount_0f7a4_11 ?_
  refine q_iand hM dJ6_bitCount_0f7a4_14 (fun z8 hz8 => ?_)
  refine q_iload_n hM dJ6_bitCount_0f7a4_15 (lv_at hl 0 rfl) ?_
  refine q_iconst (v := (2 : Int32)) hM dJ6_bitCount_0f7a4_16 (by decide) ?_
  refine q_iushr hM dJ6_bitCount_0f7a4_17 (fun z9 hz9 => ?_)
  refine q_ldcw (v := (858993459 : Int32)) hM (kAW (v_2_11 (List.mem_of_getElem? (i := 8) rfl)) rfl) dJ6_bitCount_0f7a4_18 ?_
  refine q_iand hM dJ6_bitCount_0f7a4_21 (fun z10 hz10 => ?_)
  refine q_iadd hM dJ6_bitCount_0f7a4_22 (fun z11 hz11 => ?_)
  refine q_istore_n (lv9 := [(0, .int z11)]) hM dJ6_bitCount_0f7a4_23 hl (by decide) rfl (fun ls hl => ?_)
  refine q_iload_n hM dJ6_bitCount_0f7a4_24 (lv_at hl 0 rfl) ?_
  refine q_iload_n hM dJ6_bitCount_0f7a4_25 (lv_at hl 0 rfl) ?_
  refine q_iconst (v := (4 : Int32)) hM dJ6_bitCount_0f7a4_26 (by decide) ?_
  refine q_iushr hM dJ6_bitCount_0f7a4_27 (fun z12 hz12 => ?_)
  refine q_iadd hM dJ6_bitCount_0f7a4_28 (fun z13 hz13 => ?_)
  refine q_ldcw (v := (252645135 : Int32)) hM (kAW (v_2_11 (List.mem_of_getElem? (i := 9) rfl)) rfl) dJ6_bitCount_0f7a4_29 ?_
  refine q_iand hM dJ6_bitCount_0f7a4_32 (fun z14 hz14 => ?_)
  refine q_istore_n (lv9 := [(0, .int z14)]) hM dJ6_bitCount_0f7a4_33 hl (by decide) rfl (fun ls hl => ?_)
  refine q_iload_n hM dJ6_bitCount_0f7a4_34 (lv_at hl 0 rfl) ?_
  refine q_iload_n hM dJ6_bitCount_0f7a4_35 (lv_at hl 0 rfl) ?_
  refine q_bipush (v := (8 : Int32)) hM dJ6_bitCount_0f7a4_36 (by decide) ?_
  refine q_iushr hM dJ6_bitCount_0f7a4_38 (fun z15 hz15 => ?_)
  refine q_iadd hM dJ6_bitCount_0f7a4_39 (fun z16 hz16 => ?_)
  refine q_istore_n (lv9 := [(0, .int z16)]) hM dJ6_bitCount_0f7a4_40 hl (by decide) rfl (fun ls hl => ?_)
  refine q_iload_n hM dJ6_bitCount_0f7a4_41 (lv_at hl 0 rfl) ?_
  refine q_iload_n hM dJ6_bitCount_0f7a4_42 (lv_at hl 0 rfl) ?_
  refine q_bipush (v := (16 : Int32)) hM dJ6_bitCount_0f7a4_43 (by decide) ?_
  refine q_iushr hM dJ6_bitCount_0f7a4_45 (fun z17 hz17 => ?_)
  refine q_iadd hM dJ6_bitCount_0f7a4_46 (fun z18 hz18 => ?_)
  refine q_istore_n (lv9 := [(0, .int z18)]) hM dJ6_bitCount_0f7a4_47 hl (by decide) rfl (fun ls hl => ?_)
  refine q_iload_n hM dJ6_bitCount_0f7a4_48 (lv_at hl 0 rfl) ?_
  refine q_bipush (v := (63 : Int32)) hM dJ6_bitCount_0f7a4_49 (by decide) ?_
  refine q_iand hM dJ6_bitCount_0f7a4_51 (fun z19 hz19 => ?_)
  exact hE _ _ _ _ _ _ hW.1 ⟨_, rfl, (by subst_vars; rfl), rfl⟩ dJ6_bitCount_0f7a4_52

theorem dX12_lies_0 : decode cX12_lies 0 = .ok (.lload_n 0, 1) := by decide +kernel
theorem dX12_lies_1 : decode cX12_lies 1 = .ok (.lload_n 2, 1) := by decide +kernel
theorem dX12_lies_2 : decode cX12_lies 2 = .ok (.lcmp, 1) := by decide +kernel
theorem dX12_lies_3 : decode cX12_lies 3 = .ok (.ifCond .lt 14, 3) := by decide +kernel
theorem dX12_lies_6 : decode cX12_lies 6 = .ok (.lload_n 0, 1) := by decide +kernel
theorem dX12_lies_7 : decode cX12_lies 7 = .ok (.lload 4, 2) := by decide +kernel
theorem dX12_lies_9 : decode cX12_lies 9 = .ok (.lcmp, 1) := by decide +kernel
theorem dX12_lies_10 : decode cX12_lies 10 = .ok (.ifCond .gt 7, 3) := by decide +kernel
theorem dX12_lies_13 : decode cX12_lies 13 = .ok (.iconst 1, 1) := by decide +kernel
theorem dX12_lies_14 : decode cX12_lies 14 = .ok (.goto 4, 3) := by decide +kernel
theorem dX12_lies_17 : decode cX12_lies 17 = .ok (.iconst 0, 1) := by decide +kernel
theorem dX12_lies_18 : decode cX12_lies 18 = .ok (.ireturn, 1) := by decide +kernel
set_option maxRecDepth 100000 in
set_option maxHeartbeats 4000000 in
theorem c_X12_lies (l : Launch) (D : va_G) (cA : Nat → ClassId) (ad : Nat → Nat) (g0 : Nat → va_E) (v a b : Int64) (hSh : Shp ad cA g0) : CT l NN ad cA D yX12_lies cX12_lies 6 (some FieldType.boolean) (0, 0) [.long v, .long a, .long b] g0 (PU g0 (fun r => (r.toInt = 1 ∧ a.toInt ≤ v.toInt ∧ v.toInt ≤ b.toInt) ∨ (r.toInt = 0 ∧ (v.toInt < a.toInt ∨ b.toInt < v.toInt)))) := by
  refine q_enterZ (by decide) (Nat.le_of_ble_eq_true rfl) (fun K H locs ls _ _ hM hW0 hR hC hE hl => ?_)
  have hl : lv_has ls 6 [(0, .long v), (2, .long a), (4, .long b)] := hl
  have hW : WS ad cA (fun i k => False) g0 K g0 H locs := ⟨hW0, hSh, FR.rf⟩
  refine q_lload_n hM dX12_lies_0 (lv_at hl 0 rfl) ?_
  refine q_lload_n hM dX12_lies_1 (lv_at hl 1 rfl) ?_
  have := lc_all v a
  refine q_lcmp hM dX12_lies_2 ?_
  refine q_if_lt (tgt := 17) hM dX12_lies_3 (by decide) (rfl : (lg_cmp v a).toInt = (lg_cmp v a).toInt) (fun h3 => ?_) (fun h3 => ?_)
  · refine q_iconst (v := (0 : Int32)) hM dX12_lies_17 (by decide) ?_
    exact hE _ _ _ _ _ _ hW.1 nz_0 ⟨_, rfl, (by have := kc_0; omega), rfl⟩ dX12_lies_18
  · refine q_lload_n hM dX12_lies_6 (lv_at hl 0 rfl) ?_
    refine q_lload hM dX12_lies_7 (lv_at hl 2 rfl) ?_
    have := lc_all v b
    refine q_lcmp hM dX12_lies_9 ?_
    refine q_if_gt (tgt := 17) hM dX12_lies_10 (by decide) (rfl : (lg_cmp v b).toInt = (lg_cmp v b).toInt) (fun h10 => ?_) (fun h10 => ?_)
    · refine q_iconst (v := (0 : Int32)) hM dX12_lies_17 (by decide) ?_
      exact hE _ _ _ _ _ _ hW.1 nz_0 ⟨_, rfl, (by have := kc_0; omega), rfl⟩ dX12_lies_18
    · refine q_iconst (v := (1 : Int32)) hM dX12_lies_13 (by decide) ?_
      refine q_goto (tgt := 18) hM dX12_lies_14 (by decide) ?_
      exact hE _ _ _ _ _ _ hW.1 nz_1 ⟨_, rfl, (by have := kc_1; omega), rfl⟩ dX12_lies_18

theorem dX12_has_0 : decode cX12_has 0 = .ok (.iload_n 0, 1) := by decide +kernel
theorem dX12_has_1 : decode cX12_has 1 = .ok (.iload_n 1, 1) := by decide +kernel
theorem dX12_has_2 : decode cX12_has 2 = .ok (.ishr, 1) := by decide +kernel
theorem dX12_has_3 : decode cX12_has 3 = .ok (.iconst 1, 1) := by decide +kernel
theorem dX12_has_4 : decode cX12_has 4 = .ok (.iand, 1) := by decide +kernel
theorem dX12_has_5 : decode cX12_has 5 = .ok (.iconst 1, 1) := by decide +kernel
theorem dX12_has_6 : decode cX12_has 6 = .ok (.if_icmp .ne 7, 3) := by decide +kernel
theorem dX12_has_9 : decode cX12_has 9 = .ok (.iconst 1, 1) := by decide +kernel
theorem dX12_has_10 : decode cX12_has 10 = .ok (.goto 4, 3) := by decide +kernel
theorem dX12_has_13 : decode cX12_has 13 = .ok (.iconst 0, 1) := by decide +kernel
theorem dX12_has_14 : decode cX12_has 14 = .ok (.ireturn, 1) := by decide +kernel
set_option maxRecDepth 100000 in
set_option maxHeartbeats 4000000 in
theorem c_X12_has (l : Launch) (D : va_G) (cA : Nat → ClassId) (ad : Nat → Nat) (g0 : Nat → va_E) (b i : Int32) (hSh : Shp ad cA g0) (hi0 : 0 ≤ i.toInt) (hi1 : i.toInt < 31) : CT l NN ad cA D yX12_has cX12_has 2 (some FieldType.boolean) (0, 0) [.int b, .int i] g0 (PU g0 (fun r => (r.toInt = 1 ∧ bt b i.toInt.toNat = true) ∨ (r.toInt = 0 ∧ bt b i.toInt.toNat = false))) := by
  refine q_enterZ (by decide) (Nat.le_of_ble_eq_true rfl) (fun K H locs ls _ _ hM hW0 hR hC hE hl => ?_)
  have hl : lv_has ls 2 [(0, .int b), (1, .int i)] := hl
  have hW : WS ad cA (fun i k => False) g0 K g0 H locs := ⟨hW0, hSh, FR.rf⟩
  refine q_iload_n hM dX12_has_0 (lv_at hl 0 rfl) ?_
  refine q_iload_n hM dX12_has_1 (lv_at hl 1 rfl) ?_
  refine q_ishr hM dX12_has_2 (fun z20 hz20 => ?_)
  refine q_iconst (v := (1 : Int32)) hM dX12_has_3 (by decide) ?_
  refine q_iand hM dX12_has_4 (fun z21 hz21 => ?_)
  refine q_iconst (v := (1 : Int32)) hM dX12_has_5 (by decide) ?_
  refine q_icmp_ne (tgt := 13) hM dX12_has_6 (by decide) (rfl : z21.toInt = z21.toInt) (kc_1 : (1 : Int32).toInt = 1) (fun h6 => ?_) (fun h6 => ?_)
  · refine q_iconst (v := (0 : Int32)) hM dX12_has_13 (by decide) ?_
    exact hE _ _ _ _ _ _ hW.1 nz_0 ⟨_, rfl, (Or.inr ⟨kc_0, has_is0 (by omega) (by omega) (by subst_vars; assumption)⟩), rfl⟩ dX12_has_14
  · refine q_iconst (v := (1 : Int32)) hM dX12_has_9 (by decide) ?_
    refine q_goto (tgt := 14) hM dX12_has_10 (by decide) ?_
    exact hE _ _ _ _ _ _ hW.1 nz_1 ⟨_, rfl, (Or.inl ⟨kc_1, has_is1 (by omega) (by omega) (by subst_vars; assumption)⟩), rfl⟩ dX12_has_14

theorem has_r0 {r i : Int32} (h : (r.toInt = 1 ∧ 0 ≤ i.toInt ∧ i.toInt < 31 ∧ bt 0 i.toInt.toNat = true) ∨ (r.toInt = 0 ∧ (i.toInt < 0 ∨ 31 ≤ i.toInt ∨ bt 0 i.toInt.toNat = false))) : r.toInt = 0 := by
  rcases h with h | h
  · rw [b_0] at h
    exact absurd h.2.2.2 (by decide)
  · exact h.1
end
section
theorem dX10_put_0 : decode cX10_put 0 = .ok (.bipush 24, 2) := by decide +kernel
theorem dX10_put_2 : decode cX10_put 2 = .ok (.istore_n 2, 1) := by decide +kernel
theorem dX10_put_3 : decode cX10_put 3 = .ok (.iload_n 2, 1) := by decide +kernel
theorem dX10_put_4 : decode cX10_put 4 = .ok (.ifCond .lt 45, 3) := by decide +kernel
theorem dX10_put_7 : decode cX10_put 7 = .ok (.aload_n 0, 1) := by decide +kernel
theorem dX10_put_8 : decode cX10_put 8 = .ok (.getfield 15, 3) := by decide +kernel
theorem dX10_put_11 : decode cX10_put 11 = .ok (.sipush 260, 3) := by decide +kernel
theorem dX10_put_14 : decode cX10_put 14 = .ok (.if_icmp .ge 35, 3) := by decide +kernel
theorem dX10_put_17 : decode cX10_put 17 = .ok (.aload_n 0, 1) := by decide +kernel
theorem dX10_put_18 : decode cX10_put 18 = .ok (.getfield 11, 3) := by decide +kernel
theorem dX10_put_21 : decode cX10_put 21 = .ok (.aload_n 0, 1) := by decide +kernel
theorem dX10_put_22 : decode cX10_put 22 = .ok (.getfield 15, 3) := by decide +kernel
theorem dX10_put_25 : decode cX10_put 25 = .ok (.iload_n 1, 1) := by decide +kernel
theorem dX10_put_26 : decode cX10_put 26 = .ok (.iload_n 2, 1) := by decide +kernel
theorem dX10_put_27 : decode cX10_put 27 = .ok (.ishr, 1) := by decide +kernel
theorem dX10_put_28 : decode cX10_put 28 = .ok (.sipush 255, 3) := by decide +kernel
theorem dX10_put_31 : decode cX10_put 31 = .ok (.iand, 1) := by decide +kernel
theorem dX10_put_32 : decode cX10_put 32 = .ok (.iastore, 1) := by decide +kernel
theorem dX10_put_33 : decode cX10_put 33 = .ok (.aload_n 0, 1) := by decide +kernel
theorem dX10_put_34 : decode cX10_put 34 = .ok (.dup, 1) := by decide +kernel
theorem dX10_put_35 : decode cX10_put 35 = .ok (.getfield 15, 3) := by decide +kernel
theorem dX10_put_38 : decode cX10_put 38 = .ok (.iconst 1, 1) := by decide +kernel
theorem dX10_put_39 : decode cX10_put 39 = .ok (.iadd, 1) := by decide +kernel
theorem dX10_put_40 : decode cX10_put 40 = .ok (.putfield 15, 3) := by decide +kernel
theorem dX10_put_43 : decode cX10_put 43 = .ok (.iinc 2 (-8), 3) := by decide +kernel
theorem dX10_put_46 : decode cX10_put 46 = .ok (.goto (-43), 3) := by decide +kernel
theorem dX10_put_49 : decode cX10_put 49 = .ok (.return_, 1) := by decide +kernel
theorem FG_X10_15 : FG RX10 15 10 2 1 := ⟨RX10, TX10, rfl, wX10, by decide, kAW (v_0_2 (List.mem_of_getElem? (i := 5) rfl)) rfl, rfl⟩
theorem FG_X10_11 : FG RX10 11 10 2 0 := ⟨RX10, TX10, rfl, wX10, by decide, kAW (v_0_2 (List.mem_of_getElem? (i := 3) rfl)) rfl, rfl⟩
theorem FP_X10_15 : FPX RX10 15 10 2 1 .int := ⟨⟨RX10, TX10, tyX10, rfl, wX10, by decide, kAW (v_0_2 (List.mem_of_getElem? (i := 5) rfl)) rfl, rfl, tyX10_ok, nmX10, by decide +kernel, rfl⟩, by decide +kernel⟩
set_option maxRecDepth 100000 in
set_option maxHeartbeats 4000000 in
theorem c_X10_put (l : Launch) (D : va_G) (cA : Nat → ClassId) (ad : Nat → Nat) (g0 : Nat → va_E) (four s : Int32) (hSh : Shp ad cA g0) (hs : fld g0 1 1 = .int s) (hs0 : 0 ≤ s.toInt) (hs1 : s.toInt ≤ 256) : CT l NN ad cA D yX10_put cX10_put 3 none (0, 0) [.ref (ad 1), .int four] g0 (fun v g' => ∃ (s9 : Int32), v = none ∧ Shp ad cA g' ∧ FR (fun i k => (i = 1 ∧ (k = 1)) ∨ i = 2) g0 g' ∧ (s9.toInt = s.toInt + 4) ∧ fld g' 1 1 = .int s9) := by
  refine q_enterV (by decide) (Nat.le_of_ble_eq_true rfl) (fun K H locs ls _ _ hM hW0 hR hC hE hl => ?_)
  have hl : lv_has ls 3 [(0, .ref (ad 1)), (1, .int four)] := hl
  have hW : WS ad cA (fun i k => (i = 1 ∧ (k = 1)) ∨ i = 2) g0 K g0 H locs := ⟨hW0, hSh, FR.rf⟩
  have f22 : fld g0 1 1 = .int s := hs
  refine q_bipush (v := (24 : Int32)) hM dX10_put_0 (by decide) ?_
  refine q_istore_n (lv9 := [(2, .int (24 : Int32)), (0, .ref (ad 1)), (1, .int four)]) hM dX10_put_2 hl (by decide) rfl (fun ls hl => ?_)
  have L3 : ∀ (fu3 : Nat) (sh : Int32) (z : Int32) (g9 : Nat → va_E) (H : Heap) (locs : List Loc) (ls : Array Slot), (sh.toInt + 8).toNat < fu3 → (sh.toInt = 24 - 8 * (z.toInt - s.toInt)) → (s.toInt ≤ z.toInt) → (z.toInt ≤ s.toInt + 4) → (fld g9 1 1 = .int z) → lv_has ls 3 [(0, .ref (ad 1)), (1, .int four), (2, .int sh)] → WS ad cA (fun i k => (i = 1 ∧ (k = 1)) ∨ i = 2) g0 K g9 H locs → XX K 0 0 H locs 3 ls [] := by
    intro fu3
    induction fu3 with
    | zero => intro sh z g9 H locs ls h0; omega
    | succ fu3 ih3 =>
      intro sh z g9 H locs ls hm3 i3_0 i3_1 i3_2 c3_1_1 hl hW
      refine q_iload_n hM dX10_put_3 (lv_at hl 2 rfl) ?_
      refine q_if_lt (tgt := 49) hM dX10_put_4 (by decide) (rfl : sh.toInt = sh.toInt) (fun h4 => ?_) (fun h4 => ?_)
      · exact hE _ _ _ _ _ hW.1 ⟨z, rfl, hW.2.1, hW.2.2, (by omega), c3_1_1⟩ dX10_put_49
      · refine q_aload_n hM dX10_put_7 (lv_at hl 0 rfl) ?_
        refine w_get (v := .int z) hM hW FG_X10_15 lb_1 c3_1_1 dX10_put_8 ?_
        refine q_sipush (v := (260 : Int32)) hM dX10_put_11 (by decide) ?_
        refine q_icmp_ge (tgt := 49) hM dX10_put_14 (by decide) (rfl : z.toInt = z.toInt) (kc_260 : (260 : Int32).toInt = 260) (fun h14 => ?_) (fun h14 => ?_)
        · exact hE _ _ _ _ _ hW.1 ⟨z, rfl, hW.2.1, hW.2.2, (by omega), c3_1_1⟩ dX10_put_49
        · refine q_aload_n hM dX10_put_17 (lv_at hl 0 rfl) ?_
          refine w_get (v := .ref (ad 2)) hM hW FG_X10_11 lb_1 (rf_1_0 hW.2.1) dX10_put_18 ?_
          refine q_aload_n hM dX10_put_21 (lv_at hl 0 rfl) ?_
          refine w_get (v := .int z) hM hW FG_X10_15 lb_1 c3_1_1 dX10_put_22 ?_
          refine q_iload_n hM dX10_put_25 (lv_at hl 1 rfl) ?_
          refine q_iload_n hM dX10_put_26 (lv_at hl 2 rfl) ?_
          refine q_ishr hM dX10_put_27 (fun z23 hz23 => ?_)
          refine q_sipush (v := (255 : Int32)) hM dX10_put_28 (by decide) ?_
          refine q_iand hM dX10_put_31 (fun z24 hz24 => ?_)
          refine w_iast hM hW lb_2 (by omega) (i_in (by omega) (by omega)) dX10_put_32 (fun g25 H locs hW e1 e2 => ?_)
          have f26 : fld g25 1 1 = .int z := (e2.1 1 1 (by unfold Only; omega)).trans c3_1_1
          refine q_aload_n hM dX10_put_33 (lv_at hl 0 rfl) ?_
          refine q_dup hM dX10_put_34 rfl ?_
          refine w_get (v := .int z) hM hW FG_X10_15 lb_1 f26 dX10_put_35 ?_
          refine q_iconst (v := (1 : Int32)) hM dX10_put_38 (by decide) ?_
          refine q_iadd hM dX10_put_39 (fun z27 hz27 => ?_)
          have tz27 := i_addT hz27 (rfl : z.toInt = z.toInt) (kc_1 : (1 : Int32).toInt = 1) (by omega) (by omega)
          refine w_put hM hW FP_X10_15 lb_1 (by omega) (Or.inl ⟨_, rfl⟩) rfl rfl dX10_put_40 (fun g28 H locs hW e1 e2 => ?_)
          have f29 : fld g28 1 1 = .int z27 := e1
          refine q_iinc (lv9 := fun z30 => [(2, .int z30), (0, .ref (ad 1)), (1, .int four)]) hM dX10_put_43 hl (kq := 2) rfl (by decide) (fun _ => rfl) (fun z30 ls hz30 hl => ?_)
          have tz30 := i_addT hz30 (rfl : sh.toInt = sh.toInt) (kc_m8 : (Int32.ofInt (-8)).toInt = (-8)) (by omega) (by omega)
          refine q_goto (tgt := 3) hM dX10_put_46 (by decide) ?_
          exact ih3 z30 z27 _ _ _ _ (by omega) (by omega) (by omega) (by omega) f29 (lv_sub hl [1, 2, 0] rfl) hW
  have := kc_24
  exact L3 _ (24 : Int32) s _ _ _ _ (Nat.lt_succ_self _) (by omega) (by omega) (by omega) f22 (lv_sub hl [1, 2, 0] rfl) hW

theorem dX2_begin_0 : decode cX2_begin 0 = .ok (.aload_n 0, 1) := by decide +kernel
theorem dX2_begin_1 : decode cX2_begin 1 = .ok (.aload_n 1, 1) := by decide +kernel
theorem dX2_begin_2 : decode cX2_begin 2 = .ok (.putfield 15, 3) := by decide +kernel
theorem dX2_begin_5 : decode cX2_begin 5 = .ok (.aload_n 0, 1) := by decide +kernel
theorem dX2_begin_6 : decode cX2_begin 6 = .ok (.aload_n 2, 1) := by decide +kernel
theorem dX2_begin_7 : decode cX2_begin 7 = .ok (.putfield 19, 3) := by decide +kernel
theorem dX2_begin_10 : decode cX2_begin 10 = .ok (.aload_n 0, 1) := by decide +kernel
theorem dX2_begin_11 : decode cX2_begin 11 = .ok (.iconst 0, 1) := by decide +kernel
theorem dX2_begin_12 : decode cX2_begin 12 = .ok (.putfield 47, 3) := by decide +kernel
theorem dX2_begin_15 : decode cX2_begin 15 = .ok (.aload_n 0, 1) := by decide +kernel
theorem dX2_begin_16 : decode cX2_begin 16 = .ok (.iconst 0, 1) := by decide +kernel
theorem dX2_begin_17 : decode cX2_begin 17 = .ok (.putfield 50, 3) := by decide +kernel
theorem dX2_begin_20 : decode cX2_begin 20 = .ok (.return_, 1) := by decide +kernel
theorem FP_X2_15 : FPX RX2 15 2 11 9 (.object "ForgetSchool$Law") := ⟨⟨RX2, TX2, tyX2, rfl, wX2, by decide, kAW (v_1_0 (List.mem_of_getElem? (i := 4) rfl)) rfl, rfl, tyX2_ok, nmX2, by decide +kernel, rfl⟩, by decide +kernel⟩
theorem FP_X2_19 : FPX RX2 19 2 11 10 (.object "ForgetSchool$Pupils") := ⟨⟨RX2, TX2, tyX2, rfl, wX2, by decide, kAW (v_1_0 (List.mem_of_getElem? (i := 5) rfl)) rfl, rfl, tyX2_ok, nmX2, by decide +kernel, rfl⟩, by decide +kernel⟩
theorem FP_X2_47 : FPX RX2 47 2 11 7 .int := ⟨⟨RX2, TX2, tyX2, rfl, wX2, by decide, kAW (v_1_0 (List.mem_of_getElem? (i := 0) rfl)) rfl, rfl, tyX2_ok, nmX2, by decide +kernel, rfl⟩, by decide +kernel⟩
theorem FP_X2_50 : FPX RX2 50 2 11 8 .int := ⟨⟨RX2, TX2, tyX2, rfl, wX2, by decide, kAW (v_1_0 (List.mem_of_getElem? (i := 2) rfl)) rfl, rfl, tyX2_ok, nmX2, by decide +kernel, rfl⟩, by decide +kernel⟩
set_option maxRecDepth 100000 in
set_option maxHeartbeats 4000000 in
theorem c_X2_begin (l : Launch) (D : va_G) (cA : Nat → ClassId) (ad : Nat → Nat) (g0 : Nat → va_E) (lw pb : Nat) (hSh : Shp ad cA g0) : CT l NN ad cA D yX2_begin cX2_begin 3 none (0, 0) [.ref (ad 80), .ref (ad lw), .ref (ad pb)] g0 (fun v g' => v = none ∧ Shp ad cA g' ∧ FR (fun i k => (i = 80 ∧ (k = 7 ∨ k = 8 ∨ k = 9 ∨ k = 10))) g0 g' ∧ fld g' 80 7 = .int (0 : Int32) ∧ fld g' 80 8 = .int (0 : Int32) ∧ fld g' 80 9 = .ref (ad lw) ∧ fld g' 80 10 = .ref (ad pb)) := by
  refine q_enterV (by decide) (Nat.le_of_ble_eq_true rfl) (fun K H locs ls _ _ hM hW0 hR hC hE hl => ?_)
  have hl : lv_has ls 3 [(0, .ref (ad 80)), (1, .ref (ad lw)), (2, .ref (ad pb))] := hl
  have hW : WS ad cA (fun i k => (i = 80 ∧ (k = 7 ∨ k = 8 ∨ k = 9 ∨ k = 10))) g0 K g0 H locs := ⟨hW0, hSh, FR.rf⟩
  refine q_aload_n hM dX2_begin_0 (lv_at hl 0 rfl) ?_
  refine q_aload_n hM dX2_begin_1 (lv_at hl 1 rfl) ?_
  refine w_put hM hW FP_X2_15 lb_80 (by omega) (Or.inr (by decide)) rfl rfl dX2_begin_2 (fun g31 H locs hW e1 e2 => ?_)
  have f32 : fld g31 80 9 = .ref (ad lw) := e1
  refine q_aload_n hM dX2_begin_5 (lv_at hl 0 rfl) ?_
  refine q_aload_n hM dX2_begin_6 (lv_at hl 2 rfl) ?_
  refine w_put hM hW FP_X2_19 lb_80 (by omega) (Or.inr (by decide)) rfl rfl dX2_begin_7 (fun g33 H locs hW e1 e2 => ?_)
  have f34 : fld g33 80 9 = .ref (ad lw) := (e2.1 80 9 (by unfold Only; omega)).trans f32
  have f35 : fld g33 80 10 = .ref (ad pb) := e1
  refine q_aload_n hM dX2_begin_10 (lv_at hl 0 rfl) ?_
  refine q_iconst (v := (0 : Int32)) hM dX2_begin_11 (by decide) ?_
  refine w_put hM hW FP_X2_47 lb_80 (by omega) (Or.inl ⟨_, rfl⟩) rfl rfl dX2_begin_12 (fun g36 H locs hW e1 e2 => ?_)
  have f37 : fld g36 80 9 = .ref (ad lw) := (e2.1 80 9 (by unfold Only; omega)).trans f34
  have f38 : fld g36 80 10 = .ref (ad pb) := (e2.1 80 10 (by unfold Only; omega)).trans f35
  have f39 : fld g36 80 7 = .int (0 : Int32) := e1
  refine q_aload_n hM dX2_begin_15 (lv_at hl 0 rfl) ?_
  refine q_iconst (v := (0 : Int32)) hM dX2_begin_16 (by decide) ?_
  refine w_put hM hW FP_X2_50 lb_80 (by omega) (Or.inl ⟨_, rfl⟩) rfl rfl dX2_begin_17 (fun g40 H locs hW e1 e2 => ?_)
  have f41 : fld g40 80 9 = .ref (ad lw) := (e2.1 80 9 (by unfold Only; omega)).trans f37
  have f42 : fld g40 80 10 = .ref (ad pb) := (e2.1 80 10 (by unfold Only; omega)).trans f38
  have f43 : fld g40 80 7 = .int (0 : Int32) := (e2.1 80 7 (by unfold Only; omega)).trans f39
  have f44 : fld g40 80 8 = .int (0 : Int32) := e1
  exact hE _ _ _ _ _ hW.1 ⟨rfl, hW.2.1, hW.2.2, f43, f44, f41, f42⟩ dX2_begin_20

theorem dX7_become_0 : decode cX7_become 0 = .ok (.iconst 0, 1) := by decide +kernel
theorem dX7_become_1 : decode cX7_become 1 = .ok (.istore_n 2, 1) := by decide +kernel
theorem dX7_become_2 : decode cX7_become 2 = .ok (.iload_n 2, 1) := by decide +kernel
theorem dX7_become_3 : decode cX7_become 3 = .ok (.bipush 8, 2) := by decide +kernel
theorem dX7_become_5 : decode cX7_become 5 = .ok (.if_icmp .ge 63, 3) := by decide +kernel
theorem dX7_become_8 : decode cX7_become 8 = .ok (.aload_n 0, 1) := by decide +kernel
theorem dX7_become_9 : decode cX7_become 9 = .ok (.getfield 9, 3) := by decide +kernel
theorem dX7_become_12 : decode cX7_become 12 = .ok (.iload_n 2, 1) := by decide +kernel
theorem dX7_become_13 : decode cX7_become 13 = .ok (.aload_n 1, 1) := by decide +kernel
theorem dX7_become_14 : decode cX7_become 14 = .ok (.getfield 9, 3) := by decide +kernel
theorem dX7_become_17 : decode cX7_become 17 = .ok (.iload_n 2, 1) := by decide +kernel
theorem dX7_become_18 : decode cX7_become 18 = .ok (.iaload, 1) := by decide +kernel
theorem dX7_become_19 : decode cX7_become 19 = .ok (.iastore, 1) := by decide +kernel
theorem dX7_become_20 : decode cX7_become 20 = .ok (.aload_n 0, 1) := by decide +kernel
theorem dX7_become_21 : decode cX7_become 21 = .ok (.getfield 15, 3) := by decide +kernel
theorem dX7_become_24 : decode cX7_become 24 = .ok (.iload_n 2, 1) := by decide +kernel
theorem dX7_become_25 : decode cX7_become 25 = .ok (.aload_n 1, 1) := by decide +kernel
theorem dX7_become_26 : decode cX7_become 26 = .ok (.getfield 15, 3) := by decide +kernel
theorem dX7_become_29 : decode cX7_become 29 = .ok (.iload_n 2, 1) := by decide +kernel
theorem dX7_become_30 : decode cX7_become 30 = .ok (.iaload, 1) := by decide +kernel
theorem dX7_become_31 : decode cX7_become 31 = .ok (.iastore, 1) := by decide +kernel
theorem dX7_become_32 : decode cX7_become 32 = .ok (.iconst 0, 1) := by decide +kernel
theorem dX7_become_33 : decode cX7_become 33 = .ok (.istore_n 3, 1) := by decide +kernel
theorem dX7_become_34 : decode cX7_become 34 = .ok (.iload_n 3, 1) := by decide +kernel
theorem dX7_become_35 : decode cX7_become 35 = .ok (.bipush 12, 2) := by decide +kernel
theorem dX7_become_37 : decode cX7_become 37 = .ok (.if_icmp .ge 25, 3) := by decide +kernel
theorem dX7_become_40 : decode cX7_become 40 = .ok (.aload_n 0, 1) := by decide +kernel
theorem dX7_become_41 : decode cX7_become 41 = .ok (.getfield 20, 3) := by decide +kernel
theorem dX7_become_44 : decode cX7_become 44 = .ok (.iload_n 2, 1) := by decide +kernel
theorem dX7_become_45 : decode cX7_become 45 = .ok (.aaload, 1) := by decide +kernel
theorem dX7_become_46 : decode cX7_become 46 = .ok (.iload_n 3, 1) := by decide +kernel
theorem dX7_become_47 : decode cX7_become 47 = .ok (.aload_n 1, 1) := by decide +kernel
theorem dX7_become_48 : decode cX7_become 48 = .ok (.getfield 20, 3) := by decide +kernel
theorem dX7_become_51 : decode cX7_become 51 = .ok (.iload_n 2, 1) := by decide +kernel
theorem dX7_become_52 : decode cX7_become 52 = .ok (.aaload, 1) := by decide +kernel
theorem dX7_become_53 : decode cX7_become 53 = .ok (.iload_n 3, 1) := by decide +kernel
theorem dX7_become_54 : decode cX7_become 54 = .ok (.iaload, 1) := by decide +kernel
theorem dX7_become_55 : decode cX7_become 55 = .ok (.iastore, 1) := by decide +kernel
theorem dX7_become_56 : decode cX7_become 56 = .ok (.iinc 3 1, 3) := by decide +kernel
theorem dX7_become_59 : decode cX7_become 59 = .ok (.goto (-25), 3) := by decide +kernel
theorem dX7_become_62 : decode cX7_become 62 = .ok (.iinc 2 1, 3) := by decide +kernel
theorem dX7_become_65 : decode cX7_become 65 = .ok (.goto (-63), 3) := by decide +kernel
theorem dX7_become_68 : decode cX7_become 68 = .ok (.aload_n 0, 1) := by decide +kernel
theorem dX7_become_69 : decode cX7_become 69 = .ok (.aload_n 1, 1) := by decide +kernel
theorem dX7_become_70 : decode cX7_become 70 = .ok (.getfield 23, 3) := by decide +kernel
theorem dX7_become_73 : decode cX7_become 73 = .ok (.putfield 23, 3) := by decide +kernel
theorem dX7_become_76 : decode cX7_become 76 = .ok (.aload_n 0, 1) := by decide +kernel
theorem dX7_become_77 : decode cX7_become 77 = .ok (.aload_n 1, 1) := by decide +kernel
theorem dX7_become_78 : decode cX7_become 78 = .ok (.getfield 27, 3) := by decide +kernel
theorem dX7_become_81 : decode cX7_become 81 = .ok (.putfield 27, 3) := by decide +kernel
theorem dX7_become_84 : decode cX7_become 84 = .ok (.aload_n 0, 1) := by decide +kernel
theorem dX7_become_85 : decode cX7_become 85 = .ok (.aload_n 1, 1) := by decide +kernel
theorem dX7_become_86 : decode cX7_become 86 = .ok (.getfield 30, 3) := by decide +kernel
theorem dX7_become_89 : decode cX7_become 89 = .ok (.putfield 30, 3) := by decide +kernel
theorem dX7_become_92 : decode cX7_become 92 = .ok (.aload_n 0, 1) := by decide +kernel
theorem dX7_become_93 : decode cX7_become 93 = .ok (.aload_n 1, 1) := by decide +kernel
theorem dX7_become_94 : decode cX7_become 94 = .ok (.getfield 33, 3) := by decide +kernel
theorem dX7_become_97 : decode cX7_become 97 = .ok (.putfield 33, 3) := by decide +kernel
theorem dX7_become_100 : decode cX7_become 100 = .ok (.aload_n 0, 1) := by decide +kernel
theorem dX7_become_101 : decode cX7_become 101 = .ok (.aload_n 1, 1) := by decide +kernel
theorem dX7_become_102 : decode cX7_become 102 = .ok (.getfield 36, 3) := by decide +kernel
theorem dX7_become_105 : decode cX7_become 105 = .ok (.putfield 36, 3) := by decide +kernel
theorem dX7_become_108 : decode cX7_become 108 = .ok (.return_, 1) := by decide +kernel
theorem FG_X7_23 : FG RX7 23 7 8 3 := ⟨RX7, TX7, rfl, wX7, by decide, kAW (v_0_5 (List.mem_of_getElem? (i := 5) rfl)) rfl, rfl⟩
theorem FP_X7_23 : FPX RX7 23 7 8 3 .int := ⟨⟨RX7, TX7, tyX7, rfl, wX7, by decide, kAW (v_0_5 (List.mem_of_getElem? (i := 5) rfl)) rfl, rfl, tyX7_ok, nmX7, by decide +kernel, rfl⟩, by decide +kernel⟩
theorem FG_X7_27 : FG RX7 27 7 8 4 := ⟨RX7, TX7, rfl, wX7, by decide, kAW (v_0_5 (List.mem_of_getElem? (i := 8) rfl)) rfl, rfl⟩
theorem FP_X7_27 : FPX RX7 27 7 8 4 .int := ⟨⟨RX7, TX7, tyX7, rfl, wX7, by decide, kAW (v_0_5 (List.mem_of_getElem? (i := 8) rfl)) rfl, rfl, tyX7_ok, nmX7, by decide +kernel, rfl⟩, by decide +kernel⟩
theorem FG_X7_30 : FG RX7 30 7 8 5 := ⟨RX7, TX7, rfl, wX7, by decide, kAW (v_0_5 (List.mem_of_getElem? (i := 11) rfl)) rfl, rfl⟩
theorem FP_X7_30 : FPX RX7 30 7 8 5 .int := ⟨⟨RX7, TX7, tyX7, rfl, wX7, by decide, kAW (v_0_5 (List.mem_of_getElem? (i := 11) rfl)) rfl, rfl, tyX7_ok, nmX7, by decide +kernel, rfl⟩, by decide +kernel⟩
theorem FG_X7_33 : FG RX7 33 7 8 6 := ⟨RX7, TX7, rfl, wX7, by decide, kAW (v_0_5 (List.mem_of_getElem? (i := 14) rfl)) rfl, rfl⟩
theorem FP_X7_33 : FPX RX7 33 7 8 6 .int := ⟨⟨RX7, TX7, tyX7, rfl, wX7, by decide, kAW (v_0_5 (List.mem_of_getElem? (i := 14) rfl)) rfl, rfl, tyX7_ok, nmX7, by decide +kernel, rfl⟩, by decide +kernel⟩
theorem FG_X7_36 : FG RX7 36 7 8 7 := ⟨RX7, TX7, rfl, wX7, by decide, kAW (v_0_6 (List.mem_of_getElem? (i := 1) rfl)) rfl, rfl⟩
theorem FP_X7_36 : FPX RX7 36 7 8 7 .int := ⟨⟨RX7, TX7, tyX7, rfl, wX7, by decide, kAW (v_0_6 (List.mem_of_getElem? (i := 1) rfl)) rfl, rfl, tyX7_ok, nmX7, by decide +kernel, rfl⟩, by decide +kernel⟩
theorem FG_X7_9 : FG RX7 9 7 8 0 := ⟨RX7, TX7, rfl, wX7, by decide, kAW (v_0_4 (List.mem_of_getElem? (i := 11) rfl)) rfl, rfl⟩
theorem FG_X7_15 : FG RX7 15 7 8 1 := ⟨RX7, TX7, rfl, wX7, by decide, kAW (v_0_4 (List.mem_of_getElem? (i := 14) rfl)) rfl, rfl⟩
theorem FG_X7_20 : FG RX7 20 7 8 2 := ⟨RX7, TX7, rfl, wX7, by decide, kAW (v_0_5 (List.mem_of_getElem? (i := 1) rfl)) rfl, rfl⟩
set_option maxRecDepth 100000 in
set_option maxHeartbeats 4000000 in
theorem c_X7_become_42 (l : Launch) (D : va_G) (cA : Nat → ClassId) (ad : Nat → Nat) (g0 : Nat → va_E) (tl wk ps rc xx : Int32) (hSh : Shp ad cA g0) (htl : fld g0 18 3 = .int tl) (hwk : fld g0 18 4 = .int wk) (hps : fld g0 18 5 = .int ps) (hrc : fld g0 18 6 = .int rc) (hxx : fld g0 18 7 = .int xx) : CT l NN ad cA D yX7_become cX7_become 4 none (0, 0) [.ref (ad 42), .ref (ad 18)] g0 (fun v g' => v = none ∧ Shp ad cA g' ∧ FR (fun i k => i = 43 ∨ i = 44 ∨ (46 ≤ i ∧ i < 54) ∨ (i = 42 ∧ (k = 3 ∨ k = 4 ∨ k = 5 ∨ k = 6 ∨ k = 7))) g0 g' ∧ fld g' 42 3 = .int tl ∧ fld g' 42 4 = .int wk ∧ fld g' 42 5 = .int ps ∧ fld g' 42 6 = .int rc ∧ fld g' 42 7 = .int xx) := by
  refine q_enterV (by decide) (Nat.le_of_ble_eq_true rfl) (fun K H locs ls _ _ hM hW0 hR hC hE hl => ?_)
  have hl : lv_has ls 4 [(0, .ref (ad 42)), (1, .ref (ad 18))] := hl
  have hW : WS ad cA (fun i k => i = 43 ∨ i = 44 ∨ (46 ≤ i ∧ i < 54) ∨ (i = 42 ∧ (k = 3 ∨ k = 4 ∨ k = 5 ∨ k = 6 ∨ k = 7))) g0 K g0 H locs := ⟨hW0, hSh, FR.rf⟩
  refine q_iconst (v := (0 : Int32)) hM dX7_become_0 (by decide) ?_
  refine q_istore_n (lv9 := [(2, .int (0 : Int32)), (0, .ref (ad 42)), (1, .ref (ad 18))]) hM dX7_become_1 hl (by decide) rfl (fun ls hl => ?_)
  have L2 : ∀ (fu2 : Nat) (p : Int32) (g9 : Nat → va_E) (H : Heap) (locs : List Loc) (ls : Array Slot), (8 - p.toInt).toNat < fu2 → (0 ≤ p.toInt) → (p.toInt ≤ 8) → lv_has ls 4 [(0, .ref (ad 42)), (1, .ref (ad 18)), (2, .int p)] → WS ad cA (fun i k => i = 43 ∨ i = 44 ∨ (46 ≤ i ∧ i < 54) ∨ (i = 42 ∧ (k = 3 ∨ k = 4 ∨ k = 5 ∨ k = 6 ∨ k = 7))) g0 K g9 H locs → XX K 0 0 H locs 2 ls [] := by
    intro fu2
    induction fu2 with
    | zero => intro p g9 H locs ls h0; omega
    | succ fu2 ih2 =>
      intro p g9 H locs ls hm2 i2_0 i2_1 hl hW
      refine q_iload_n hM dX7_become_2 (lv_at hl 2 rfl) ?_
      refine q_bipush (v := (8 : Int32)) hM dX7_become_3 (by decide) ?_
      refine q_icmp_ge (tgt := 68) hM dX7_become_5 (by decide) (rfl : p.toInt = p.toInt) (kc_8 : (8 : Int32).toInt = 8) (fun h5 => ?_) (fun h5 => ?_)
      · refine q_aload_n hM dX7_become_68 (lv_at hl 0 rfl) ?_
        refine q_aload_n hM dX7_become_69 (lv_at hl 1 rfl) ?_
        refine w_get (v := .int tl) hM hW FG_X7_23 lb_18 ((hW.2.2.1 18 3 (by omega)).trans htl) dX7_become_70 ?_
        refine w_put hM hW FP_X7_23 lb_42 (by omega) (Or.inl ⟨_, rfl⟩) rfl rfl dX7_become_73 (fun g45 H locs hW e1 e2 => ?_)
        have f46 : fld g45 42 3 = .int tl := e1
        refine q_aload_n hM dX7_become_76 (lv_at hl 0 rfl) ?_
        refine q_aload_n hM dX7_become_77 (lv_at hl 1 rfl) ?_
        refine w_get (v := .int wk) hM hW FG_X7_27 lb_18 ((hW.2.2.1 18 4 (by omega)).trans hwk) dX7_become_78 ?_
        refine w_put hM hW FP_X7_27 lb_42 (by omega) (Or.inl ⟨_, rfl⟩) rfl rfl dX7_become_81 (fun g47 H locs hW e1 e2 => ?_)
        have f48 : fld g47 42 3 = .int tl := (e2.1 42 3 (by unfold Only; omega)).trans f46
        have f49 : fld g47 42 4 = .int wk := e1
        refine q_aload_n hM dX7_become_84 (lv_at hl 0 rfl) ?_
        refine q_aload_n hM dX7_become_85 (lv_at hl 1 rfl) ?_
        refine w_get (v := .int ps) hM hW FG_X7_30 lb_18 ((hW.2.2.1 18 5 (by omega)).trans hps) dX7_become_86 ?_
        refine w_put hM hW FP_X7_30 lb_42 (by omega) (Or.inl ⟨_, rfl⟩) rfl rfl dX7_become_89 (fun g50 H locs hW e1 e2 => ?_)
        have f51 : fld g50 42 3 = .int tl := (e2.1 42 3 (by unfold Only; omega)).trans f48
        have f52 : fld g50 42 4 = .int wk := (e2.1 42 4 (by unfold Only; omega)).trans f49
        have f53 : fld g50 42 5 = .int ps := e1
        refine q_aload_n hM dX7_become_92 (lv_at hl 0 rfl) ?_
        refine q_aload_n hM dX7_become_93 (lv_at hl 1 rfl) ?_
        refine w_get (v := .int rc) hM hW FG_X7_33 lb_18 ((hW.2.2.1 18 6 (by omega)).trans hrc) dX7_become_94 ?_
        refine w_put hM hW FP_X7_33 lb_42 (by omega) (Or.inl ⟨_, rfl⟩) rfl rfl dX7_become_97 (fun g54 H locs hW e1 e2 => ?_)
        have f55 : fld g54 42 3 = .int tl := (e2.1 42 3 (by unfold Only; omega)).trans f51
        have f56 : fld g54 42 4 = .int wk := (e2.1 42 4 (by unfold Only; omega)).trans f52
        have f57 : fld g54 42 5 = .int ps := (e2.1 42 5 (by unfold Only; omega)).trans f53
        have f58 : fld g54 42 6 = .int rc := e1
        refine q_aload_n hM dX7_become_100 (lv_at hl 0 rfl) ?_
        refine q_aload_n hM dX7_become_101 (lv_at hl 1 rfl) ?_
        refine w_get (v := .int xx) hM hW FG_X7_36 lb_18 ((hW.2.2.1 18 7 (by omega)).trans hxx) dX7_become_102 ?_
        refine w_put hM hW FP_X7_36 lb_42 (by omega) (Or.inl ⟨_, rfl⟩) rfl rfl dX7_become_105 (fun g59 H locs hW e1 e2 => ?_)
        have f60 : fld g59 42 3 = .int tl := (e2.1 42 3 (by unfold Only; omega)).trans f55
        have f61 : fld g59 42 4 = .int wk := (e2.1 42 4 (by unfold Only; omega)).trans f56
        have f62 : fld g59 42 5 = .int ps := (e2.1 42 5 (by unfold Only; omega)).trans f57
        have f63 : fld g59 42 6 = .int rc := (e2.1 42 6 (by unfold Only; omega)).trans f58
        have f64 : fld g59 42 7 = .int xx := e1
        exact hE _ _ _ _ _ hW.1 ⟨rfl, hW.2.1, hW.2.2, f60, f61, f62, f63, f64⟩ dX7_become_108
      · refine q_aload_n hM dX7_become_8 (lv_at hl 0 rfl) ?_
        refine w_get (v := .ref (ad 43)) hM hW FG_X7_9 lb_42 (rf_42_0 hW.2.1) dX7_become_9 ?_
        refine q_iload_n hM dX7_become_12 (lv_at hl 2 rfl) ?_
        refine q_aload_n hM dX7_become_13 (lv_at hl 1 rfl) ?_
        refine w_get (v := .ref (ad 19)) hM hW FG_X7_9 lb_18 (rf_18_0 hW.2.1) dX7_become_14 ?_
        refine q_iload_n hM dX7_become_17 (lv_at hl 2 rfl) ?_
        refine w_iald hM hW lb_19 (i_in (by omega) (by omega)) dX7_become_18 ?_
        refine q_top (fun y65 hy65 => ?_)
        refine w_iast hM hW lb_43 (by omega) (i_in (by omega) (by omega)) dX7_become_19 (fun g66 H locs hW e1 e2 => ?_)
        refine q_aload_n hM dX7_become_20 (lv_at hl 0 rfl) ?_
        refine w_get (v := .ref (ad 44)) hM hW FG_X7_15 lb_42 (rf_42_1 hW.2.1) dX7_become_21 ?_
        refine q_iload_n hM dX7_become_24 (lv_at hl 2 rfl) ?_
        refine q_aload_n hM dX7_become_25 (lv_at hl 1 rfl) ?_
        refine w_get (v := .ref (ad 20)) hM hW FG_X7_15 lb_18 (rf_18_1 hW.2.1) dX7_become_26 ?_
        refine q_iload_n hM dX7_become_29 (lv_at hl 2 rfl) ?_
        refine w_iald hM hW lb_20 (i_in (by omega) (by omega)) dX7_become_30 ?_
        refine q_top (fun y67 hy67 => ?_)
        refine w_iast hM hW lb_44 (by omega) (i_in (by omega) (by omega)) dX7_become_31 (fun g68 H locs hW e1 e2 => ?_)
        refine q_iconst (v := (0 : Int32)) hM dX7_become_32 (by decide) ?_
        refine q_istore_n (lv9 := [(3, .int (0 : Int32)), (0, .ref (ad 42)), (1, .ref (ad 18)), (2, .int p)]) hM dX7_become_33 hl (by decide) rfl (fun ls hl => ?_)
        have L34 : ∀ (fu34 : Nat) (i : Int32) (g9 : Nat → va_E) (H : Heap) (locs : List Loc) (ls : Array Slot), (12 - i.toInt).toNat < fu34 → (0 ≤ i.toInt) → (i.toInt ≤ 12) → lv_has ls 4 [(0, .ref (ad 42)), (1, .ref (ad 18)), (2, .int p), (3, .int i)] → WS ad cA (fun i k => i = 43 ∨ i = 44 ∨ (46 ≤ i ∧ i < 54) ∨ (i = 42 ∧ (k = 3 ∨ k = 4 ∨ k = 5 ∨ k = 6 ∨ k = 7))) g0 K g9 H locs → XX K 0 0 H locs 34 ls [] := by
          intro fu34
          induction fu34 with
          | zero => intro i g9 H locs ls h0; omega
          | succ fu34 ih34 =>
            intro i g9 H locs ls hm34 i34_0 i34_1 hl hW
            refine q_iload_n hM dX7_become_34 (lv_at hl 3 rfl) ?_
            refine q_bipush (v := (12 : Int32)) hM dX7_become_35 (by decide) ?_
            refine q_icmp_ge (tgt := 62) hM dX7_become_37 (by decide) (rfl : i.toInt = i.toInt) (kc_12 : (12 : Int32).toInt = 12) (fun h37 => ?_) (fun h37 => ?_)
            · refine q_iinc (lv9 := fun z69 => [(2, .int z69), (0, .ref (ad 42)), (1, .ref (ad 18)), (3, .int i)]) hM dX7_become_62 hl (kq := 2) rfl (by decide) (fun _ => rfl) (fun z69 ls hz69 hl => ?_)
              have tz69 := i_addT hz69 (rfl : p.toInt = p.toInt) (kc_1 : (Int32.ofInt 1).toInt = 1) (by omega) (by omega)
              refine q_goto (tgt := 2) hM dX7_become_65 (by decide) ?_
              exact ih2 z69 _ _ _ _ (by omega) (by omega) (by omega) (lv_sub hl [1, 2, 0] rfl) hW
            · refine q_aload_n hM dX7_become_40 (lv_at hl 0 rfl) ?_
              refine w_get (v := .ref (ad 45)) hM hW FG_X7_20 lb_42 (rf_42_2 hW.2.1) dX7_become_41 ?_
              refine q_iload_n hM dX7_become_44 (lv_at hl 2 rfl) ?_
              refine w_aald hM hW lb_45 (Or.inl rfl) (i_in (by omega) (by omega)) (aq (aq_45 hW.2.1) (by omega) (by omega)) dX7_become_45 ?_
              refine q_iload_n hM dX7_become_46 (lv_at hl 3 rfl) ?_
              refine q_aload_n hM dX7_become_47 (lv_at hl 1 rfl) ?_
              refine w_get (v := .ref (ad 21)) hM hW FG_X7_20 lb_18 (rf_18_2 hW.2.1) dX7_become_48 ?_
              refine q_iload_n hM dX7_become_51 (lv_at hl 2 rfl) ?_
              refine w_aald hM hW lb_21 (Or.inl rfl) (i_in (by omega) (by omega)) (aq (aq_21 hW.2.1) (by omega) (by omega)) dX7_become_52 ?_
              refine q_iload_n hM dX7_become_53 (lv_at hl 3 rfl) ?_
              refine w_iald hM hW (lr_22 (by omega)) (i_in (by omega) (by omega)) dX7_become_54 ?_
              refine q_top (fun y70 hy70 => ?_)
              refine w_iast hM hW (lr_46 (by omega)) (by omega) (i_in (by omega) (by omega)) dX7_become_55 (fun g71 H locs hW e1 e2 => ?_)
              refine q_iinc (lv9 := fun z72 => [(3, .int z72), (0, .ref (ad 42)), (1, .ref (ad 18)), (2, .int p)]) hM dX7_become_56 hl (kq := 3) rfl (by decide) (fun _ => rfl) (fun z72 ls hz72 hl => ?_)
              have tz72 := i_addT hz72 (rfl : i.toInt = i.toInt) (kc_1 : (Int32.ofInt 1).toInt = 1) (by omega) (by omega)
              refine q_goto (tgt := 34) hM dX7_become_59 (by decide) ?_
              exact ih34 z72 _ _ _ _ (by omega) (by omega) (by omega) (lv_sub hl [1, 2, 3, 0] rfl) hW
        have := kc_0
        exact L34 _ (0 : Int32) _ _ _ _ (Nat.lt_succ_self _) (by omega) (by omega) (lv_sub hl [1, 2, 3, 0] rfl) hW
  have := kc_0
  exact L2 _ (0 : Int32) _ _ _ _ (Nat.lt_succ_self _) (by omega) (by omega) (lv_sub hl [1, 2, 0] rfl) hW


set_option maxRecDepth 100000 in
set_option maxHeartbeats 4000000 in
theorem c_X7_become_30 (l : Launch) (D : va_G) (cA : Nat → ClassId) (ad : Nat → Nat) (g0 : Nat → va_E) (tl wk ps rc xx : Int32) (hSh : Shp ad cA g0) (htl : fld g0 18 3 = .int tl) (hwk : fld g0 18 4 = .int wk) (hps : fld g0 18 5 = .int ps) (hrc : fld g0 18 6 = .int rc) (hxx : fld g0 18 7 = .int xx) : CT l NN ad cA D yX7_become cX7_become 4 none (0, 0) [.ref (ad 30), .ref (ad 18)] g0 (fun v g' => v = none ∧ Shp ad cA g' ∧ FR (fun i k => i = 31 ∨ i = 32 ∨ (34 ≤ i ∧ i < 42) ∨ (i = 30 ∧ (k = 3 ∨ k = 4 ∨ k = 5 ∨ k = 6 ∨ k = 7))) g0 g' ∧ fld g' 30 3 = .int tl ∧ fld g' 30 4 = .int wk ∧ fld g' 30 5 = .int ps ∧ fld g' 30 6 = .int rc ∧ fld g' 30 7 = .int xx) := by
  refine q_enterV (by decide) (Nat.le_of_ble_eq_true rfl) (fun K H locs ls _ _ hM hW0 hR hC hE hl => ?_)
  have hl : lv_has ls 4 [(0, .ref (ad 30)), (1, .ref (ad 18))] := hl
  have hW : WS ad cA (fun i k => i = 31 ∨ i = 32 ∨ (34 ≤ i ∧ i < 42) ∨ (i = 30 ∧ (k = 3 ∨ k = 4 ∨ k = 5 ∨ k = 6 ∨ k = 7))) g0 K g0 H locs := ⟨hW0, hSh, FR.rf⟩
  refine q_iconst (v := (0 : Int32)) hM dX7_become_0 (by decide) ?_
  refine q_istore_n (lv9 := [(2, .int (0 : Int32)), (0, .ref (ad 30)), (1, .ref (ad 18))]) hM dX7_become_1 hl (by decide) rfl (fun ls hl => ?_)
  have L2 : ∀ (fu2 : Nat) (p : Int32) (g9 : Nat → va_E) (H : Heap) (locs : List Loc) (ls : Array Slot), (8 - p.toInt).toNat < fu2 → (0 ≤ p.toInt) → (p.toInt ≤ 8) → lv_has ls 4 [(0, .ref (ad 30)), (1, .ref (ad 18)), (2, .int p)] → WS ad cA (fun i k => i = 31 ∨ i = 32 ∨ (34 ≤ i ∧ i < 42) ∨ (i = 30 ∧ (k = 3 ∨ k = 4 ∨ k = 5 ∨ k = 6 ∨ k = 7))) g0 K g9 H locs → XX K 0 0 H locs 2 ls [] := by
    intro fu2
    induction fu2 with
    | zero => intro p g9 H locs ls h0; omega
    | succ fu2 ih2 =>
      intro p g9 H locs ls hm2 i2_0 i2_1 hl hW
      refine q_iload_n hM dX7_become_2 (lv_at hl 2 rfl) ?_
      refine q_bipush (v := (8 : Int32)) hM dX7_become_3 (by decide) ?_
      refine q_icmp_ge (tgt := 68) hM dX7_become_5 (by decide) (rfl : p.toInt = p.toInt) (kc_8 : (8 : Int32).toInt = 8) (fun h5 => ?_) (fun h5 => ?_)
      · refine q_aload_n hM dX7_become_68 (lv_at hl 0 rfl) ?_
        refine q_aload_n hM dX7_become_69 (lv_at hl 1 rfl) ?_
        refine w_get (v := .int tl) hM hW FG_X7_23 lb_18 ((hW.2.2.1 18 3 (by omega)).trans htl) dX7_become_70 ?_
        refine w_put hM hW FP_X7_23 lb_30 (by omega) (Or.inl ⟨_, rfl⟩) rfl rfl dX7_become_73 (fun g73 H locs hW e1 e2 => ?_)
        have f74 : fld g73 30 3 = .int tl := e1
        refine q_aload_n hM dX7_become_76 (lv_at hl 0 rfl) ?_
        refine q_aload_n hM dX7_become_77 (lv_at hl 1 rfl) ?_
        refine w_get (v := .int wk) hM hW FG_X7_27 lb_18 ((hW.2.2.1 18 4 (by omega)).trans hwk) dX7_become_78 ?_
        refine w_put hM hW FP_X7_27 lb_30 (by omega) (Or.inl ⟨_, rfl⟩) rfl rfl dX7_become_81 (fun g75 H locs hW e1 e2 => ?_)
        have f76 : fld g75 30 3 = .int tl := (e2.1 30 3 (by unfold Only; omega)).trans f74
        have f77 : fld g75 30 4 = .int wk := e1
        refine q_aload_n hM dX7_become_84 (lv_at hl 0 rfl) ?_
        refine q_aload_n hM dX7_become_85 (lv_at hl 1 rfl) ?_
        refine w_get (v := .int ps) hM hW FG_X7_30 lb_18 ((hW.2.2.1 18 5 (by omega)).trans hps) dX7_become_86 ?_
        refine w_put hM hW FP_X7_30 lb_30 (by omega) (Or.inl ⟨_, rfl⟩) rfl rfl dX7_become_89 (fun g78 H locs hW e1 e2 => ?_)
        have f79 : fld g78 30 3 = .int tl := (e2.1 30 3 (by unfold Only; omega)).trans f76
        have f80 : fld g78 30 4 = .int wk := (e2.1 30 4 (by unfold Only; omega)).trans f77
        have f81 : fld g78 30 5 = .int ps := e1
        refine q_aload_n hM dX7_become_92 (lv_at hl 0 rfl) ?_
        refine q_aload_n hM dX7_become_93 (lv_at hl 1 rfl) ?_
        refine w_get (v := .int rc) hM hW FG_X7_33 lb_18 ((hW.2.2.1 18 6 (by omega)).trans hrc) dX7_become_94 ?_
        refine w_put hM hW FP_X7_33 lb_30 (by omega) (Or.inl ⟨_, rfl⟩) rfl rfl dX7_become_97 (fun g82 H locs hW e1 e2 => ?_)
        have f83 : fld g82 30 3 = .int tl := (e2.1 30 3 (by unfold Only; omega)).trans f79
        have f84 : fld g82 30 4 = .int wk := (e2.1 30 4 (by unfold Only; omega)).trans f80
        have f85 : fld g82 30 5 = .int ps := (e2.1 30 5 (by unfold Only; omega)).trans f81
        have f86 : fld g82 30 6 = .int rc := e1
        refine q_aload_n hM dX7_become_100 (lv_at hl 0 rfl) ?_
        refine q_aload_n hM dX7_become_101 (lv_at hl 1 rfl) ?_
        refine w_get (v := .int xx) hM hW FG_X7_36 lb_18 ((hW.2.2.1 18 7 (by omega)).trans hxx) dX7_become_102 ?_
        refine w_put hM hW FP_X7_36 lb_30 (by omega) (Or.inl ⟨_, rfl⟩) rfl rfl dX7_become_105 (fun g87 H locs hW e1 e2 => ?_)
        have f88 : fld g87 30 3 = .int tl := (e2.1 30 3 (by unfold Only; omega)).trans f83
        have f89 : fld g87 30 4 = .int wk := (e2.1 30 4 (by unfold Only; omega)).trans f84
        have f90 : fld g87 30 5 = .int ps := (e2.1 30 5 (by unfold Only; omega)).trans f85
        have f91 : fld g87 30 6 = .int rc := (e2.1 30 6 (by unfold Only; omega)).trans f86
        have f92 : fld g87 30 7 = .int xx := e1
        exact hE _ _ _ _ _ hW.1 ⟨rfl, hW.2.1, hW.2.2, f88, f89, f90, f91, f92⟩ dX7_become_108
      · refine q_aload_n hM dX7_become_8 (lv_at hl 0 rfl) ?_
        refine w_get (v := .ref (ad 31)) hM hW FG_X7_9 lb_30 (rf_30_0 hW.2.1) dX7_become_9 ?_
        refine q_iload_n hM dX7_become_12 (lv_at hl 2 rfl) ?_
        refine q_aload_n hM dX7_become_13 (lv_at hl 1 rfl) ?_
        refine w_get (v := .ref (ad 19)) hM hW FG_X7_9 lb_18 (rf_18_0 hW.2.1) dX7_become_14 ?_
        refine q_iload_n hM dX7_become_17 (lv_at hl 2 rfl) ?_
        refine w_iald hM hW lb_19 (i_in (by omega) (by omega)) dX7_become_18 ?_
        refine q_top (fun y93 hy93 => ?_)
        refine w_iast hM hW lb_31 (by omega) (i_in (by omega) (by omega)) dX7_become_19 (fun g94 H locs hW e1 e2 => ?_)
        refine q_aload_n hM dX7_become_20 (lv_at hl 0 rfl) ?_
        refine w_get (v := .ref (ad 32)) hM hW FG_X7_15 lb_30 (rf_30_1 hW.2.1) dX7_become_21 ?_
        refine q_iload_n hM dX7_become_24 (lv_at hl 2 rfl) ?_
        refine q_aload_n hM dX7_become_25 (lv_at hl 1 rfl) ?_
        refine w_get (v := .ref (ad 20)) hM hW FG_X7_15 lb_18 (rf_18_1 hW.2.1) dX7_become_26 ?_
        refine q_iload_n hM dX7_become_29 (lv_at hl 2 rfl) ?_
        refine w_iald hM hW lb_20 (i_in (by omega) (by omega)) dX7_become_30 ?_
        refine q_top (fun y95 hy95 => ?_)
        refine w_iast hM hW lb_32 (by omega) (i_in (by omega) (by omega)) dX7_become_31 (fun g96 H locs hW e1 e2 => ?_)
        refine q_iconst (v := (0 : Int32)) hM dX7_become_32 (by decide) ?_
        refine q_istore_n (lv9 := [(3, .int (0 : Int32)), (0, .ref (ad 30)), (1, .ref (ad 18)), (2, .int p)]) hM dX7_become_33 hl (by decide) rfl (fun ls hl => ?_)
        have L34 : ∀ (fu34 : Nat) (i : Int32) (g9 : Nat → va_E) (H : Heap) (locs : List Loc) (ls : Array Slot), (12 - i.toInt).toNat < fu34 → (0 ≤ i.toInt) → (i.toInt ≤ 12) → lv_has ls 4 [(0, .ref (ad 30)), (1, .ref (ad 18)), (2, .int p), (3, .int i)] → WS ad cA (fun i k => i = 31 ∨ i = 32 ∨ (34 ≤ i ∧ i < 42) ∨ (i = 30 ∧ (k = 3 ∨ k = 4 ∨ k = 5 ∨ k = 6 ∨ k = 7))) g0 K g9 H locs → XX K 0 0 H locs 34 ls [] := by
          intro fu34
          induction fu34 with
          | zero => intro i g9 H locs ls h0; omega
          | succ fu34 ih34 =>
            intro i g9 H locs ls hm34 i34_0 i34_1 hl hW
            refine q_iload_n hM dX7_become_34 (lv_at hl 3 rfl) ?_
            refine q_bipush (v := (12 : Int32)) hM dX7_become_35 (by decide) ?_
            refine q_icmp_ge (tgt := 62) hM dX7_become_37 (by decide) (rfl : i.toInt = i.toInt) (kc_12 : (12 : Int32).toInt = 12) (fun h37 => ?_) (fun h37 => ?_)
            · refine q_iinc (lv9 := fun z97 => [(2, .int z97), (0, .ref (ad 30)), (1, .ref (ad 18)), (3, .int i)]) hM dX7_become_62 hl (kq := 2) rfl (by decide) (fun _ => rfl) (fun z97 ls hz97 hl => ?_)
              have tz97 := i_addT hz97 (rfl : p.toInt = p.toInt) (kc_1 : (Int32.ofInt 1).toInt = 1) (by omega) (by omega)
              refine q_goto (tgt := 2) hM dX7_become_65 (by decide) ?_
              exact ih2 z97 _ _ _ _ (by omega) (by omega) (by omega) (lv_sub hl [1, 2, 0] rfl) hW
            · refine q_aload_n hM dX7_become_40 (lv_at hl 0 rfl) ?_
              refine w_get (v := .ref (ad 33)) hM hW FG_X7_20 lb_30 (rf_30_2 hW.2.1) dX7_become_41 ?_
              refine q_iload_n hM dX7_become_44 (lv_at hl 2 rfl) ?_
              refine w_aald hM hW lb_33 (Or.inl rfl) (i_in (by omega) (by omega)) (aq (aq_33 hW.2.1) (by omega) (by omega)) dX7_become_45 ?_
              refine q_iload_n hM dX7_become_46 (lv_at hl 3 rfl) ?_
              refine q_aload_n hM dX7_become_47 (lv_at hl 1 rfl) ?_
              refine w_get (v := .ref (ad 21)) hM hW FG_X7_20 lb_18 (rf_18_2 hW.2.1) dX7_become_48 ?_
              refine q_iload_n hM dX7_become_51 (lv_at hl 2 rfl) ?_
              refine w_aald hM hW lb_21 (Or.inl rfl) (i_in (by omega) (by omega)) (aq (aq_21 hW.2.1) (by omega) (by omega)) dX7_become_52 ?_
              refine q_iload_n hM dX7_become_53 (lv_at hl 3 rfl) ?_
              refine w_iald hM hW (lr_22 (by omega)) (i_in (by omega) (by omega)) dX7_become_54 ?_
              refine q_top (fun y98 hy98 => ?_)
              refine w_iast hM hW (lr_34 (by omega)) (by omega) (i_in (by omega) (by omega)) dX7_become_55 (fun g99 H locs hW e1 e2 => ?_)
              refine q_iinc (lv9 := fun z100 => [(3, .int z100), (0, .ref (ad 30)), (1, .ref (ad 18)), (2, .int p)]) hM dX7_become_56 hl (kq := 3) rfl (by decide) (fun _ => rfl) (fun z100 ls hz100 hl => ?_)
              have tz100 := i_addT hz100 (rfl : i.toInt = i.toInt) (kc_1 : (Int32.ofInt 1).toInt = 1) (by omega) (by omega)
              refine q_goto (tgt := 34) hM dX7_become_59 (by decide) ?_
              exact ih34 z100 _ _ _ _ (by omega) (by omega) (by omega) (lv_sub hl [1, 2, 3, 0] rfl) hW
        have := kc_0
        exact L34 _ (0 : Int32) _ _ _ _ (Nat.lt_succ_self _) (by omega) (by omega) (lv_sub hl [1, 2, 3, 0] rfl) hW
  have := kc_0
  exact L2 _ (0 : Int32) _ _ _ _ (Nat.lt_succ_self _) (by omega) (by omega) (lv_sub hl [1, 2, 0] rfl) hW

theorem dX3_become_0 : decode cX3_become 0 = .ok (.aload_n 0, 1) := by decide +kernel
theorem dX3_become_1 : decode cX3_become 1 = .ok (.aload_n 1, 1) := by decide +kernel
theorem dX3_become_2 : decode cX3_become 2 = .ok (.getfield 28, 3) := by decide +kernel
theorem dX3_become_5 : decode cX3_become 5 = .ok (.putfield 28, 3) := by decide +kernel
theorem dX3_become_8 : decode cX3_become 8 = .ok (.aload_n 0, 1) := by decide +kernel
theorem dX3_become_9 : decode cX3_become 9 = .ok (.aload_n 1, 1) := by decide +kernel
theorem dX3_become_10 : decode cX3_become 10 = .ok (.getfield 32, 3) := by decide +kernel
theorem dX3_become_13 : decode cX3_become 13 = .ok (.putfield 32, 3) := by decide +kernel
theorem dX3_become_16 : decode cX3_become 16 = .ok (.iconst 0, 1) := by decide +kernel
theorem dX3_become_17 : decode cX3_become 17 = .ok (.istore_n 2, 1) := by decide +kernel
theorem dX3_become_18 : decode cX3_become 18 = .ok (.iload_n 2, 1) := by decide +kernel
theorem dX3_become_19 : decode cX3_become 19 = .ok (.bipush 16, 2) := by decide +kernel
theorem dX3_become_21 : decode cX3_become 21 = .ok (.if_icmp .ge 45, 3) := by decide +kernel
theorem dX3_become_24 : decode cX3_become 24 = .ok (.aload_n 0, 1) := by decide +kernel
theorem dX3_become_25 : decode cX3_become 25 = .ok (.getfield 9, 3) := by decide +kernel
theorem dX3_become_28 : decode cX3_become 28 = .ok (.iload_n 2, 1) := by decide +kernel
theorem dX3_become_29 : decode cX3_become 29 = .ok (.aload_n 1, 1) := by decide +kernel
theorem dX3_become_30 : decode cX3_become 30 = .ok (.getfield 9, 3) := by decide +kernel
theorem dX3_become_33 : decode cX3_become 33 = .ok (.iload_n 2, 1) := by decide +kernel
theorem dX3_become_34 : decode cX3_become 34 = .ok (.iaload, 1) := by decide +kernel
theorem dX3_become_35 : decode cX3_become 35 = .ok (.iastore, 1) := by decide +kernel
theorem dX3_become_36 : decode cX3_become 36 = .ok (.aload_n 0, 1) := by decide +kernel
theorem dX3_become_37 : decode cX3_become 37 = .ok (.getfield 13, 3) := by decide +kernel
theorem dX3_become_40 : decode cX3_become 40 = .ok (.iload_n 2, 1) := by decide +kernel
theorem dX3_become_41 : decode cX3_become 41 = .ok (.aload_n 1, 1) := by decide +kernel
theorem dX3_become_42 : decode cX3_become 42 = .ok (.getfield 13, 3) := by decide +kernel
theorem dX3_become_45 : decode cX3_become 45 = .ok (.iload_n 2, 1) := by decide +kernel
theorem dX3_become_46 : decode cX3_become 46 = .ok (.iaload, 1) := by decide +kernel
theorem dX3_become_47 : decode cX3_become 47 = .ok (.iastore, 1) := by decide +kernel
theorem dX3_become_48 : decode cX3_become 48 = .ok (.aload_n 0, 1) := by decide +kernel
theorem dX3_become_49 : decode cX3_become 49 = .ok (.getfield 16, 3) := by decide +kernel
theorem dX3_become_52 : decode cX3_become 52 = .ok (.iload_n 2, 1) := by decide +kernel
theorem dX3_become_53 : decode cX3_become 53 = .ok (.aload_n 1, 1) := by decide +kernel
theorem dX3_become_54 : decode cX3_become 54 = .ok (.getfield 16, 3) := by decide +kernel
theorem dX3_become_57 : decode cX3_become 57 = .ok (.iload_n 2, 1) := by decide +kernel
theorem dX3_become_58 : decode cX3_become 58 = .ok (.iaload, 1) := by decide +kernel
theorem dX3_become_59 : decode cX3_become 59 = .ok (.iastore, 1) := by decide +kernel
theorem dX3_become_60 : decode cX3_become 60 = .ok (.iinc 2 1, 3) := by decide +kernel
theorem dX3_become_63 : decode cX3_become 63 = .ok (.goto (-45), 3) := by decide +kernel
theorem dX3_become_66 : decode cX3_become 66 = .ok (.iconst 0, 1) := by decide +kernel
theorem dX3_become_67 : decode cX3_become 67 = .ok (.istore_n 2, 1) := by decide +kernel
theorem dX3_become_68 : decode cX3_become 68 = .ok (.iload_n 2, 1) := by decide +kernel
theorem dX3_become_69 : decode cX3_become 69 = .ok (.sipush 256, 3) := by decide +kernel
theorem dX3_become_72 : decode cX3_become 72 = .ok (.if_icmp .ge 33, 3) := by decide +kernel
theorem dX3_become_75 : decode cX3_become 75 = .ok (.aload_n 0, 1) := by decide +kernel
theorem dX3_become_76 : decode cX3_become 76 = .ok (.getfield 19, 3) := by decide +kernel
theorem dX3_become_79 : decode cX3_become 79 = .ok (.iload_n 2, 1) := by decide +kernel
theorem dX3_become_80 : decode cX3_become 80 = .ok (.aload_n 1, 1) := by decide +kernel
theorem dX3_become_81 : decode cX3_become 81 = .ok (.getfield 19, 3) := by decide +kernel
theorem dX3_become_84 : decode cX3_become 84 = .ok (.iload_n 2, 1) := by decide +kernel
theorem dX3_become_85 : decode cX3_become 85 = .ok (.iaload, 1) := by decide +kernel
theorem dX3_become_86 : decode cX3_become 86 = .ok (.iastore, 1) := by decide +kernel
theorem dX3_become_87 : decode cX3_become 87 = .ok (.aload_n 0, 1) := by decide +kernel
theorem dX3_become_88 : decode cX3_become 88 = .ok (.getfield 22, 3) := by decide +kernel
theorem dX3_become_91 : decode cX3_become 91 = .ok (.iload_n 2, 1) := by decide +kernel
theorem dX3_become_92 : decode cX3_become 92 = .ok (.aload_n 1, 1) := by decide +kernel
theorem dX3_become_93 : decode cX3_become 93 = .ok (.getfield 22, 3) := by decide +kernel
theorem dX3_become_96 : decode cX3_become 96 = .ok (.iload_n 2, 1) := by decide +kernel
theorem dX3_become_97 : decode cX3_become 97 = .ok (.iaload, 1) := by decide +kernel
theorem dX3_become_98 : decode cX3_become 98 = .ok (.iastore, 1) := by decide +kernel
theorem dX3_become_99 : decode cX3_become 99 = .ok (.iinc 2 1, 3) := by decide +kernel
theorem dX3_become_102 : decode cX3_become 102 = .ok (.goto (-34), 3) := by decide +kernel
theorem dX3_become_105 : decode cX3_become 105 = .ok (.return_, 1) := by decide +kernel
theorem FG_X3_28 : FG RX3 28 3 8 6 := ⟨RX3, TX3, rfl, wX3, by decide, kAW (v_0_8 (List.mem_of_getElem? (i := 3) rfl)) rfl, rfl⟩
theorem FP_X3_28 : FPX RX3 28 3 8 6 .int := ⟨⟨RX3, TX3, tyX3, rfl, wX3, by decide, kAW (v_0_8 (List.mem_of_getElem? (i := 3) rfl)) rfl, rfl, tyX3_ok, nmX3, by decide +kernel, rfl⟩, by decide +kernel⟩
theorem FG_X3_32 : FG RX3 32 3 8 7 := ⟨RX3, TX3, rfl, wX3, by decide, kAW (v_0_8 (List.mem_of_getElem? (i := 6) rfl)) rfl, rfl⟩
theorem FP_X3_32 : FPX RX3 32 3 8 7 .int := ⟨⟨RX3, TX3, tyX3, rfl, wX3, by decide, kAW (v_0_8 (List.mem_of_getElem? (i := 6) rfl)) rfl, rfl, tyX3_ok, nmX3, by decide +kernel, rfl⟩, by decide +kernel⟩
theorem FG_X3_19 : FG RX3 19 3 8 3 := ⟨RX3, TX3, rfl, wX3, by decide, kAW (v_0_8 (List.mem_of_getElem? (i := 0) rfl)) rfl, rfl⟩
theorem FG_X3_22 : FG RX3 22 3 8 4 := ⟨RX3, TX3, rfl, wX3, by decide, kAW (v_0_8 (List.mem_of_getElem? (i := 1) rfl)) rfl, rfl⟩
theorem FG_X3_9 : FG RX3 9 3 8 0 := ⟨RX3, TX3, rfl, wX3, by decide, kAW (v_0_7 (List.mem_of_getElem? (i := 10) rfl)) rfl, rfl⟩
theorem FG_X3_13 : FG RX3 13 3 8 1 := ⟨RX3, TX3, rfl, wX3, by decide, kAW (v_0_7 (List.mem_of_getElem? (i := 12) rfl)) rfl, rfl⟩
theorem FG_X3_16 : FG RX3 16 3 8 2 := ⟨RX3, TX3, rfl, wX3, by decide, kAW (v_0_7 (List.mem_of_getElem? (i := 14) rfl)) rfl, rfl⟩
set_option maxRecDepth 100000 in
set_option maxHeartbeats 4000000 in
theorem c_X3_become (l : Launch) (D : va_G) (cA : Nat → ClassId) (ad : Nat → Nat) (g0 : Nat → va_E) (cl sz : Int32) (hSh : Shp ad cA g0) (hcl : fld g0 54 6 = .int cl) (hsz : fld g0 54 7 = .int sz) : CT l NN ad cA D yX3_become cX3_become 3 none (0, 0) [.ref (ad 61), .ref (ad 54)] g0 (fun v g' => v = none ∧ Shp ad cA g' ∧ FR (fun i k => (i = 61 ∧ (k = 6 ∨ k = 7)) ∨ (62 ≤ i ∧ i < 67)) g0 g' ∧ fld g' 61 6 = .int cl) := by
  refine q_enterV (by decide) (Nat.le_of_ble_eq_true rfl) (fun K H locs ls _ _ hM hW0 hR hC hE hl => ?_)
  have hl : lv_has ls 3 [(0, .ref (ad 61)), (1, .ref (ad 54))] := hl
  have hW : WS ad cA (fun i k => (i = 61 ∧ (k = 6 ∨ k = 7)) ∨ (62 ≤ i ∧ i < 67)) g0 K g0 H locs := ⟨hW0, hSh, FR.rf⟩
  refine q_aload_n hM dX3_become_0 (lv_at hl 0 rfl) ?_
  refine q_aload_n hM dX3_become_1 (lv_at hl 1 rfl) ?_
  refine w_get (v := .int cl) hM hW FG_X3_28 lb_54 ((hW.2.2.1 54 6 (by omega)).trans hcl) dX3_become_2 ?_
  refine w_put hM hW FP_X3_28 lb_61 (by omega) (Or.inl ⟨_, rfl⟩) rfl rfl dX3_become_5 (fun g101 H locs hW e1 e2 => ?_)
  have f102 : fld g101 61 6 = .int cl := e1
  refine q_aload_n hM dX3_become_8 (lv_at hl 0 rfl) ?_
  refine q_aload_n hM dX3_become_9 (lv_at hl 1 rfl) ?_
  refine w_get (v := .int sz) hM hW FG_X3_32 lb_54 ((hW.2.2.1 54 7 (by omega)).trans hsz) dX3_become_10 ?_
  refine w_put hM hW FP_X3_32 lb_61 (by omega) (Or.inl ⟨_, rfl⟩) rfl rfl dX3_become_13 (fun g103 H locs hW e1 e2 => ?_)
  have f104 : fld g103 61 6 = .int cl := (e2.1 61 6 (by unfold Only; omega)).trans f102
  have f105 : fld g103 61 7 = .int sz := e1
  refine q_iconst (v := (0 : Int32)) hM dX3_become_16 (by decide) ?_
  refine q_istore_n (lv9 := [(2, .int (0 : Int32)), (0, .ref (ad 61)), (1, .ref (ad 54))]) hM dX3_become_17 hl (by decide) rfl (fun ls hl => ?_)
  have L18 : ∀ (fu18 : Nat) (c : Int32) (g9 : Nat → va_E) (H : Heap) (locs : List Loc) (ls : Array Slot), (16 - c.toInt).toNat < fu18 → (0 ≤ c.toInt) → (c.toInt ≤ 16) → (fld g9 61 6 = .int cl) → (fld g9 61 7 = .int sz) → lv_has ls 3 [(0, .ref (ad 61)), (1, .ref (ad 54)), (2, .int c)] → WS ad cA (fun i k => (i = 61 ∧ (k = 6 ∨ k = 7)) ∨ (62 ≤ i ∧ i < 67)) g0 K g9 H locs → XX K 0 0 H locs 18 ls [] := by
    intro fu18
    induction fu18 with
    | zero => intro c g9 H locs ls h0; omega
    | succ fu18 ih18 =>
      intro c g9 H locs ls hm18 i18_0 i18_1 c18_61_6 c18_61_7 hl hW
      refine q_iload_n hM dX3_become_18 (lv_at hl 2 rfl) ?_
      refine q_bipush (v := (16 : Int32)) hM dX3_become_19 (by decide) ?_
      refine q_icmp_ge (tgt := 66) hM dX3_become_21 (by decide) (rfl : c.toInt = c.toInt) (kc_16 : (16 : Int32).toInt = 16) (fun h21 => ?_) (fun h21 => ?_)
      · refine q_iconst (v := (0 : Int32)) hM dX3_become_66 (by decide) ?_
        refine q_istore_n (lv9 := [(2, .int (0 : Int32)), (0, .ref (ad 61)), (1, .ref (ad 54))]) hM dX3_become_67 hl (by decide) rfl (fun ls hl => ?_)
        have L68 : ∀ (fu68 : Nat) (o : Int32) (g9 : Nat → va_E) (H : Heap) (locs : List Loc) (ls : Array Slot), (256 - o.toInt).toNat < fu68 → (0 ≤ o.toInt) → (o.toInt ≤ 256) → (fld g9 61 6 = .int cl) → (fld g9 61 7 = .int sz) → lv_has ls 3 [(0, .ref (ad 61)), (1, .ref (ad 54)), (2, .int o)] → WS ad cA (fun i k => (i = 61 ∧ (k = 6 ∨ k = 7)) ∨ (62 ≤ i ∧ i < 67)) g0 K g9 H locs → XX K 0 0 H locs 68 ls [] := by
          intro fu68
          induction fu68 with
          | zero => intro o g9 H locs ls h0; omega
          | succ fu68 ih68 =>
            intro o g9 H locs ls hm68 i68_0 i68_1 c68_61_6 c68_61_7 hl hW
            refine q_iload_n hM dX3_become_68 (lv_at hl 2 rfl) ?_
            refine q_sipush (v := (256 : Int32)) hM dX3_become_69 (by decide) ?_
            refine q_icmp_ge (tgt := 105) hM dX3_become_72 (by decide) (rfl : o.toInt = o.toInt) (kc_256 : (256 : Int32).toInt = 256) (fun h72 => ?_) (fun h72 => ?_)
            · exact hE _ _ _ _ _ hW.1 ⟨rfl, hW.2.1, hW.2.2, c68_61_6⟩ dX3_become_105
            · refine q_aload_n hM dX3_become_75 (lv_at hl 0 rfl) ?_
              refine w_get (v := .ref (ad 65)) hM hW FG_X3_19 lb_61 (rf_61_3 hW.2.1) dX3_become_76 ?_
              refine q_iload_n hM dX3_become_79 (lv_at hl 2 rfl) ?_
              refine q_aload_n hM dX3_become_80 (lv_at hl 1 rfl) ?_
              refine w_get (v := .ref (ad 58)) hM hW FG_X3_19 lb_54 (rf_54_3 hW.2.1) dX3_become_81 ?_
              refine q_iload_n hM dX3_become_84 (lv_at hl 2 rfl) ?_
              refine w_iald hM hW lb_58 (i_in (by omega) (by omega)) dX3_become_85 ?_
              refine q_top (fun y106 hy106 => ?_)
              refine w_iast hM hW lb_65 (by omega) (i_in (by omega) (by omega)) dX3_become_86 (fun g107 H locs hW e1 e2 => ?_)
              have f108 : fld g107 61 6 = .int cl := (e2.1 61 6 (by unfold Only; omega)).trans c68_61_6
              have f109 : fld g107 61 7 = .int sz := (e2.1 61 7 (by unfold Only; omega)).trans c68_61_7
              refine q_aload_n hM dX3_become_87 (lv_at hl 0 rfl) ?_
              refine w_get (v := .ref (ad 66)) hM hW FG_X3_22 lb_61 (rf_61_4 hW.2.1) dX3_become_88 ?_
              refine q_iload_n hM dX3_become_91 (lv_at hl 2 rfl) ?_
              refine q_aload_n hM dX3_become_92 (lv_at hl 1 rfl) ?_
              refine w_get (v := .ref (ad 59)) hM hW FG_X3_22 lb_54 (rf_54_4 hW.2.1) dX3_become_93 ?_
              refine q_iload_n hM dX3_become_96 (lv_at hl 2 rfl) ?_
              refine w_iald hM hW lb_59 (i_in (by omega) (by omega)) dX3_become_97 ?_
              refine q_top (fun y110 hy110 => ?_)
              refine w_iast hM hW lb_66 (by omega) (i_in (by omega) (by omega)) dX3_become_98 (fun g111 H locs hW e1 e2 => ?_)
              have f112 : fld g111 61 6 = .int cl := (e2.1 61 6 (by unfold Only; omega)).trans f108
              have f113 : fld g111 61 7 = .int sz := (e2.1 61 7 (by unfold Only; omega)).trans f109
              refine q_iinc (lv9 := fun z114 => [(2, .int z114), (0, .ref (ad 61)), (1, .ref (ad 54))]) hM dX3_become_99 hl (kq := 2) rfl (by decide) (fun _ => rfl) (fun z114 ls hz114 hl => ?_)
              have tz114 := i_addT hz114 (rfl : o.toInt = o.toInt) (kc_1 : (Int32.ofInt 1).toInt = 1) (by omega) (by omega)
              refine q_goto (tgt := 68) hM dX3_become_102 (by decide) ?_
              exact ih68 z114 _ _ _ _ (by omega) (by omega) (by omega) f112 f113 (lv_sub hl [1, 2, 0] rfl) hW
        have := kc_0
        exact L68 _ (0 : Int32) _ _ _ _ (Nat.lt_succ_self _) (by omega) (by omega) c18_61_6 c18_61_7 (lv_sub hl [1, 2, 0] rfl) hW
      · refine q_aload_n hM dX3_become_24 (lv_at hl 0 rfl) ?_
        refine w_get (v := .ref (ad 62)) hM hW FG_X3_9 lb_61 (rf_61_0 hW.2.1) dX3_become_25 ?_
        refine q_iload_n hM dX3_become_28 (lv_at hl 2 rfl) ?_
        refine q_aload_n hM dX3_become_29 (lv_at hl 1 rfl) ?_
        refine w_get (v := .ref (ad 55)) hM hW FG_X3_9 lb_54 (rf_54_0 hW.2.1) dX3_become_30 ?_
        refine q_iload_n hM dX3_become_33 (lv_at hl 2 rfl) ?_
        refine w_iald hM hW lb_55 (i_in (by omega) (by omega)) dX3_become_34 ?_
        refine q_top (fun y115 hy115 => ?_)
        refine w_iast hM hW lb_62 (by omega) (i_in (by omega) (by omega)) dX3_become_35 (fun g116 H locs hW e1 e2 => ?_)
        have f117 : fld g116 61 6 = .int cl := (e2.1 61 6 (by unfold Only; omega)).trans c18_61_6
        have f118 : fld g116 61 7 = .int sz := (e2.1 61 7 (by unfold Only; omega)).trans c18_61_7
        refine q_aload_n hM dX3_become_36 (lv_at hl 0 rfl) ?_
        refine w_get (v := .ref (ad 63)) hM hW FG_X3_13 lb_61 (rf_61_1 hW.2.1) dX3_become_37 ?_
        refine q_iload_n hM dX3_become_40 (lv_at hl 2 rfl) ?_
        refine q_aload_n hM dX3_become_41 (lv_at hl 1 rfl) ?_
        refine w_get (v := .ref (ad 56)) hM hW FG_X3_13 lb_54 (rf_54_1 hW.2.1) dX3_become_42 ?_
        refine q_iload_n hM dX3_become_45 (lv_at hl 2 rfl) ?_
        refine w_iald hM hW lb_56 (i_in (by omega) (by omega)) dX3_become_46 ?_
        refine q_top (fun y119 hy119 => ?_)
        refine w_iast hM hW lb_63 (by omega) (i_in (by omega) (by omega)) dX3_become_47 (fun g120 H locs hW e1 e2 => ?_)
        have f121 : fld g120 61 6 = .int cl := (e2.1 61 6 (by unfold Only; omega)).trans f117
        have f122 : fld g120 61 7 = .int sz := (e2.1 61 7 (by unfold Only; omega)).trans f118
        refine q_aload_n hM dX3_become_48 (lv_at hl 0 rfl) ?_
        refine w_get (v := .ref (ad 64)) hM hW FG_X3_16 lb_61 (rf_61_2 hW.2.1) dX3_become_49 ?_
        refine q_iload_n hM dX3_become_52 (lv_at hl 2 rfl) ?_
        refine q_aload_n hM dX3_become_53 (lv_at hl 1 rfl) ?_
        refine w_get (v := .ref (ad 57)) hM hW FG_X3_16 lb_54 (rf_54_2 hW.2.1) dX3_become_54 ?_
        refine q_iload_n hM dX3_become_57 (lv_at hl 2 rfl) ?_
        refine w_iald hM hW lb_57 (i_in (by omega) (by omega)) dX3_become_58 ?_
        refine q_top (fun y123 hy123 => ?_)
        refine w_iast hM hW lb_64 (by omega) (i_in (by omega) (by omega)) dX3_become_59 (fun g124 H locs hW e1 e2 => ?_)
        have f125 : fld g124 61 6 = .int cl := (e2.1 61 6 (by unfold Only; omega)).trans f121
        have f126 : fld g124 61 7 = .int sz := (e2.1 61 7 (by unfold Only; omega)).trans f122
        refine q_iinc (lv9 := fun z127 => [(2, .int z127), (0, .ref (ad 61)), (1, .ref (ad 54))]) hM dX3_become_60 hl (kq := 2) rfl (by decide) (fun _ => rfl) (fun z127 ls hz127 hl => ?_)
        have tz127 := i_addT hz127 (rfl : c.toInt = c.toInt) (kc_1 : (Int32.ofInt 1).toInt = 1) (by omega) (by omega)
        refine q_goto (tgt := 18) hM dX3_become_63 (by decide) ?_
        exact ih18 z127 _ _ _ _ (by omega) (by omega) (by omega) f125 f126 (lv_sub hl [1, 2, 0] rfl) hW
  have := kc_0
  exact L18 _ (0 : Int32) _ _ _ _ (Nat.lt_succ_self _) (by omega) (by omega) f104 f105 (lv_sub hl [1, 2, 0] rfl) hW

theorem dX2_go_0 : decode cX2_go 0 = .ok (.iconst 0, 1) := by decide +kernel
theorem dX2_go_1 : decode cX2_go 1 = .ok (.istore_n 2, 1) := by decide +kernel
theorem dX2_go_2 : decode cX2_go 2 = .ok (.iload_n 2, 1) := by decide +kernel
theorem dX2_go_3 : decode cX2_go 3 = .ok (.iload_n 1, 1) := by decide +kernel
theorem dX2_go_4 : decode cX2_go 4 = .ok (.if_icmp .ge 82, 3) := by decide +kernel
theorem dX2_go_7 : decode cX2_go 7 = .ok (.aload_n 0, 1) := by decide +kernel
theorem dX2_go_8 : decode cX2_go 8 = .ok (.getfield 19, 3) := by decide +kernel
theorem dX2_go_11 : decode cX2_go 11 = .ok (.getfield 53, 3) := by decide +kernel
theorem dX2_go_14 : decode cX2_go 14 = .ok (.sipush 9999, 3) := by decide +kernel
theorem dX2_go_17 : decode cX2_go 17 = .ok (.if_icmp .ge 69, 3) := by decide +kernel
theorem dX2_go_20 : decode cX2_go 20 = .ok (.iconst 0, 1) := by decide +kernel
theorem dX2_go_21 : decode cX2_go 21 = .ok (.istore_n 3, 1) := by decide +kernel
theorem dX2_go_22 : decode cX2_go 22 = .ok (.iload_n 3, 1) := by decide +kernel
theorem dX2_go_23 : decode cX2_go 23 = .ok (.bipush 8, 2) := by decide +kernel
theorem dX2_go_25 : decode cX2_go 25 = .ok (.if_icmp .ge 42, 3) := by decide +kernel
theorem dX2_go_28 : decode cX2_go 28 = .ok (.aload_n 0, 1) := by decide +kernel
theorem dX2_go_29 : decode cX2_go 29 = .ok (.getfield 19, 3) := by decide +kernel
theorem dX2_go_32 : decode cX2_go 32 = .ok (.getfield 58, 3) := by decide +kernel
theorem dX2_go_35 : decode cX2_go 35 = .ok (.iload_n 3, 1) := by decide +kernel
theorem dX2_go_36 : decode cX2_go 36 = .ok (.invokestatic 61, 3) := by decide +kernel
theorem dX2_go_39 : decode cX2_go 39 = .ok (.ifCond .eq 22, 3) := by decide +kernel
theorem dX2_go_61 : decode cX2_go 61 = .ok (.iinc 3 1, 3) := by decide +kernel
theorem dX2_go_64 : decode cX2_go 64 = .ok (.goto (-42), 3) := by decide +kernel
theorem dX2_go_67 : decode cX2_go 67 = .ok (.aload_n 0, 1) := by decide +kernel
theorem dX2_go_68 : decode cX2_go 68 = .ok (.getfield 19, 3) := by decide +kernel
theorem dX2_go_71 : decode cX2_go 71 = .ok (.dup, 1) := by decide +kernel
theorem dX2_go_72 : decode cX2_go 72 = .ok (.getfield 53, 3) := by decide +kernel
theorem dX2_go_75 : decode cX2_go 75 = .ok (.iconst 1, 1) := by decide +kernel
theorem dX2_go_76 : decode cX2_go 76 = .ok (.iadd, 1) := by decide +kernel
theorem dX2_go_77 : decode cX2_go 77 = .ok (.putfield 53, 3) := by decide +kernel
theorem dX2_go_80 : decode cX2_go 80 = .ok (.iinc 2 1, 3) := by decide +kernel
theorem dX2_go_83 : decode cX2_go 83 = .ok (.goto (-81), 3) := by decide +kernel
theorem dX2_go_86 : decode cX2_go 86 = .ok (.return_, 1) := by decide +kernel
theorem FG_X2_19 : FG RX2 19 2 11 10 := ⟨RX2, TX2, rfl, wX2, by decide, kAW (v_1_0 (List.mem_of_getElem? (i := 5) rfl)) rfl, rfl⟩
theorem FG_X2_53 : FG RX2 53 7 8 4 := ⟨RX7, TX7, rfl, wX7, by decide, kAW (v_0_5 (List.mem_of_getElem? (i := 9) rfl)) rfl, rfl⟩
theorem FP_X2_53 : FPX RX2 53 7 8 4 .int := ⟨⟨RX7, TX7, tyX7, rfl, wX7, by decide, kAW (v_0_5 (List.mem_of_getElem? (i := 9) rfl)) rfl, rfl, tyX7_ok, nmX7, by decide +kernel, rfl⟩, by decide +kernel⟩
theorem FG_X2_58 : FG RX2 58 7 8 3 := ⟨RX7, TX7, rfl, wX7, by decide, kAW (v_0_5 (List.mem_of_getElem? (i := 6) rfl)) rfl, rfl⟩
theorem myX11_has : MS yX11_has cX11_has 2 (some FieldType.boolean) 2 := ⟨kAW (v_1_10 (List.mem_of_getElem? (i := 10) rfl)) rfl, kAW (v_0_0 (List.mem_of_getElem? (i := 1) rfl)) rfl, kAW (v_1_10 (List.mem_of_getElem? (i := 9) rfl)) rfl, by decide, by decide, by decide +kernel⟩
set_option maxRecDepth 100000 in
set_option maxHeartbeats 4000000 in
theorem c_X2_go_18 (l : Launch) (D : va_G) (cA : Nat → ClassId) (ad : Nat → Nat) (g0 : Nat → va_E) (n wk : Int32) (hSh : Shp ad cA g0) (hp : fld g0 80 10 = .ref (ad 18)) (ht : fld g0 18 3 = .int 0) (hw : fld g0 18 4 = .int wk) (hw0 : 0 ≤ wk.toInt) : CT l NN ad cA D yX2_go cX2_go 4 none (1, 21) [.ref (ad 80), .int n] g0 (fun v g' => ∃ (w9 : Int32), v = none ∧ Shp ad cA g' ∧ FR (fun i k => (i = 18 ∧ (k = 4))) g0 g' ∧ fld g' 18 4 = .int w9) := by
  refine q_enterV (by decide) (Nat.le_of_ble_eq_true rfl) (fun K H locs ls _ _ hM hW0 hR hC hE hl => ?_)
  have hl : lv_has ls 4 [(0, .ref (ad 80)), (1, .int n)] := hl
  have hW : WS ad cA (fun i k => (i = 18 ∧ (k = 4))) g0 K g0 H locs := ⟨hW0, hSh, FR.rf⟩
  have := i_rng n
  have f128 : fld g0 18 4 = .int wk := hw
  refine q_iconst (v := (0 : Int32)) hM dX2_go_0 (by decide) ?_
  refine q_istore_n (lv9 := [(2, .int (0 : Int32)), (0, .ref (ad 80)), (1, .int n)]) hM dX2_go_1 hl (by decide) rfl (fun ls hl => ?_)
  have L2 : ∀ (fu2 : Nat) (w : Int32) (z : Int32) (g9 : Nat → va_E) (H : Heap) (locs : List Loc) (ls : Array Slot), (n.toInt - w.toInt).toNat < fu2 → (0 ≤ w.toInt) → (0 ≤ z.toInt) → (fld g9 18 4 = .int z) → lv_has ls 4 [(0, .ref (ad 80)), (1, .int n), (2, .int w)] → WS ad cA (fun i k => (i = 18 ∧ (k = 4))) g0 K g9 H locs → XX K 0 0 H locs 2 ls [] := by
    intro fu2
    induction fu2 with
    | zero => intro w z g9 H locs ls h0; omega
    | succ fu2 ih2 =>
      intro w z g9 H locs ls hm2 i2_0 i2_1 c2_18_4 hl hW
      refine q_iload_n hM dX2_go_2 (lv_at hl 2 rfl) ?_
      refine q_iload_n hM dX2_go_3 (lv_at hl 1 rfl) ?_
      refine q_icmp_ge (tgt := 86) hM dX2_go_4 (by decide) (rfl : w.toInt = w.toInt) (rfl : n.toInt = n.toInt) (fun h4 => ?_) (fun h4 => ?_)
      · exact hE _ _ _ _ _ hW.1 ⟨z, rfl, hW.2.1, hW.2.2, c2_18_4⟩ dX2_go_86
      · refine q_aload_n hM dX2_go_7 (lv_at hl 0 rfl) ?_
        refine w_get (v := .ref (ad 18)) hM hW FG_X2_19 lb_80 ((hW.2.2.1 80 10 (by omega)).trans hp) dX2_go_8 ?_
        refine w_get (v := .int z) hM hW FG_X2_53 lb_18 c2_18_4 dX2_go_11 ?_
        refine q_sipush (v := (9999 : Int32)) hM dX2_go_14 (by decide) ?_
        refine q_icmp_ge (tgt := 86) hM dX2_go_17 (by decide) (rfl : z.toInt = z.toInt) (kc_9999 : (9999 : Int32).toInt = 9999) (fun h17 => ?_) (fun h17 => ?_)
        · exact hE _ _ _ _ _ hW.1 ⟨z, rfl, hW.2.1, hW.2.2, c2_18_4⟩ dX2_go_86
        · refine q_iconst (v := (0 : Int32)) hM dX2_go_20 (by decide) ?_
          refine q_istore_n (lv9 := [(3, .int (0 : Int32)), (0, .ref (ad 80)), (1, .int n), (2, .int w)]) hM dX2_go_21 hl (by decide) rfl (fun ls hl => ?_)
          have L22 : ∀ (fu22 : Nat) (p : Int32) (H : Heap) (locs : List Loc) (ls : Array Slot), (8 - p.toInt).toNat < fu22 → (0 ≤ p.toInt) → (p.toInt ≤ 8) → lv_has ls 4 [(0, .ref (ad 80)), (1, .int n), (2, .int w), (3, .int p)] → WS ad cA (fun i k => (i = 18 ∧ (k = 4))) g0 K g9 H locs → XX K 0 0 H locs 22 ls [] := by
            intro fu22
            induction fu22 with
            | zero => intro p H locs ls h0; omega
            | succ fu22 ih22 =>
              intro p H locs ls hm22 i22_0 i22_1 hl hW
              refine q_iload_n hM dX2_go_22 (lv_at hl 3 rfl) ?_
              refine q_bipush (v := (8 : Int32)) hM dX2_go_23 (by decide) ?_
              refine q_icmp_ge (tgt := 67) hM dX2_go_25 (by decide) (rfl : p.toInt = p.toInt) (kc_8 : (8 : Int32).toInt = 8) (fun h25 => ?_) (fun h25 => ?_)
              · refine q_aload_n hM dX2_go_67 (lv_at hl 0 rfl) ?_
                refine w_get (v := .ref (ad 18)) hM hW FG_X2_19 lb_80 ((hW.2.2.1 80 10 (by omega)).trans hp) dX2_go_68 ?_
                refine q_dup hM dX2_go_71 rfl ?_
                refine w_get (v := .int z) hM hW FG_X2_53 lb_18 c2_18_4 dX2_go_72 ?_
                refine q_iconst (v := (1 : Int32)) hM dX2_go_75 (by decide) ?_
                refine q_iadd hM dX2_go_76 (fun z129 hz129 => ?_)
                have tz129 := i_addT hz129 (rfl : z.toInt = z.toInt) (kc_1 : (1 : Int32).toInt = 1) (by omega) (by omega)
                refine w_put hM hW FP_X2_53 lb_18 (by omega) (Or.inl ⟨_, rfl⟩) rfl rfl dX2_go_77 (fun g130 H locs hW e1 e2 => ?_)
                have f131 : fld g130 18 4 = .int z129 := e1
                refine q_iinc (lv9 := fun z132 => [(2, .int z132), (0, .ref (ad 80)), (1, .int n), (3, .int p)]) hM dX2_go_80 hl (kq := 2) rfl (by decide) (fun _ => rfl) (fun z132 ls hz132 hl => ?_)
                have tz132 := i_addT hz132 (rfl : w.toInt = w.toInt) (kc_1 : (Int32.ofInt 1).toInt = 1) (by omega) (by omega)
                refine q_goto (tgt := 2) hM dX2_go_83 (by decide) ?_
                exact ih2 z132 z129 _ _ _ _ (by omega) (by omega) (by omega) f131 (lv_sub hl [1, 2, 0] rfl) hW
              · refine q_aload_n hM dX2_go_28 (lv_at hl 0 rfl) ?_
                refine w_get (v := .ref (ad 18)) hM hW FG_X2_19 lb_80 ((hW.2.2.1 80 10 (by omega)).trans hp) dX2_go_29 ?_
                refine w_get (v := .int (0 : Int32)) hM hW FG_X2_58 lb_18 ((hW.2.2.1 18 3 (by omega)).trans ht) dX2_go_32 ?_
                refine q_iload_n hM dX2_go_35 (lv_at hl 3 rfl) ?_
                refine q_callN (host := "ForgetSchool") (As := [.int (0 : Int32), .int p]) (rest := []) hM hW.1 hR hC myX11_has (List.mem_of_getElem? (i := 3) rfl) (c_X11_has _ _ cA ad g9 (0 : Int32) p hW.2.1) ⟨by decide, by decide⟩ rfl rfl hl.1 (Nat.le_of_ble_eq_true rfl) dX2_go_36 (fun v g134 H locs hp hW1 => ?_)
                obtain ⟨r133, rfl, hr133, rfl⟩ := hp
                have hW : WS ad cA (fun i k => (i = 18 ∧ (k = 4))) g0 K g9 H locs := ⟨hW1, hW.2.1, hW.2.2⟩
                have kr133 : r133.toInt = 0 := has_r0 hr133
                refine q_if_eq (tgt := 61) hM dX2_go_39 (by decide) (kr133 : r133.toInt = 0) (fun h39 => ?_) (fun h39 => ?_)
                · refine q_iinc (lv9 := fun z135 => [(3, .int z135), (0, .ref (ad 80)), (1, .int n), (2, .int w)]) hM dX2_go_61 hl (kq := 3) rfl (by decide) (fun _ => rfl) (fun z135 ls hz135 hl => ?_)
                  have tz135 := i_addT hz135 (rfl : p.toInt = p.toInt) (kc_1 : (Int32.ofInt 1).toInt = 1) (by omega) (by omega)
                  refine q_goto (tgt := 22) hM dX2_go_64 (by decide) ?_
                  exact ih22 z135 _ _ _ (by omega) (by omega) (by omega) (lv_sub hl [1, 2, 3, 0] rfl) hW
                · omega
          have := kc_0
          exact L22 _ (0 : Int32) _ _ _ (Nat.lt_succ_self _) (by omega) (by omega) (lv_sub hl [1, 2, 3, 0] rfl) hW
  have := kc_0
  exact L2 _ (0 : Int32) wk _ _ _ _ (Nat.lt_succ_self _) (by omega) (by omega) f128 (lv_sub hl [1, 2, 0] rfl) hW


set_option maxRecDepth 100000 in
set_option maxHeartbeats 4000000 in
theorem c_X2_go_42 (l : Launch) (D : va_G) (cA : Nat → ClassId) (ad : Nat → Nat) (g0 : Nat → va_E) (n wk : Int32) (hSh : Shp ad cA g0) (hp : fld g0 80 10 = .ref (ad 42)) (ht : fld g0 42 3 = .int 0) (hw : fld g0 42 4 = .int wk) (hw0 : 0 ≤ wk.toInt) : CT l NN ad cA D yX2_go cX2_go 4 none (1, 21) [.ref (ad 80), .int n] g0 (fun v g' => ∃ (w9 : Int32), v = none ∧ Shp ad cA g' ∧ FR (fun i k => (i = 42 ∧ (k = 4))) g0 g' ∧ fld g' 42 4 = .int w9) := by
  refine q_enterV (by decide) (Nat.le_of_ble_eq_true rfl) (fun K H locs ls _ _ hM hW0 hR hC hE hl => ?_)
  have hl : lv_has ls 4 [(0, .ref (ad 80)), (1, .int n)] := hl
  have hW : WS ad cA (fun i k => (i = 42 ∧ (k = 4))) g0 K g0 H locs := ⟨hW0, hSh, FR.rf⟩
  have := i_rng n
  have f136 : fld g0 42 4 = .int wk := hw
  refine q_iconst (v := (0 : Int32)) hM dX2_go_0 (by decide) ?_
  refine q_istore_n (lv9 := [(2, .int (0 : Int32)), (0, .ref (ad 80)), (1, .int n)]) hM dX2_go_1 hl (by decide) rfl (fun ls hl => ?_)
  have L2 : ∀ (fu2 : Nat) (w : Int32) (z : Int32) (g9 : Nat → va_E) (H : Heap) (locs : List Loc) (ls : Array Slot), (n.toInt - w.toInt).toNat < fu2 → (0 ≤ w.toInt) → (0 ≤ z.toInt) → (fld g9 42 4 = .int z) → lv_has ls 4 [(0, .ref (ad 80)), (1, .int n), (2, .int w)] → WS ad cA (fun i k => (i = 42 ∧ (k = 4))) g0 K g9 H locs → XX K 0 0 H locs 2 ls [] := by
    intro fu2
    induction fu2 with
    | zero => intro w z g9 H locs ls h0; omega
    | succ fu2 ih2 =>
      intro w z g9 H locs ls hm2 i2_0 i2_1 c2_42_4 hl hW
      refine q_iload_n hM dX2_go_2 (lv_at hl 2 rfl) ?_
      refine q_iload_n hM dX2_go_3 (lv_at hl 1 rfl) ?_
      refine q_icmp_ge (tgt := 86) hM dX2_go_4 (by decide) (rfl : w.toInt = w.toInt) (rfl : n.toInt = n.toInt) (fun h4 => ?_) (fun h4 => ?_)
      · exact hE _ _ _ _ _ hW.1 ⟨z, rfl, hW.2.1, hW.2.2, c2_42_4⟩ dX2_go_86
      · refine q_aload_n hM dX2_go_7 (lv_at hl 0 rfl) ?_
        refine w_get (v := .ref (ad 42)) hM hW FG_X2_19 lb_80 ((hW.2.2.1 80 10 (by omega)).trans hp) dX2_go_8 ?_
        refine w_get (v := .int z) hM hW FG_X2_53 lb_42 c2_42_4 dX2_go_11 ?_
        refine q_sipush (v := (9999 : Int32)) hM dX2_go_14 (by decide) ?_
        refine q_icmp_ge (tgt := 86) hM dX2_go_17 (by decide) (rfl : z.toInt = z.toInt) (kc_9999 : (9999 : Int32).toInt = 9999) (fun h17 => ?_) (fun h17 => ?_)
        · exact hE _ _ _ _ _ hW.1 ⟨z, rfl, hW.2.1, hW.2.2, c2_42_4⟩ dX2_go_86
        · refine q_iconst (v := (0 : Int32)) hM dX2_go_20 (by decide) ?_
          refine q_istore_n (lv9 := [(3, .int (0 : Int32)), (0, .ref (ad 80)), (1, .int n), (2, .int w)]) hM dX2_go_21 hl (by decide) rfl (fun ls hl => ?_)
          have L22 : ∀ (fu22 : Nat) (p : Int32) (H : Heap) (locs : List Loc) (ls : Array Slot), (8 - p.toInt).toNat < fu22 → (0 ≤ p.toInt) → (p.toInt ≤ 8) → lv_has ls 4 [(0, .ref (ad 80)), (1, .int n), (2, .int w), (3, .int p)] → WS ad cA (fun i k => (i = 42 ∧ (k = 4))) g0 K g9 H locs → XX K 0 0 H locs 22 ls [] := by
            intro fu22
            induction fu22 with
            | zero => intro p H locs ls h0; omega
            | succ fu22 ih22 =>
              intro p H locs ls hm22 i22_0 i22_1 hl hW
              refine q_iload_n hM dX2_go_22 (lv_at hl 3 rfl) ?_
              refine q_bipush (v := (8 : Int32)) hM dX2_go_23 (by decide) ?_
              refine q_icmp_ge (tgt := 67) hM dX2_go_25 (by decide) (rfl : p.toInt = p.toInt) (kc_8 : (8 : Int32).toInt = 8) (fun h25 => ?_) (fun h25 => ?_)
              · refine q_aload_n hM dX2_go_67 (lv_at hl 0 rfl) ?_
                refine w_get (v := .ref (ad 42)) hM hW FG_X2_19 lb_80 ((hW.2.2.1 80 10 (by omega)).trans hp) dX2_go_68 ?_
                refine q_dup hM dX2_go_71 rfl ?_
                refine w_get (v := .int z) hM hW FG_X2_53 lb_42 c2_42_4 dX2_go_72 ?_
                refine q_iconst (v := (1 : Int32)) hM dX2_go_75 (by decide) ?_
                refine q_iadd hM dX2_go_76 (fun z137 hz137 => ?_)
                have tz137 := i_addT hz137 (rfl : z.toInt = z.toInt) (kc_1 : (1 : Int32).toInt = 1) (by omega) (by omega)
                refine w_put hM hW FP_X2_53 lb_42 (by omega) (Or.inl ⟨_, rfl⟩) rfl rfl dX2_go_77 (fun g138 H locs hW e1 e2 => ?_)
                have f139 : fld g138 42 4 = .int z137 := e1
                refine q_iinc (lv9 := fun z140 => [(2, .int z140), (0, .ref (ad 80)), (1, .int n), (3, .int p)]) hM dX2_go_80 hl (kq := 2) rfl (by decide) (fun _ => rfl) (fun z140 ls hz140 hl => ?_)
                have tz140 := i_addT hz140 (rfl : w.toInt = w.toInt) (kc_1 : (Int32.ofInt 1).toInt = 1) (by omega) (by omega)
                refine q_goto (tgt := 2) hM dX2_go_83 (by decide) ?_
                exact ih2 z140 z137 _ _ _ _ (by omega) (by omega) (by omega) f139 (lv_sub hl [1, 2, 0] rfl) hW
              · refine q_aload_n hM dX2_go_28 (lv_at hl 0 rfl) ?_
                refine w_get (v := .ref (ad 42)) hM hW FG_X2_19 lb_80 ((hW.2.2.1 80 10 (by omega)).trans hp) dX2_go_29 ?_
                refine w_get (v := .int (0 : Int32)) hM hW FG_X2_58 lb_42 ((hW.2.2.1 42 3 (by omega)).trans ht) dX2_go_32 ?_
                refine q_iload_n hM dX2_go_35 (lv_at hl 3 rfl) ?_
                refine q_callN (host := "ForgetSchool") (As := [.int (0 : Int32), .int p]) (rest := []) hM hW.1 hR hC myX11_has (List.mem_of_getElem? (i := 3) rfl) (c_X11_has _ _ cA ad g9 (0 : Int32) p hW.2.1) ⟨by decide, by decide⟩ rfl rfl hl.1 (Nat.le_of_ble_eq_true rfl) dX2_go_36 (fun v g142 H locs hp hW1 => ?_)
                obtain ⟨r141, rfl, hr141, rfl⟩ := hp
                have hW : WS ad cA (fun i k => (i = 42 ∧ (k = 4))) g0 K g9 H locs := ⟨hW1, hW.2.1, hW.2.2⟩
                have kr141 : r141.toInt = 0 := has_r0 hr141
                refine q_if_eq (tgt := 61) hM dX2_go_39 (by decide) (kr141 : r141.toInt = 0) (fun h39 => ?_) (fun h39 => ?_)
                · refine q_iinc (lv9 := fun z143 => [(3, .int z143), (0, .ref (ad 80)), (1, .int n), (2, .int w)]) hM dX2_go_61 hl (kq := 3) rfl (by decide) (fun _ => rfl) (fun z143 ls hz143 hl => ?_)
                  have tz143 := i_addT hz143 (rfl : p.toInt = p.toInt) (kc_1 : (Int32.ofInt 1).toInt = 1) (by omega) (by omega)
                  refine q_goto (tgt := 22) hM dX2_go_64 (by decide) ?_
                  exact ih22 z143 _ _ _ (by omega) (by omega) (by omega) (lv_sub hl [1, 2, 3, 0] rfl) hW
                · omega
          have := kc_0
          exact L22 _ (0 : Int32) _ _ _ (Nat.lt_succ_self _) (by omega) (by omega) (lv_sub hl [1, 2, 3, 0] rfl) hW
  have := kc_0
  exact L2 _ (0 : Int32) wk _ _ _ _ (Nat.lt_succ_self _) (by omega) (by omega) f136 (lv_sub hl [1, 2, 0] rfl) hW
end
section
theorem and_0 {r z w : Int32} (hr : r.toInt = 0) (h : r &&& z = w) : w.toInt = 0 := by
  have h0 : r = 0 := Int32.toInt_inj.mp (hr.trans kc_0.symm)
  subst h0
  have e : (0 : Int32) &&& z = 0 := b_ext (fun i _ => by rw [b_and, b_0]; rfl)
  rw [← h, e]
  rfl
theorem areOf_0 {b r : Int32} (h : (r.toInt = 1 ∧ b &&& (0 ^^^ (-1)) = 0) ∨ (r.toInt = 0 ∧ ¬ b &&& (0 ^^^ (-1)) = 0)) (hr : ¬ r.toInt = 0) : b = 0 := by
  rcases h with h | h
  · have e : b &&& (0 ^^^ (-1)) = b := b_ext (fun i hi => by rw [b_and, b_xor, b_0, b_m1 i hi]; simp)
    rw [← e]
    exact h.2
  · exact absurd h.1 hr
theorem z_link {ad : Nat → Nat} {cA : Nat → ClassId} {g : Nat → va_E} (hF : ∀ j, j < NN → g j = gF ad cA j) {q : Nat} (h : q < 12) : arI g (6 + 1 * q) = fun _ => 0 := by
  rcases (show q = 0 ∨ q = 1 ∨ q = 2 ∨ q = 3 ∨ q = 4 ∨ q = 5 ∨ q = 6 ∨ q = 7 ∨ q = 8 ∨ q = 9 ∨ q = 10 ∨ q = 11 by omega) with rfl | rfl | rfl | rfl | rfl | rfl | rfl | rfl | rfl | rfl | rfl | rfl <;> exact (arI_eq (hF _ (by decide))).trans rfl

theorem dX5_linked_0 : decode cX5_linked 0 = .ok (.iconst 0, 1) := by decide +kernel
theorem dX5_linked_1 : decode cX5_linked 1 = .ok (.istore_n 2, 1) := by decide +kernel
theorem dX5_linked_2 : decode cX5_linked 2 = .ok (.iconst 0, 1) := by decide +kernel
theorem dX5_linked_3 : decode cX5_linked 3 = .ok (.istore_n 3, 1) := by decide +kernel
theorem dX5_linked_4 : decode cX5_linked 4 = .ok (.iload_n 3, 1) := by decide +kernel
theorem dX5_linked_5 : decode cX5_linked 5 = .ok (.bipush 12, 2) := by decide +kernel
theorem dX5_linked_7 : decode cX5_linked 7 = .ok (.if_icmp .ge 26, 3) := by decide +kernel
theorem dX5_linked_10 : decode cX5_linked 10 = .ok (.aload_n 0, 1) := by decide +kernel
theorem dX5_linked_11 : decode cX5_linked 11 = .ok (.getfield 17, 3) := by decide +kernel
theorem dX5_linked_14 : decode cX5_linked 14 = .ok (.iload_n 1, 1) := by decide +kernel
theorem dX5_linked_15 : decode cX5_linked 15 = .ok (.aaload, 1) := by decide +kernel
theorem dX5_linked_16 : decode cX5_linked 16 = .ok (.iload_n 3, 1) := by decide +kernel
theorem dX5_linked_17 : decode cX5_linked 17 = .ok (.iaload, 1) := by decide +kernel
theorem dX5_linked_18 : decode cX5_linked 18 = .ok (.ifCond .le 9, 3) := by decide +kernel
theorem dX5_linked_27 : decode cX5_linked 27 = .ok (.iinc 3 1, 3) := by decide +kernel
theorem dX5_linked_30 : decode cX5_linked 30 = .ok (.goto (-26), 3) := by decide +kernel
theorem dX5_linked_33 : decode cX5_linked 33 = .ok (.iload_n 2, 1) := by decide +kernel
theorem dX5_linked_34 : decode cX5_linked 34 = .ok (.ireturn, 1) := by decide +kernel
theorem FG_X5_17 : FG RX5 17 5 3 1 := ⟨RX5, TX5, rfl, wX5, by decide, kAW (v_0_3 (List.mem_of_getElem? (i := 8) rfl)) rfl, rfl⟩
set_option maxRecDepth 100000 in
set_option maxHeartbeats 4000000 in
theorem c_X5_linked (l : Launch) (D : va_G) (cA : Nat → ClassId) (ad : Nat → Nat) (g0 : Nat → va_E) (i : Int32) (hSh : Shp ad cA g0) (hF : ∀ j, j < NN → g0 j = gF ad cA j) (h0 : 0 ≤ i.toInt) (h1 : i.toInt < 12) : CT l NN ad cA D yX5_linked cX5_linked 4 (some FieldType.int) (0, 0) [.ref (ad 3), .int i] g0 (PU g0 (fun r => r.toInt = 0)) := by
  refine q_enterI (by decide) (Nat.le_of_ble_eq_true rfl) rfl (fun K H locs ls _ _ hM hW0 hR hC hE hl => ?_)
  have hl : lv_has ls 4 [(0, .ref (ad 3)), (1, .int i)] := hl
  have hW : WS ad cA (fun i k => False) g0 K g0 H locs := ⟨hW0, hSh, FR.rf⟩
  refine q_iconst (v := (0 : Int32)) hM dX5_linked_0 (by decide) ?_
  refine q_istore_n (lv9 := [(2, .int (0 : Int32)), (0, .ref (ad 3)), (1, .int i)]) hM dX5_linked_1 hl (by decide) rfl (fun ls hl => ?_)
  refine q_iconst (v := (0 : Int32)) hM dX5_linked_2 (by decide) ?_
  refine q_istore_n (lv9 := [(3, .int (0 : Int32)), (2, .int (0 : Int32)), (0, .ref (ad 3)), (1, .int i)]) hM dX5_linked_3 hl (by decide) rfl (fun ls hl => ?_)
  have L4 : ∀ (fu4 : Nat) (j : Int32) (H : Heap) (locs : List Loc) (ls : Array Slot), (12 - j.toInt).toNat < fu4 → (0 ≤ j.toInt) → (j.toInt ≤ 12) → lv_has ls 4 [(0, .ref (ad 3)), (1, .int i), (2, .int (0 : Int32)), (3, .int j)] → WS ad cA (fun i k => False) g0 K g0 H locs → XX K 0 0 H locs 4 ls [] := by
    intro fu4
    induction fu4 with
    | zero => intro j H locs ls h0; omega
    | succ fu4 ih4 =>
      intro j H locs ls hm4 i4_0 i4_1 hl hW
      refine q_iload_n hM dX5_linked_4 (lv_at hl 3 rfl) ?_
      refine q_bipush (v := (12 : Int32)) hM dX5_linked_5 (by decide) ?_
      refine q_icmp_ge (tgt := 33) hM dX5_linked_7 (by decide) (rfl : j.toInt = j.toInt) (kc_12 : (12 : Int32).toInt = 12) (fun h7 => ?_) (fun h7 => ?_)
      · refine q_iload_n hM dX5_linked_33 (lv_at hl 2 rfl) ?_
        exact hE _ _ _ _ _ _ hW.1 ⟨_, rfl, (by have := kc_0; exact kc_0), rfl⟩ dX5_linked_34
      · refine q_aload_n hM dX5_linked_10 (lv_at hl 0 rfl) ?_
        refine w_get (v := .ref (ad 5)) hM hW FG_X5_17 lb_3 (rf_3_1 hW.2.1) dX5_linked_11 ?_
        refine q_iload_n hM dX5_linked_14 (lv_at hl 1 rfl) ?_
        refine w_aald hM hW lb_5 (Or.inl rfl) (i_in (by omega) (by omega)) (aq (aq_5 hW.2.1) (by omega) (by omega)) dX5_linked_15 ?_
        refine q_iload_n hM dX5_linked_16 (lv_at hl 3 rfl) ?_
        refine w_iald hM hW (lr_6 (by omega)) (i_in (by omega) (by omega)) dX5_linked_17 ?_
        refine q_top (fun y144 hy144 => ?_)
        have ky144 : y144.toInt = 0 := by rw [hy144, ((hW.2.2.2.1 (6 + 1 * i.toInt.toNat) (fun h => h)).trans (z_link hF (by omega)))]; rfl
        refine q_if_le (tgt := 27) hM dX5_linked_18 (by decide) (ky144 : y144.toInt = 0) (fun h18 => ?_) (fun h18 => ?_)
        · refine q_iinc (lv9 := fun z145 => [(3, .int z145), (0, .ref (ad 3)), (1, .int i), (2, .int (0 : Int32))]) hM dX5_linked_27 hl (kq := 3) rfl (by decide) (fun _ => rfl) (fun z145 ls hz145 hl => ?_)
          have tz145 := i_addT hz145 (rfl : j.toInt = j.toInt) (kc_1 : (Int32.ofInt 1).toInt = 1) (by omega) (by omega)
          refine q_goto (tgt := 4) hM dX5_linked_30 (by decide) ?_
          exact ih4 z145 _ _ _ (by omega) (by omega) (by omega) (lv_sub hl [1, 2, 3, 0] rfl) hW
        · omega
  have := kc_0
  exact L4 _ (0 : Int32) _ _ _ (Nat.lt_succ_self _) (by omega) (by omega) (lv_sub hl [2, 3, 1, 0] rfl) hW

theorem dX5_reached_0 : decode cX5_reached 0 = .ok (.aload_n 0, 1) := by decide +kernel
theorem dX5_reached_1 : decode cX5_reached 1 = .ok (.iload_n 1, 1) := by decide +kernel
theorem dX5_reached_2 : decode cX5_reached 2 = .ok (.invokevirtual 24, 3) := by decide +kernel
theorem dX5_reached_5 : decode cX5_reached 5 = .ok (.iload_n 2, 1) := by decide +kernel
theorem dX5_reached_6 : decode cX5_reached 6 = .ok (.iconst (-1), 1) := by decide +kernel
theorem dX5_reached_7 : decode cX5_reached 7 = .ok (.ixor, 1) := by decide +kernel
theorem dX5_reached_8 : decode cX5_reached 8 = .ok (.iand, 1) := by decide +kernel
theorem dX5_reached_9 : decode cX5_reached 9 = .ok (.istore_n 3, 1) := by decide +kernel
theorem dX5_reached_10 : decode cX5_reached 10 = .ok (.iconst 0, 1) := by decide +kernel
theorem dX5_reached_11 : decode cX5_reached 11 = .ok (.istore 4, 2) := by decide +kernel
theorem dX5_reached_13 : decode cX5_reached 13 = .ok (.iconst 0, 1) := by decide +kernel
theorem dX5_reached_14 : decode cX5_reached 14 = .ok (.istore 5, 2) := by decide +kernel
theorem dX5_reached_16 : decode cX5_reached 16 = .ok (.iload 5, 2) := by decide +kernel
theorem dX5_reached_18 : decode cX5_reached 18 = .ok (.bipush 12, 2) := by decide +kernel
theorem dX5_reached_20 : decode cX5_reached 20 = .ok (.if_icmp .ge 65, 3) := by decide +kernel
theorem dX5_reached_23 : decode cX5_reached 23 = .ok (.iload 4, 2) := by decide +kernel
theorem dX5_reached_25 : decode cX5_reached 25 = .ok (.iload_n 3, 1) := by decide +kernel
theorem dX5_reached_26 : decode cX5_reached 26 = .ok (.if_icmp .eq 59, 3) := by decide +kernel
theorem dX5_reached_85 : decode cX5_reached 85 = .ok (.iload_n 3, 1) := by decide +kernel
theorem dX5_reached_86 : decode cX5_reached 86 = .ok (.ireturn, 1) := by decide +kernel
theorem myX5_linked : MI yX5_linked cX5_linked 4 (some FieldType.int) 1 := ⟨kAW (v_3_8 (List.mem_of_getElem? (i := 3) rfl)) rfl, kAW (v_0_0 (List.mem_of_getElem? (i := 3) rfl)) rfl, kAW (v_3_8 (List.mem_of_getElem? (i := 1) rfl)) rfl, kAW (v_3_8 (List.mem_of_getElem? (i := 2) rfl)) rfl, by decide, by decide, by decide +kernel⟩
set_option maxRecDepth 100000 in
set_option maxHeartbeats 4000000 in
theorem c_X5_reached (l : Launch) (D : va_G) (cA : Nat → ClassId) (ad : Nat → Nat) (g0 : Nat → va_E) (i : Int32) (hSh : Shp ad cA g0) (hF : ∀ j, j < NN → g0 j = gF ad cA j) (h0 : 0 ≤ i.toInt) (h1 : i.toInt < 12) : CT l NN ad cA D yX5_reached cX5_reached 8 (some FieldType.int) (1, 23) [.ref (ad 3), .int i, .int (0 : Int32)] g0 (PU g0 (fun r => r.toInt = 0)) := by
  refine q_enterI (by decide) (Nat.le_of_ble_eq_true rfl) rfl (fun K H locs ls _ _ hM hW0 hR hC hE hl => ?_)
  have hl : lv_has ls 8 [(0, .ref (ad 3)), (1, .int i), (2, .int (0 : Int32))] := hl
  have hW : WS ad cA (fun i k => False) g0 K g0 H locs := ⟨hW0, hSh, FR.rf⟩
  refine q_aload_n hM dX5_reached_0 (lv_at hl 0 rfl) ?_
  refine q_iload_n hM dX5_reached_1 (lv_at hl 1 rfl) ?_
  refine q_callV (As := [.int i]) (rest := []) hM hW.1 hR hC myX5_linked (kAW (v_3_8 (List.mem_of_getElem? (i := 0) rfl)) rfl) (rfl : vwCl[5]? = some (RX5, TX5, 3)) rfl lb_3.1 (shO hW.2.1 lb_3) (c_X5_linked _ _ cA ad g0 i hW.2.1 hF (by omega) (by omega)) ⟨by decide, by decide⟩ rfl rfl hl.1 (Nat.le_of_ble_eq_true rfl) dX5_reached_2 (fun v g147 H locs hp hW1 => ?_)
  obtain ⟨r146, rfl, hr146, rfl⟩ := hp
  have hW : WS ad cA (fun i k => False) g0 K g0 H locs := ⟨hW1, hW.2.1, hW.2.2⟩
  refine q_iload_n hM dX5_reached_5 (lv_at hl 2 rfl) ?_
  refine q_iconst (v := ((-1) : Int32)) hM dX5_reached_6 (by decide) ?_
  refine q_ixor hM dX5_reached_7 (fun z148 hz148 => ?_)
  refine q_iand hM dX5_reached_8 (fun z149 hz149 => ?_)
  have kz149 : z149.toInt = 0 := and_0 hr146 hz149
  refine q_istore_n (lv9 := [(3, .int z149), (0, .ref (ad 3)), (1, .int i), (2, .int (0 : Int32))]) hM dX5_reached_9 hl (by decide) rfl (fun ls hl => ?_)
  refine q_iconst (v := (0 : Int32)) hM dX5_reached_10 (by decide) ?_
  refine q_istore (lv9 := [(4, .int (0 : Int32)), (3, .int z149), (0, .ref (ad 3)), (1, .int i), (2, .int (0 : Int32))]) hM dX5_reached_11 hl (by decide) rfl (fun ls hl => ?_)
  refine q_iconst (v := (0 : Int32)) hM dX5_reached_13 (by decide) ?_
  refine q_istore (lv9 := [(5, .int (0 : Int32)), (4, .int (0 : Int32)), (3, .int z149), (0, .ref (ad 3)), (1, .int i), (2, .int (0 : Int32))]) hM dX5_reached_14 hl (by decide) rfl (fun ls hl => ?_)
  refine q_iload hM dX5_reached_16 (lv_at hl 0 rfl) ?_
  refine q_bipush (v := (12 : Int32)) hM dX5_reached_18 (by decide) ?_
  refine q_icmp_ge (tgt := 85) hM dX5_reached_20 (by decide) (kc_0 : (0 : Int32).toInt = 0) (kc_12 : (12 : Int32).toInt = 12) (fun h20 => ?_) (fun h20 => ?_)
  · omega
  · refine q_iload hM dX5_reached_23 (lv_at hl 1 rfl) ?_
    refine q_iload_n hM dX5_reached_25 (lv_at hl 2 rfl) ?_
    refine q_icmp_eq (tgt := 85) hM dX5_reached_26 (by decide) (kc_0 : (0 : Int32).toInt = 0) (kz149 : z149.toInt = 0) (fun h26 => ?_) (fun h26 => ?_)
    · refine q_iload_n hM dX5_reached_85 (lv_at hl 2 rfl) ?_
      exact hE _ _ _ _ _ _ hW.1 ⟨_, rfl, kz149, rfl⟩ dX5_reached_86
    · omega

theorem dX5_groups_0 : decode cX5_groups 0 = .ok (.iconst 0, 1) := by decide +kernel
theorem dX5_groups_1 : decode cX5_groups 1 = .ok (.istore_n 1, 1) := by decide +kernel
theorem dX5_groups_2 : decode cX5_groups 2 = .ok (.iconst 0, 1) := by decide +kernel
theorem dX5_groups_3 : decode cX5_groups 3 = .ok (.istore_n 2, 1) := by decide +kernel
theorem dX5_groups_4 : decode cX5_groups 4 = .ok (.iload_n 2, 1) := by decide +kernel
theorem dX5_groups_5 : decode cX5_groups 5 = .ok (.bipush 12, 2) := by decide +kernel
theorem dX5_groups_7 : decode cX5_groups 7 = .ok (.if_icmp .ge 37, 3) := by decide +kernel
theorem dX5_groups_10 : decode cX5_groups 10 = .ok (.aload_n 0, 1) := by decide +kernel
theorem dX5_groups_11 : decode cX5_groups 11 = .ok (.getfield 20, 3) := by decide +kernel
theorem dX5_groups_14 : decode cX5_groups 14 = .ok (.iload_n 2, 1) := by decide +kernel
theorem dX5_groups_15 : decode cX5_groups 15 = .ok (.invokestatic 28, 3) := by decide +kernel
theorem dX5_groups_18 : decode cX5_groups 18 = .ok (.ifCond .eq 20, 3) := by decide +kernel
theorem dX5_groups_38 : decode cX5_groups 38 = .ok (.iinc 2 1, 3) := by decide +kernel
theorem dX5_groups_41 : decode cX5_groups 41 = .ok (.goto (-37), 3) := by decide +kernel
theorem dX5_groups_44 : decode cX5_groups 44 = .ok (.iload_n 1, 1) := by decide +kernel
theorem dX5_groups_45 : decode cX5_groups 45 = .ok (.ireturn, 1) := by decide +kernel
theorem FG_X5_20 : FG RX5 20 5 3 2 := ⟨RX5, TX5, rfl, wX5, by decide, kAW (v_0_3 (List.mem_of_getElem? (i := 10) rfl)) rfl, rfl⟩
set_option maxRecDepth 100000 in
set_option maxHeartbeats 4000000 in
theorem c_X5_groups (l : Launch) (D : va_G) (cA : Nat → ClassId) (ad : Nat → Nat) (g0 : Nat → va_E)  (hSh : Shp ad cA g0) (hF : ∀ j, j < NN → g0 j = gF ad cA j) : CT l NN ad cA D yX5_groups cX5_groups 3 (some FieldType.int) (1, 21) [.ref (ad 3)] g0 (PU g0 (fun r => r.toInt = 0)) := by
  refine q_enterI (by decide) (Nat.le_of_ble_eq_true rfl) rfl (fun K H locs ls _ _ hM hW0 hR hC hE hl => ?_)
  have hl : lv_has ls 3 [(0, .ref (ad 3))] := hl
  have hW : WS ad cA (fun i k => False) g0 K g0 H locs := ⟨hW0, hSh, FR.rf⟩
  refine q_iconst (v := (0 : Int32)) hM dX5_groups_0 (by decide) ?_
  refine q_istore_n (lv9 := [(1, .int (0 : Int32)), (0, .ref (ad 3))]) hM dX5_groups_1 hl (by decide) rfl (fun ls hl => ?_)
  refine q_iconst (v := (0 : Int32)) hM dX5_groups_2 (by decide) ?_
  refine q_istore_n (lv9 := [(2, .int (0 : Int32)), (1, .int (0 : Int32)), (0, .ref (ad 3))]) hM dX5_groups_3 hl (by decide) rfl (fun ls hl => ?_)
  have L4 : ∀ (fu4 : Nat) (i : Int32) (H : Heap) (locs : List Loc) (ls : Array Slot), (12 - i.toInt).toNat < fu4 → (0 ≤ i.toInt) → (i.toInt ≤ 12) → lv_has ls 3 [(0, .ref (ad 3)), (1, .int (0 : Int32)), (2, .int i)] → WS ad cA (fun i k => False) g0 K g0 H locs → XX K 0 0 H locs 4 ls [] := by
    intro fu4
    induction fu4 with
    | zero => intro i H locs ls h0; omega
    | succ fu4 ih4 =>
      intro i H locs ls hm4 i4_0 i4_1 hl hW
      refine q_iload_n hM dX5_groups_4 (lv_at hl 2 rfl) ?_
      refine q_bipush (v := (12 : Int32)) hM dX5_groups_5 (by decide) ?_
      refine q_icmp_ge (tgt := 44) hM dX5_groups_7 (by decide) (rfl : i.toInt = i.toInt) (kc_12 : (12 : Int32).toInt = 12) (fun h7 => ?_) (fun h7 => ?_)
      · refine q_iload_n hM dX5_groups_44 (lv_at hl 1 rfl) ?_
        exact hE _ _ _ _ _ _ hW.1 ⟨_, rfl, (by have := kc_0; exact kc_0), rfl⟩ dX5_groups_45
      · refine q_aload_n hM dX5_groups_10 (lv_at hl 0 rfl) ?_
        refine w_get (v := .int (0 : Int32)) hM hW FG_X5_20 lb_3 ((hW.2.2.1 3 2 (fun h => h)).trans (zf hF (by decide) rfl : fld g0 3 2 = .int (0 : Int32))) dX5_groups_11 ?_
        refine q_iload_n hM dX5_groups_14 (lv_at hl 2 rfl) ?_
        refine q_callN (host := "ForgetSchool") (As := [.int (0 : Int32), .int i]) (rest := []) hM hW.1 hR hC myX11_has (List.mem_of_getElem? (i := 9) rfl) (c_X11_has _ _ cA ad g0 (0 : Int32) i hW.2.1) ⟨by decide, by decide⟩ rfl rfl hl.1 (Nat.le_of_ble_eq_true rfl) dX5_groups_15 (fun v g151 H locs hp hW1 => ?_)
        obtain ⟨r150, rfl, hr150, rfl⟩ := hp
        have hW : WS ad cA (fun i k => False) g0 K g0 H locs := ⟨hW1, hW.2.1, hW.2.2⟩
        have kr150 : r150.toInt = 0 := has_r0 hr150
        refine q_if_eq (tgt := 38) hM dX5_groups_18 (by decide) (kr150 : r150.toInt = 0) (fun h18 => ?_) (fun h18 => ?_)
        · refine q_iinc (lv9 := fun z152 => [(2, .int z152), (0, .ref (ad 3)), (1, .int (0 : Int32))]) hM dX5_groups_38 hl (kq := 2) rfl (by decide) (fun _ => rfl) (fun z152 ls hz152 hl => ?_)
          have tz152 := i_addT hz152 (rfl : i.toInt = i.toInt) (kc_1 : (Int32.ofInt 1).toInt = 1) (by omega) (by omega)
          refine q_goto (tgt := 4) hM dX5_groups_41 (by decide) ?_
          exact ih4 z152 _ _ _ (by omega) (by omega) (by omega) (lv_sub hl [1, 2, 0] rfl) hW
        · omega
  have := kc_0
  exact L4 _ (0 : Int32) _ _ _ (Nat.lt_succ_self _) (by omega) (by omega) (lv_sub hl [2, 1, 0] rfl) hW

theorem dX11_areSome_0 : decode cX11_areSome 0 = .ok (.iload_n 1, 1) := by decide +kernel
theorem dX11_areSome_1 : decode cX11_areSome 1 = .ok (.aload_n 0, 1) := by decide +kernel
theorem dX11_areSome_2 : decode cX11_areSome 2 = .ok (.getfield 26, 3) := by decide +kernel
theorem dX11_areSome_5 : decode cX11_areSome 5 = .ok (.getfield 135, 3) := by decide +kernel
theorem dX11_areSome_8 : decode cX11_areSome 8 = .ok (.invokestatic 227, 3) := by decide +kernel
theorem dX11_areSome_11 : decode cX11_areSome 11 = .ok (.ifCond .eq 15, 3) := by decide +kernel
theorem dX11_areSome_14 : decode cX11_areSome 14 = .ok (.iload_n 1, 1) := by decide +kernel
theorem dX11_areSome_15 : decode cX11_areSome 15 = .ok (.invokestatic 206, 3) := by decide +kernel
theorem dX11_areSome_18 : decode cX11_areSome 18 = .ok (.iconst 2, 1) := by decide +kernel
theorem dX11_areSome_19 : decode cX11_areSome 19 = .ok (.if_icmp .lt 7, 3) := by decide +kernel
theorem dX11_areSome_26 : decode cX11_areSome 26 = .ok (.iconst 0, 1) := by decide +kernel
theorem dX11_areSome_27 : decode cX11_areSome 27 = .ok (.ireturn, 1) := by decide +kernel
theorem FG_X11_26 : FG RX11 26 11 16 10 := ⟨RX11, TX11, rfl, wX11, by decide, kAW (v_1_7 (List.mem_of_getElem? (i := 6) rfl)) rfl, rfl⟩
theorem FG_X11_135 : FG RX11 135 7 8 3 := ⟨RX7, TX7, rfl, wX7, by decide, kAW (v_0_5 (List.mem_of_getElem? (i := 7) rfl)) rfl, rfl⟩
theorem myX11_areOf : MS yX11_areOf cX11_areOf 2 (some FieldType.boolean) 2 := ⟨kAW (v_3_4 (List.mem_of_getElem? (i := 8) rfl)) rfl, kAW (v_0_0 (List.mem_of_getElem? (i := 1) rfl)) rfl, kAW (v_3_4 (List.mem_of_getElem? (i := 7) rfl)) rfl, by decide, by decide, by decide +kernel⟩
theorem myJ6_bitCount_0f7a4 : MS yJ6_bitCount_0f7a4 cJ6_bitCount_0f7a4 1 (some FieldType.int) 1 := ⟨kAW (v_2_11 (List.mem_of_getElem? (i := 6) rfl)) rfl, kAW (v_0_1 (List.mem_of_getElem? (i := 4) rfl)) rfl, kAW (v_2_11 (List.mem_of_getElem? (i := 5) rfl)) rfl, by decide, by decide, by decide +kernel⟩
set_option maxRecDepth 100000 in
set_option maxHeartbeats 4000000 in
theorem c_X11_areSome (l : Launch) (D : va_G) (cA : Nat → ClassId) (ad : Nat → Nat) (g0 : Nat → va_E) (so : Int32) (hSh : Shp ad cA g0) (hF : ∀ j, j < NN → g0 j = gF ad cA j) : CT l NN ad cA D yX11_areSome cX11_areSome 2 (some FieldType.boolean) (1, 21) [.ref (ad 0), .int so] g0 (PU g0 (fun r => r.toInt = 0)) := by
  refine q_enterZ (by decide) (Nat.le_of_ble_eq_true rfl) (fun K H locs ls _ _ hM hW0 hR hC hE hl => ?_)
  have hl : lv_has ls 2 [(0, .ref (ad 0)), (1, .int so)] := hl
  have hW : WS ad cA (fun i k => False) g0 K g0 H locs := ⟨hW0, hSh, FR.rf⟩
  refine q_iload_n hM dX11_areSome_0 (lv_at hl 1 rfl) ?_
  refine q_aload_n hM dX11_areSome_1 (lv_at hl 0 rfl) ?_
  refine w_get (v := .ref (ad 18)) hM hW FG_X11_26 lb_0 (rf_0_10 hW.2.1) dX11_areSome_2 ?_
  refine w_get (v := .int (0 : Int32)) hM hW FG_X11_135 lb_18 ((hW.2.2.1 18 3 (fun h => h)).trans (zf hF (by decide) rfl : fld g0 18 3 = .int (0 : Int32))) dX11_areSome_5 ?_
  refine q_callS (As := [.int so, .int (0 : Int32)]) (rest := []) hM hW.1 hR hC myX11_areOf (kAW (v_3_4 (List.mem_of_getElem? (i := 6) rfl)) rfl) (c_X11_areOf _ _ cA ad g0 so (0 : Int32) hW.2.1) ⟨by decide, by decide⟩ rfl rfl hl.1 (Nat.le_of_ble_eq_true rfl) dX11_areSome_8 (fun v g154 H locs hp hW1 => ?_)
  obtain ⟨r153, rfl, hr153, rfl⟩ := hp
  have hW : WS ad cA (fun i k => False) g0 K g0 H locs := ⟨hW1, hW.2.1, hW.2.2⟩
  refine q_if_eq (tgt := 26) hM dX11_areSome_11 (by decide) (rfl : r153.toInt = r153.toInt) (fun h11 => ?_) (fun h11 => ?_)
  · refine q_iconst (v := (0 : Int32)) hM dX11_areSome_26 (by decide) ?_
    exact hE _ _ _ _ _ _ hW.1 nz_0 ⟨_, rfl, (by have := kc_0; exact kc_0), rfl⟩ dX11_areSome_27
  · refine q_iload_n hM dX11_areSome_14 (lv_at hl 1 rfl) ?_
    refine q_callS (As := [.int so]) (rest := []) hM hW.1 hR hC myJ6_bitCount_0f7a4 (kAW (v_3_1 (List.mem_of_getElem? (i := 2) rfl)) rfl) (c_J6_bitCount_0f7a4 _ _ cA ad g0 so hW.2.1) ⟨by decide, by decide⟩ rfl rfl hl.1 (Nat.le_of_ble_eq_true rfl) dX11_areSome_15 (fun v g156 H locs hp hW1 => ?_)
    obtain ⟨r155, rfl, hr155, rfl⟩ := hp
    have hW : WS ad cA (fun i k => False) g0 K g0 H locs := ⟨hW1, hW.2.1, hW.2.2⟩
    have kr155 : r155.toInt = 0 := by rw [hr155, areOf_0 hr153 h11, bcF_0]; rfl
    refine q_iconst (v := (2 : Int32)) hM dX11_areSome_18 (by decide) ?_
    refine q_icmp_lt (tgt := 26) hM dX11_areSome_19 (by decide) (kr155 : r155.toInt = 0) (kc_2 : (2 : Int32).toInt = 2) (fun h19 => ?_) (fun h19 => ?_)
    · refine q_iconst (v := (0 : Int32)) hM dX11_areSome_26 (by decide) ?_
      exact hE _ _ _ _ _ _ hW.1 nz_0 ⟨_, rfl, (by have := kc_0; exact kc_0), rfl⟩ dX11_areSome_27
    · omega

theorem dX11_canBeTried_0 : decode cX11_canBeTried 0 = .ok (.iload_n 1, 1) := by decide +kernel
theorem dX11_canBeTried_1 : decode cX11_canBeTried 1 = .ok (.iconst 1, 1) := by decide +kernel
theorem dX11_canBeTried_2 : decode cX11_canBeTried 2 = .ok (.bipush 60, 2) := by decide +kernel
theorem dX11_canBeTried_4 : decode cX11_canBeTried 4 = .ok (.invokestatic 112, 3) := by decide +kernel
theorem dX11_canBeTried_7 : decode cX11_canBeTried 7 = .ok (.ifCond .eq 67, 3) := by decide +kernel
theorem dX11_canBeTried_10 : decode cX11_canBeTried 10 = .ok (.iload_n 2, 1) := by decide +kernel
theorem dX11_canBeTried_11 : decode cX11_canBeTried 11 = .ok (.iconst 0, 1) := by decide +kernel
theorem dX11_canBeTried_12 : decode cX11_canBeTried 12 = .ok (.iconst 3, 1) := by decide +kernel
theorem dX11_canBeTried_13 : decode cX11_canBeTried 13 = .ok (.invokestatic 112, 3) := by decide +kernel
theorem dX11_canBeTried_16 : decode cX11_canBeTried 16 = .ok (.ifCond .ne 54, 3) := by decide +kernel
theorem dX11_canBeTried_19 : decode cX11_canBeTried 19 = .ok (.aload_n 0, 1) := by decide +kernel
theorem dX11_canBeTried_20 : decode cX11_canBeTried 20 = .ok (.getfield 26, 3) := by decide +kernel
theorem dX11_canBeTried_23 : decode cX11_canBeTried 23 = .ok (.getfield 135, 3) := by decide +kernel
theorem dX11_canBeTried_26 : decode cX11_canBeTried 26 = .ok (.iload_n 2, 1) := by decide +kernel
theorem dX11_canBeTried_27 : decode cX11_canBeTried 27 = .ok (.bipush 10, 2) := by decide +kernel
theorem dX11_canBeTried_29 : decode cX11_canBeTried 29 = .ok (.isub, 1) := by decide +kernel
theorem dX11_canBeTried_30 : decode cX11_canBeTried 30 = .ok (.invokestatic 123, 3) := by decide +kernel
theorem dX11_canBeTried_33 : decode cX11_canBeTried 33 = .ok (.ifCond .ne 37, 3) := by decide +kernel
theorem dX11_canBeTried_36 : decode cX11_canBeTried 36 = .ok (.aload_n 0, 1) := by decide +kernel
theorem dX11_canBeTried_37 : decode cX11_canBeTried 37 = .ok (.getfield 26, 3) := by decide +kernel
theorem dX11_canBeTried_40 : decode cX11_canBeTried 40 = .ok (.getfield 135, 3) := by decide +kernel
theorem dX11_canBeTried_43 : decode cX11_canBeTried 43 = .ok (.iload_n 2, 1) := by decide +kernel
theorem dX11_canBeTried_44 : decode cX11_canBeTried 44 = .ok (.bipush 20, 2) := by decide +kernel
theorem dX11_canBeTried_46 : decode cX11_canBeTried 46 = .ok (.isub, 1) := by decide +kernel
theorem dX11_canBeTried_47 : decode cX11_canBeTried 47 = .ok (.invokestatic 123, 3) := by decide +kernel
theorem dX11_canBeTried_50 : decode cX11_canBeTried 50 = .ok (.ifCond .ne 20, 3) := by decide +kernel
theorem dX11_canBeTried_53 : decode cX11_canBeTried 53 = .ok (.aload_n 0, 1) := by decide +kernel
theorem dX11_canBeTried_54 : decode cX11_canBeTried 54 = .ok (.getfield 19, 3) := by decide +kernel
theorem dX11_canBeTried_57 : decode cX11_canBeTried 57 = .ok (.getfield 116, 3) := by decide +kernel
theorem dX11_canBeTried_60 : decode cX11_canBeTried 60 = .ok (.iload_n 2, 1) := by decide +kernel
theorem dX11_canBeTried_61 : decode cX11_canBeTried 61 = .ok (.bipush 30, 2) := by decide +kernel
theorem dX11_canBeTried_63 : decode cX11_canBeTried 63 = .ok (.isub, 1) := by decide +kernel
theorem dX11_canBeTried_64 : decode cX11_canBeTried 64 = .ok (.invokestatic 123, 3) := by decide +kernel
theorem dX11_canBeTried_67 : decode cX11_canBeTried 67 = .ok (.ifCond .eq 7, 3) := by decide +kernel
theorem dX11_canBeTried_70 : decode cX11_canBeTried 70 = .ok (.iconst 1, 1) := by decide +kernel
theorem dX11_canBeTried_71 : decode cX11_canBeTried 71 = .ok (.goto 4, 3) := by decide +kernel
theorem dX11_canBeTried_74 : decode cX11_canBeTried 74 = .ok (.iconst 0, 1) := by decide +kernel
theorem dX11_canBeTried_75 : decode cX11_canBeTried 75 = .ok (.ireturn, 1) := by decide +kernel
theorem myX11_within : MS yX11_within cX11_within 3 (some FieldType.boolean) 3 := ⟨kAW (v_1_10 (List.mem_of_getElem? (i := 3) rfl)) rfl, kAW (v_0_0 (List.mem_of_getElem? (i := 1) rfl)) rfl, kAW (v_1_10 (List.mem_of_getElem? (i := 2) rfl)) rfl, by decide, by decide, by decide +kernel⟩
theorem FG_X11_19 : FG RX11 19 11 16 1 := ⟨RX11, TX11, rfl, wX11, by decide, kAW (v_1_6 (List.mem_of_getElem? (i := 13) rfl)) rfl, rfl⟩
theorem FG_X11_116 : FG RX11 116 5 3 2 := ⟨RX5, TX5, rfl, wX5, by decide, kAW (v_0_3 (List.mem_of_getElem? (i := 11) rfl)) rfl, rfl⟩
set_option maxRecDepth 100000 in
set_option maxHeartbeats 4000000 in
theorem c_X11_canBeTried (l : Launch) (D : va_G) (cA : Nat → ClassId) (ad : Nat → Nat) (g0 : Nat → va_E) (n what : Int32) (hSh : Shp ad cA g0) (hF : ∀ j, j < NN → g0 j = gF ad cA j) : CT l NN ad cA D yX11_canBeTried cX11_canBeTried 3 (some FieldType.boolean) (1, 22) [.ref (ad 0), .int n, .int what] g0 (PU g0 (fun r => (r.toInt = 1 ∧ 1 ≤ n.toInt ∧ n.toInt ≤ 60 ∧ 0 ≤ what.toInt ∧ what.toInt ≤ 3) ∨ (r.toInt = 0 ∧ (n.toInt < 1 ∨ 60 < n.toInt ∨ what.toInt < 0 ∨ 3 < what.toInt)))) := by
  refine q_enterZ (by decide) (Nat.le_of_ble_eq_true rfl) (fun K H locs ls _ _ hM hW0 hR hC hE hl => ?_)
  have hl : lv_has ls 3 [(0, .ref (ad 0)), (1, .int n), (2, .int what)] := hl
  have hW : WS ad cA (fun i k => False) g0 K g0 H locs := ⟨hW0, hSh, FR.rf⟩
  have := kc_0
  have := kc_1
  have := kc_3
  have := kc_60
  refine q_iload_n hM dX11_canBeTried_0 (lv_at hl 1 rfl) ?_
  refine q_iconst (v := (1 : Int32)) hM dX11_canBeTried_1 (by decide) ?_
  refine q_bipush (v := (60 : Int32)) hM dX11_canBeTried_2 (by decide) ?_
  refine q_callS (As := [.int n, .int (1 : Int32), .int (60 : Int32)]) (rest := []) hM hW.1 hR hC myX11_within (kAW (v_1_10 (List.mem_of_getElem? (i := 1) rfl)) rfl) (c_X11_within _ _ cA ad g0 n (1 : Int32) (60 : Int32) hW.2.1) ⟨by decide, by decide⟩ rfl rfl hl.1 (Nat.le_of_ble_eq_true rfl) dX11_canBeTried_4 (fun v g158 H locs hp hW1 => ?_)
  obtain ⟨r157, rfl, hr157, rfl⟩ := hp
  have hW : WS ad cA (fun i k => False) g0 K g0 H locs := ⟨hW1, hW.2.1, hW.2.2⟩
  refine q_if_eq (tgt := 74) hM dX11_canBeTried_7 (by decide) (rfl : r157.toInt = r157.toInt) (fun h7 => ?_) (fun h7 => ?_)
  · refine q_iconst (v := (0 : Int32)) hM dX11_canBeTried_74 (by decide) ?_
    exact hE _ _ _ _ _ _ hW.1 nz_0 ⟨_, rfl, (by have := kc_0; omega), rfl⟩ dX11_canBeTried_75
  · refine q_iload_n hM dX11_canBeTried_10 (lv_at hl 2 rfl) ?_
    refine q_iconst (v := (0 : Int32)) hM dX11_canBeTried_11 (by decide) ?_
    refine q_iconst (v := (3 : Int32)) hM dX11_canBeTried_12 (by decide) ?_
    refine q_callS (As := [.int what, .int (0 : Int32), .int (3 : Int32)]) (rest := []) hM hW.1 hR hC myX11_within (kAW (v_1_10 (List.mem_of_getElem? (i := 1) rfl)) rfl) (c_X11_within _ _ cA ad g0 what (0 : Int32) (3 : Int32) hW.2.1) ⟨by decide, by decide⟩ rfl rfl hl.1 (Nat.le_of_ble_eq_true rfl) dX11_canBeTried_13 (fun v g160 H locs hp hW1 => ?_)
    obtain ⟨r159, rfl, hr159, rfl⟩ := hp
    have hW : WS ad cA (fun i k => False) g0 K g0 H locs := ⟨hW1, hW.2.1, hW.2.2⟩
    refine q_if_ne (tgt := 70) hM dX11_canBeTried_16 (by decide) (rfl : r159.toInt = r159.toInt) (fun h16 => ?_) (fun h16 => ?_)
    · refine q_iconst (v := (1 : Int32)) hM dX11_canBeTried_70 (by decide) ?_
      refine q_goto (tgt := 75) hM dX11_canBeTried_71 (by decide) ?_
      exact hE _ _ _ _ _ _ hW.1 nz_1 ⟨_, rfl, (by have := kc_1; omega), rfl⟩ dX11_canBeTried_75
    · refine q_aload_n hM dX11_canBeTried_19 (lv_at hl 0 rfl) ?_
      refine w_get (v := .ref (ad 18)) hM hW FG_X11_26 lb_0 (rf_0_10 hW.2.1) dX11_canBeTried_20 ?_
      refine w_get (v := .int (0 : Int32)) hM hW FG_X11_135 lb_18 ((hW.2.2.1 18 3 (fun h => h)).trans (zf hF (by decide) rfl : fld g0 18 3 = .int (0 : Int32))) dX11_canBeTried_23 ?_
      refine q_iload_n hM dX11_canBeTried_26 (lv_at hl 2 rfl) ?_
      refine q_bipush (v := (10 : Int32)) hM dX11_canBeTried_27 (by decide) ?_
      refine q_isub hM dX11_canBeTried_29 (fun z161 hz161 => ?_)
      refine q_callS (As := [.int (0 : Int32), .int z161]) (rest := []) hM hW.1 hR hC myX11_has (kAW (v_1_10 (List.mem_of_getElem? (i := 8) rfl)) rfl) (c_X11_has _ _ cA ad g0 (0 : Int32) z161 hW.2.1) ⟨by decide, by decide⟩ rfl rfl hl.1 (Nat.le_of_ble_eq_true rfl) dX11_canBeTried_30 (fun v g163 H locs hp hW1 => ?_)
      obtain ⟨r162, rfl, hr162, rfl⟩ := hp
      have hW : WS ad cA (fun i k => False) g0 K g0 H locs := ⟨hW1, hW.2.1, hW.2.2⟩
      have kr162 : r162.toInt = 0 := has_r0 hr162
      refine q_if_ne (tgt := 70) hM dX11_canBeTried_33 (by decide) (kr162 : r162.toInt = 0) (fun h33 => ?_) (fun h33 => ?_)
      · omega
      · refine q_aload_n hM dX11_canBeTried_36 (lv_at hl 0 rfl) ?_
        refine w_get (v := .ref (ad 18)) hM hW FG_X11_26 lb_0 (rf_0_10 hW.2.1) dX11_canBeTried_37 ?_
        refine w_get (v := .int (0 : Int32)) hM hW FG_X11_135 lb_18 ((hW.2.2.1 18 3 (fun h => h)).trans (zf hF (by decide) rfl : fld g0 18 3 = .int (0 : Int32))) dX11_canBeTried_40 ?_
        refine q_iload_n hM dX11_canBeTried_43 (lv_at hl 2 rfl) ?_
        refine q_bipush (v := (20 : Int32)) hM dX11_canBeTried_44 (by decide) ?_
        refine q_isub hM dX11_canBeTried_46 (fun z164 hz164 => ?_)
        refine q_callS (As := [.int (0 : Int32), .int z164]) (rest := []) hM hW.1 hR hC myX11_has (kAW (v_1_10 (List.mem_of_getElem? (i := 8) rfl)) rfl) (c_X11_has _ _ cA ad g0 (0 : Int32) z164 hW.2.1) ⟨by decide, by decide⟩ rfl rfl hl.1 (Nat.le_of_ble_eq_true rfl) dX11_canBeTried_47 (fun v g166 H locs hp hW1 => ?_)
        obtain ⟨r165, rfl, hr165, rfl⟩ := hp
        have hW : WS ad cA (fun i k => False) g0 K g0 H locs := ⟨hW1, hW.2.1, hW.2.2⟩
        have kr165 : r165.toInt = 0 := has_r0 hr165
        refine q_if_ne (tgt := 70) hM dX11_canBeTried_50 (by decide) (kr165 : r165.toInt = 0) (fun h50 => ?_) (fun h50 => ?_)
        · omega
        · refine q_aload_n hM dX11_canBeTried_53 (lv_at hl 0 rfl) ?_
          refine w_get (v := .ref (ad 3)) hM hW FG_X11_19 lb_0 (rf_0_1 hW.2.1) dX11_canBeTried_54 ?_
          refine w_get (v := .int (0 : Int32)) hM hW FG_X11_116 lb_3 ((hW.2.2.1 3 2 (fun h => h)).trans (zf hF (by decide) rfl : fld g0 3 2 = .int (0 : Int32))) dX11_canBeTried_57 ?_
          refine q_iload_n hM dX11_canBeTried_60 (lv_at hl 2 rfl) ?_
          refine q_bipush (v := (30 : Int32)) hM dX11_canBeTried_61 (by decide) ?_
          refine q_isub hM dX11_canBeTried_63 (fun z167 hz167 => ?_)
          refine q_callS (As := [.int (0 : Int32), .int z167]) (rest := []) hM hW.1 hR hC myX11_has (kAW (v_1_10 (List.mem_of_getElem? (i := 8) rfl)) rfl) (c_X11_has _ _ cA ad g0 (0 : Int32) z167 hW.2.1) ⟨by decide, by decide⟩ rfl rfl hl.1 (Nat.le_of_ble_eq_true rfl) dX11_canBeTried_64 (fun v g169 H locs hp hW1 => ?_)
          obtain ⟨r168, rfl, hr168, rfl⟩ := hp
          have hW : WS ad cA (fun i k => False) g0 K g0 H locs := ⟨hW1, hW.2.1, hW.2.2⟩
          have kr168 : r168.toInt = 0 := has_r0 hr168
          refine q_if_eq (tgt := 74) hM dX11_canBeTried_67 (by decide) (kr168 : r168.toInt = 0) (fun h67 => ?_) (fun h67 => ?_)
          · refine q_iconst (v := (0 : Int32)) hM dX11_canBeTried_74 (by decide) ?_
            exact hE _ _ _ _ _ _ hW.1 nz_0 ⟨_, rfl, (by have := kc_0; omega), rfl⟩ dX11_canBeTried_75
          · omega

theorem dX11_trialTells_0 : decode cX11_trialTells 0 = .ok (.iload_n 1, 1) := by decide +kernel
theorem dX11_trialTells_1 : decode cX11_trialTells 1 = .ok (.bipush 10, 2) := by decide +kernel
theorem dX11_trialTells_3 : decode cX11_trialTells 3 = .ok (.bipush 17, 2) := by decide +kernel
theorem dX11_trialTells_5 : decode cX11_trialTells 5 = .ok (.invokestatic 112, 3) := by decide +kernel
theorem dX11_trialTells_8 : decode cX11_trialTells 8 = .ok (.ifCond .eq 18, 3) := by decide +kernel
theorem dX11_trialTells_26 : decode cX11_trialTells 26 = .ok (.iload_n 1, 1) := by decide +kernel
theorem dX11_trialTells_27 : decode cX11_trialTells 27 = .ok (.bipush 20, 2) := by decide +kernel
theorem dX11_trialTells_29 : decode cX11_trialTells 29 = .ok (.bipush 27, 2) := by decide +kernel
theorem dX11_trialTells_31 : decode cX11_trialTells 31 = .ok (.invokestatic 112, 3) := by decide +kernel
theorem dX11_trialTells_34 : decode cX11_trialTells 34 = .ok (.ifCond .eq 16, 3) := by decide +kernel
theorem dX11_trialTells_50 : decode cX11_trialTells 50 = .ok (.iload_n 1, 1) := by decide +kernel
theorem dX11_trialTells_51 : decode cX11_trialTells 51 = .ok (.bipush 30, 2) := by decide +kernel
theorem dX11_trialTells_53 : decode cX11_trialTells 53 = .ok (.bipush 41, 2) := by decide +kernel
theorem dX11_trialTells_55 : decode cX11_trialTells 55 = .ok (.invokestatic 112, 3) := by decide +kernel
theorem dX11_trialTells_58 : decode cX11_trialTells 58 = .ok (.ifCond .eq 15, 3) := by decide +kernel
theorem dX11_trialTells_73 : decode cX11_trialTells 73 = .ok (.iload_n 1, 1) := by decide +kernel
theorem dX11_trialTells_74 : decode cX11_trialTells 74 = .ok (.tableswitch 66 0 2 #[26, 42, 50], 26) := by decide +kernel
theorem dX11_trialTells_100 : decode cX11_trialTells 100 = .ok (.aload_n 0, 1) := by decide +kernel
theorem dX11_trialTells_101 : decode cX11_trialTells 101 = .ok (.getfield 33, 3) := by decide +kernel
theorem dX11_trialTells_104 : decode cX11_trialTells 104 = .ok (.getfield 173, 3) := by decide +kernel
theorem dX11_trialTells_107 : decode cX11_trialTells 107 = .ok (.aload_n 0, 1) := by decide +kernel
theorem dX11_trialTells_108 : decode cX11_trialTells 108 = .ok (.getfield 26, 3) := by decide +kernel
theorem dX11_trialTells_111 : decode cX11_trialTells 111 = .ok (.getfield 173, 3) := by decide +kernel
theorem dX11_trialTells_114 : decode cX11_trialTells 114 = .ok (.isub, 1) := by decide +kernel
theorem dX11_trialTells_115 : decode cX11_trialTells 115 = .ok (.ireturn, 1) := by decide +kernel
theorem dX11_trialTells_116 : decode cX11_trialTells 116 = .ok (.aload_n 0, 1) := by decide +kernel
theorem dX11_trialTells_117 : decode cX11_trialTells 117 = .ok (.getfield 83, 3) := by decide +kernel
theorem dX11_trialTells_120 : decode cX11_trialTells 120 = .ok (.getfield 334, 3) := by decide +kernel
theorem dX11_trialTells_123 : decode cX11_trialTells 123 = .ok (.ireturn, 1) := by decide +kernel
theorem dX11_trialTells_124 : decode cX11_trialTells 124 = .ok (.aload_n 0, 1) := by decide +kernel
theorem dX11_trialTells_125 : decode cX11_trialTells 125 = .ok (.getfield 33, 3) := by decide +kernel
theorem dX11_trialTells_128 : decode cX11_trialTells 128 = .ok (.getfield 328, 3) := by decide +kernel
theorem dX11_trialTells_131 : decode cX11_trialTells 131 = .ok (.aload_n 0, 1) := by decide +kernel
theorem dX11_trialTells_132 : decode cX11_trialTells 132 = .ok (.getfield 26, 3) := by decide +kernel
theorem dX11_trialTells_135 : decode cX11_trialTells 135 = .ok (.getfield 328, 3) := by decide +kernel
theorem dX11_trialTells_138 : decode cX11_trialTells 138 = .ok (.isub, 1) := by decide +kernel
theorem dX11_trialTells_139 : decode cX11_trialTells 139 = .ok (.ireturn, 1) := by decide +kernel
theorem dX11_trialTells_140 : decode cX11_trialTells 140 = .ok (.aload_n 0, 1) := by decide +kernel
theorem dX11_trialTells_141 : decode cX11_trialTells 141 = .ok (.getfield 83, 3) := by decide +kernel
theorem dX11_trialTells_144 : decode cX11_trialTells 144 = .ok (.getfield 337, 3) := by decide +kernel
theorem dX11_trialTells_147 : decode cX11_trialTells 147 = .ok (.ireturn, 1) := by decide +kernel
theorem FG_X11_83 : FG RX11 83 11 16 2 := ⟨RX11, TX11, rfl, wX11, by decide, kAW (v_1_6 (List.mem_of_getElem? (i := 14) rfl)) rfl, rfl⟩
theorem FG_X11_337 : FG RX11 337 2 11 8 := ⟨RX2, TX2, rfl, wX2, by decide, kAW (v_1_0 (List.mem_of_getElem? (i := 3) rfl)) rfl, rfl⟩
theorem FG_X11_33 : FG RX11 33 11 16 12 := ⟨RX11, TX11, rfl, wX11, by decide, kAW (v_1_7 (List.mem_of_getElem? (i := 8) rfl)) rfl, rfl⟩
theorem FG_X11_173 : FG RX11 173 7 8 5 := ⟨RX7, TX7, rfl, wX7, by decide, kAW (v_0_5 (List.mem_of_getElem? (i := 13) rfl)) rfl, rfl⟩
theorem FG_X11_334 : FG RX11 334 2 11 7 := ⟨RX2, TX2, rfl, wX2, by decide, kAW (v_1_0 (List.mem_of_getElem? (i := 1) rfl)) rfl, rfl⟩
theorem FG_X11_328 : FG RX11 328 7 8 6 := ⟨RX7, TX7, rfl, wX7, by decide, kAW (v_0_6 (List.mem_of_getElem? (i := 0) rfl)) rfl, rfl⟩
set_option maxRecDepth 100000 in
set_option maxHeartbeats 4000000 in
theorem c_X11_trialTells (l : Launch) (D : va_G) (cA : Nat → ClassId) (ad : Nat → Nat) (g0 : Nat → va_E) (what : Int32) (hSh : Shp ad cA g0) (a1 : fld g0 42 5 = .int 0) (a2 : fld g0 18 5 = .int 0) (a3 : fld g0 80 7 = .int 0) (a4 : fld g0 42 6 = .int 0) (a5 : fld g0 18 6 = .int 0) (a6 : fld g0 80 8 = .int 0) (w0 : 0 ≤ what.toInt) (w3 : what.toInt ≤ 3) : CT l NN ad cA D yX11_trialTells cX11_trialTells 2 (some FieldType.int) (1, 22) [.ref (ad 0), .int what] g0 (PU g0 (fun r => r.toInt = 0)) := by
  refine q_enterI (by decide) (Nat.le_of_ble_eq_true rfl) rfl (fun K H locs ls _ _ hM hW0 hR hC hE hl => ?_)
  have hl : lv_has ls 2 [(0, .ref (ad 0)), (1, .int what)] := hl
  have hW : WS ad cA (fun i k => False) g0 K g0 H locs := ⟨hW0, hSh, FR.rf⟩
  have := kc_0
  have := kc_10
  have := kc_17
  have := kc_20
  have := kc_27
  have := kc_30
  have := kc_41
  refine q_iload_n hM dX11_trialTells_0 (lv_at hl 1 rfl) ?_
  refine q_bipush (v := (10 : Int32)) hM dX11_trialTells_1 (by decide) ?_
  refine q_bipush (v := (17 : Int32)) hM dX11_trialTells_3 (by decide) ?_
  refine q_callS (As := [.int what, .int (10 : Int32), .int (17 : Int32)]) (rest := []) hM hW.1 hR hC myX11_within (kAW (v_1_10 (List.mem_of_getElem? (i := 1) rfl)) rfl) (c_X11_within _ _ cA ad g0 what (10 : Int32) (17 : Int32) hW.2.1) ⟨by decide, by decide⟩ rfl rfl hl.1 (Nat.le_of_ble_eq_true rfl) dX11_trialTells_5 (fun v g171 H locs hp hW1 => ?_)
  obtain ⟨r170, rfl, hr170, rfl⟩ := hp
  have hW : WS ad cA (fun i k => False) g0 K g0 H locs := ⟨hW1, hW.2.1, hW.2.2⟩
  refine q_if_eq (tgt := 26) hM dX11_trialTells_8 (by decide) (rfl : r170.toInt = r170.toInt) (fun h8 => ?_) (fun h8 => ?_)
  · refine q_iload_n hM dX11_trialTells_26 (lv_at hl 1 rfl) ?_
    refine q_bipush (v := (20 : Int32)) hM dX11_trialTells_27 (by decide) ?_
    refine q_bipush (v := (27 : Int32)) hM dX11_trialTells_29 (by decide) ?_
    refine q_callS (As := [.int what, .int (20 : Int32), .int (27 : Int32)]) (rest := []) hM hW.1 hR hC myX11_within (kAW (v_1_10 (List.mem_of_getElem? (i := 1) rfl)) rfl) (c_X11_within _ _ cA ad g0 what (20 : Int32) (27 : Int32) hW.2.1) ⟨by decide, by decide⟩ rfl rfl hl.1 (Nat.le_of_ble_eq_true rfl) dX11_trialTells_31 (fun v g173 H locs hp hW1 => ?_)
    obtain ⟨r172, rfl, hr172, rfl⟩ := hp
    have hW : WS ad cA (fun i k => False) g0 K g0 H locs := ⟨hW1, hW.2.1, hW.2.2⟩
    refine q_if_eq (tgt := 50) hM dX11_trialTells_34 (by decide) (rfl : r172.toInt = r172.toInt) (fun h34 => ?_) (fun h34 => ?_)
    · refine q_iload_n hM dX11_trialTells_50 (lv_at hl 1 rfl) ?_
      refine q_bipush (v := (30 : Int32)) hM dX11_trialTells_51 (by decide) ?_
      refine q_bipush (v := (41 : Int32)) hM dX11_trialTells_53 (by decide) ?_
      refine q_callS (As := [.int what, .int (30 : Int32), .int (41 : Int32)]) (rest := []) hM hW.1 hR hC myX11_within (kAW (v_1_10 (List.mem_of_getElem? (i := 1) rfl)) rfl) (c_X11_within _ _ cA ad g0 what (30 : Int32) (41 : Int32) hW.2.1) ⟨by decide, by decide⟩ rfl rfl hl.1 (Nat.le_of_ble_eq_true rfl) dX11_trialTells_55 (fun v g175 H locs hp hW1 => ?_)
      obtain ⟨r174, rfl, hr174, rfl⟩ := hp
      have hW : WS ad cA (fun i k => False) g0 K g0 H locs := ⟨hW1, hW.2.1, hW.2.2⟩
      refine q_if_eq (tgt := 73) hM dX11_trialTells_58 (by decide) (rfl : r174.toInt = r174.toInt) (fun h58 => ?_) (fun h58 => ?_)
      · refine q_iload_n hM dX11_trialTells_73 (lv_at hl 1 rfl) ?_
        rcases (show what.toInt < 0 ∨ 2 < what.toInt ∨ what.toInt = 0 ∨ what.toInt = 1 ∨ what.toInt = 2 from by omega) with h74 | h74 | h74 | h74 | h74
        · refine q_tableOut (tgt := 140) hM dX11_trialTells_74 rfl (by omega) (by decide) ?_
          refine q_aload_n hM dX11_trialTells_140 (lv_at hl 0 rfl) ?_
          refine w_get (v := .ref (ad 80)) hM hW FG_X11_83 lb_0 (rf_0_2 hW.2.1) dX11_trialTells_141 ?_
          refine w_get (v := .int (0 : Int32)) hM hW FG_X11_337 lb_80 ((hW.2.2.1 80 8 (fun h => h)).trans a6) dX11_trialTells_144 ?_
          exact hE _ _ _ _ _ _ hW.1 ⟨_, rfl, kc_0, rfl⟩ dX11_trialTells_147
        · refine q_tableOut (tgt := 140) hM dX11_trialTells_74 rfl (by omega) (by decide) ?_
          refine q_aload_n hM dX11_trialTells_140 (lv_at hl 0 rfl) ?_
          refine w_get (v := .ref (ad 80)) hM hW FG_X11_83 lb_0 (rf_0_2 hW.2.1) dX11_trialTells_141 ?_
          refine w_get (v := .int (0 : Int32)) hM hW FG_X11_337 lb_80 ((hW.2.2.1 80 8 (fun h => h)).trans a6) dX11_trialTells_144 ?_
          exact hE _ _ _ _ _ _ hW.1 ⟨_, rfl, kc_0, rfl⟩ dX11_trialTells_147
        · refine q_tableIn (tgt := 100) hM dX11_trialTells_74 ((rfl : what.toInt = _).trans h74) (by decide) (by decide) rfl (by decide) ?_
          refine q_aload_n hM dX11_trialTells_100 (lv_at hl 0 rfl) ?_
          refine w_get (v := .ref (ad 42)) hM hW FG_X11_33 lb_0 (rf_0_12 hW.2.1) dX11_trialTells_101 ?_
          refine w_get (v := .int (0 : Int32)) hM hW FG_X11_173 lb_42 ((hW.2.2.1 42 5 (fun h => h)).trans a1) dX11_trialTells_104 ?_
          refine q_aload_n hM dX11_trialTells_107 (lv_at hl 0 rfl) ?_
          refine w_get (v := .ref (ad 18)) hM hW FG_X11_26 lb_0 (rf_0_10 hW.2.1) dX11_trialTells_108 ?_
          refine w_get (v := .int (0 : Int32)) hM hW FG_X11_173 lb_18 ((hW.2.2.1 18 5 (fun h => h)).trans a2) dX11_trialTells_111 ?_
          refine q_isub hM dX11_trialTells_114 (fun z176 hz176 => ?_)
          have tz176 := i_subT hz176 (kc_0 : (0 : Int32).toInt = 0) (kc_0 : (0 : Int32).toInt = 0) (by omega) (by omega)
          exact hE _ _ _ _ _ _ hW.1 ⟨_, rfl, (by omega), rfl⟩ dX11_trialTells_115
        · refine q_tableIn (tgt := 116) hM dX11_trialTells_74 ((rfl : what.toInt = _).trans h74) (by decide) (by decide) rfl (by decide) ?_
          refine q_aload_n hM dX11_trialTells_116 (lv_at hl 0 rfl) ?_
          refine w_get (v := .ref (ad 80)) hM hW FG_X11_83 lb_0 (rf_0_2 hW.2.1) dX11_trialTells_117 ?_
          refine w_get (v := .int (0 : Int32)) hM hW FG_X11_334 lb_80 ((hW.2.2.1 80 7 (fun h => h)).trans a3) dX11_trialTells_120 ?_
          exact hE _ _ _ _ _ _ hW.1 ⟨_, rfl, kc_0, rfl⟩ dX11_trialTells_123
        · refine q_tableIn (tgt := 124) hM dX11_trialTells_74 ((rfl : what.toInt = _).trans h74) (by decide) (by decide) rfl (by decide) ?_
          refine q_aload_n hM dX11_trialTells_124 (lv_at hl 0 rfl) ?_
          refine w_get (v := .ref (ad 42)) hM hW FG_X11_33 lb_0 (rf_0_12 hW.2.1) dX11_trialTells_125 ?_
          refine w_get (v := .int (0 : Int32)) hM hW FG_X11_328 lb_42 ((hW.2.2.1 42 6 (fun h => h)).trans a4) dX11_trialTells_128 ?_
          refine q_aload_n hM dX11_trialTells_131 (lv_at hl 0 rfl) ?_
          refine w_get (v := .ref (ad 18)) hM hW FG_X11_26 lb_0 (rf_0_10 hW.2.1) dX11_trialTells_132 ?_
          refine w_get (v := .int (0 : Int32)) hM hW FG_X11_328 lb_18 ((hW.2.2.1 18 6 (fun h => h)).trans a5) dX11_trialTells_135 ?_
          refine q_isub hM dX11_trialTells_138 (fun z177 hz177 => ?_)
          have tz177 := i_subT hz177 (kc_0 : (0 : Int32).toInt = 0) (kc_0 : (0 : Int32).toInt = 0) (by omega) (by omega)
          exact hE _ _ _ _ _ _ hW.1 ⟨_, rfl, (by omega), rfl⟩ dX11_trialTells_139
      · omega
    · omega
  · omega

theorem dX11_beginTrial_0 : decode cX11_beginTrial 0 = .ok (.aload_n 0, 1) := by decide +kernel
theorem dX11_beginTrial_1 : decode cX11_beginTrial 1 = .ok (.getfield 33, 3) := by decide +kernel
theorem dX11_beginTrial_4 : decode cX11_beginTrial 4 = .ok (.aload_n 0, 1) := by decide +kernel
theorem dX11_beginTrial_5 : decode cX11_beginTrial 5 = .ok (.getfield 26, 3) := by decide +kernel
theorem dX11_beginTrial_8 : decode cX11_beginTrial 8 = .ok (.invokevirtual 319, 3) := by decide +kernel
theorem dX11_beginTrial_11 : decode cX11_beginTrial 11 = .ok (.aload_n 0, 1) := by decide +kernel
theorem dX11_beginTrial_12 : decode cX11_beginTrial 12 = .ok (.getfield 83, 3) := by decide +kernel
theorem dX11_beginTrial_15 : decode cX11_beginTrial 15 = .ok (.aload_n 1, 1) := by decide +kernel
theorem dX11_beginTrial_16 : decode cX11_beginTrial 16 = .ok (.aload_n 0, 1) := by decide +kernel
theorem dX11_beginTrial_17 : decode cX11_beginTrial 17 = .ok (.getfield 33, 3) := by decide +kernel
theorem dX11_beginTrial_20 : decode cX11_beginTrial 20 = .ok (.invokevirtual 176, 3) := by decide +kernel
theorem dX11_beginTrial_23 : decode cX11_beginTrial 23 = .ok (.return_, 1) := by decide +kernel
theorem myX7_become : MI yX7_become cX7_become 4 none 1 := ⟨kAW (v_3_0 (List.mem_of_getElem? (i := 12) rfl)) rfl, kAW (v_0_0 (List.mem_of_getElem? (i := 4) rfl)) rfl, kAW (v_3_0 (List.mem_of_getElem? (i := 10) rfl)) rfl, kAW (v_3_0 (List.mem_of_getElem? (i := 11) rfl)) rfl, by decide, by decide, by decide +kernel⟩
theorem myX2_begin : MI yX2_begin cX2_begin 3 none 2 := ⟨kAW (v_2_9 (List.mem_of_getElem? (i := 14) rfl)) rfl, kAW (v_0_0 (List.mem_of_getElem? (i := 9) rfl)) rfl, kAW (v_2_9 (List.mem_of_getElem? (i := 12) rfl)) rfl, kAW (v_2_9 (List.mem_of_getElem? (i := 13) rfl)) rfl, by decide, by decide, by decide +kernel⟩
set_option maxRecDepth 100000 in
set_option maxHeartbeats 4000000 in
theorem c_X11_beginTrial (l : Launch) (D : va_G) (cA : Nat → ClassId) (ad : Nat → Nat) (g0 : Nat → va_E) (lw : Nat) (tl wk ps rc xx : Int32) (hSh : Shp ad cA g0) (htl : fld g0 18 3 = .int tl) (hwk : fld g0 18 4 = .int wk) (hps : fld g0 18 5 = .int ps) (hrc : fld g0 18 6 = .int rc) (hxx : fld g0 18 7 = .int xx) : CT l NN ad cA D yX11_beginTrial cX11_beginTrial 2 none (1, 23) [.ref (ad 0), .ref (ad lw)] g0 (fun v g' => v = none ∧ Shp ad cA g' ∧ FR (fun i k => i = 43 ∨ i = 44 ∨ (46 ≤ i ∧ i < 54) ∨ (i = 42 ∧ (k = 3 ∨ k = 4 ∨ k = 5 ∨ k = 6 ∨ k = 7)) ∨ (i = 80 ∧ (k = 7 ∨ k = 8 ∨ k = 9 ∨ k = 10))) g0 g' ∧ fld g' 42 3 = .int tl ∧ fld g' 42 4 = .int wk ∧ fld g' 42 5 = .int ps ∧ fld g' 42 6 = .int rc ∧ fld g' 42 7 = .int xx ∧ fld g' 80 7 = .int (0 : Int32) ∧ fld g' 80 8 = .int (0 : Int32) ∧ fld g' 80 9 = .ref (ad lw) ∧ fld g' 80 10 = .ref (ad 42)) := by
  refine q_enterV (by decide) (Nat.le_of_ble_eq_true rfl) (fun K H locs ls _ _ hM hW0 hR hC hE hl => ?_)
  have hl : lv_has ls 2 [(0, .ref (ad 0)), (1, .ref (ad lw))] := hl
  have hW : WS ad cA (fun i k => i = 43 ∨ i = 44 ∨ (46 ≤ i ∧ i < 54) ∨ (i = 42 ∧ (k = 3 ∨ k = 4 ∨ k = 5 ∨ k = 6 ∨ k = 7)) ∨ (i = 80 ∧ (k = 7 ∨ k = 8 ∨ k = 9 ∨ k = 10))) g0 K g0 H locs := ⟨hW0, hSh, FR.rf⟩
  refine q_aload_n hM dX11_beginTrial_0 (lv_at hl 0 rfl) ?_
  refine w_get (v := .ref (ad 42)) hM hW FG_X11_33 lb_0 (rf_0_12 hW.2.1) dX11_beginTrial_1 ?_
  refine q_aload_n hM dX11_beginTrial_4 (lv_at hl 0 rfl) ?_
  refine w_get (v := .ref (ad 18)) hM hW FG_X11_26 lb_0 (rf_0_10 hW.2.1) dX11_beginTrial_5 ?_
  refine q_callV (As := [.ref (ad 18)]) (rest := []) hM hW.1 hR hC myX7_become (kAW (v_3_0 (List.mem_of_getElem? (i := 9) rfl)) rfl) (rfl : vwCl[7]? = some (RX7, TX7, 8)) rfl lb_42.1 (shO hW.2.1 lb_42) (c_X7_become_42 _ _ cA ad g0 tl wk ps rc xx hW.2.1 ((hW.2.2.1 18 3 (by omega)).trans htl) ((hW.2.2.1 18 4 (by omega)).trans hwk) ((hW.2.2.1 18 5 (by omega)).trans hps) ((hW.2.2.1 18 6 (by omega)).trans hrc) ((hW.2.2.1 18 7 (by omega)).trans hxx)) ⟨by decide, by decide⟩ rfl rfl hl.1 (Nat.le_of_ble_eq_true rfl) dX11_beginTrial_8 (fun v g183 H locs hp hW1 => ?_)
  obtain ⟨rfl, hs1, hf1, q178, q179, q180, q181, q182⟩ := hp
  have hW : WS ad cA (fun i k => i = 43 ∨ i = 44 ∨ (46 ≤ i ∧ i < 54) ∨ (i = 42 ∧ (k = 3 ∨ k = 4 ∨ k = 5 ∨ k = 6 ∨ k = 7)) ∨ (i = 80 ∧ (k = 7 ∨ k = 8 ∨ k = 9 ∨ k = 10))) g0 K g183 H locs := ⟨hW1, hs1, hW.2.2.tr hf1 (fun i k h => by omega)⟩
  refine q_aload_n hM dX11_beginTrial_11 (lv_at hl 0 rfl) ?_
  refine w_get (v := .ref (ad 80)) hM hW FG_X11_83 lb_0 (rf_0_2 hW.2.1) dX11_beginTrial_12 ?_
  refine q_aload_n hM dX11_beginTrial_15 (lv_at hl 1 rfl) ?_
  refine q_aload_n hM dX11_beginTrial_16 (lv_at hl 0 rfl) ?_
  refine w_get (v := .ref (ad 42)) hM hW FG_X11_33 lb_0 (rf_0_12 hW.2.1) dX11_beginTrial_17 ?_
  refine q_callV (As := [.ref (ad lw), .ref (ad 42)]) (rest := []) hM hW.1 hR hC myX2_begin (kAW (v_2_9 (List.mem_of_getElem? (i := 11) rfl)) rfl) (rfl : vwCl[2]? = some (RX2, TX2, 11)) rfl lb_80.1 (shO hW.2.1 lb_80) (c_X2_begin _ _ cA ad g183 lw 42 hW.2.1) ⟨by decide, by decide⟩ rfl rfl hl.1 (Nat.le_of_ble_eq_true rfl) dX11_beginTrial_20 (fun v g188 H locs hp hW1 => ?_)
  obtain ⟨rfl, hs1, hf1, q184, q185, q186, q187⟩ := hp
  have f189 : fld g188 42 3 = .int tl := (hf1.1 42 3 (by omega)).trans q178
  have f190 : fld g188 42 4 = .int wk := (hf1.1 42 4 (by omega)).trans q179
  have f191 : fld g188 42 5 = .int ps := (hf1.1 42 5 (by omega)).trans q180
  have f192 : fld g188 42 6 = .int rc := (hf1.1 42 6 (by omega)).trans q181
  have f193 : fld g188 42 7 = .int xx := (hf1.1 42 7 (by omega)).trans q182
  have hW : WS ad cA (fun i k => i = 43 ∨ i = 44 ∨ (46 ≤ i ∧ i < 54) ∨ (i = 42 ∧ (k = 3 ∨ k = 4 ∨ k = 5 ∨ k = 6 ∨ k = 7)) ∨ (i = 80 ∧ (k = 7 ∨ k = 8 ∨ k = 9 ∨ k = 10))) g0 K g188 H locs := ⟨hW1, hs1, hW.2.2.tr hf1 (fun i k h => by omega)⟩
  exact hE _ _ _ _ _ hW.1 ⟨rfl, hW.2.1, hW.2.2, f189, f190, f191, f192, f193, q184, q185, q186, q187⟩ dX11_beginTrial_23
end
section
theorem FR.wk {T T1 : Nat → Nat → Prop} {g g1 : Nat → va_E} (h : FR T g g1) (hs : ∀ i k, T i k → T1 i k) : FR T1 g g1 := ⟨fun i k hn => h.1 i k (fun q => hn (hs i k q)), fun i hn => h.2.1 i (fun q => hn (hs i 0 q)), h.2.2⟩
theorem bc_ne {a b r1 r2 : Int32} (h1 : r1 = bcF a) (h2 : r2 = bcF b) (ha : a = 0) (hb1 : 1 ≤ b.toInt) (hb2 : b.toInt ≤ 63) (h : r1.toInt = r2.toInt) : False := by
  have e : r1 = r2 := Int32.toInt_inj.mp h
  rw [h1, h2, ha, bcF_0] at e
  obtain ⟨k, hk⟩ : ∃ k : Nat, b.toInt = k := ⟨b.toInt.toNat, by omega⟩
  rw [nI_k hk (by omega)] at e
  exact bcF_pos k (by omega) (by omega) e.symm

theorem dX11_fact_0 : decode cX11_fact 0 = .ok (.iload_n 1, 1) := by decide +kernel
theorem dX11_fact_1 : decode cX11_fact 1 = .ok (.iconst 0, 1) := by decide +kernel
theorem dX11_fact_2 : decode cX11_fact 2 = .ok (.bipush 11, 2) := by decide +kernel
theorem dX11_fact_4 : decode cX11_fact 4 = .ok (.invokestatic 112, 3) := by decide +kernel
theorem dX11_fact_7 : decode cX11_fact 7 = .ok (.ifCond .eq 13, 3) := by decide +kernel
theorem dX11_fact_10 : decode cX11_fact 10 = .ok (.iload_n 2, 1) := by decide +kernel
theorem dX11_fact_11 : decode cX11_fact 11 = .ok (.iconst 0, 1) := by decide +kernel
theorem dX11_fact_12 : decode cX11_fact 12 = .ok (.bipush 8, 2) := by decide +kernel
theorem dX11_fact_14 : decode cX11_fact 14 = .ok (.invokestatic 112, 3) := by decide +kernel
theorem dX11_fact_17 : decode cX11_fact 17 = .ok (.ifCond .ne 5, 3) := by decide +kernel
theorem dX11_fact_20 : decode cX11_fact 20 = .ok (.iconst 0, 1) := by decide +kernel
theorem dX11_fact_21 : decode cX11_fact 21 = .ok (.ireturn, 1) := by decide +kernel
theorem dX11_fact_22 : decode cX11_fact 22 = .ok (.aload_n 0, 1) := by decide +kernel
theorem dX11_fact_23 : decode cX11_fact 23 = .ok (.getfield 19, 3) := by decide +kernel
theorem dX11_fact_26 : decode cX11_fact 26 = .ok (.dup, 1) := by decide +kernel
theorem dX11_fact_27 : decode cX11_fact 27 = .ok (.getfield 116, 3) := by decide +kernel
theorem dX11_fact_30 : decode cX11_fact 30 = .ok (.iconst 1, 1) := by decide +kernel
theorem dX11_fact_31 : decode cX11_fact 31 = .ok (.iload_n 1, 1) := by decide +kernel
theorem dX11_fact_32 : decode cX11_fact 32 = .ok (.ishl, 1) := by decide +kernel
theorem dX11_fact_33 : decode cX11_fact 33 = .ok (.ior, 1) := by decide +kernel
theorem dX11_fact_34 : decode cX11_fact 34 = .ok (.putfield 116, 3) := by decide +kernel
theorem dX11_fact_37 : decode cX11_fact 37 = .ok (.aload_n 0, 1) := by decide +kernel
theorem dX11_fact_38 : decode cX11_fact 38 = .ok (.getfield 19, 3) := by decide +kernel
theorem dX11_fact_41 : decode cX11_fact 41 = .ok (.getfield 120, 3) := by decide +kernel
theorem dX11_fact_44 : decode cX11_fact 44 = .ok (.iload_n 1, 1) := by decide +kernel
theorem dX11_fact_45 : decode cX11_fact 45 = .ok (.iload_n 2, 1) := by decide +kernel
theorem dX11_fact_46 : decode cX11_fact 46 = .ok (.iastore, 1) := by decide +kernel
theorem dX11_fact_47 : decode cX11_fact 47 = .ok (.iconst 1, 1) := by decide +kernel
theorem dX11_fact_48 : decode cX11_fact 48 = .ok (.ireturn, 1) := by decide +kernel
theorem FP_X11_116 : FPX RX11 116 5 3 2 .int := ⟨⟨RX5, TX5, tyX5, rfl, wX5, by decide, kAW (v_0_3 (List.mem_of_getElem? (i := 11) rfl)) rfl, rfl, tyX5_ok, nmX5, by decide +kernel, rfl⟩, by decide +kernel⟩
theorem FG_X11_120 : FG RX11 120 5 3 0 := ⟨RX5, TX5, rfl, wX5, by decide, kAW (v_0_3 (List.mem_of_getElem? (i := 6) rfl)) rfl, rfl⟩
set_option maxRecDepth 100000 in
set_option maxHeartbeats 4000000 in
theorem p_X11_fact (l : Launch) (D : va_G) (cA : Nat → ClassId) (ad : Nat → Nat) (g0 : Nat → va_E) (a b : Int32) (hSh : Shp ad cA g0) (hF : ∀ j, j < NN → g0 j = gF ad cA j) : CT l NN ad cA D yX11_fact cX11_fact 3 (some FieldType.boolean) (1, 22) [.ref (ad 0), .int a, .int b] g0 (fun v g' => ∃ r : Int32, v = some (.int r) ∧ Shp ad cA g' ∧ FR (fun i _ => i < 129) g0 g' ∧ ((r.toInt = 1 ∧ 0 ≤ a.toInt ∧ a.toInt ≤ 11 ∧ 0 ≤ b.toInt ∧ b.toInt ≤ 8) ∨ (r.toInt = 0 ∧ ¬ (0 ≤ a.toInt ∧ a.toInt ≤ 11 ∧ 0 ≤ b.toInt ∧ b.toInt ≤ 8)))) := by
  refine q_enterZ (by decide) (Nat.le_of_ble_eq_true rfl) (fun K H locs ls _ _ hM hW0 hR hC hE hl => ?_)
  have hl : lv_has ls 3 [(0, .ref (ad 0)), (1, .int a), (2, .int b)] := hl
  have hW : WS ad cA (fun i k => (i = 3 ∧ (k = 2)) ∨ i = 4) g0 K g0 H locs := ⟨hW0, hSh, FR.rf⟩
  have := kc_0
  have := kc_8
  have := kc_11
  have f194 : fld g0 3 2 = .int (0 : Int32) := (zf hF (by decide) rfl : fld g0 3 2 = .int (0 : Int32))
  refine q_iload_n hM dX11_fact_0 (lv_at hl 1 rfl) ?_
  refine q_iconst (v := (0 : Int32)) hM dX11_fact_1 (by decide) ?_
  refine q_bipush (v := (11 : Int32)) hM dX11_fact_2 (by decide) ?_
  refine q_callS (As := [.int a, .int (0 : Int32), .int (11 : Int32)]) (rest := []) hM hW.1 hR hC myX11_within (kAW (v_1_10 (List.mem_of_getElem? (i := 1) rfl)) rfl) (c_X11_within _ _ cA ad g0 a (0 : Int32) (11 : Int32) hW.2.1) ⟨by decide, by decide⟩ rfl rfl hl.1 (Nat.le_of_ble_eq_true rfl) dX11_fact_4 (fun v g196 H locs hp hW1 => ?_)
  obtain ⟨r195, rfl, hr195, rfl⟩ := hp
  have hW : WS ad cA (fun i k => (i = 3 ∧ (k = 2)) ∨ i = 4) g0 K g0 H locs := ⟨hW1, hW.2.1, hW.2.2⟩
  refine q_if_eq (tgt := 20) hM dX11_fact_7 (by decide) (rfl : r195.toInt = r195.toInt) (fun h7 => ?_) (fun h7 => ?_)
  · refine q_iconst (v := (0 : Int32)) hM dX11_fact_20 (by decide) ?_
    exact hE _ _ _ _ _ _ hW.1 nz_0 ⟨_, rfl, hW.2.1, FR.wk hW.2.2 (fun i k h => by omega), (by have := kc_0; omega)⟩ dX11_fact_21
  · refine q_iload_n hM dX11_fact_10 (lv_at hl 2 rfl) ?_
    refine q_iconst (v := (0 : Int32)) hM dX11_fact_11 (by decide) ?_
    refine q_bipush (v := (8 : Int32)) hM dX11_fact_12 (by decide) ?_
    refine q_callS (As := [.int b, .int (0 : Int32), .int (8 : Int32)]) (rest := []) hM hW.1 hR hC myX11_within (kAW (v_1_10 (List.mem_of_getElem? (i := 1) rfl)) rfl) (c_X11_within _ _ cA ad g0 b (0 : Int32) (8 : Int32) hW.2.1) ⟨by decide, by decide⟩ rfl rfl hl.1 (Nat.le_of_ble_eq_true rfl) dX11_fact_14 (fun v g198 H locs hp hW1 => ?_)
    obtain ⟨r197, rfl, hr197, rfl⟩ := hp
    have hW : WS ad cA (fun i k => (i = 3 ∧ (k = 2)) ∨ i = 4) g0 K g0 H locs := ⟨hW1, hW.2.1, hW.2.2⟩
    refine q_if_ne (tgt := 22) hM dX11_fact_17 (by decide) (rfl : r197.toInt = r197.toInt) (fun h17 => ?_) (fun h17 => ?_)
    · refine q_aload_n hM dX11_fact_22 (lv_at hl 0 rfl) ?_
      refine w_get (v := .ref (ad 3)) hM hW FG_X11_19 lb_0 (rf_0_1 hW.2.1) dX11_fact_23 ?_
      refine q_dup hM dX11_fact_26 rfl ?_
      refine w_get (v := .int (0 : Int32)) hM hW FG_X11_116 lb_3 f194 dX11_fact_27 ?_
      refine q_iconst (v := (1 : Int32)) hM dX11_fact_30 (by decide) ?_
      refine q_iload_n hM dX11_fact_31 (lv_at hl 1 rfl) ?_
      refine q_ishl hM dX11_fact_32 (fun z199 hz199 => ?_)
      refine q_ior hM dX11_fact_33 (fun z200 hz200 => ?_)
      refine w_put hM hW FP_X11_116 lb_3 (by omega) (Or.inl ⟨_, rfl⟩) rfl rfl dX11_fact_34 (fun g201 H locs hW e1 e2 => ?_)
      have f202 : fld g201 3 2 = .int z200 := e1
      refine q_aload_n hM dX11_fact_37 (lv_at hl 0 rfl) ?_
      refine w_get (v := .ref (ad 3)) hM hW FG_X11_19 lb_0 (rf_0_1 hW.2.1) dX11_fact_38 ?_
      refine w_get (v := .ref (ad 4)) hM hW FG_X11_120 lb_3 (rf_3_0 hW.2.1) dX11_fact_41 ?_
      refine q_iload_n hM dX11_fact_44 (lv_at hl 1 rfl) ?_
      refine q_iload_n hM dX11_fact_45 (lv_at hl 2 rfl) ?_
      refine w_iast hM hW lb_4 (by omega) (i_in (by omega) (by omega)) dX11_fact_46 (fun g203 H locs hW e1 e2 => ?_)
      have f204 : fld g203 3 2 = .int z200 := (e2.1 3 2 (by unfold Only; omega)).trans f202
      refine q_iconst (v := (1 : Int32)) hM dX11_fact_47 (by decide) ?_
      exact hE _ _ _ _ _ _ hW.1 nz_1 ⟨_, rfl, hW.2.1, FR.wk hW.2.2 (fun i k h => by omega), (by have := kc_1; omega)⟩ dX11_fact_48
    · refine q_iconst (v := (0 : Int32)) hM dX11_fact_20 (by decide) ?_
      exact hE _ _ _ _ _ _ hW.1 nz_0 ⟨_, rfl, hW.2.1, FR.wk hW.2.2 (fun i k h => by omega), (by have := kc_0; omega)⟩ dX11_fact_21

theorem dX11_link_0 : decode cX11_link 0 = .ok (.aload_n 0, 1) := by decide +kernel
theorem dX11_link_1 : decode cX11_link 1 = .ok (.getfield 19, 3) := by decide +kernel
theorem dX11_link_4 : decode cX11_link 4 = .ok (.getfield 116, 3) := by decide +kernel
theorem dX11_link_7 : decode cX11_link 7 = .ok (.iload_n 1, 1) := by decide +kernel
theorem dX11_link_8 : decode cX11_link 8 = .ok (.invokestatic 123, 3) := by decide +kernel
theorem dX11_link_11 : decode cX11_link 11 = .ok (.ifCond .eq 32, 3) := by decide +kernel
theorem dX11_link_43 : decode cX11_link 43 = .ok (.iconst 0, 1) := by decide +kernel
theorem dX11_link_44 : decode cX11_link 44 = .ok (.ireturn, 1) := by decide +kernel
set_option maxRecDepth 100000 in
set_option maxHeartbeats 4000000 in
theorem p_X11_link (l : Launch) (D : va_G) (cA : Nat → ClassId) (ad : Nat → Nat) (g0 : Nat → va_E) (a b c : Int32) (hSh : Shp ad cA g0) (hF : ∀ j, j < NN → g0 j = gF ad cA j) : CT l NN ad cA D yX11_link cX11_link 4 (some FieldType.boolean) (1, 21) [.ref (ad 0), .int a, .int b, .int c] g0 (fun v g' => ∃ r : Int32, v = some (.int r) ∧ Shp ad cA g' ∧ FR (fun i _ => i < 129) g0 g' ∧ (r.toInt = 0)) := by
  refine q_enterZ (by decide) (Nat.le_of_ble_eq_true rfl) (fun K H locs ls _ _ hM hW0 hR hC hE hl => ?_)
  have hl : lv_has ls 4 [(0, .ref (ad 0)), (1, .int a), (2, .int b), (3, .int c)] := hl
  have hW : WS ad cA (fun i k => False) g0 K g0 H locs := ⟨hW0, hSh, FR.rf⟩
  refine q_aload_n hM dX11_link_0 (lv_at hl 0 rfl) ?_
  refine w_get (v := .ref (ad 3)) hM hW FG_X11_19 lb_0 (rf_0_1 hW.2.1) dX11_link_1 ?_
  refine w_get (v := .int (0 : Int32)) hM hW FG_X11_116 lb_3 ((hW.2.2.1 3 2 (fun h => h)).trans (zf hF (by decide) rfl : fld g0 3 2 = .int (0 : Int32))) dX11_link_4 ?_
  refine q_iload_n hM dX11_link_7 (lv_at hl 1 rfl) ?_
  refine q_callS (As := [.int (0 : Int32), .int a]) (rest := []) hM hW.1 hR hC myX11_has (kAW (v_1_10 (List.mem_of_getElem? (i := 8) rfl)) rfl) (c_X11_has _ _ cA ad g0 (0 : Int32) a hW.2.1) ⟨by decide, by decide⟩ rfl rfl hl.1 (Nat.le_of_ble_eq_true rfl) dX11_link_8 (fun v g206 H locs hp hW1 => ?_)
  obtain ⟨r205, rfl, hr205, rfl⟩ := hp
  have hW : WS ad cA (fun i k => False) g0 K g0 H locs := ⟨hW1, hW.2.1, hW.2.2⟩
  have kr205 : r205.toInt = 0 := has_r0 hr205
  refine q_if_eq (tgt := 43) hM dX11_link_11 (by decide) (kr205 : r205.toInt = 0) (fun h11 => ?_) (fun h11 => ?_)
  · refine q_iconst (v := (0 : Int32)) hM dX11_link_43 (by decide) ?_
    exact hE _ _ _ _ _ _ hW.1 nz_0 ⟨_, rfl, hW.2.1, FR.wk hW.2.2 (fun _ _ h => h.elim), (by have := kc_0; omega)⟩ dX11_link_44
  · omega

theorem dX11_knows_0 : decode cX11_knows 0 = .ok (.aload_n 0, 1) := by decide +kernel
theorem dX11_knows_1 : decode cX11_knows 1 = .ok (.getfield 26, 3) := by decide +kernel
theorem dX11_knows_4 : decode cX11_knows 4 = .ok (.getfield 135, 3) := by decide +kernel
theorem dX11_knows_7 : decode cX11_knows 7 = .ok (.iload_n 1, 1) := by decide +kernel
theorem dX11_knows_8 : decode cX11_knows 8 = .ok (.invokestatic 123, 3) := by decide +kernel
theorem dX11_knows_11 : decode cX11_knows 11 = .ok (.ifCond .eq 27, 3) := by decide +kernel
theorem dX11_knows_38 : decode cX11_knows 38 = .ok (.iconst 0, 1) := by decide +kernel
theorem dX11_knows_39 : decode cX11_knows 39 = .ok (.ireturn, 1) := by decide +kernel
set_option maxRecDepth 100000 in
set_option maxHeartbeats 4000000 in
theorem p_X11_knows (l : Launch) (D : va_G) (cA : Nat → ClassId) (ad : Nat → Nat) (g0 : Nat → va_E) (a b c : Int32) (hSh : Shp ad cA g0) (hF : ∀ j, j < NN → g0 j = gF ad cA j) : CT l NN ad cA D yX11_knows cX11_knows 4 (some FieldType.boolean) (1, 21) [.ref (ad 0), .int a, .int b, .int c] g0 (fun v g' => ∃ r : Int32, v = some (.int r) ∧ Shp ad cA g' ∧ FR (fun i _ => i < 129) g0 g' ∧ (r.toInt = 0)) := by
  refine q_enterZ (by decide) (Nat.le_of_ble_eq_true rfl) (fun K H locs ls _ _ hM hW0 hR hC hE hl => ?_)
  have hl : lv_has ls 4 [(0, .ref (ad 0)), (1, .int a), (2, .int b), (3, .int c)] := hl
  have hW : WS ad cA (fun i k => False) g0 K g0 H locs := ⟨hW0, hSh, FR.rf⟩
  refine q_aload_n hM dX11_knows_0 (lv_at hl 0 rfl) ?_
  refine w_get (v := .ref (ad 18)) hM hW FG_X11_26 lb_0 (rf_0_10 hW.2.1) dX11_knows_1 ?_
  refine w_get (v := .int (0 : Int32)) hM hW FG_X11_135 lb_18 ((hW.2.2.1 18 3 (fun h => h)).trans (zf hF (by decide) rfl : fld g0 18 3 = .int (0 : Int32))) dX11_knows_4 ?_
  refine q_iload_n hM dX11_knows_7 (lv_at hl 1 rfl) ?_
  refine q_callS (As := [.int (0 : Int32), .int a]) (rest := []) hM hW.1 hR hC myX11_has (kAW (v_1_10 (List.mem_of_getElem? (i := 8) rfl)) rfl) (c_X11_has _ _ cA ad g0 (0 : Int32) a hW.2.1) ⟨by decide, by decide⟩ rfl rfl hl.1 (Nat.le_of_ble_eq_true rfl) dX11_knows_8 (fun v g208 H locs hp hW1 => ?_)
  obtain ⟨r207, rfl, hr207, rfl⟩ := hp
  have hW : WS ad cA (fun i k => False) g0 K g0 H locs := ⟨hW1, hW.2.1, hW.2.2⟩
  have kr207 : r207.toInt = 0 := has_r0 hr207
  refine q_if_eq (tgt := 38) hM dX11_knows_11 (by decide) (kr207 : r207.toInt = 0) (fun h11 => ?_) (fun h11 => ?_)
  · refine q_iconst (v := (0 : Int32)) hM dX11_knows_38 (by decide) ?_
    exact hE _ _ _ _ _ _ hW.1 nz_0 ⟨_, rfl, hW.2.1, FR.wk hW.2.2 (fun _ _ h => h.elim), (by have := kc_0; omega)⟩ dX11_knows_39
  · omega

theorem dX11_reminds_0 : decode cX11_reminds 0 = .ok (.aload_n 0, 1) := by decide +kernel
theorem dX11_reminds_1 : decode cX11_reminds 1 = .ok (.getfield 26, 3) := by decide +kernel
theorem dX11_reminds_4 : decode cX11_reminds 4 = .ok (.getfield 135, 3) := by decide +kernel
theorem dX11_reminds_7 : decode cX11_reminds 7 = .ok (.iload_n 1, 1) := by decide +kernel
theorem dX11_reminds_8 : decode cX11_reminds 8 = .ok (.invokestatic 123, 3) := by decide +kernel
theorem dX11_reminds_11 : decode cX11_reminds 11 = .ok (.ifCond .eq 32, 3) := by decide +kernel
theorem dX11_reminds_43 : decode cX11_reminds 43 = .ok (.iconst 0, 1) := by decide +kernel
theorem dX11_reminds_44 : decode cX11_reminds 44 = .ok (.ireturn, 1) := by decide +kernel
set_option maxRecDepth 100000 in
set_option maxHeartbeats 4000000 in
theorem p_X11_reminds (l : Launch) (D : va_G) (cA : Nat → ClassId) (ad : Nat → Nat) (g0 : Nat → va_E) (a b c : Int32) (hSh : Shp ad cA g0) (hF : ∀ j, j < NN → g0 j = gF ad cA j) : CT l NN ad cA D yX11_reminds cX11_reminds 4 (some FieldType.boolean) (1, 21) [.ref (ad 0), .int a, .int b, .int c] g0 (fun v g' => ∃ r : Int32, v = some (.int r) ∧ Shp ad cA g' ∧ FR (fun i _ => i < 129) g0 g' ∧ (r.toInt = 0)) := by
  refine q_enterZ (by decide) (Nat.le_of_ble_eq_true rfl) (fun K H locs ls _ _ hM hW0 hR hC hE hl => ?_)
  have hl : lv_has ls 4 [(0, .ref (ad 0)), (1, .int a), (2, .int b), (3, .int c)] := hl
  have hW : WS ad cA (fun i k => False) g0 K g0 H locs := ⟨hW0, hSh, FR.rf⟩
  refine q_aload_n hM dX11_reminds_0 (lv_at hl 0 rfl) ?_
  refine w_get (v := .ref (ad 18)) hM hW FG_X11_26 lb_0 (rf_0_10 hW.2.1) dX11_reminds_1 ?_
  refine w_get (v := .int (0 : Int32)) hM hW FG_X11_135 lb_18 ((hW.2.2.1 18 3 (fun h => h)).trans (zf hF (by decide) rfl : fld g0 18 3 = .int (0 : Int32))) dX11_reminds_4 ?_
  refine q_iload_n hM dX11_reminds_7 (lv_at hl 1 rfl) ?_
  refine q_callS (As := [.int (0 : Int32), .int a]) (rest := []) hM hW.1 hR hC myX11_has (kAW (v_1_10 (List.mem_of_getElem? (i := 8) rfl)) rfl) (c_X11_has _ _ cA ad g0 (0 : Int32) a hW.2.1) ⟨by decide, by decide⟩ rfl rfl hl.1 (Nat.le_of_ble_eq_true rfl) dX11_reminds_8 (fun v g210 H locs hp hW1 => ?_)
  obtain ⟨r209, rfl, hr209, rfl⟩ := hp
  have hW : WS ad cA (fun i k => False) g0 K g0 H locs := ⟨hW1, hW.2.1, hW.2.2⟩
  have kr209 : r209.toInt = 0 := has_r0 hr209
  refine q_if_eq (tgt := 43) hM dX11_reminds_11 (by decide) (kr209 : r209.toInt = 0) (fun h11 => ?_) (fun h11 => ?_)
  · refine q_iconst (v := (0 : Int32)) hM dX11_reminds_43 (by decide) ?_
    exact hE _ _ _ _ _ _ hW.1 nz_0 ⟨_, rfl, hW.2.1, FR.wk hW.2.2 (fun _ _ h => h.elim), (by have := kc_0; omega)⟩ dX11_reminds_44
  · omega

theorem dX11_grade_0 : decode cX11_grade 0 = .ok (.iload_n 1, 1) := by decide +kernel
theorem dX11_grade_1 : decode cX11_grade 1 = .ok (.iconst 1, 1) := by decide +kernel
theorem dX11_grade_2 : decode cX11_grade 2 = .ok (.bipush 9, 2) := by decide +kernel
theorem dX11_grade_4 : decode cX11_grade 4 = .ok (.invokestatic 112, 3) := by decide +kernel
theorem dX11_grade_7 : decode cX11_grade 7 = .ok (.ifCond .eq 12, 3) := by decide +kernel
theorem dX11_grade_10 : decode cX11_grade 10 = .ok (.iload_n 2, 1) := by decide +kernel
theorem dX11_grade_11 : decode cX11_grade 11 = .ok (.iconst (-1), 1) := by decide +kernel
theorem dX11_grade_12 : decode cX11_grade 12 = .ok (.iconst 5, 1) := by decide +kernel
theorem dX11_grade_13 : decode cX11_grade 13 = .ok (.invokestatic 112, 3) := by decide +kernel
theorem dX11_grade_16 : decode cX11_grade 16 = .ok (.ifCond .ne 5, 3) := by decide +kernel
theorem dX11_grade_19 : decode cX11_grade 19 = .ok (.iconst 0, 1) := by decide +kernel
theorem dX11_grade_20 : decode cX11_grade 20 = .ok (.ireturn, 1) := by decide +kernel
theorem dX11_grade_21 : decode cX11_grade 21 = .ok (.aload_n 0, 1) := by decide +kernel
theorem dX11_grade_22 : decode cX11_grade 22 = .ok (.getfield 83, 3) := by decide +kernel
theorem dX11_grade_25 : decode cX11_grade 25 = .ok (.getfield 164, 3) := by decide +kernel
theorem dX11_grade_28 : decode cX11_grade 28 = .ok (.iload_n 1, 1) := by decide +kernel
theorem dX11_grade_29 : decode cX11_grade 29 = .ok (.iload_n 2, 1) := by decide +kernel
theorem dX11_grade_30 : decode cX11_grade 30 = .ok (.iastore, 1) := by decide +kernel
theorem dX11_grade_31 : decode cX11_grade 31 = .ok (.iconst 1, 1) := by decide +kernel
theorem dX11_grade_32 : decode cX11_grade 32 = .ok (.ireturn, 1) := by decide +kernel
theorem FG_X11_164 : FG RX11 164 2 11 2 := ⟨RX2, TX2, rfl, wX2, by decide, kAW (v_0_14 (List.mem_of_getElem? (i := 8) rfl)) rfl, rfl⟩
set_option maxRecDepth 100000 in
set_option maxHeartbeats 4000000 in
theorem p_X11_grade (l : Launch) (D : va_G) (cA : Nat → ClassId) (ad : Nat → Nat) (g0 : Nat → va_E) (a b : Int32) (hSh : Shp ad cA g0) (hF : ∀ j, j < NN → g0 j = gF ad cA j) : CT l NN ad cA D yX11_grade cX11_grade 3 (some FieldType.boolean) (1, 22) [.ref (ad 0), .int a, .int b] g0 (fun v g' => ∃ r : Int32, v = some (.int r) ∧ Shp ad cA g' ∧ FR (fun i _ => i < 129) g0 g' ∧ ((r.toInt = 1 ∧ 1 ≤ a.toInt ∧ a.toInt ≤ 9 ∧ -1 ≤ b.toInt ∧ b.toInt ≤ 5) ∨ (r.toInt = 0 ∧ ¬ (1 ≤ a.toInt ∧ a.toInt ≤ 9 ∧ -1 ≤ b.toInt ∧ b.toInt ≤ 5)))) := by
  refine q_enterZ (by decide) (Nat.le_of_ble_eq_true rfl) (fun K H locs ls _ _ hM hW0 hR hC hE hl => ?_)
  have hl : lv_has ls 3 [(0, .ref (ad 0)), (1, .int a), (2, .int b)] := hl
  have hW : WS ad cA (fun i k => i = 82) g0 K g0 H locs := ⟨hW0, hSh, FR.rf⟩
  have := kc_1
  have := kc_9
  have := kc_m1
  have := kc_5
  have := kc_0
  refine q_iload_n hM dX11_grade_0 (lv_at hl 1 rfl) ?_
  refine q_iconst (v := (1 : Int32)) hM dX11_grade_1 (by decide) ?_
  refine q_bipush (v := (9 : Int32)) hM dX11_grade_2 (by decide) ?_
  refine q_callS (As := [.int a, .int (1 : Int32), .int (9 : Int32)]) (rest := []) hM hW.1 hR hC myX11_within (kAW (v_1_10 (List.mem_of_getElem? (i := 1) rfl)) rfl) (c_X11_within _ _ cA ad g0 a (1 : Int32) (9 : Int32) hW.2.1) ⟨by decide, by decide⟩ rfl rfl hl.1 (Nat.le_of_ble_eq_true rfl) dX11_grade_4 (fun v g212 H locs hp hW1 => ?_)
  obtain ⟨r211, rfl, hr211, rfl⟩ := hp
  have hW : WS ad cA (fun i k => i = 82) g0 K g0 H locs := ⟨hW1, hW.2.1, hW.2.2⟩
  refine q_if_eq (tgt := 19) hM dX11_grade_7 (by decide) (rfl : r211.toInt = r211.toInt) (fun h7 => ?_) (fun h7 => ?_)
  · refine q_iconst (v := (0 : Int32)) hM dX11_grade_19 (by decide) ?_
    exact hE _ _ _ _ _ _ hW.1 nz_0 ⟨_, rfl, hW.2.1, FR.wk hW.2.2 (fun i k h => by omega), (by have := kc_0; omega)⟩ dX11_grade_20
  · refine q_iload_n hM dX11_grade_10 (lv_at hl 2 rfl) ?_
    refine q_iconst (v := ((-1) : Int32)) hM dX11_grade_11 (by decide) ?_
    refine q_iconst (v := (5 : Int32)) hM dX11_grade_12 (by decide) ?_
    refine q_callS (As := [.int b, .int ((-1) : Int32), .int (5 : Int32)]) (rest := []) hM hW.1 hR hC myX11_within (kAW (v_1_10 (List.mem_of_getElem? (i := 1) rfl)) rfl) (c_X11_within _ _ cA ad g0 b ((-1) : Int32) (5 : Int32) hW.2.1) ⟨by decide, by decide⟩ rfl rfl hl.1 (Nat.le_of_ble_eq_true rfl) dX11_grade_13 (fun v g214 H locs hp hW1 => ?_)
    obtain ⟨r213, rfl, hr213, rfl⟩ := hp
    have hW : WS ad cA (fun i k => i = 82) g0 K g0 H locs := ⟨hW1, hW.2.1, hW.2.2⟩
    refine q_if_ne (tgt := 21) hM dX11_grade_16 (by decide) (rfl : r213.toInt = r213.toInt) (fun h16 => ?_) (fun h16 => ?_)
    · refine q_aload_n hM dX11_grade_21 (lv_at hl 0 rfl) ?_
      refine w_get (v := .ref (ad 80)) hM hW FG_X11_83 lb_0 (rf_0_2 hW.2.1) dX11_grade_22 ?_
      refine w_get (v := .ref (ad 82)) hM hW FG_X11_164 lb_80 (rf_80_2 hW.2.1) dX11_grade_25 ?_
      refine q_iload_n hM dX11_grade_28 (lv_at hl 1 rfl) ?_
      refine q_iload_n hM dX11_grade_29 (lv_at hl 2 rfl) ?_
      refine w_iast hM hW lb_82 (by omega) (i_in (by omega) (by omega)) dX11_grade_30 (fun g215 H locs hW e1 e2 => ?_)
      refine q_iconst (v := (1 : Int32)) hM dX11_grade_31 (by decide) ?_
      exact hE _ _ _ _ _ _ hW.1 nz_1 ⟨_, rfl, hW.2.1, FR.wk hW.2.2 (fun i k h => by omega), (by have := kc_1; omega)⟩ dX11_grade_32
    · refine q_iconst (v := (0 : Int32)) hM dX11_grade_19 (by decide) ?_
      exact hE _ _ _ _ _ _ hW.1 nz_0 ⟨_, rfl, hW.2.1, FR.wk hW.2.2 (fun i k h => by omega), (by have := kc_0; omega)⟩ dX11_grade_20

theorem dX11_exam_0 : decode cX11_exam 0 = .ok (.iload_n 1, 1) := by decide +kernel
theorem dX11_exam_1 : decode cX11_exam 1 = .ok (.iconst 0, 1) := by decide +kernel
theorem dX11_exam_2 : decode cX11_exam 2 = .ok (.sipush 4095, 3) := by decide +kernel
theorem dX11_exam_5 : decode cX11_exam 5 = .ok (.invokestatic 112, 3) := by decide +kernel
theorem dX11_exam_8 : decode cX11_exam 8 = .ok (.ifCond .eq 13, 3) := by decide +kernel
theorem dX11_exam_11 : decode cX11_exam 11 = .ok (.iload_n 2, 1) := by decide +kernel
theorem dX11_exam_12 : decode cX11_exam 12 = .ok (.iconst 0, 1) := by decide +kernel
theorem dX11_exam_13 : decode cX11_exam 13 = .ok (.bipush 12, 2) := by decide +kernel
theorem dX11_exam_15 : decode cX11_exam 15 = .ok (.invokestatic 112, 3) := by decide +kernel
theorem dX11_exam_18 : decode cX11_exam 18 = .ok (.ifCond .ne 5, 3) := by decide +kernel
theorem dX11_exam_21 : decode cX11_exam 21 = .ok (.iconst 0, 1) := by decide +kernel
theorem dX11_exam_22 : decode cX11_exam 22 = .ok (.ireturn, 1) := by decide +kernel
theorem dX11_exam_23 : decode cX11_exam 23 = .ok (.aload_n 0, 1) := by decide +kernel
theorem dX11_exam_24 : decode cX11_exam 24 = .ok (.getfield 83, 3) := by decide +kernel
theorem dX11_exam_27 : decode cX11_exam 27 = .ok (.iload_n 1, 1) := by decide +kernel
theorem dX11_exam_28 : decode cX11_exam 28 = .ok (.putfield 167, 3) := by decide +kernel
theorem dX11_exam_31 : decode cX11_exam 31 = .ok (.aload_n 0, 1) := by decide +kernel
theorem dX11_exam_32 : decode cX11_exam 32 = .ok (.getfield 83, 3) := by decide +kernel
theorem dX11_exam_35 : decode cX11_exam 35 = .ok (.iload_n 2, 1) := by decide +kernel
theorem dX11_exam_36 : decode cX11_exam 36 = .ok (.putfield 170, 3) := by decide +kernel
theorem dX11_exam_39 : decode cX11_exam 39 = .ok (.iconst 1, 1) := by decide +kernel
theorem dX11_exam_40 : decode cX11_exam 40 = .ok (.ireturn, 1) := by decide +kernel
theorem FP_X11_167 : FPX RX11 167 2 11 5 .int := ⟨⟨RX2, TX2, tyX2, rfl, wX2, by decide, kAW (v_0_14 (List.mem_of_getElem? (i := 13) rfl)) rfl, rfl, tyX2_ok, nmX2, by decide +kernel, rfl⟩, by decide +kernel⟩
theorem FP_X11_170 : FPX RX11 170 2 11 6 .int := ⟨⟨RX2, TX2, tyX2, rfl, wX2, by decide, kAW (v_0_14 (List.mem_of_getElem? (i := 15) rfl)) rfl, rfl, tyX2_ok, nmX2, by decide +kernel, rfl⟩, by decide +kernel⟩
set_option maxRecDepth 100000 in
set_option maxHeartbeats 4000000 in
theorem p_X11_exam (l : Launch) (D : va_G) (cA : Nat → ClassId) (ad : Nat → Nat) (g0 : Nat → va_E) (a b : Int32) (hSh : Shp ad cA g0) (hF : ∀ j, j < NN → g0 j = gF ad cA j) : CT l NN ad cA D yX11_exam cX11_exam 3 (some FieldType.boolean) (1, 22) [.ref (ad 0), .int a, .int b] g0 (fun v g' => ∃ r : Int32, v = some (.int r) ∧ Shp ad cA g' ∧ FR (fun i _ => i < 129) g0 g' ∧ ((r.toInt = 1 ∧ 0 ≤ a.toInt ∧ a.toInt ≤ 4095 ∧ 0 ≤ b.toInt ∧ b.toInt ≤ 12) ∨ (r.toInt = 0 ∧ ¬ (0 ≤ a.toInt ∧ a.toInt ≤ 4095 ∧ 0 ≤ b.toInt ∧ b.toInt ≤ 12)))) := by
  refine q_enterZ (by decide) (Nat.le_of_ble_eq_true rfl) (fun K H locs ls _ _ hM hW0 hR hC hE hl => ?_)
  have hl : lv_has ls 3 [(0, .ref (ad 0)), (1, .int a), (2, .int b)] := hl
  have hW : WS ad cA (fun i k => (i = 80 ∧ (k = 5 ∨ k = 6))) g0 K g0 H locs := ⟨hW0, hSh, FR.rf⟩
  have := kc_0
  have := kc_4095
  have := kc_12
  have f216 : fld g0 80 5 = .int (0 : Int32) := (zf hF (by decide) rfl : fld g0 80 5 = .int (0 : Int32))
  have f217 : fld g0 80 6 = .int (0 : Int32) := (zf hF (by decide) rfl : fld g0 80 6 = .int (0 : Int32))
  refine q_iload_n hM dX11_exam_0 (lv_at hl 1 rfl) ?_
  refine q_iconst (v := (0 : Int32)) hM dX11_exam_1 (by decide) ?_
  refine q_sipush (v := (4095 : Int32)) hM dX11_exam_2 (by decide) ?_
  refine q_callS (As := [.int a, .int (0 : Int32), .int (4095 : Int32)]) (rest := []) hM hW.1 hR hC myX11_within (kAW (v_1_10 (List.mem_of_getElem? (i := 1) rfl)) rfl) (c_X11_within _ _ cA ad g0 a (0 : Int32) (4095 : Int32) hW.2.1) ⟨by decide, by decide⟩ rfl rfl hl.1 (Nat.le_of_ble_eq_true rfl) dX11_exam_5 (fun v g219 H locs hp hW1 => ?_)
  obtain ⟨r218, rfl, hr218, rfl⟩ := hp
  have hW : WS ad cA (fun i k => (i = 80 ∧ (k = 5 ∨ k = 6))) g0 K g0 H locs := ⟨hW1, hW.2.1, hW.2.2⟩
  refine q_if_eq (tgt := 21) hM dX11_exam_8 (by decide) (rfl : r218.toInt = r218.toInt) (fun h8 => ?_) (fun h8 => ?_)
  · refine q_iconst (v := (0 : Int32)) hM dX11_exam_21 (by decide) ?_
    exact hE _ _ _ _ _ _ hW.1 nz_0 ⟨_, rfl, hW.2.1, FR.wk hW.2.2 (fun i k h => by omega), (by have := kc_0; omega)⟩ dX11_exam_22
  · refine q_iload_n hM dX11_exam_11 (lv_at hl 2 rfl) ?_
    refine q_iconst (v := (0 : Int32)) hM dX11_exam_12 (by decide) ?_
    refine q_bipush (v := (12 : Int32)) hM dX11_exam_13 (by decide) ?_
    refine q_callS (As := [.int b, .int (0 : Int32), .int (12 : Int32)]) (rest := []) hM hW.1 hR hC myX11_within (kAW (v_1_10 (List.mem_of_getElem? (i := 1) rfl)) rfl) (c_X11_within _ _ cA ad g0 b (0 : Int32) (12 : Int32) hW.2.1) ⟨by decide, by decide⟩ rfl rfl hl.1 (Nat.le_of_ble_eq_true rfl) dX11_exam_15 (fun v g221 H locs hp hW1 => ?_)
    obtain ⟨r220, rfl, hr220, rfl⟩ := hp
    have hW : WS ad cA (fun i k => (i = 80 ∧ (k = 5 ∨ k = 6))) g0 K g0 H locs := ⟨hW1, hW.2.1, hW.2.2⟩
    refine q_if_ne (tgt := 23) hM dX11_exam_18 (by decide) (rfl : r220.toInt = r220.toInt) (fun h18 => ?_) (fun h18 => ?_)
    · refine q_aload_n hM dX11_exam_23 (lv_at hl 0 rfl) ?_
      refine w_get (v := .ref (ad 80)) hM hW FG_X11_83 lb_0 (rf_0_2 hW.2.1) dX11_exam_24 ?_
      refine q_iload_n hM dX11_exam_27 (lv_at hl 1 rfl) ?_
      refine w_put hM hW FP_X11_167 lb_80 (by omega) (Or.inl ⟨_, rfl⟩) rfl rfl dX11_exam_28 (fun g222 H locs hW e1 e2 => ?_)
      have f223 : fld g222 80 6 = .int (0 : Int32) := (e2.1 80 6 (by unfold Only; omega)).trans f217
      have f224 : fld g222 80 5 = .int a := e1
      refine q_aload_n hM dX11_exam_31 (lv_at hl 0 rfl) ?_
      refine w_get (v := .ref (ad 80)) hM hW FG_X11_83 lb_0 (rf_0_2 hW.2.1) dX11_exam_32 ?_
      refine q_iload_n hM dX11_exam_35 (lv_at hl 2 rfl) ?_
      refine w_put hM hW FP_X11_170 lb_80 (by omega) (Or.inl ⟨_, rfl⟩) rfl rfl dX11_exam_36 (fun g225 H locs hW e1 e2 => ?_)
      have f226 : fld g225 80 5 = .int a := (e2.1 80 5 (by unfold Only; omega)).trans f224
      have f227 : fld g225 80 6 = .int b := e1
      refine q_iconst (v := (1 : Int32)) hM dX11_exam_39 (by decide) ?_
      exact hE _ _ _ _ _ _ hW.1 nz_1 ⟨_, rfl, hW.2.1, FR.wk hW.2.2 (fun i k h => by omega), (by have := kc_1; omega)⟩ dX11_exam_40
    · refine q_iconst (v := (0 : Int32)) hM dX11_exam_21 (by decide) ?_
      exact hE _ _ _ _ _ _ hW.1 nz_0 ⟨_, rfl, hW.2.1, FR.wk hW.2.2 (fun i k h => by omega), (by have := kc_0; omega)⟩ dX11_exam_22

theorem dX11_art_0 : decode cX11_art 0 = .ok (.iload_n 1, 1) := by decide +kernel
theorem dX11_art_1 : decode cX11_art 1 = .ok (.iconst 0, 1) := by decide +kernel
theorem dX11_art_2 : decode cX11_art 2 = .ok (.iconst 5, 1) := by decide +kernel
theorem dX11_art_3 : decode cX11_art 3 = .ok (.invokestatic 112, 3) := by decide +kernel
theorem dX11_art_6 : decode cX11_art 6 = .ok (.ifCond .eq 24, 3) := by decide +kernel
theorem dX11_art_9 : decode cX11_art 9 = .ok (.iload_n 2, 1) := by decide +kernel
theorem dX11_art_10 : decode cX11_art 10 = .ok (.iconst 1, 1) := by decide +kernel
theorem dX11_art_11 : decode cX11_art 11 = .ok (.bipush 60, 2) := by decide +kernel
theorem dX11_art_13 : decode cX11_art 13 = .ok (.invokestatic 112, 3) := by decide +kernel
theorem dX11_art_16 : decode cX11_art 16 = .ok (.ifCond .eq 14, 3) := by decide +kernel
theorem dX11_art_19 : decode cX11_art 19 = .ok (.iload_n 2, 1) := by decide +kernel
theorem dX11_art_20 : decode cX11_art 20 = .ok (.aload_n 0, 1) := by decide +kernel
theorem dX11_art_21 : decode cX11_art 21 = .ok (.getfield 10, 3) := by decide +kernel
theorem dX11_art_24 : decode cX11_art 24 = .ok (.getfield 139, 3) := by decide +kernel
theorem dX11_art_27 : decode cX11_art 27 = .ok (.if_icmp .le 5, 3) := by decide +kernel
theorem dX11_art_30 : decode cX11_art 30 = .ok (.iconst (-1), 1) := by decide +kernel
theorem dX11_art_31 : decode cX11_art 31 = .ok (.ireturn, 1) := by decide +kernel
theorem FG_X11_10 : FG RX11 10 11 16 0 := ⟨RX11, TX11, rfl, wX11, by decide, kAW (v_1_6 (List.mem_of_getElem? (i := 12) rfl)) rfl, rfl⟩
theorem FG_X11_139 : FG RX11 139 10 2 1 := ⟨RX10, TX10, rfl, wX10, by decide, kAW (v_0_2 (List.mem_of_getElem? (i := 6) rfl)) rfl, rfl⟩
set_option maxRecDepth 100000 in
set_option maxHeartbeats 4000000 in
theorem p_X11_art (l : Launch) (D : va_G) (cA : Nat → ClassId) (ad : Nat → Nat) (g0 : Nat → va_E) (a b : Int32) (hSh : Shp ad cA g0) (hF : ∀ j, j < NN → g0 j = gF ad cA j) : CT l NN ad cA D yX11_art cX11_art 4 (some FieldType.int) (1, 22) [.ref (ad 0), .int a, .int b] g0 (fun v g' => ∃ r : Int32, v = some (.int r) ∧ Shp ad cA g' ∧ FR (fun i _ => i < 129) g0 g' ∧ (r.toInt = -1)) := by
  refine q_enterI (by decide) (Nat.le_of_ble_eq_true rfl) rfl (fun K H locs ls _ _ hM hW0 hR hC hE hl => ?_)
  have hl : lv_has ls 4 [(0, .ref (ad 0)), (1, .int a), (2, .int b)] := hl
  have hW : WS ad cA (fun i k => False) g0 K g0 H locs := ⟨hW0, hSh, FR.rf⟩
  have := kc_0
  have := kc_1
  have := kc_5
  have := kc_60
  refine q_iload_n hM dX11_art_0 (lv_at hl 1 rfl) ?_
  refine q_iconst (v := (0 : Int32)) hM dX11_art_1 (by decide) ?_
  refine q_iconst (v := (5 : Int32)) hM dX11_art_2 (by decide) ?_
  refine q_callS (As := [.int a, .int (0 : Int32), .int (5 : Int32)]) (rest := []) hM hW.1 hR hC myX11_within (kAW (v_1_10 (List.mem_of_getElem? (i := 1) rfl)) rfl) (c_X11_within _ _ cA ad g0 a (0 : Int32) (5 : Int32) hW.2.1) ⟨by decide, by decide⟩ rfl rfl hl.1 (Nat.le_of_ble_eq_true rfl) dX11_art_3 (fun v g229 H locs hp hW1 => ?_)
  obtain ⟨r228, rfl, hr228, rfl⟩ := hp
  have hW : WS ad cA (fun i k => False) g0 K g0 H locs := ⟨hW1, hW.2.1, hW.2.2⟩
  refine q_if_eq (tgt := 30) hM dX11_art_6 (by decide) (rfl : r228.toInt = r228.toInt) (fun h6 => ?_) (fun h6 => ?_)
  · refine q_iconst (v := ((-1) : Int32)) hM dX11_art_30 (by decide) ?_
    exact hE _ _ _ _ _ _ hW.1 ⟨_, rfl, hW.2.1, FR.wk hW.2.2 (fun _ _ h => h.elim), (by have := kc_m1; omega)⟩ dX11_art_31
  · refine q_iload_n hM dX11_art_9 (lv_at hl 2 rfl) ?_
    refine q_iconst (v := (1 : Int32)) hM dX11_art_10 (by decide) ?_
    refine q_bipush (v := (60 : Int32)) hM dX11_art_11 (by decide) ?_
    refine q_callS (As := [.int b, .int (1 : Int32), .int (60 : Int32)]) (rest := []) hM hW.1 hR hC myX11_within (kAW (v_1_10 (List.mem_of_getElem? (i := 1) rfl)) rfl) (c_X11_within _ _ cA ad g0 b (1 : Int32) (60 : Int32) hW.2.1) ⟨by decide, by decide⟩ rfl rfl hl.1 (Nat.le_of_ble_eq_true rfl) dX11_art_13 (fun v g231 H locs hp hW1 => ?_)
    obtain ⟨r230, rfl, hr230, rfl⟩ := hp
    have hW : WS ad cA (fun i k => False) g0 K g0 H locs := ⟨hW1, hW.2.1, hW.2.2⟩
    refine q_if_eq (tgt := 30) hM dX11_art_16 (by decide) (rfl : r230.toInt = r230.toInt) (fun h16 => ?_) (fun h16 => ?_)
    · refine q_iconst (v := ((-1) : Int32)) hM dX11_art_30 (by decide) ?_
      exact hE _ _ _ _ _ _ hW.1 ⟨_, rfl, hW.2.1, FR.wk hW.2.2 (fun _ _ h => h.elim), (by have := kc_m1; omega)⟩ dX11_art_31
    · refine q_iload_n hM dX11_art_19 (lv_at hl 2 rfl) ?_
      refine q_aload_n hM dX11_art_20 (lv_at hl 0 rfl) ?_
      refine w_get (v := .ref (ad 1)) hM hW FG_X11_10 lb_0 (rf_0_0 hW.2.1) dX11_art_21 ?_
      refine w_get (v := .int (0 : Int32)) hM hW FG_X11_139 lb_1 ((hW.2.2.1 1 1 (fun h => h)).trans (zf hF (by decide) rfl : fld g0 1 1 = .int (0 : Int32))) dX11_art_24 ?_
      refine q_icmp_le (tgt := 32) hM dX11_art_27 (by decide) (rfl : b.toInt = b.toInt) (kc_0 : (0 : Int32).toInt = 0) (fun h27 => ?_) (fun h27 => ?_)
      · omega
      · refine q_iconst (v := ((-1) : Int32)) hM dX11_art_30 (by decide) ?_
        exact hE _ _ _ _ _ _ hW.1 ⟨_, rfl, hW.2.1, FR.wk hW.2.2 (fun _ _ h => h.elim), (by have := kc_m1; omega)⟩ dX11_art_31

theorem dX11_law_0 : decode cX11_law 0 = .ok (.iload_n 1, 1) := by decide +kernel
theorem dX11_law_1 : decode cX11_law 1 = .ok (.iconst 1, 1) := by decide +kernel
theorem dX11_law_2 : decode cX11_law 2 = .ok (.sipush 240, 3) := by decide +kernel
theorem dX11_law_5 : decode cX11_law 5 = .ok (.invokestatic 112, 3) := by decide +kernel
theorem dX11_law_8 : decode cX11_law 8 = .ok (.ifCond .eq 14, 3) := by decide +kernel
theorem dX11_law_11 : decode cX11_law 11 = .ok (.iload_n 1, 1) := by decide +kernel
theorem dX11_law_12 : decode cX11_law 12 = .ok (.aload_n 0, 1) := by decide +kernel
theorem dX11_law_13 : decode cX11_law 13 = .ok (.getfield 10, 3) := by decide +kernel
theorem dX11_law_16 : decode cX11_law 16 = .ok (.getfield 139, 3) := by decide +kernel
theorem dX11_law_19 : decode cX11_law 19 = .ok (.if_icmp .le 5, 3) := by decide +kernel
theorem dX11_law_22 : decode cX11_law 22 = .ok (.iconst (-1), 1) := by decide +kernel
theorem dX11_law_23 : decode cX11_law 23 = .ok (.ireturn, 1) := by decide +kernel
set_option maxRecDepth 100000 in
set_option maxHeartbeats 4000000 in
theorem p_X11_law (l : Launch) (D : va_G) (cA : Nat → ClassId) (ad : Nat → Nat) (g0 : Nat → va_E) (a : Int32) (hSh : Shp ad cA g0) (hF : ∀ j, j < NN → g0 j = gF ad cA j) : CT l NN ad cA D yX11_law cX11_law 4 (some FieldType.int) (1, 22) [.ref (ad 0), .int a] g0 (fun v g' => ∃ r : Int32, v = some (.int r) ∧ Shp ad cA g' ∧ FR (fun i _ => i < 129) g0 g' ∧ (r.toInt = -1)) := by
  refine q_enterI (by decide) (Nat.le_of_ble_eq_true rfl) rfl (fun K H locs ls _ _ hM hW0 hR hC hE hl => ?_)
  have hl : lv_has ls 4 [(0, .ref (ad 0)), (1, .int a)] := hl
  have hW : WS ad cA (fun i k => False) g0 K g0 H locs := ⟨hW0, hSh, FR.rf⟩
  have := kc_1
  have := kc_240
  have := kc_0
  refine q_iload_n hM dX11_law_0 (lv_at hl 1 rfl) ?_
  refine q_iconst (v := (1 : Int32)) hM dX11_law_1 (by decide) ?_
  refine q_sipush (v := (240 : Int32)) hM dX11_law_2 (by decide) ?_
  refine q_callS (As := [.int a, .int (1 : Int32), .int (240 : Int32)]) (rest := []) hM hW.1 hR hC myX11_within (kAW (v_1_10 (List.mem_of_getElem? (i := 1) rfl)) rfl) (c_X11_within _ _ cA ad g0 a (1 : Int32) (240 : Int32) hW.2.1) ⟨by decide, by decide⟩ rfl rfl hl.1 (Nat.le_of_ble_eq_true rfl) dX11_law_5 (fun v g233 H locs hp hW1 => ?_)
  obtain ⟨r232, rfl, hr232, rfl⟩ := hp
  have hW : WS ad cA (fun i k => False) g0 K g0 H locs := ⟨hW1, hW.2.1, hW.2.2⟩
  refine q_if_eq (tgt := 22) hM dX11_law_8 (by decide) (rfl : r232.toInt = r232.toInt) (fun h8 => ?_) (fun h8 => ?_)
  · refine q_iconst (v := ((-1) : Int32)) hM dX11_law_22 (by decide) ?_
    exact hE _ _ _ _ _ _ hW.1 ⟨_, rfl, hW.2.1, FR.wk hW.2.2 (fun _ _ h => h.elim), (by have := kc_m1; omega)⟩ dX11_law_23
  · refine q_iload_n hM dX11_law_11 (lv_at hl 1 rfl) ?_
    refine q_aload_n hM dX11_law_12 (lv_at hl 0 rfl) ?_
    refine w_get (v := .ref (ad 1)) hM hW FG_X11_10 lb_0 (rf_0_0 hW.2.1) dX11_law_13 ?_
    refine w_get (v := .int (0 : Int32)) hM hW FG_X11_139 lb_1 ((hW.2.2.1 1 1 (fun h => h)).trans (zf hF (by decide) rfl : fld g0 1 1 = .int (0 : Int32))) dX11_law_16 ?_
    refine q_icmp_le (tgt := 24) hM dX11_law_19 (by decide) (rfl : a.toInt = a.toInt) (kc_0 : (0 : Int32).toInt = 0) (fun h19 => ?_) (fun h19 => ?_)
    · omega
    · refine q_iconst (v := ((-1) : Int32)) hM dX11_law_22 (by decide) ?_
      exact hE _ _ _ _ _ _ hW.1 ⟨_, rfl, hW.2.1, FR.wk hW.2.2 (fun _ _ h => h.elim), (by have := kc_m1; omega)⟩ dX11_law_23

theorem dX11_weeks_0 : decode cX11_weeks 0 = .ok (.iload_n 1, 1) := by decide +kernel
theorem dX11_weeks_1 : decode cX11_weeks 1 = .ok (.iconst 1, 1) := by decide +kernel
theorem dX11_weeks_2 : decode cX11_weeks 2 = .ok (.bipush 60, 2) := by decide +kernel
theorem dX11_weeks_4 : decode cX11_weeks 4 = .ok (.invokestatic 112, 3) := by decide +kernel
theorem dX11_weeks_7 : decode cX11_weeks 7 = .ok (.ifCond .ne 5, 3) := by decide +kernel
theorem dX11_weeks_10 : decode cX11_weeks 10 = .ok (.iconst (-1), 1) := by decide +kernel
theorem dX11_weeks_11 : decode cX11_weeks 11 = .ok (.ireturn, 1) := by decide +kernel
theorem dX11_weeks_12 : decode cX11_weeks 12 = .ok (.aload_n 0, 1) := by decide +kernel
theorem dX11_weeks_13 : decode cX11_weeks 13 = .ok (.getfield 26, 3) := by decide +kernel
theorem dX11_weeks_16 : decode cX11_weeks 16 = .ok (.getfield 173, 3) := by decide +kernel
theorem dX11_weeks_19 : decode cX11_weeks 19 = .ok (.istore_n 2, 1) := by decide +kernel
theorem dX11_weeks_20 : decode cX11_weeks 20 = .ok (.aload_n 0, 1) := by decide +kernel
theorem dX11_weeks_21 : decode cX11_weeks 21 = .ok (.getfield 83, 3) := by decide +kernel
theorem dX11_weeks_24 : decode cX11_weeks 24 = .ok (.aload_n 0, 1) := by decide +kernel
theorem dX11_weeks_25 : decode cX11_weeks 25 = .ok (.getfield 39, 3) := by decide +kernel
theorem dX11_weeks_28 : decode cX11_weeks 28 = .ok (.aload_n 0, 1) := by decide +kernel
theorem dX11_weeks_29 : decode cX11_weeks 29 = .ok (.getfield 26, 3) := by decide +kernel
theorem dX11_weeks_32 : decode cX11_weeks 32 = .ok (.invokevirtual 176, 3) := by decide +kernel
theorem dX11_weeks_35 : decode cX11_weeks 35 = .ok (.aload_n 0, 1) := by decide +kernel
theorem dX11_weeks_36 : decode cX11_weeks 36 = .ok (.getfield 83, 3) := by decide +kernel
theorem dX11_weeks_39 : decode cX11_weeks 39 = .ok (.iload_n 1, 1) := by decide +kernel
theorem dX11_weeks_40 : decode cX11_weeks 40 = .ok (.invokevirtual 180, 3) := by decide +kernel
theorem dX11_weeks_43 : decode cX11_weeks 43 = .ok (.aload_n 0, 1) := by decide +kernel
theorem dX11_weeks_44 : decode cX11_weeks 44 = .ok (.getfield 26, 3) := by decide +kernel
theorem dX11_weeks_47 : decode cX11_weeks 47 = .ok (.getfield 173, 3) := by decide +kernel
theorem dX11_weeks_50 : decode cX11_weeks 50 = .ok (.iload_n 2, 1) := by decide +kernel
theorem dX11_weeks_51 : decode cX11_weeks 51 = .ok (.isub, 1) := by decide +kernel
theorem dX11_weeks_52 : decode cX11_weeks 52 = .ok (.ireturn, 1) := by decide +kernel
theorem FG_X11_39 : FG RX11 39 11 16 13 := ⟨RX11, TX11, rfl, wX11, by decide, kAW (v_1_7 (List.mem_of_getElem? (i := 9) rfl)) rfl, rfl⟩
theorem myX2_go : MI yX2_go cX2_go 4 none 1 := ⟨kAW (v_2_10 (List.mem_of_getElem? (i := 2) rfl)) rfl, kAW (v_0_0 (List.mem_of_getElem? (i := 9) rfl)) rfl, kAW (v_2_10 (List.mem_of_getElem? (i := 0) rfl)) rfl, kAW (v_2_10 (List.mem_of_getElem? (i := 1) rfl)) rfl, by decide, by decide, by decide +kernel⟩
set_option maxRecDepth 100000 in
set_option maxHeartbeats 4000000 in
theorem p_X11_weeks (l : Launch) (D : va_G) (cA : Nat → ClassId) (ad : Nat → Nat) (g0 : Nat → va_E) (a : Int32) (hSh : Shp ad cA g0) (hF : ∀ j, j < NN → g0 j = gF ad cA j) : CT l NN ad cA D yX11_weeks cX11_weeks 3 (some FieldType.int) (2, 44) [.ref (ad 0), .int a] g0 (fun v g' => ∃ r : Int32, v = some (.int r) ∧ Shp ad cA g' ∧ FR (fun i _ => i < 129) g0 g' ∧ (((1 ≤ a.toInt ∧ a.toInt ≤ 60) ∧ r.toInt = 0) ∨ (¬ (1 ≤ a.toInt ∧ a.toInt ≤ 60) ∧ r.toInt = -1))) := by
  refine q_enterI (by decide) (Nat.le_of_ble_eq_true rfl) rfl (fun K H locs ls _ _ hM hW0 hR hC hE hl => ?_)
  have hl : lv_has ls 3 [(0, .ref (ad 0)), (1, .int a)] := hl
  have hW : WS ad cA (fun i k => (i = 18 ∧ (k = 4)) ∨ (i = 80 ∧ (k = 7 ∨ k = 8 ∨ k = 9 ∨ k = 10))) g0 K g0 H locs := ⟨hW0, hSh, FR.rf⟩
  have := kc_0
  have := kc_1
  have := kc_60
  have := kc_m1
  have f234 : fld g0 18 4 = .int (0 : Int32) := (zf hF (by decide) rfl : fld g0 18 4 = .int (0 : Int32))
  have f235 : fld g0 80 7 = .int (0 : Int32) := (zf hF (by decide) rfl : fld g0 80 7 = .int (0 : Int32))
  have f236 : fld g0 80 8 = .int (0 : Int32) := (zf hF (by decide) rfl : fld g0 80 8 = .int (0 : Int32))
  have f237 : fld g0 80 9 = .ref (ad 54) := (zf hF (by decide) rfl : fld g0 80 9 = .ref (ad 54))
  have f238 : fld g0 80 10 = .ref (ad 18) := (zf hF (by decide) rfl : fld g0 80 10 = .ref (ad 18))
  refine q_iload_n hM dX11_weeks_0 (lv_at hl 1 rfl) ?_
  refine q_iconst (v := (1 : Int32)) hM dX11_weeks_1 (by decide) ?_
  refine q_bipush (v := (60 : Int32)) hM dX11_weeks_2 (by decide) ?_
  refine q_callS (As := [.int a, .int (1 : Int32), .int (60 : Int32)]) (rest := []) hM hW.1 hR hC myX11_within (kAW (v_1_10 (List.mem_of_getElem? (i := 1) rfl)) rfl) (c_X11_within _ _ cA ad g0 a (1 : Int32) (60 : Int32) hW.2.1) ⟨by decide, by decide⟩ rfl rfl hl.1 (Nat.le_of_ble_eq_true rfl) dX11_weeks_4 (fun v g240 H locs hp hW1 => ?_)
  obtain ⟨r239, rfl, hr239, rfl⟩ := hp
  have hW : WS ad cA (fun i k => (i = 18 ∧ (k = 4)) ∨ (i = 80 ∧ (k = 7 ∨ k = 8 ∨ k = 9 ∨ k = 10))) g0 K g0 H locs := ⟨hW1, hW.2.1, hW.2.2⟩
  refine q_if_ne (tgt := 12) hM dX11_weeks_7 (by decide) (rfl : r239.toInt = r239.toInt) (fun h7 => ?_) (fun h7 => ?_)
  · refine q_aload_n hM dX11_weeks_12 (lv_at hl 0 rfl) ?_
    refine w_get (v := .ref (ad 18)) hM hW FG_X11_26 lb_0 (rf_0_10 hW.2.1) dX11_weeks_13 ?_
    refine w_get (v := .int (0 : Int32)) hM hW FG_X11_173 lb_18 ((hW.2.2.1 18 5 (by omega)).trans (zf hF (by decide) rfl : fld g0 18 5 = .int (0 : Int32))) dX11_weeks_16 ?_
    refine q_istore_n (lv9 := [(2, .int (0 : Int32)), (0, .ref (ad 0)), (1, .int a)]) hM dX11_weeks_19 hl (by decide) rfl (fun ls hl => ?_)
    refine q_aload_n hM dX11_weeks_20 (lv_at hl 1 rfl) ?_
    refine w_get (v := .ref (ad 80)) hM hW FG_X11_83 lb_0 (rf_0_2 hW.2.1) dX11_weeks_21 ?_
    refine q_aload_n hM dX11_weeks_24 (lv_at hl 1 rfl) ?_
    refine w_get (v := .ref (ad 54)) hM hW FG_X11_39 lb_0 ((hW.2.2.1 0 13 (by omega)).trans (zf hF (by decide) rfl : fld g0 0 13 = .ref (ad 54))) dX11_weeks_25 ?_
    refine q_aload_n hM dX11_weeks_28 (lv_at hl 1 rfl) ?_
    refine w_get (v := .ref (ad 18)) hM hW FG_X11_26 lb_0 (rf_0_10 hW.2.1) dX11_weeks_29 ?_
    refine q_callV (As := [.ref (ad 54), .ref (ad 18)]) (rest := []) hM hW.1 hR hC myX2_begin (kAW (v_2_9 (List.mem_of_getElem? (i := 11) rfl)) rfl) (rfl : vwCl[2]? = some (RX2, TX2, 11)) rfl lb_80.1 (shO hW.2.1 lb_80) (c_X2_begin _ _ cA ad g0 54 18 hW.2.1) ⟨by decide, by decide⟩ rfl rfl hl.1 (Nat.le_of_ble_eq_true rfl) dX11_weeks_32 (fun v g245 H locs hp hW1 => ?_)
    obtain ⟨rfl, hs1, hf1, q241, q242, q243, q244⟩ := hp
    have f246 : fld g245 18 4 = .int (0 : Int32) := (hf1.1 18 4 (by omega)).trans f234
    have hW : WS ad cA (fun i k => (i = 18 ∧ (k = 4)) ∨ (i = 80 ∧ (k = 7 ∨ k = 8 ∨ k = 9 ∨ k = 10))) g0 K g245 H locs := ⟨hW1, hs1, hW.2.2.tr hf1 (fun i k h => by omega)⟩
    refine q_aload_n hM dX11_weeks_35 (lv_at hl 1 rfl) ?_
    refine w_get (v := .ref (ad 80)) hM hW FG_X11_83 lb_0 (rf_0_2 hW.2.1) dX11_weeks_36 ?_
    refine q_iload_n hM dX11_weeks_39 (lv_at hl 2 rfl) ?_
    refine q_callV (As := [.int a]) (rest := []) hM hW.1 hR hC myX2_go (kAW (v_2_9 (List.mem_of_getElem? (i := 15) rfl)) rfl) (rfl : vwCl[2]? = some (RX2, TX2, 11)) rfl lb_80.1 (shO hW.2.1 lb_80) (c_X2_go_18 _ _ cA ad g245 a (0 : Int32) hW.2.1 q244 ((hW.2.2.1 18 3 (by omega)).trans (zf hF (by decide) rfl : fld g0 18 3 = .int (0 : Int32))) f246 (by have := kc_0; omega)) ⟨by decide, by decide⟩ rfl rfl hl.1 (Nat.le_of_ble_eq_true rfl) dX11_weeks_40 (fun v g249 H locs hp hW1 => ?_)
    obtain ⟨v247, rfl, hs1, hf1, q248⟩ := hp
    have f250 : fld g249 80 7 = .int (0 : Int32) := (hf1.1 80 7 (by omega)).trans q241
    have f251 : fld g249 80 8 = .int (0 : Int32) := (hf1.1 80 8 (by omega)).trans q242
    have f252 : fld g249 80 9 = .ref (ad 54) := (hf1.1 80 9 (by omega)).trans q243
    have f253 : fld g249 80 10 = .ref (ad 18) := (hf1.1 80 10 (by omega)).trans q244
    have hW : WS ad cA (fun i k => (i = 18 ∧ (k = 4)) ∨ (i = 80 ∧ (k = 7 ∨ k = 8 ∨ k = 9 ∨ k = 10))) g0 K g249 H locs := ⟨hW1, hs1, hW.2.2.tr hf1 (fun i k h => by omega)⟩
    refine q_aload_n hM dX11_weeks_43 (lv_at hl 1 rfl) ?_
    refine w_get (v := .ref (ad 18)) hM hW FG_X11_26 lb_0 (rf_0_10 hW.2.1) dX11_weeks_44 ?_
    refine w_get (v := .int (0 : Int32)) hM hW FG_X11_173 lb_18 ((hW.2.2.1 18 5 (by omega)).trans (zf hF (by decide) rfl : fld g0 18 5 = .int (0 : Int32))) dX11_weeks_47 ?_
    refine q_iload_n hM dX11_weeks_50 (lv_at hl 0 rfl) ?_
    refine q_isub hM dX11_weeks_51 (fun z254 hz254 => ?_)
    have tz254 := i_subT hz254 (kc_0 : (0 : Int32).toInt = 0) (kc_0 : (0 : Int32).toInt = 0) (by omega) (by omega)
    exact hE _ _ _ _ _ _ hW.1 ⟨_, rfl, hW.2.1, FR.wk hW.2.2 (fun i k h => by omega), (by omega)⟩ dX11_weeks_52
  · refine q_iconst (v := ((-1) : Int32)) hM dX11_weeks_10 (by decide) ?_
    exact hE _ _ _ _ _ _ hW.1 ⟨_, rfl, hW.2.1, FR.wk hW.2.2 (fun i k h => by omega), (by have := kc_m1; omega)⟩ dX11_weeks_11

theorem dX11_does_0 : decode cX11_does 0 = .ok (.aload_n 0, 1) := by decide +kernel
theorem dX11_does_1 : decode cX11_does 1 = .ok (.getfield 26, 3) := by decide +kernel
theorem dX11_does_4 : decode cX11_does 4 = .ok (.getfield 135, 3) := by decide +kernel
theorem dX11_does_7 : decode cX11_does 7 = .ok (.iload_n 1, 1) := by decide +kernel
theorem dX11_does_8 : decode cX11_does 8 = .ok (.invokestatic 123, 3) := by decide +kernel
theorem dX11_does_11 : decode cX11_does 11 = .ok (.ifCond .eq 17, 3) := by decide +kernel
theorem dX11_does_28 : decode cX11_does 28 = .ok (.iconst (-1), 1) := by decide +kernel
theorem dX11_does_29 : decode cX11_does 29 = .ok (.ireturn, 1) := by decide +kernel
set_option maxRecDepth 100000 in
set_option maxHeartbeats 4000000 in
theorem p_X11_does (l : Launch) (D : va_G) (cA : Nat → ClassId) (ad : Nat → Nat) (g0 : Nat → va_E) (a b : Int32) (hSh : Shp ad cA g0) (hF : ∀ j, j < NN → g0 j = gF ad cA j) : CT l NN ad cA D yX11_does cX11_does 3 (some FieldType.int) (1, 21) [.ref (ad 0), .int a, .int b] g0 (fun v g' => ∃ r : Int32, v = some (.int r) ∧ Shp ad cA g' ∧ FR (fun i _ => i < 129) g0 g' ∧ (r.toInt = -1)) := by
  refine q_enterI (by decide) (Nat.le_of_ble_eq_true rfl) rfl (fun K H locs ls _ _ hM hW0 hR hC hE hl => ?_)
  have hl : lv_has ls 3 [(0, .ref (ad 0)), (1, .int a), (2, .int b)] := hl
  have hW : WS ad cA (fun i k => False) g0 K g0 H locs := ⟨hW0, hSh, FR.rf⟩
  have := kc_1
  have := kc_60
  refine q_aload_n hM dX11_does_0 (lv_at hl 0 rfl) ?_
  refine w_get (v := .ref (ad 18)) hM hW FG_X11_26 lb_0 (rf_0_10 hW.2.1) dX11_does_1 ?_
  refine w_get (v := .int (0 : Int32)) hM hW FG_X11_135 lb_18 ((hW.2.2.1 18 3 (fun h => h)).trans (zf hF (by decide) rfl : fld g0 18 3 = .int (0 : Int32))) dX11_does_4 ?_
  refine q_iload_n hM dX11_does_7 (lv_at hl 1 rfl) ?_
  refine q_callS (As := [.int (0 : Int32), .int a]) (rest := []) hM hW.1 hR hC myX11_has (kAW (v_1_10 (List.mem_of_getElem? (i := 8) rfl)) rfl) (c_X11_has _ _ cA ad g0 (0 : Int32) a hW.2.1) ⟨by decide, by decide⟩ rfl rfl hl.1 (Nat.le_of_ble_eq_true rfl) dX11_does_8 (fun v g256 H locs hp hW1 => ?_)
  obtain ⟨r255, rfl, hr255, rfl⟩ := hp
  have hW : WS ad cA (fun i k => False) g0 K g0 H locs := ⟨hW1, hW.2.1, hW.2.2⟩
  have kr255 : r255.toInt = 0 := has_r0 hr255
  refine q_if_eq (tgt := 28) hM dX11_does_11 (by decide) (kr255 : r255.toInt = 0) (fun h11 => ?_) (fun h11 => ?_)
  · refine q_iconst (v := ((-1) : Int32)) hM dX11_does_28 (by decide) ?_
    exact hE _ _ _ _ _ _ hW.1 ⟨_, rfl, hW.2.1, FR.wk hW.2.2 (fun _ _ h => h.elim), (by have := kc_m1; omega)⟩ dX11_does_29
  · omega

theorem dX11_pupilIs_0 : decode cX11_pupilIs 0 = .ok (.aload_n 0, 1) := by decide +kernel
theorem dX11_pupilIs_1 : decode cX11_pupilIs 1 = .ok (.getfield 26, 3) := by decide +kernel
theorem dX11_pupilIs_4 : decode cX11_pupilIs 4 = .ok (.getfield 135, 3) := by decide +kernel
theorem dX11_pupilIs_7 : decode cX11_pupilIs 7 = .ok (.iload_n 1, 1) := by decide +kernel
theorem dX11_pupilIs_8 : decode cX11_pupilIs 8 = .ok (.invokestatic 123, 3) := by decide +kernel
theorem dX11_pupilIs_11 : decode cX11_pupilIs 11 = .ok (.ifCond .ne 5, 3) := by decide +kernel
theorem dX11_pupilIs_14 : decode cX11_pupilIs 14 = .ok (.iconst (-1), 1) := by decide +kernel
theorem dX11_pupilIs_15 : decode cX11_pupilIs 15 = .ok (.ireturn, 1) := by decide +kernel
set_option maxRecDepth 100000 in
set_option maxHeartbeats 4000000 in
theorem p_X11_pupilIs (l : Launch) (D : va_G) (cA : Nat → ClassId) (ad : Nat → Nat) (g0 : Nat → va_E) (a b : Int32) (hSh : Shp ad cA g0) (hF : ∀ j, j < NN → g0 j = gF ad cA j) : CT l NN ad cA D yX11_pupilIs cX11_pupilIs 3 (some FieldType.int) (1, 21) [.ref (ad 0), .int a, .int b] g0 (fun v g' => ∃ r : Int32, v = some (.int r) ∧ Shp ad cA g' ∧ FR (fun i _ => i < 129) g0 g' ∧ (r.toInt = -1)) := by
  refine q_enterI (by decide) (Nat.le_of_ble_eq_true rfl) rfl (fun K H locs ls _ _ hM hW0 hR hC hE hl => ?_)
  have hl : lv_has ls 3 [(0, .ref (ad 0)), (1, .int a), (2, .int b)] := hl
  have hW : WS ad cA (fun i k => False) g0 K g0 H locs := ⟨hW0, hSh, FR.rf⟩
  have := kc_1
  have := kc_60
  refine q_aload_n hM dX11_pupilIs_0 (lv_at hl 0 rfl) ?_
  refine w_get (v := .ref (ad 18)) hM hW FG_X11_26 lb_0 (rf_0_10 hW.2.1) dX11_pupilIs_1 ?_
  refine w_get (v := .int (0 : Int32)) hM hW FG_X11_135 lb_18 ((hW.2.2.1 18 3 (fun h => h)).trans (zf hF (by decide) rfl : fld g0 18 3 = .int (0 : Int32))) dX11_pupilIs_4 ?_
  refine q_iload_n hM dX11_pupilIs_7 (lv_at hl 1 rfl) ?_
  refine q_callS (As := [.int (0 : Int32), .int a]) (rest := []) hM hW.1 hR hC myX11_has (kAW (v_1_10 (List.mem_of_getElem? (i := 8) rfl)) rfl) (c_X11_has _ _ cA ad g0 (0 : Int32) a hW.2.1) ⟨by decide, by decide⟩ rfl rfl hl.1 (Nat.le_of_ble_eq_true rfl) dX11_pupilIs_8 (fun v g258 H locs hp hW1 => ?_)
  obtain ⟨r257, rfl, hr257, rfl⟩ := hp
  have hW : WS ad cA (fun i k => False) g0 K g0 H locs := ⟨hW1, hW.2.1, hW.2.2⟩
  have kr257 : r257.toInt = 0 := has_r0 hr257
  refine q_if_ne (tgt := 16) hM dX11_pupilIs_11 (by decide) (kr257 : r257.toInt = 0) (fun h11 => ?_) (fun h11 => ?_)
  · omega
  · refine q_iconst (v := ((-1) : Int32)) hM dX11_pupilIs_14 (by decide) ?_
    exact hE _ _ _ _ _ _ hW.1 ⟨_, rfl, hW.2.1, FR.wk hW.2.2 (fun _ _ h => h.elim), (by have := kc_m1; omega)⟩ dX11_pupilIs_15

theorem dX11_strength_0 : decode cX11_strength 0 = .ok (.aload_n 0, 1) := by decide +kernel
theorem dX11_strength_1 : decode cX11_strength 1 = .ok (.getfield 26, 3) := by decide +kernel
theorem dX11_strength_4 : decode cX11_strength 4 = .ok (.getfield 135, 3) := by decide +kernel
theorem dX11_strength_7 : decode cX11_strength 7 = .ok (.iload_n 1, 1) := by decide +kernel
theorem dX11_strength_8 : decode cX11_strength 8 = .ok (.invokestatic 123, 3) := by decide +kernel
theorem dX11_strength_11 : decode cX11_strength 11 = .ok (.ifCond .eq 31, 3) := by decide +kernel
theorem dX11_strength_42 : decode cX11_strength 42 = .ok (.iconst (-1), 1) := by decide +kernel
theorem dX11_strength_43 : decode cX11_strength 43 = .ok (.ireturn, 1) := by decide +kernel
set_option maxRecDepth 100000 in
set_option maxHeartbeats 4000000 in
theorem p_X11_strength (l : Launch) (D : va_G) (cA : Nat → ClassId) (ad : Nat → Nat) (g0 : Nat → va_E) (a b : Int32) (hSh : Shp ad cA g0) (hF : ∀ j, j < NN → g0 j = gF ad cA j) : CT l NN ad cA D yX11_strength cX11_strength 3 (some FieldType.int) (1, 21) [.ref (ad 0), .int a, .int b] g0 (fun v g' => ∃ r : Int32, v = some (.int r) ∧ Shp ad cA g' ∧ FR (fun i _ => i < 129) g0 g' ∧ (r.toInt = -1)) := by
  refine q_enterI (by decide) (Nat.le_of_ble_eq_true rfl) rfl (fun K H locs ls _ _ hM hW0 hR hC hE hl => ?_)
  have hl : lv_has ls 3 [(0, .ref (ad 0)), (1, .int a), (2, .int b)] := hl
  have hW : WS ad cA (fun i k => False) g0 K g0 H locs := ⟨hW0, hSh, FR.rf⟩
  have := kc_1
  have := kc_60
  refine q_aload_n hM dX11_strength_0 (lv_at hl 0 rfl) ?_
  refine w_get (v := .ref (ad 18)) hM hW FG_X11_26 lb_0 (rf_0_10 hW.2.1) dX11_strength_1 ?_
  refine w_get (v := .int (0 : Int32)) hM hW FG_X11_135 lb_18 ((hW.2.2.1 18 3 (fun h => h)).trans (zf hF (by decide) rfl : fld g0 18 3 = .int (0 : Int32))) dX11_strength_4 ?_
  refine q_iload_n hM dX11_strength_7 (lv_at hl 1 rfl) ?_
  refine q_callS (As := [.int (0 : Int32), .int a]) (rest := []) hM hW.1 hR hC myX11_has (kAW (v_1_10 (List.mem_of_getElem? (i := 8) rfl)) rfl) (c_X11_has _ _ cA ad g0 (0 : Int32) a hW.2.1) ⟨by decide, by decide⟩ rfl rfl hl.1 (Nat.le_of_ble_eq_true rfl) dX11_strength_8 (fun v g260 H locs hp hW1 => ?_)
  obtain ⟨r259, rfl, hr259, rfl⟩ := hp
  have hW : WS ad cA (fun i k => False) g0 K g0 H locs := ⟨hW1, hW.2.1, hW.2.2⟩
  have kr259 : r259.toInt = 0 := has_r0 hr259
  refine q_if_eq (tgt := 42) hM dX11_strength_11 (by decide) (kr259 : r259.toInt = 0) (fun h11 => ?_) (fun h11 => ?_)
  · refine q_iconst (v := ((-1) : Int32)) hM dX11_strength_42 (by decide) ?_
    exact hE _ _ _ _ _ _ hW.1 ⟨_, rfl, hW.2.1, FR.wk hW.2.2 (fun _ _ h => h.elim), (by have := kc_m1; omega)⟩ dX11_strength_43
  · omega

theorem dX11_heard_0 : decode cX11_heard 0 = .ok (.aload_n 0, 1) := by decide +kernel
theorem dX11_heard_1 : decode cX11_heard 1 = .ok (.getfield 26, 3) := by decide +kernel
theorem dX11_heard_4 : decode cX11_heard 4 = .ok (.getfield 135, 3) := by decide +kernel
theorem dX11_heard_7 : decode cX11_heard 7 = .ok (.iload_n 1, 1) := by decide +kernel
theorem dX11_heard_8 : decode cX11_heard 8 = .ok (.invokestatic 123, 3) := by decide +kernel
theorem dX11_heard_11 : decode cX11_heard 11 = .ok (.ifCond .eq 37, 3) := by decide +kernel
theorem dX11_heard_48 : decode cX11_heard 48 = .ok (.iconst (-1), 1) := by decide +kernel
theorem dX11_heard_49 : decode cX11_heard 49 = .ok (.ireturn, 1) := by decide +kernel
set_option maxRecDepth 100000 in
set_option maxHeartbeats 4000000 in
theorem p_X11_heard (l : Launch) (D : va_G) (cA : Nat → ClassId) (ad : Nat → Nat) (g0 : Nat → va_E) (a b : Int32) (hSh : Shp ad cA g0) (hF : ∀ j, j < NN → g0 j = gF ad cA j) : CT l NN ad cA D yX11_heard cX11_heard 3 (some FieldType.int) (1, 21) [.ref (ad 0), .int a, .int b] g0 (fun v g' => ∃ r : Int32, v = some (.int r) ∧ Shp ad cA g' ∧ FR (fun i _ => i < 129) g0 g' ∧ (r.toInt = -1)) := by
  refine q_enterI (by decide) (Nat.le_of_ble_eq_true rfl) rfl (fun K H locs ls _ _ hM hW0 hR hC hE hl => ?_)
  have hl : lv_has ls 3 [(0, .ref (ad 0)), (1, .int a), (2, .int b)] := hl
  have hW : WS ad cA (fun i k => False) g0 K g0 H locs := ⟨hW0, hSh, FR.rf⟩
  have := kc_1
  have := kc_60
  refine q_aload_n hM dX11_heard_0 (lv_at hl 0 rfl) ?_
  refine w_get (v := .ref (ad 18)) hM hW FG_X11_26 lb_0 (rf_0_10 hW.2.1) dX11_heard_1 ?_
  refine w_get (v := .int (0 : Int32)) hM hW FG_X11_135 lb_18 ((hW.2.2.1 18 3 (fun h => h)).trans (zf hF (by decide) rfl : fld g0 18 3 = .int (0 : Int32))) dX11_heard_4 ?_
  refine q_iload_n hM dX11_heard_7 (lv_at hl 1 rfl) ?_
  refine q_callS (As := [.int (0 : Int32), .int a]) (rest := []) hM hW.1 hR hC myX11_has (kAW (v_1_10 (List.mem_of_getElem? (i := 8) rfl)) rfl) (c_X11_has _ _ cA ad g0 (0 : Int32) a hW.2.1) ⟨by decide, by decide⟩ rfl rfl hl.1 (Nat.le_of_ble_eq_true rfl) dX11_heard_8 (fun v g262 H locs hp hW1 => ?_)
  obtain ⟨r261, rfl, hr261, rfl⟩ := hp
  have hW : WS ad cA (fun i k => False) g0 K g0 H locs := ⟨hW1, hW.2.1, hW.2.2⟩
  have kr261 : r261.toInt = 0 := has_r0 hr261
  refine q_if_eq (tgt := 48) hM dX11_heard_11 (by decide) (kr261 : r261.toInt = 0) (fun h11 => ?_) (fun h11 => ?_)
  · refine q_iconst (v := ((-1) : Int32)) hM dX11_heard_48 (by decide) ?_
    exact hE _ _ _ _ _ _ hW.1 ⟨_, rfl, hW.2.1, FR.wk hW.2.2 (fun _ _ h => h.elim), (by have := kc_m1; omega)⟩ dX11_heard_49
  · omega

theorem dX11_order_0 : decode cX11_order 0 = .ok (.aload_n 0, 1) := by decide +kernel
theorem dX11_order_1 : decode cX11_order 1 = .ok (.getfield 26, 3) := by decide +kernel
theorem dX11_order_4 : decode cX11_order 4 = .ok (.getfield 135, 3) := by decide +kernel
theorem dX11_order_7 : decode cX11_order 7 = .ok (.iload_n 1, 1) := by decide +kernel
theorem dX11_order_8 : decode cX11_order 8 = .ok (.invokestatic 123, 3) := by decide +kernel
theorem dX11_order_11 : decode cX11_order 11 = .ok (.ifCond .eq 65, 3) := by decide +kernel
theorem dX11_order_76 : decode cX11_order 76 = .ok (.iconst (-1), 1) := by decide +kernel
theorem dX11_order_77 : decode cX11_order 77 = .ok (.ireturn, 1) := by decide +kernel
set_option maxRecDepth 100000 in
set_option maxHeartbeats 4000000 in
theorem p_X11_order (l : Launch) (D : va_G) (cA : Nat → ClassId) (ad : Nat → Nat) (g0 : Nat → va_E) (a b c d e : Int32) (hSh : Shp ad cA g0) (hF : ∀ j, j < NN → g0 j = gF ad cA j) : CT l NN ad cA D yX11_order cX11_order 7 (some FieldType.int) (1, 21) [.ref (ad 0), .int a, .int b, .int c, .int d, .int e] g0 (fun v g' => ∃ r : Int32, v = some (.int r) ∧ Shp ad cA g' ∧ FR (fun i _ => i < 129) g0 g' ∧ (r.toInt = -1)) := by
  refine q_enterI (by decide) (Nat.le_of_ble_eq_true rfl) rfl (fun K H locs ls _ _ hM hW0 hR hC hE hl => ?_)
  have hl : lv_has ls 7 [(0, .ref (ad 0)), (1, .int a), (2, .int b), (3, .int c), (4, .int d), (5, .int e)] := hl
  have hW : WS ad cA (fun i k => False) g0 K g0 H locs := ⟨hW0, hSh, FR.rf⟩
  have := kc_1
  have := kc_60
  refine q_aload_n hM dX11_order_0 (lv_at hl 0 rfl) ?_
  refine w_get (v := .ref (ad 18)) hM hW FG_X11_26 lb_0 (rf_0_10 hW.2.1) dX11_order_1 ?_
  refine w_get (v := .int (0 : Int32)) hM hW FG_X11_135 lb_18 ((hW.2.2.1 18 3 (fun h => h)).trans (zf hF (by decide) rfl : fld g0 18 3 = .int (0 : Int32))) dX11_order_4 ?_
  refine q_iload_n hM dX11_order_7 (lv_at hl 1 rfl) ?_
  refine q_callS (As := [.int (0 : Int32), .int a]) (rest := []) hM hW.1 hR hC myX11_has (kAW (v_1_10 (List.mem_of_getElem? (i := 8) rfl)) rfl) (c_X11_has _ _ cA ad g0 (0 : Int32) a hW.2.1) ⟨by decide, by decide⟩ rfl rfl hl.1 (Nat.le_of_ble_eq_true rfl) dX11_order_8 (fun v g264 H locs hp hW1 => ?_)
  obtain ⟨r263, rfl, hr263, rfl⟩ := hp
  have hW : WS ad cA (fun i k => False) g0 K g0 H locs := ⟨hW1, hW.2.1, hW.2.2⟩
  have kr263 : r263.toInt = 0 := has_r0 hr263
  refine q_if_eq (tgt := 76) hM dX11_order_11 (by decide) (kr263 : r263.toInt = 0) (fun h11 => ?_) (fun h11 => ?_)
  · refine q_iconst (v := ((-1) : Int32)) hM dX11_order_76 (by decide) ?_
    exact hE _ _ _ _ _ _ hW.1 ⟨_, rfl, hW.2.1, FR.wk hW.2.2 (fun _ _ h => h.elim), (by have := kc_m1; omega)⟩ dX11_order_77
  · omega

theorem dX11_still_0 : decode cX11_still 0 = .ok (.aload_n 0, 1) := by decide +kernel
theorem dX11_still_1 : decode cX11_still 1 = .ok (.getfield 26, 3) := by decide +kernel
theorem dX11_still_4 : decode cX11_still 4 = .ok (.getfield 135, 3) := by decide +kernel
theorem dX11_still_7 : decode cX11_still 7 = .ok (.iload_n 1, 1) := by decide +kernel
theorem dX11_still_8 : decode cX11_still 8 = .ok (.invokestatic 123, 3) := by decide +kernel
theorem dX11_still_11 : decode cX11_still 11 = .ok (.ifCond .eq 26, 3) := by decide +kernel
theorem dX11_still_37 : decode cX11_still 37 = .ok (.iconst (-1), 1) := by decide +kernel
theorem dX11_still_38 : decode cX11_still 38 = .ok (.ireturn, 1) := by decide +kernel
set_option maxRecDepth 100000 in
set_option maxHeartbeats 4000000 in
theorem p_X11_still (l : Launch) (D : va_G) (cA : Nat → ClassId) (ad : Nat → Nat) (g0 : Nat → va_E) (a b c : Int32) (hSh : Shp ad cA g0) (hF : ∀ j, j < NN → g0 j = gF ad cA j) : CT l NN ad cA D yX11_still cX11_still 5 (some FieldType.int) (1, 21) [.ref (ad 0), .int a, .int b, .int c] g0 (fun v g' => ∃ r : Int32, v = some (.int r) ∧ Shp ad cA g' ∧ FR (fun i _ => i < 129) g0 g' ∧ (r.toInt = -1)) := by
  refine q_enterI (by decide) (Nat.le_of_ble_eq_true rfl) rfl (fun K H locs ls _ _ hM hW0 hR hC hE hl => ?_)
  have hl : lv_has ls 5 [(0, .ref (ad 0)), (1, .int a), (2, .int b), (3, .int c)] := hl
  have hW : WS ad cA (fun i k => False) g0 K g0 H locs := ⟨hW0, hSh, FR.rf⟩
  have := kc_1
  have := kc_60
  refine q_aload_n hM dX11_still_0 (lv_at hl 0 rfl) ?_
  refine w_get (v := .ref (ad 18)) hM hW FG_X11_26 lb_0 (rf_0_10 hW.2.1) dX11_still_1 ?_
  refine w_get (v := .int (0 : Int32)) hM hW FG_X11_135 lb_18 ((hW.2.2.1 18 3 (fun h => h)).trans (zf hF (by decide) rfl : fld g0 18 3 = .int (0 : Int32))) dX11_still_4 ?_
  refine q_iload_n hM dX11_still_7 (lv_at hl 1 rfl) ?_
  refine q_callS (As := [.int (0 : Int32), .int a]) (rest := []) hM hW.1 hR hC myX11_has (kAW (v_1_10 (List.mem_of_getElem? (i := 8) rfl)) rfl) (c_X11_has _ _ cA ad g0 (0 : Int32) a hW.2.1) ⟨by decide, by decide⟩ rfl rfl hl.1 (Nat.le_of_ble_eq_true rfl) dX11_still_8 (fun v g266 H locs hp hW1 => ?_)
  obtain ⟨r265, rfl, hr265, rfl⟩ := hp
  have hW : WS ad cA (fun i k => False) g0 K g0 H locs := ⟨hW1, hW.2.1, hW.2.2⟩
  have kr265 : r265.toInt = 0 := has_r0 hr265
  refine q_if_eq (tgt := 37) hM dX11_still_11 (by decide) (kr265 : r265.toInt = 0) (fun h11 => ?_) (fun h11 => ?_)
  · refine q_iconst (v := ((-1) : Int32)) hM dX11_still_37 (by decide) ?_
    exact hE _ _ _ _ _ _ hW.1 ⟨_, rfl, hW.2.1, FR.wk hW.2.2 (fun _ _ h => h.elim), (by have := kc_m1; omega)⟩ dX11_still_38
  · omega

theorem dX11_cut_0 : decode cX11_cut 0 = .ok (.aload_n 0, 1) := by decide +kernel
theorem dX11_cut_1 : decode cX11_cut 1 = .ok (.getfield 19, 3) := by decide +kernel
theorem dX11_cut_4 : decode cX11_cut 4 = .ok (.getfield 116, 3) := by decide +kernel
theorem dX11_cut_7 : decode cX11_cut 7 = .ok (.iload_n 1, 1) := by decide +kernel
theorem dX11_cut_8 : decode cX11_cut 8 = .ok (.invokestatic 123, 3) := by decide +kernel
theorem dX11_cut_11 : decode cX11_cut 11 = .ok (.ifCond .eq 31, 3) := by decide +kernel
theorem dX11_cut_42 : decode cX11_cut 42 = .ok (.iconst (-1), 1) := by decide +kernel
theorem dX11_cut_43 : decode cX11_cut 43 = .ok (.ireturn, 1) := by decide +kernel
set_option maxRecDepth 100000 in
set_option maxHeartbeats 4000000 in
theorem p_X11_cut (l : Launch) (D : va_G) (cA : Nat → ClassId) (ad : Nat → Nat) (g0 : Nat → va_E) (a b c : Int32) (hSh : Shp ad cA g0) (hF : ∀ j, j < NN → g0 j = gF ad cA j) : CT l NN ad cA D yX11_cut cX11_cut 5 (some FieldType.int) (1, 21) [.ref (ad 0), .int a, .int b, .int c] g0 (fun v g' => ∃ r : Int32, v = some (.int r) ∧ Shp ad cA g' ∧ FR (fun i _ => i < 129) g0 g' ∧ (r.toInt = -1)) := by
  refine q_enterI (by decide) (Nat.le_of_ble_eq_true rfl) rfl (fun K H locs ls _ _ hM hW0 hR hC hE hl => ?_)
  have hl : lv_has ls 5 [(0, .ref (ad 0)), (1, .int a), (2, .int b), (3, .int c)] := hl
  have hW : WS ad cA (fun i k => False) g0 K g0 H locs := ⟨hW0, hSh, FR.rf⟩
  have := kc_1
  have := kc_60
  refine q_aload_n hM dX11_cut_0 (lv_at hl 0 rfl) ?_
  refine w_get (v := .ref (ad 3)) hM hW FG_X11_19 lb_0 (rf_0_1 hW.2.1) dX11_cut_1 ?_
  refine w_get (v := .int (0 : Int32)) hM hW FG_X11_116 lb_3 ((hW.2.2.1 3 2 (fun h => h)).trans (zf hF (by decide) rfl : fld g0 3 2 = .int (0 : Int32))) dX11_cut_4 ?_
  refine q_iload_n hM dX11_cut_7 (lv_at hl 1 rfl) ?_
  refine q_callS (As := [.int (0 : Int32), .int a]) (rest := []) hM hW.1 hR hC myX11_has (kAW (v_1_10 (List.mem_of_getElem? (i := 8) rfl)) rfl) (c_X11_has _ _ cA ad g0 (0 : Int32) a hW.2.1) ⟨by decide, by decide⟩ rfl rfl hl.1 (Nat.le_of_ble_eq_true rfl) dX11_cut_8 (fun v g268 H locs hp hW1 => ?_)
  obtain ⟨r267, rfl, hr267, rfl⟩ := hp
  have hW : WS ad cA (fun i k => False) g0 K g0 H locs := ⟨hW1, hW.2.1, hW.2.2⟩
  have kr267 : r267.toInt = 0 := has_r0 hr267
  refine q_if_eq (tgt := 42) hM dX11_cut_11 (by decide) (kr267 : r267.toInt = 0) (fun h11 => ?_) (fun h11 => ?_)
  · refine q_iconst (v := ((-1) : Int32)) hM dX11_cut_42 (by decide) ?_
    exact hE _ _ _ _ _ _ hW.1 ⟨_, rfl, hW.2.1, FR.wk hW.2.2 (fun _ _ h => h.elim), (by have := kc_m1; omega)⟩ dX11_cut_43
  · omega

theorem dX11_recalls_0 : decode cX11_recalls 0 = .ok (.aload_n 0, 1) := by decide +kernel
theorem dX11_recalls_1 : decode cX11_recalls 1 = .ok (.getfield 19, 3) := by decide +kernel
theorem dX11_recalls_4 : decode cX11_recalls 4 = .ok (.getfield 116, 3) := by decide +kernel
theorem dX11_recalls_7 : decode cX11_recalls 7 = .ok (.iload_n 1, 1) := by decide +kernel
theorem dX11_recalls_8 : decode cX11_recalls 8 = .ok (.invokestatic 123, 3) := by decide +kernel
theorem dX11_recalls_11 : decode cX11_recalls 11 = .ok (.ifCond .eq 15, 3) := by decide +kernel
theorem dX11_recalls_26 : decode cX11_recalls 26 = .ok (.iconst (-1), 1) := by decide +kernel
theorem dX11_recalls_27 : decode cX11_recalls 27 = .ok (.ireturn, 1) := by decide +kernel
set_option maxRecDepth 100000 in
set_option maxHeartbeats 4000000 in
theorem p_X11_recalls (l : Launch) (D : va_G) (cA : Nat → ClassId) (ad : Nat → Nat) (g0 : Nat → va_E) (a : Int32) (hSh : Shp ad cA g0) (hF : ∀ j, j < NN → g0 j = gF ad cA j) : CT l NN ad cA D yX11_recalls cX11_recalls 2 (some FieldType.int) (1, 21) [.ref (ad 0), .int a] g0 (fun v g' => ∃ r : Int32, v = some (.int r) ∧ Shp ad cA g' ∧ FR (fun i _ => i < 129) g0 g' ∧ (r.toInt = -1)) := by
  refine q_enterI (by decide) (Nat.le_of_ble_eq_true rfl) rfl (fun K H locs ls _ _ hM hW0 hR hC hE hl => ?_)
  have hl : lv_has ls 2 [(0, .ref (ad 0)), (1, .int a)] := hl
  have hW : WS ad cA (fun i k => False) g0 K g0 H locs := ⟨hW0, hSh, FR.rf⟩
  have := kc_1
  have := kc_60
  refine q_aload_n hM dX11_recalls_0 (lv_at hl 0 rfl) ?_
  refine w_get (v := .ref (ad 3)) hM hW FG_X11_19 lb_0 (rf_0_1 hW.2.1) dX11_recalls_1 ?_
  refine w_get (v := .int (0 : Int32)) hM hW FG_X11_116 lb_3 ((hW.2.2.1 3 2 (fun h => h)).trans (zf hF (by decide) rfl : fld g0 3 2 = .int (0 : Int32))) dX11_recalls_4 ?_
  refine q_iload_n hM dX11_recalls_7 (lv_at hl 1 rfl) ?_
  refine q_callS (As := [.int (0 : Int32), .int a]) (rest := []) hM hW.1 hR hC myX11_has (kAW (v_1_10 (List.mem_of_getElem? (i := 8) rfl)) rfl) (c_X11_has _ _ cA ad g0 (0 : Int32) a hW.2.1) ⟨by decide, by decide⟩ rfl rfl hl.1 (Nat.le_of_ble_eq_true rfl) dX11_recalls_8 (fun v g270 H locs hp hW1 => ?_)
  obtain ⟨r269, rfl, hr269, rfl⟩ := hp
  have hW : WS ad cA (fun i k => False) g0 K g0 H locs := ⟨hW1, hW.2.1, hW.2.2⟩
  have kr269 : r269.toInt = 0 := has_r0 hr269
  refine q_if_eq (tgt := 26) hM dX11_recalls_11 (by decide) (kr269 : r269.toInt = 0) (fun h11 => ?_) (fun h11 => ?_)
  · refine q_iconst (v := ((-1) : Int32)) hM dX11_recalls_26 (by decide) ?_
    exact hE _ _ _ _ _ _ hW.1 ⟨_, rfl, hW.2.1, FR.wk hW.2.2 (fun _ _ h => h.elim), (by have := kc_m1; omega)⟩ dX11_recalls_27
  · omega

theorem dX11_questions_0 : decode cX11_questions 0 = .ok (.aload_n 0, 1) := by decide +kernel
theorem dX11_questions_1 : decode cX11_questions 1 = .ok (.iload_n 1, 1) := by decide +kernel
theorem dX11_questions_2 : decode cX11_questions 2 = .ok (.invokevirtual 254, 3) := by decide +kernel
theorem dX11_questions_5 : decode cX11_questions 5 = .ok (.ifCond .eq 12, 3) := by decide +kernel
theorem dX11_questions_17 : decode cX11_questions 17 = .ok (.iconst (-1), 1) := by decide +kernel
theorem dX11_questions_18 : decode cX11_questions 18 = .ok (.ireturn, 1) := by decide +kernel
theorem myX11_areSome : MI yX11_areSome cX11_areSome 2 (some FieldType.boolean) 1 := ⟨kAW (v_3_10 (List.mem_of_getElem? (i := 5) rfl)) rfl, kAW (v_0_0 (List.mem_of_getElem? (i := 1) rfl)) rfl, kAW (v_3_10 (List.mem_of_getElem? (i := 4) rfl)) rfl, kAW (tp_t1 (List.mem_of_getElem? (i := 12) rfl)) rfl, by decide, by decide, by decide +kernel⟩
set_option maxRecDepth 100000 in
set_option maxHeartbeats 4000000 in
theorem p_X11_questions (l : Launch) (D : va_G) (cA : Nat → ClassId) (ad : Nat → Nat) (g0 : Nat → va_E) (a b : Int32) (hSh : Shp ad cA g0) (hF : ∀ j, j < NN → g0 j = gF ad cA j) : CT l NN ad cA D yX11_questions cX11_questions 4 (some FieldType.int) (2, 42) [.ref (ad 0), .int a, .int b] g0 (fun v g' => ∃ r : Int32, v = some (.int r) ∧ Shp ad cA g' ∧ FR (fun i _ => i < 129) g0 g' ∧ (r.toInt = -1)) := by
  refine q_enterI (by decide) (Nat.le_of_ble_eq_true rfl) rfl (fun K H locs ls _ _ hM hW0 hR hC hE hl => ?_)
  have hl : lv_has ls 4 [(0, .ref (ad 0)), (1, .int a), (2, .int b)] := hl
  have hW : WS ad cA (fun i k => False) g0 K g0 H locs := ⟨hW0, hSh, FR.rf⟩
  have := kc_1
  have := kc_60
  refine q_aload_n hM dX11_questions_0 (lv_at hl 0 rfl) ?_
  refine q_iload_n hM dX11_questions_1 (lv_at hl 1 rfl) ?_
  refine q_callV (As := [.int a]) (rest := []) hM hW.1 hR hC myX11_areSome (kAW (v_3_10 (List.mem_of_getElem? (i := 2) rfl)) rfl) (rfl : vwCl[11]? = some (RX11, TX11, 16)) rfl lb_0.1 (shO hW.2.1 lb_0) (c_X11_areSome _ _ cA ad g0 a hW.2.1 hF) ⟨by decide, by decide⟩ rfl rfl hl.1 (Nat.le_of_ble_eq_true rfl) dX11_questions_2 (fun v g272 H locs hp hW1 => ?_)
  obtain ⟨r271, rfl, hr271, rfl⟩ := hp
  have hW : WS ad cA (fun i k => False) g0 K g0 H locs := ⟨hW1, hW.2.1, hW.2.2⟩
  refine q_if_eq (tgt := 17) hM dX11_questions_5 (by decide) (hr271 : r271.toInt = 0) (fun h5 => ?_) (fun h5 => ?_)
  · refine q_iconst (v := ((-1) : Int32)) hM dX11_questions_17 (by decide) ?_
    exact hE _ _ _ _ _ _ hW.1 ⟨_, rfl, hW.2.1, FR.wk hW.2.2 (fun _ _ h => h.elim), (by have := kc_m1; omega)⟩ dX11_questions_18
  · omega

theorem dX11_parted_0 : decode cX11_parted 0 = .ok (.aload_n 0, 1) := by decide +kernel
theorem dX11_parted_1 : decode cX11_parted 1 = .ok (.iload_n 1, 1) := by decide +kernel
theorem dX11_parted_2 : decode cX11_parted 2 = .ok (.invokevirtual 254, 3) := by decide +kernel
theorem dX11_parted_5 : decode cX11_parted 5 = .ok (.ifCond .eq 12, 3) := by decide +kernel
theorem dX11_parted_17 : decode cX11_parted 17 = .ok (.iconst (-1), 1) := by decide +kernel
theorem dX11_parted_18 : decode cX11_parted 18 = .ok (.ireturn, 1) := by decide +kernel
set_option maxRecDepth 100000 in
set_option maxHeartbeats 4000000 in
theorem p_X11_parted (l : Launch) (D : va_G) (cA : Nat → ClassId) (ad : Nat → Nat) (g0 : Nat → va_E) (a b : Int32) (hSh : Shp ad cA g0) (hF : ∀ j, j < NN → g0 j = gF ad cA j) : CT l NN ad cA D yX11_parted cX11_parted 4 (some FieldType.int) (2, 42) [.ref (ad 0), .int a, .int b] g0 (fun v g' => ∃ r : Int32, v = some (.int r) ∧ Shp ad cA g' ∧ FR (fun i _ => i < 129) g0 g' ∧ (r.toInt = -1)) := by
  refine q_enterI (by decide) (Nat.le_of_ble_eq_true rfl) rfl (fun K H locs ls _ _ hM hW0 hR hC hE hl => ?_)
  have hl : lv_has ls 4 [(0, .ref (ad 0)), (1, .int a), (2, .int b)] := hl
  have hW : WS ad cA (fun i k => False) g0 K g0 H locs := ⟨hW0, hSh, FR.rf⟩
  have := kc_1
  have := kc_60
  refine q_aload_n hM dX11_parted_0 (lv_at hl 0 rfl) ?_
  refine q_iload_n hM dX11_parted_1 (lv_at hl 1 rfl) ?_
  refine q_callV (As := [.int a]) (rest := []) hM hW.1 hR hC myX11_areSome (kAW (v_3_10 (List.mem_of_getElem? (i := 2) rfl)) rfl) (rfl : vwCl[11]? = some (RX11, TX11, 16)) rfl lb_0.1 (shO hW.2.1 lb_0) (c_X11_areSome _ _ cA ad g0 a hW.2.1 hF) ⟨by decide, by decide⟩ rfl rfl hl.1 (Nat.le_of_ble_eq_true rfl) dX11_parted_2 (fun v g274 H locs hp hW1 => ?_)
  obtain ⟨r273, rfl, hr273, rfl⟩ := hp
  have hW : WS ad cA (fun i k => False) g0 K g0 H locs := ⟨hW1, hW.2.1, hW.2.2⟩
  refine q_if_eq (tgt := 17) hM dX11_parted_5 (by decide) (hr273 : r273.toInt = 0) (fun h5 => ?_) (fun h5 => ?_)
  · refine q_iconst (v := ((-1) : Int32)) hM dX11_parted_17 (by decide) ?_
    exact hE _ _ _ _ _ _ hW.1 ⟨_, rfl, hW.2.1, FR.wk hW.2.2 (fun _ _ h => h.elim), (by have := kc_m1; omega)⟩ dX11_parted_18
  · omega

theorem dX11_odds_0 : decode cX11_odds 0 = .ok (.aload_n 0, 1) := by decide +kernel
theorem dX11_odds_1 : decode cX11_odds 1 = .ok (.getfield 26, 3) := by decide +kernel
theorem dX11_odds_4 : decode cX11_odds 4 = .ok (.getfield 135, 3) := by decide +kernel
theorem dX11_odds_7 : decode cX11_odds 7 = .ok (.iload_n 1, 1) := by decide +kernel
theorem dX11_odds_8 : decode cX11_odds 8 = .ok (.invokestatic 123, 3) := by decide +kernel
theorem dX11_odds_11 : decode cX11_odds 11 = .ok (.ifCond .eq 46, 3) := by decide +kernel
theorem dX11_odds_57 : decode cX11_odds 57 = .ok (.iconst (-1), 1) := by decide +kernel
theorem dX11_odds_58 : decode cX11_odds 58 = .ok (.ireturn, 1) := by decide +kernel
set_option maxRecDepth 100000 in
set_option maxHeartbeats 4000000 in
theorem p_X11_odds (l : Launch) (D : va_G) (cA : Nat → ClassId) (ad : Nat → Nat) (g0 : Nat → va_E) (a b c d : Int32) (hSh : Shp ad cA g0) (hF : ∀ j, j < NN → g0 j = gF ad cA j) : CT l NN ad cA D yX11_odds cX11_odds 6 (some FieldType.int) (1, 21) [.ref (ad 0), .int a, .int b, .int c, .int d] g0 (fun v g' => ∃ r : Int32, v = some (.int r) ∧ Shp ad cA g' ∧ FR (fun i _ => i < 129) g0 g' ∧ (r.toInt = -1)) := by
  refine q_enterI (by decide) (Nat.le_of_ble_eq_true rfl) rfl (fun K H locs ls _ _ hM hW0 hR hC hE hl => ?_)
  have hl : lv_has ls 6 [(0, .ref (ad 0)), (1, .int a), (2, .int b), (3, .int c), (4, .int d)] := hl
  have hW : WS ad cA (fun i k => False) g0 K g0 H locs := ⟨hW0, hSh, FR.rf⟩
  have := kc_1
  have := kc_60
  refine q_aload_n hM dX11_odds_0 (lv_at hl 0 rfl) ?_
  refine w_get (v := .ref (ad 18)) hM hW FG_X11_26 lb_0 (rf_0_10 hW.2.1) dX11_odds_1 ?_
  refine w_get (v := .int (0 : Int32)) hM hW FG_X11_135 lb_18 ((hW.2.2.1 18 3 (fun h => h)).trans (zf hF (by decide) rfl : fld g0 18 3 = .int (0 : Int32))) dX11_odds_4 ?_
  refine q_iload_n hM dX11_odds_7 (lv_at hl 1 rfl) ?_
  refine q_callS (As := [.int (0 : Int32), .int a]) (rest := []) hM hW.1 hR hC myX11_has (kAW (v_1_10 (List.mem_of_getElem? (i := 8) rfl)) rfl) (c_X11_has _ _ cA ad g0 (0 : Int32) a hW.2.1) ⟨by decide, by decide⟩ rfl rfl hl.1 (Nat.le_of_ble_eq_true rfl) dX11_odds_8 (fun v g276 H locs hp hW1 => ?_)
  obtain ⟨r275, rfl, hr275, rfl⟩ := hp
  have hW : WS ad cA (fun i k => False) g0 K g0 H locs := ⟨hW1, hW.2.1, hW.2.2⟩
  have kr275 : r275.toInt = 0 := has_r0 hr275
  refine q_if_eq (tgt := 57) hM dX11_odds_11 (by decide) (kr275 : r275.toInt = 0) (fun h11 => ?_) (fun h11 => ?_)
  · refine q_iconst (v := ((-1) : Int32)) hM dX11_odds_57 (by decide) ?_
    exact hE _ _ _ _ _ _ hW.1 ⟨_, rfl, hW.2.1, FR.wk hW.2.2 (fun _ _ h => h.elim), (by have := kc_m1; omega)⟩ dX11_odds_58
  · omega

theorem dX11_crib_0 : decode cX11_crib 0 = .ok (.aload_n 0, 1) := by decide +kernel
theorem dX11_crib_1 : decode cX11_crib 1 = .ok (.getfield 26, 3) := by decide +kernel
theorem dX11_crib_4 : decode cX11_crib 4 = .ok (.getfield 135, 3) := by decide +kernel
theorem dX11_crib_7 : decode cX11_crib 7 = .ok (.iload_n 1, 1) := by decide +kernel
theorem dX11_crib_8 : decode cX11_crib 8 = .ok (.invokestatic 123, 3) := by decide +kernel
theorem dX11_crib_11 : decode cX11_crib 11 = .ok (.ifCond .eq 12, 3) := by decide +kernel
theorem dX11_crib_23 : decode cX11_crib 23 = .ok (.iconst (-1), 1) := by decide +kernel
theorem dX11_crib_24 : decode cX11_crib 24 = .ok (.ireturn, 1) := by decide +kernel
set_option maxRecDepth 100000 in
set_option maxHeartbeats 4000000 in
theorem p_X11_crib (l : Launch) (D : va_G) (cA : Nat → ClassId) (ad : Nat → Nat) (g0 : Nat → va_E) (a b : Int32) (hSh : Shp ad cA g0) (hF : ∀ j, j < NN → g0 j = gF ad cA j) : CT l NN ad cA D yX11_crib cX11_crib 7 (some FieldType.int) (1, 21) [.ref (ad 0), .int a, .int b] g0 (fun v g' => ∃ r : Int32, v = some (.int r) ∧ Shp ad cA g' ∧ FR (fun i _ => i < 129) g0 g' ∧ (r.toInt = -1)) := by
  refine q_enterI (by decide) (Nat.le_of_ble_eq_true rfl) rfl (fun K H locs ls _ _ hM hW0 hR hC hE hl => ?_)
  have hl : lv_has ls 7 [(0, .ref (ad 0)), (1, .int a), (2, .int b)] := hl
  have hW : WS ad cA (fun i k => False) g0 K g0 H locs := ⟨hW0, hSh, FR.rf⟩
  have := kc_1
  have := kc_60
  refine q_aload_n hM dX11_crib_0 (lv_at hl 0 rfl) ?_
  refine w_get (v := .ref (ad 18)) hM hW FG_X11_26 lb_0 (rf_0_10 hW.2.1) dX11_crib_1 ?_
  refine w_get (v := .int (0 : Int32)) hM hW FG_X11_135 lb_18 ((hW.2.2.1 18 3 (fun h => h)).trans (zf hF (by decide) rfl : fld g0 18 3 = .int (0 : Int32))) dX11_crib_4 ?_
  refine q_iload_n hM dX11_crib_7 (lv_at hl 1 rfl) ?_
  refine q_callS (As := [.int (0 : Int32), .int a]) (rest := []) hM hW.1 hR hC myX11_has (kAW (v_1_10 (List.mem_of_getElem? (i := 8) rfl)) rfl) (c_X11_has _ _ cA ad g0 (0 : Int32) a hW.2.1) ⟨by decide, by decide⟩ rfl rfl hl.1 (Nat.le_of_ble_eq_true rfl) dX11_crib_8 (fun v g278 H locs hp hW1 => ?_)
  obtain ⟨r277, rfl, hr277, rfl⟩ := hp
  have hW : WS ad cA (fun i k => False) g0 K g0 H locs := ⟨hW1, hW.2.1, hW.2.2⟩
  have kr277 : r277.toInt = 0 := has_r0 hr277
  refine q_if_eq (tgt := 23) hM dX11_crib_11 (by decide) (kr277 : r277.toInt = 0) (fun h11 => ?_) (fun h11 => ?_)
  · refine q_iconst (v := ((-1) : Int32)) hM dX11_crib_23 (by decide) ?_
    exact hE _ _ _ _ _ _ hW.1 ⟨_, rfl, hW.2.1, FR.wk hW.2.2 (fun _ _ h => h.elim), (by have := kc_m1; omega)⟩ dX11_crib_24
  · omega

theorem dX11_undo_0 : decode cX11_undo 0 = .ok (.aload_n 0, 1) := by decide +kernel
theorem dX11_undo_1 : decode cX11_undo 1 = .ok (.getfield 108, 3) := by decide +kernel
theorem dX11_undo_4 : decode cX11_undo 4 = .ok (.ifCond .ne 5, 3) := by decide +kernel
theorem dX11_undo_7 : decode cX11_undo 7 = .ok (.iconst 0, 1) := by decide +kernel
theorem dX11_undo_8 : decode cX11_undo 8 = .ok (.ireturn, 1) := by decide +kernel
theorem FG_X11_108 : FG RX11 108 11 16 15 := ⟨RX11, TX11, rfl, wX11, by decide, kAW (v_1_7 (List.mem_of_getElem? (i := 11) rfl)) rfl, rfl⟩
set_option maxRecDepth 100000 in
set_option maxHeartbeats 4000000 in
theorem p_X11_undo (l : Launch) (D : va_G) (cA : Nat → ClassId) (ad : Nat → Nat) (g0 : Nat → va_E)  (hSh : Shp ad cA g0) (hF : ∀ j, j < NN → g0 j = gF ad cA j) : CT l NN ad cA D yX11_undo cX11_undo 1 (some FieldType.boolean) (0, 0) [.ref (ad 0)] g0 (fun v g' => ∃ r : Int32, v = some (.int r) ∧ Shp ad cA g' ∧ FR (fun i _ => i < 129) g0 g' ∧ (r.toInt = 0)) := by
  refine q_enterZ (by decide) (Nat.le_of_ble_eq_true rfl) (fun K H locs ls _ _ hM hW0 hR hC hE hl => ?_)
  have hl : lv_has ls 1 [(0, .ref (ad 0))] := hl
  have hW : WS ad cA (fun i k => False) g0 K g0 H locs := ⟨hW0, hSh, FR.rf⟩
  have := kc_1
  have := kc_60
  refine q_aload_n hM dX11_undo_0 (lv_at hl 0 rfl) ?_
  refine w_get (v := .int (0 : Int32)) hM hW FG_X11_108 lb_0 ((hW.2.2.1 0 15 (fun h => h)).trans (zf hF (by decide) rfl : fld g0 0 15 = .int (0 : Int32))) dX11_undo_1 ?_
  refine q_if_ne (tgt := 9) hM dX11_undo_4 (by decide) (kc_0 : (0 : Int32).toInt = 0) (fun h4 => ?_) (fun h4 => ?_)
  · omega
  · refine q_iconst (v := (0 : Int32)) hM dX11_undo_7 (by decide) ?_
    exact hE _ _ _ _ _ _ hW.1 nz_0 ⟨_, rfl, hW.2.1, FR.wk hW.2.2 (fun _ _ h => h.elim), (by have := kc_0; omega)⟩ dX11_undo_8

theorem dX11_check_0 : decode cX11_check 0 = .ok (.aload_n 0, 1) := by decide +kernel
theorem dX11_check_1 : decode cX11_check 1 = .ok (.getfield 26, 3) := by decide +kernel
theorem dX11_check_4 : decode cX11_check 4 = .ok (.getfield 135, 3) := by decide +kernel
theorem dX11_check_7 : decode cX11_check 7 = .ok (.iload_n 1, 1) := by decide +kernel
theorem dX11_check_8 : decode cX11_check 8 = .ok (.invokestatic 123, 3) := by decide +kernel
theorem dX11_check_11 : decode cX11_check 11 = .ok (.ifCond .eq 24, 3) := by decide +kernel
theorem dX11_check_35 : decode cX11_check 35 = .ok (.bipush (-2), 2) := by decide +kernel
theorem dX11_check_37 : decode cX11_check 37 = .ok (.ireturn, 1) := by decide +kernel
set_option maxRecDepth 100000 in
set_option maxHeartbeats 4000000 in
theorem p_X11_check (l : Launch) (D : va_G) (cA : Nat → ClassId) (ad : Nat → Nat) (g0 : Nat → va_E) (a b : Int32) (hSh : Shp ad cA g0) (hF : ∀ j, j < NN → g0 j = gF ad cA j) : CT l NN ad cA D yX11_check cX11_check 4 (some FieldType.int) (1, 21) [.ref (ad 0), .int a, .int b] g0 (fun v g' => ∃ r : Int32, v = some (.int r) ∧ Shp ad cA g' ∧ FR (fun i _ => i < 129) g0 g' ∧ (r.toInt = -2)) := by
  refine q_enterI (by decide) (Nat.le_of_ble_eq_true rfl) rfl (fun K H locs ls _ _ hM hW0 hR hC hE hl => ?_)
  have hl : lv_has ls 4 [(0, .ref (ad 0)), (1, .int a), (2, .int b)] := hl
  have hW : WS ad cA (fun i k => False) g0 K g0 H locs := ⟨hW0, hSh, FR.rf⟩
  have := kc_1
  have := kc_60
  refine q_aload_n hM dX11_check_0 (lv_at hl 0 rfl) ?_
  refine w_get (v := .ref (ad 18)) hM hW FG_X11_26 lb_0 (rf_0_10 hW.2.1) dX11_check_1 ?_
  refine w_get (v := .int (0 : Int32)) hM hW FG_X11_135 lb_18 ((hW.2.2.1 18 3 (fun h => h)).trans (zf hF (by decide) rfl : fld g0 18 3 = .int (0 : Int32))) dX11_check_4 ?_
  refine q_iload_n hM dX11_check_7 (lv_at hl 1 rfl) ?_
  refine q_callS (As := [.int (0 : Int32), .int a]) (rest := []) hM hW.1 hR hC myX11_has (kAW (v_1_10 (List.mem_of_getElem? (i := 8) rfl)) rfl) (c_X11_has _ _ cA ad g0 (0 : Int32) a hW.2.1) ⟨by decide, by decide⟩ rfl rfl hl.1 (Nat.le_of_ble_eq_true rfl) dX11_check_8 (fun v g280 H locs hp hW1 => ?_)
  obtain ⟨r279, rfl, hr279, rfl⟩ := hp
  have hW : WS ad cA (fun i k => False) g0 K g0 H locs := ⟨hW1, hW.2.1, hW.2.2⟩
  have kr279 : r279.toInt = 0 := has_r0 hr279
  refine q_if_eq (tgt := 35) hM dX11_check_11 (by decide) (kr279 : r279.toInt = 0) (fun h11 => ?_) (fun h11 => ?_)
  · refine q_bipush (v := ((-2) : Int32)) hM dX11_check_35 (by decide) ?_
    exact hE _ _ _ _ _ _ hW.1 ⟨_, rfl, hW.2.1, FR.wk hW.2.2 (fun _ _ h => h.elim), (by have := kc_m2; omega)⟩ dX11_check_37
  · omega

theorem dX11_first_0 : decode cX11_first 0 = .ok (.iload_n 1, 1) := by decide +kernel
theorem dX11_first_1 : decode cX11_first 1 = .ok (.iconst 1, 1) := by decide +kernel
theorem dX11_first_2 : decode cX11_first 2 = .ok (.bipush 60, 2) := by decide +kernel
theorem dX11_first_4 : decode cX11_first 4 = .ok (.invokestatic 112, 3) := by decide +kernel
theorem dX11_first_7 : decode cX11_first 7 = .ok (.ifCond .eq 26, 3) := by decide +kernel
theorem dX11_first_10 : decode cX11_first 10 = .ok (.aload_n 0, 1) := by decide +kernel
theorem dX11_first_11 : decode cX11_first 11 = .ok (.getfield 19, 3) := by decide +kernel
theorem dX11_first_14 : decode cX11_first 14 = .ok (.getfield 116, 3) := by decide +kernel
theorem dX11_first_17 : decode cX11_first 17 = .ok (.iload_n 2, 1) := by decide +kernel
theorem dX11_first_18 : decode cX11_first 18 = .ok (.invokestatic 123, 3) := by decide +kernel
theorem dX11_first_21 : decode cX11_first 21 = .ok (.ifCond .eq 12, 3) := by decide +kernel
theorem dX11_first_33 : decode cX11_first 33 = .ok (.iconst (-1), 1) := by decide +kernel
theorem dX11_first_34 : decode cX11_first 34 = .ok (.ireturn, 1) := by decide +kernel
set_option maxRecDepth 100000 in
set_option maxHeartbeats 4000000 in
theorem p_X11_first (l : Launch) (D : va_G) (cA : Nat → ClassId) (ad : Nat → Nat) (g0 : Nat → va_E) (a b c : Int32) (hSh : Shp ad cA g0) (hF : ∀ j, j < NN → g0 j = gF ad cA j) : CT l NN ad cA D yX11_first cX11_first 6 (some FieldType.int) (1, 22) [.ref (ad 0), .int a, .int b, .int c] g0 (fun v g' => ∃ r : Int32, v = some (.int r) ∧ Shp ad cA g' ∧ FR (fun i _ => i < 129) g0 g' ∧ (r.toInt = -1)) := by
  refine q_enterI (by decide) (Nat.le_of_ble_eq_true rfl) rfl (fun K H locs ls _ _ hM hW0 hR hC hE hl => ?_)
  have hl : lv_has ls 6 [(0, .ref (ad 0)), (1, .int a), (2, .int b), (3, .int c)] := hl
  have hW : WS ad cA (fun i k => False) g0 K g0 H locs := ⟨hW0, hSh, FR.rf⟩
  have := kc_1
  have := kc_60
  refine q_iload_n hM dX11_first_0 (lv_at hl 1 rfl) ?_
  refine q_iconst (v := (1 : Int32)) hM dX11_first_1 (by decide) ?_
  refine q_bipush (v := (60 : Int32)) hM dX11_first_2 (by decide) ?_
  refine q_callS (As := [.int a, .int (1 : Int32), .int (60 : Int32)]) (rest := []) hM hW.1 hR hC myX11_within (kAW (v_1_10 (List.mem_of_getElem? (i := 1) rfl)) rfl) (c_X11_within _ _ cA ad g0 a (1 : Int32) (60 : Int32) hW.2.1) ⟨by decide, by decide⟩ rfl rfl hl.1 (Nat.le_of_ble_eq_true rfl) dX11_first_4 (fun v g282 H locs hp hW1 => ?_)
  obtain ⟨r281, rfl, hr281, rfl⟩ := hp
  have hW : WS ad cA (fun i k => False) g0 K g0 H locs := ⟨hW1, hW.2.1, hW.2.2⟩
  refine q_if_eq (tgt := 33) hM dX11_first_7 (by decide) (rfl : r281.toInt = r281.toInt) (fun h7 => ?_) (fun h7 => ?_)
  · refine q_iconst (v := ((-1) : Int32)) hM dX11_first_33 (by decide) ?_
    exact hE _ _ _ _ _ _ hW.1 ⟨_, rfl, hW.2.1, FR.wk hW.2.2 (fun _ _ h => h.elim), (by have := kc_m1; omega)⟩ dX11_first_34
  · refine q_aload_n hM dX11_first_10 (lv_at hl 0 rfl) ?_
    refine w_get (v := .ref (ad 3)) hM hW FG_X11_19 lb_0 (rf_0_1 hW.2.1) dX11_first_11 ?_
    refine w_get (v := .int (0 : Int32)) hM hW FG_X11_116 lb_3 ((hW.2.2.1 3 2 (fun h => h)).trans (zf hF (by decide) rfl : fld g0 3 2 = .int (0 : Int32))) dX11_first_14 ?_
    refine q_iload_n hM dX11_first_17 (lv_at hl 2 rfl) ?_
    refine q_callS (As := [.int (0 : Int32), .int b]) (rest := []) hM hW.1 hR hC myX11_has (kAW (v_1_10 (List.mem_of_getElem? (i := 8) rfl)) rfl) (c_X11_has _ _ cA ad g0 (0 : Int32) b hW.2.1) ⟨by decide, by decide⟩ rfl rfl hl.1 (Nat.le_of_ble_eq_true rfl) dX11_first_18 (fun v g284 H locs hp hW1 => ?_)
    obtain ⟨r283, rfl, hr283, rfl⟩ := hp
    have hW : WS ad cA (fun i k => False) g0 K g0 H locs := ⟨hW1, hW.2.1, hW.2.2⟩
    have kr283 : r283.toInt = 0 := has_r0 hr283
    refine q_if_eq (tgt := 33) hM dX11_first_21 (by decide) (kr283 : r283.toInt = 0) (fun h21 => ?_) (fun h21 => ?_)
    · refine q_iconst (v := ((-1) : Int32)) hM dX11_first_33 (by decide) ?_
      exact hE _ _ _ _ _ _ hW.1 ⟨_, rfl, hW.2.1, FR.wk hW.2.2 (fun _ _ h => h.elim), (by have := kc_m1; omega)⟩ dX11_first_34
    · omega

theorem dX11_hummed_0 : decode cX11_hummed 0 = .ok (.iload_n 1, 1) := by decide +kernel
theorem dX11_hummed_1 : decode cX11_hummed 1 = .ok (.iconst 1, 1) := by decide +kernel
theorem dX11_hummed_2 : decode cX11_hummed 2 = .ok (.bipush 6, 2) := by decide +kernel
theorem dX11_hummed_4 : decode cX11_hummed 4 = .ok (.invokestatic 112, 3) := by decide +kernel
theorem dX11_hummed_7 : decode cX11_hummed 7 = .ok (.ifCond .eq 44, 3) := by decide +kernel
theorem dX11_hummed_10 : decode cX11_hummed 10 = .ok (.iload_n 2, 1) := by decide +kernel
theorem dX11_hummed_11 : decode cX11_hummed 11 = .ok (.iconst 1, 1) := by decide +kernel
theorem dX11_hummed_12 : decode cX11_hummed 12 = .ok (.bipush 9, 2) := by decide +kernel
theorem dX11_hummed_14 : decode cX11_hummed 14 = .ok (.invokestatic 112, 3) := by decide +kernel
theorem dX11_hummed_17 : decode cX11_hummed 17 = .ok (.ifCond .eq 34, 3) := by decide +kernel
theorem dX11_hummed_20 : decode cX11_hummed 20 = .ok (.iload_n 3, 1) := by decide +kernel
theorem dX11_hummed_21 : decode cX11_hummed 21 = .ok (.iconst 0, 1) := by decide +kernel
theorem dX11_hummed_22 : decode cX11_hummed 22 = .ok (.iconst 1, 1) := by decide +kernel
theorem dX11_hummed_23 : decode cX11_hummed 23 = .ok (.invokestatic 112, 3) := by decide +kernel
theorem dX11_hummed_26 : decode cX11_hummed 26 = .ok (.ifCond .eq 25, 3) := by decide +kernel
theorem dX11_hummed_29 : decode cX11_hummed 29 = .ok (.iload_n 1, 1) := by decide +kernel
theorem dX11_hummed_30 : decode cX11_hummed 30 = .ok (.aload_n 0, 1) := by decide +kernel
theorem dX11_hummed_31 : decode cX11_hummed 31 = .ok (.getfield 10, 3) := by decide +kernel
theorem dX11_hummed_34 : decode cX11_hummed 34 = .ok (.getfield 139, 3) := by decide +kernel
theorem dX11_hummed_37 : decode cX11_hummed 37 = .ok (.if_icmp .gt 14, 3) := by decide +kernel
theorem dX11_hummed_51 : decode cX11_hummed 51 = .ok (.iconst (-1), 1) := by decide +kernel
theorem dX11_hummed_52 : decode cX11_hummed 52 = .ok (.ireturn, 1) := by decide +kernel
set_option maxRecDepth 100000 in
set_option maxHeartbeats 4000000 in
theorem p_X11_hummed (l : Launch) (D : va_G) (cA : Nat → ClassId) (ad : Nat → Nat) (g0 : Nat → va_E) (a b c : Int32) (hSh : Shp ad cA g0) (hF : ∀ j, j < NN → g0 j = gF ad cA j) : CT l NN ad cA D yX11_hummed cX11_hummed 8 (some FieldType.int) (1, 22) [.ref (ad 0), .int a, .int b, .int c] g0 (fun v g' => ∃ r : Int32, v = some (.int r) ∧ Shp ad cA g' ∧ FR (fun i _ => i < 129) g0 g' ∧ (r.toInt = -1)) := by
  refine q_enterI (by decide) (Nat.le_of_ble_eq_true rfl) rfl (fun K H locs ls _ _ hM hW0 hR hC hE hl => ?_)
  have hl : lv_has ls 8 [(0, .ref (ad 0)), (1, .int a), (2, .int b), (3, .int c)] := hl
  have hW : WS ad cA (fun i k => False) g0 K g0 H locs := ⟨hW0, hSh, FR.rf⟩
  have := kc_0
  have := kc_1
  have := kc_6
  have := kc_9
  refine q_iload_n hM dX11_hummed_0 (lv_at hl 1 rfl) ?_
  refine q_iconst (v := (1 : Int32)) hM dX11_hummed_1 (by decide) ?_
  refine q_bipush (v := (6 : Int32)) hM dX11_hummed_2 (by decide) ?_
  refine q_callS (As := [.int a, .int (1 : Int32), .int (6 : Int32)]) (rest := []) hM hW.1 hR hC myX11_within (kAW (v_1_10 (List.mem_of_getElem? (i := 1) rfl)) rfl) (c_X11_within _ _ cA ad g0 a (1 : Int32) (6 : Int32) hW.2.1) ⟨by decide, by decide⟩ rfl rfl hl.1 (Nat.le_of_ble_eq_true rfl) dX11_hummed_4 (fun v g286 H locs hp hW1 => ?_)
  obtain ⟨r285, rfl, hr285, rfl⟩ := hp
  have hW : WS ad cA (fun i k => False) g0 K g0 H locs := ⟨hW1, hW.2.1, hW.2.2⟩
  refine q_if_eq (tgt := 51) hM dX11_hummed_7 (by decide) (rfl : r285.toInt = r285.toInt) (fun h7 => ?_) (fun h7 => ?_)
  · refine q_iconst (v := ((-1) : Int32)) hM dX11_hummed_51 (by decide) ?_
    exact hE _ _ _ _ _ _ hW.1 ⟨_, rfl, hW.2.1, FR.wk hW.2.2 (fun _ _ h => h.elim), (by have := kc_m1; omega)⟩ dX11_hummed_52
  · refine q_iload_n hM dX11_hummed_10 (lv_at hl 2 rfl) ?_
    refine q_iconst (v := (1 : Int32)) hM dX11_hummed_11 (by decide) ?_
    refine q_bipush (v := (9 : Int32)) hM dX11_hummed_12 (by decide) ?_
    refine q_callS (As := [.int b, .int (1 : Int32), .int (9 : Int32)]) (rest := []) hM hW.1 hR hC myX11_within (kAW (v_1_10 (List.mem_of_getElem? (i := 1) rfl)) rfl) (c_X11_within _ _ cA ad g0 b (1 : Int32) (9 : Int32) hW.2.1) ⟨by decide, by decide⟩ rfl rfl hl.1 (Nat.le_of_ble_eq_true rfl) dX11_hummed_14 (fun v g288 H locs hp hW1 => ?_)
    obtain ⟨r287, rfl, hr287, rfl⟩ := hp
    have hW : WS ad cA (fun i k => False) g0 K g0 H locs := ⟨hW1, hW.2.1, hW.2.2⟩
    refine q_if_eq (tgt := 51) hM dX11_hummed_17 (by decide) (rfl : r287.toInt = r287.toInt) (fun h17 => ?_) (fun h17 => ?_)
    · refine q_iconst (v := ((-1) : Int32)) hM dX11_hummed_51 (by decide) ?_
      exact hE _ _ _ _ _ _ hW.1 ⟨_, rfl, hW.2.1, FR.wk hW.2.2 (fun _ _ h => h.elim), (by have := kc_m1; omega)⟩ dX11_hummed_52
    · refine q_iload_n hM dX11_hummed_20 (lv_at hl 3 rfl) ?_
      refine q_iconst (v := (0 : Int32)) hM dX11_hummed_21 (by decide) ?_
      refine q_iconst (v := (1 : Int32)) hM dX11_hummed_22 (by decide) ?_
      refine q_callS (As := [.int c, .int (0 : Int32), .int (1 : Int32)]) (rest := []) hM hW.1 hR hC myX11_within (kAW (v_1_10 (List.mem_of_getElem? (i := 1) rfl)) rfl) (c_X11_within _ _ cA ad g0 c (0 : Int32) (1 : Int32) hW.2.1) ⟨by decide, by decide⟩ rfl rfl hl.1 (Nat.le_of_ble_eq_true rfl) dX11_hummed_23 (fun v g290 H locs hp hW1 => ?_)
      obtain ⟨r289, rfl, hr289, rfl⟩ := hp
      have hW : WS ad cA (fun i k => False) g0 K g0 H locs := ⟨hW1, hW.2.1, hW.2.2⟩
      refine q_if_eq (tgt := 51) hM dX11_hummed_26 (by decide) (rfl : r289.toInt = r289.toInt) (fun h26 => ?_) (fun h26 => ?_)
      · refine q_iconst (v := ((-1) : Int32)) hM dX11_hummed_51 (by decide) ?_
        exact hE _ _ _ _ _ _ hW.1 ⟨_, rfl, hW.2.1, FR.wk hW.2.2 (fun _ _ h => h.elim), (by have := kc_m1; omega)⟩ dX11_hummed_52
      · refine q_iload_n hM dX11_hummed_29 (lv_at hl 1 rfl) ?_
        refine q_aload_n hM dX11_hummed_30 (lv_at hl 0 rfl) ?_
        refine w_get (v := .ref (ad 1)) hM hW FG_X11_10 lb_0 (rf_0_0 hW.2.1) dX11_hummed_31 ?_
        refine w_get (v := .int (0 : Int32)) hM hW FG_X11_139 lb_1 ((hW.2.2.1 1 1 (fun h => h)).trans (zf hF (by decide) rfl : fld g0 1 1 = .int (0 : Int32))) dX11_hummed_34 ?_
        refine q_icmp_gt (tgt := 51) hM dX11_hummed_37 (by decide) (rfl : a.toInt = a.toInt) (kc_0 : (0 : Int32).toInt = 0) (fun h37 => ?_) (fun h37 => ?_)
        · refine q_iconst (v := ((-1) : Int32)) hM dX11_hummed_51 (by decide) ?_
          exact hE _ _ _ _ _ _ hW.1 ⟨_, rfl, hW.2.1, FR.wk hW.2.2 (fun _ _ h => h.elim), (by have := kc_m1; omega)⟩ dX11_hummed_52
        · omega

theorem dX11_seed_0 : decode cX11_seed 0 = .ok (.iload_n 1, 1) := by decide +kernel
theorem dX11_seed_1 : decode cX11_seed 1 = .ok (.iconst 0, 1) := by decide +kernel
theorem dX11_seed_2 : decode cX11_seed 2 = .ok (.ldc_w 315, 3) := by decide +kernel
theorem dX11_seed_5 : decode cX11_seed 5 = .ok (.invokestatic 112, 3) := by decide +kernel
theorem dX11_seed_8 : decode cX11_seed 8 = .ok (.ifCond .ne 5, 3) := by decide +kernel
theorem dX11_seed_11 : decode cX11_seed 11 = .ok (.iconst 0, 1) := by decide +kernel
theorem dX11_seed_12 : decode cX11_seed 12 = .ok (.ireturn, 1) := by decide +kernel
theorem dX11_seed_13 : decode cX11_seed 13 = .ok (.aload_n 0, 1) := by decide +kernel
theorem dX11_seed_14 : decode cX11_seed 14 = .ok (.getfield 26, 3) := by decide +kernel
theorem dX11_seed_17 : decode cX11_seed 17 = .ok (.iload_n 1, 1) := by decide +kernel
theorem dX11_seed_18 : decode cX11_seed 18 = .ok (.putfield 316, 3) := by decide +kernel
theorem dX11_seed_21 : decode cX11_seed 21 = .ok (.iconst 1, 1) := by decide +kernel
theorem dX11_seed_22 : decode cX11_seed 22 = .ok (.ireturn, 1) := by decide +kernel
theorem FP_X11_316 : FPX RX11 316 7 8 7 .int := ⟨⟨RX7, TX7, tyX7, rfl, wX7, by decide, kAW (v_0_6 (List.mem_of_getElem? (i := 2) rfl)) rfl, rfl, tyX7_ok, nmX7, by decide +kernel, rfl⟩, by decide +kernel⟩
set_option maxRecDepth 100000 in
set_option maxHeartbeats 4000000 in
theorem p_X11_seed (l : Launch) (D : va_G) (cA : Nat → ClassId) (ad : Nat → Nat) (g0 : Nat → va_E) (a : Int32) (hSh : Shp ad cA g0) (hF : ∀ j, j < NN → g0 j = gF ad cA j) : CT l NN ad cA D yX11_seed cX11_seed 2 (some FieldType.boolean) (1, 22) [.ref (ad 0), .int a] g0 (fun v g' => ∃ r : Int32, v = some (.int r) ∧ Shp ad cA g' ∧ FR (fun i _ => i < 129) g0 g' ∧ ((r.toInt = 1 ∧ 0 ≤ a.toInt ∧ a.toInt ≤ 65535) ∨ (r.toInt = 0 ∧ ¬ (0 ≤ a.toInt ∧ a.toInt ≤ 65535)))) := by
  refine q_enterZ (by decide) (Nat.le_of_ble_eq_true rfl) (fun K H locs ls _ _ hM hW0 hR hC hE hl => ?_)
  have hl : lv_has ls 2 [(0, .ref (ad 0)), (1, .int a)] := hl
  have hW : WS ad cA (fun i k => (i = 18 ∧ (k = 7))) g0 K g0 H locs := ⟨hW0, hSh, FR.rf⟩
  have := kc_0
  have := kc_65535
  have f291 : fld g0 18 7 = .int (1 : Int32) := (zf hF (by decide) rfl : fld g0 18 7 = .int (1 : Int32))
  refine q_iload_n hM dX11_seed_0 (lv_at hl 1 rfl) ?_
  refine q_iconst (v := (0 : Int32)) hM dX11_seed_1 (by decide) ?_
  refine q_ldcw (v := (65535 : Int32)) hM (kAW (v_4_1 (List.mem_of_getElem? (i := 6) rfl)) rfl) dX11_seed_2 ?_
  refine q_callS (As := [.int a, .int (0 : Int32), .int (65535 : Int32)]) (rest := []) hM hW.1 hR hC myX11_within (kAW (v_1_10 (List.mem_of_getElem? (i := 1) rfl)) rfl) (c_X11_within _ _ cA ad g0 a (0 : Int32) (65535 : Int32) hW.2.1) ⟨by decide, by decide⟩ rfl rfl hl.1 (Nat.le_of_ble_eq_true rfl) dX11_seed_5 (fun v g293 H locs hp hW1 => ?_)
  obtain ⟨r292, rfl, hr292, rfl⟩ := hp
  have hW : WS ad cA (fun i k => (i = 18 ∧ (k = 7))) g0 K g0 H locs := ⟨hW1, hW.2.1, hW.2.2⟩
  refine q_if_ne (tgt := 13) hM dX11_seed_8 (by decide) (rfl : r292.toInt = r292.toInt) (fun h8 => ?_) (fun h8 => ?_)
  · refine q_aload_n hM dX11_seed_13 (lv_at hl 0 rfl) ?_
    refine w_get (v := .ref (ad 18)) hM hW FG_X11_26 lb_0 (rf_0_10 hW.2.1) dX11_seed_14 ?_
    refine q_iload_n hM dX11_seed_17 (lv_at hl 1 rfl) ?_
    refine w_put hM hW FP_X11_316 lb_18 (by omega) (Or.inl ⟨_, rfl⟩) rfl rfl dX11_seed_18 (fun g294 H locs hW e1 e2 => ?_)
    have f295 : fld g294 18 7 = .int a := e1
    refine q_iconst (v := (1 : Int32)) hM dX11_seed_21 (by decide) ?_
    exact hE _ _ _ _ _ _ hW.1 nz_1 ⟨_, rfl, hW.2.1, FR.wk hW.2.2 (fun i k h => by omega), (by have := kc_1; omega)⟩ dX11_seed_22
  · refine q_iconst (v := (0 : Int32)) hM dX11_seed_11 (by decide) ?_
    exact hE _ _ _ _ _ _ hW.1 nz_0 ⟨_, rfl, hW.2.1, FR.wk hW.2.2 (fun i k h => by omega), (by have := kc_0; omega)⟩ dX11_seed_12

theorem dX11_taught_0 : decode cX11_taught 0 = .ok (.iload_n 1, 1) := by decide +kernel
theorem dX11_taught_1 : decode cX11_taught 1 = .ok (.aload_n 0, 1) := by decide +kernel
theorem dX11_taught_2 : decode cX11_taught 2 = .ok (.getfield 90, 3) := by decide +kernel
theorem dX11_taught_5 : decode cX11_taught 5 = .ok (.getfield 273, 3) := by decide +kernel
theorem dX11_taught_8 : decode cX11_taught 8 = .ok (.invokestatic 227, 3) := by decide +kernel
theorem dX11_taught_11 : decode cX11_taught 11 = .ok (.ifCond .eq 24, 3) := by decide +kernel
theorem dX11_taught_14 : decode cX11_taught 14 = .ok (.iload_n 2, 1) := by decide +kernel
theorem dX11_taught_15 : decode cX11_taught 15 = .ok (.iconst 1, 1) := by decide +kernel
theorem dX11_taught_16 : decode cX11_taught 16 = .ok (.bipush 63, 2) := by decide +kernel
theorem dX11_taught_18 : decode cX11_taught 18 = .ok (.invokestatic 112, 3) := by decide +kernel
theorem dX11_taught_21 : decode cX11_taught 21 = .ok (.ifCond .eq 14, 3) := by decide +kernel
theorem dX11_taught_24 : decode cX11_taught 24 = .ok (.iload_n 1, 1) := by decide +kernel
theorem dX11_taught_25 : decode cX11_taught 25 = .ok (.invokestatic 206, 3) := by decide +kernel
theorem dX11_taught_28 : decode cX11_taught 28 = .ok (.iload_n 2, 1) := by decide +kernel
theorem dX11_taught_29 : decode cX11_taught 29 = .ok (.invokestatic 206, 3) := by decide +kernel
theorem dX11_taught_32 : decode cX11_taught 32 = .ok (.if_icmp .eq 5, 3) := by decide +kernel
theorem dX11_taught_35 : decode cX11_taught 35 = .ok (.iconst (-1), 1) := by decide +kernel
theorem dX11_taught_36 : decode cX11_taught 36 = .ok (.ireturn, 1) := by decide +kernel
theorem FG_X11_90 : FG RX11 90 11 16 3 := ⟨RX11, TX11, rfl, wX11, by decide, kAW (v_1_6 (List.mem_of_getElem? (i := 15) rfl)) rfl, rfl⟩
theorem FG_X11_273 : FG RX11 273 9 5 4 := ⟨RX9, TX9, rfl, wX9, by decide, kAW (v_1_2 (List.mem_of_getElem? (i := 13) rfl)) rfl, rfl⟩
set_option maxRecDepth 100000 in
set_option maxHeartbeats 4000000 in
theorem p_X11_taught (l : Launch) (D : va_G) (cA : Nat → ClassId) (ad : Nat → Nat) (g0 : Nat → va_E) (a b c : Int32) (hSh : Shp ad cA g0) (hF : ∀ j, j < NN → g0 j = gF ad cA j) : CT l NN ad cA D yX11_taught cX11_taught 5 (some FieldType.int) (1, 22) [.ref (ad 0), .int a, .int b, .int c] g0 (fun v g' => ∃ r : Int32, v = some (.int r) ∧ Shp ad cA g' ∧ FR (fun i _ => i < 129) g0 g' ∧ (r.toInt = -1)) := by
  refine q_enterI (by decide) (Nat.le_of_ble_eq_true rfl) rfl (fun K H locs ls _ _ hM hW0 hR hC hE hl => ?_)
  have hl : lv_has ls 5 [(0, .ref (ad 0)), (1, .int a), (2, .int b), (3, .int c)] := hl
  have hW : WS ad cA (fun i k => False) g0 K g0 H locs := ⟨hW0, hSh, FR.rf⟩
  have := kc_1
  have := kc_63
  refine q_iload_n hM dX11_taught_0 (lv_at hl 1 rfl) ?_
  refine q_aload_n hM dX11_taught_1 (lv_at hl 0 rfl) ?_
  refine w_get (v := .ref (ad 102)) hM hW FG_X11_90 lb_0 (rf_0_3 hW.2.1) dX11_taught_2 ?_
  refine w_get (v := .int (0 : Int32)) hM hW FG_X11_273 lb_102 ((hW.2.2.1 102 4 (fun h => h)).trans (zf hF (by decide) rfl : fld g0 102 4 = .int (0 : Int32))) dX11_taught_5 ?_
  refine q_callS (As := [.int a, .int (0 : Int32)]) (rest := []) hM hW.1 hR hC myX11_areOf (kAW (v_3_4 (List.mem_of_getElem? (i := 6) rfl)) rfl) (c_X11_areOf _ _ cA ad g0 a (0 : Int32) hW.2.1) ⟨by decide, by decide⟩ rfl rfl hl.1 (Nat.le_of_ble_eq_true rfl) dX11_taught_8 (fun v g297 H locs hp hW1 => ?_)
  obtain ⟨r296, rfl, hr296, rfl⟩ := hp
  have hW : WS ad cA (fun i k => False) g0 K g0 H locs := ⟨hW1, hW.2.1, hW.2.2⟩
  refine q_if_eq (tgt := 35) hM dX11_taught_11 (by decide) (rfl : r296.toInt = r296.toInt) (fun h11 => ?_) (fun h11 => ?_)
  · refine q_iconst (v := ((-1) : Int32)) hM dX11_taught_35 (by decide) ?_
    exact hE _ _ _ _ _ _ hW.1 ⟨_, rfl, hW.2.1, FR.wk hW.2.2 (fun _ _ h => h.elim), (by have := kc_m1; omega)⟩ dX11_taught_36
  · refine q_iload_n hM dX11_taught_14 (lv_at hl 2 rfl) ?_
    refine q_iconst (v := (1 : Int32)) hM dX11_taught_15 (by decide) ?_
    refine q_bipush (v := (63 : Int32)) hM dX11_taught_16 (by decide) ?_
    refine q_callS (As := [.int b, .int (1 : Int32), .int (63 : Int32)]) (rest := []) hM hW.1 hR hC myX11_within (kAW (v_1_10 (List.mem_of_getElem? (i := 1) rfl)) rfl) (c_X11_within _ _ cA ad g0 b (1 : Int32) (63 : Int32) hW.2.1) ⟨by decide, by decide⟩ rfl rfl hl.1 (Nat.le_of_ble_eq_true rfl) dX11_taught_18 (fun v g299 H locs hp hW1 => ?_)
    obtain ⟨r298, rfl, hr298, rfl⟩ := hp
    have hW : WS ad cA (fun i k => False) g0 K g0 H locs := ⟨hW1, hW.2.1, hW.2.2⟩
    refine q_if_eq (tgt := 35) hM dX11_taught_21 (by decide) (rfl : r298.toInt = r298.toInt) (fun h21 => ?_) (fun h21 => ?_)
    · refine q_iconst (v := ((-1) : Int32)) hM dX11_taught_35 (by decide) ?_
      exact hE _ _ _ _ _ _ hW.1 ⟨_, rfl, hW.2.1, FR.wk hW.2.2 (fun _ _ h => h.elim), (by have := kc_m1; omega)⟩ dX11_taught_36
    · refine q_iload_n hM dX11_taught_24 (lv_at hl 1 rfl) ?_
      refine q_callS (As := [.int a]) (rest := []) hM hW.1 hR hC myJ6_bitCount_0f7a4 (kAW (v_3_1 (List.mem_of_getElem? (i := 2) rfl)) rfl) (c_J6_bitCount_0f7a4 _ _ cA ad g0 a hW.2.1) ⟨by decide, by decide⟩ rfl rfl hl.1 (Nat.le_of_ble_eq_true rfl) dX11_taught_25 (fun v g301 H locs hp hW1 => ?_)
      obtain ⟨r300, rfl, hr300, rfl⟩ := hp
      have hW : WS ad cA (fun i k => False) g0 K g0 H locs := ⟨hW1, hW.2.1, hW.2.2⟩
      refine q_iload_n hM dX11_taught_28 (lv_at hl 2 rfl) ?_
      refine q_callS (As := [.int b]) (rest := [.int r300]) hM hW.1 hR hC myJ6_bitCount_0f7a4 (kAW (v_3_1 (List.mem_of_getElem? (i := 2) rfl)) rfl) (c_J6_bitCount_0f7a4 _ _ cA ad g0 b hW.2.1) ⟨by decide, by decide⟩ rfl rfl hl.1 (Nat.le_of_ble_eq_true rfl) dX11_taught_29 (fun v g303 H locs hp hW1 => ?_)
      obtain ⟨r302, rfl, hr302, rfl⟩ := hp
      have hW : WS ad cA (fun i k => False) g0 K g0 H locs := ⟨hW1, hW.2.1, hW.2.2⟩
      refine q_icmp_eq (tgt := 37) hM dX11_taught_32 (by decide) (rfl : r300.toInt = r300.toInt) (rfl : r302.toInt = r302.toInt) (fun h32 => ?_) (fun h32 => ?_)
      · exact (bc_ne hr300 hr302 (areOf_0 hr296 h11) (by omega) (by omega) h32).elim
      · refine q_iconst (v := ((-1) : Int32)) hM dX11_taught_35 (by decide) ?_
        exact hE _ _ _ _ _ _ hW.1 ⟨_, rfl, hW.2.1, FR.wk hW.2.2 (fun _ _ h => h.elim), (by have := kc_m1; omega)⟩ dX11_taught_36

theorem dX11_copy_0 : decode cX11_copy 0 = .ok (.aload_n 0, 1) := by decide +kernel
theorem dX11_copy_1 : decode cX11_copy 1 = .ok (.getfield 43, 3) := by decide +kernel
theorem dX11_copy_4 : decode cX11_copy 4 = .ok (.aload_n 0, 1) := by decide +kernel
theorem dX11_copy_5 : decode cX11_copy 5 = .ok (.getfield 39, 3) := by decide +kernel
theorem dX11_copy_8 : decode cX11_copy 8 = .ok (.invokevirtual 194, 3) := by decide +kernel
theorem dX11_copy_11 : decode cX11_copy 11 = .ok (.aload_n 0, 1) := by decide +kernel
theorem dX11_copy_12 : decode cX11_copy 12 = .ok (.getfield 43, 3) := by decide +kernel
theorem dX11_copy_15 : decode cX11_copy 15 = .ok (.getfield 196, 3) := by decide +kernel
theorem dX11_copy_18 : decode cX11_copy 18 = .ok (.ireturn, 1) := by decide +kernel
theorem FG_X11_43 : FG RX11 43 11 16 9 := ⟨RX11, TX11, rfl, wX11, by decide, kAW (v_1_7 (List.mem_of_getElem? (i := 5) rfl)) rfl, rfl⟩
theorem myX3_become : MI yX3_become cX3_become 3 none 1 := ⟨kAW (v_3_2 (List.mem_of_getElem? (i := 3) rfl)) rfl, kAW (v_0_0 (List.mem_of_getElem? (i := 5) rfl)) rfl, kAW (v_3_2 (List.mem_of_getElem? (i := 1) rfl)) rfl, kAW (v_3_2 (List.mem_of_getElem? (i := 2) rfl)) rfl, by decide, by decide, by decide +kernel⟩
theorem FG_X11_196 : FG RX11 196 3 8 6 := ⟨RX3, TX3, rfl, wX3, by decide, kAW (v_0_8 (List.mem_of_getElem? (i := 5) rfl)) rfl, rfl⟩
set_option maxRecDepth 100000 in
set_option maxHeartbeats 4000000 in
theorem p_X11_copy (l : Launch) (D : va_G) (cA : Nat → ClassId) (ad : Nat → Nat) (g0 : Nat → va_E)  (hSh : Shp ad cA g0) (hF : ∀ j, j < NN → g0 j = gF ad cA j) : CT l NN ad cA D yX11_copy cX11_copy 1 (some FieldType.int) (1, 22) [.ref (ad 0)] g0 (fun v g' => ∃ r : Int32, v = some (.int r) ∧ Shp ad cA g' ∧ FR (fun i _ => i < 129) g0 g' ∧ (r.toInt = 0)) := by
  refine q_enterI (by decide) (Nat.le_of_ble_eq_true rfl) rfl (fun K H locs ls _ _ hM hW0 hR hC hE hl => ?_)
  have hl : lv_has ls 1 [(0, .ref (ad 0))] := hl
  have hW : WS ad cA (fun i k => (i = 61 ∧ (k = 6 ∨ k = 7)) ∨ (62 ≤ i ∧ i < 67)) g0 K g0 H locs := ⟨hW0, hSh, FR.rf⟩
  have f304 : fld g0 61 6 = .int (0 : Int32) := (zf hF (by decide) rfl : fld g0 61 6 = .int (0 : Int32))
  have f305 : fld g0 61 7 = .int (0 : Int32) := (zf hF (by decide) rfl : fld g0 61 7 = .int (0 : Int32))
  refine q_aload_n hM dX11_copy_0 (lv_at hl 0 rfl) ?_
  refine w_get (v := .ref (ad 61)) hM hW FG_X11_43 lb_0 (rf_0_9 hW.2.1) dX11_copy_1 ?_
  refine q_aload_n hM dX11_copy_4 (lv_at hl 0 rfl) ?_
  refine w_get (v := .ref (ad 54)) hM hW FG_X11_39 lb_0 ((hW.2.2.1 0 13 (by omega)).trans (zf hF (by decide) rfl : fld g0 0 13 = .ref (ad 54))) dX11_copy_5 ?_
  refine q_callV (As := [.ref (ad 54)]) (rest := []) hM hW.1 hR hC myX3_become (kAW (v_3_2 (List.mem_of_getElem? (i := 0) rfl)) rfl) (rfl : vwCl[3]? = some (RX3, TX3, 8)) rfl lb_61.1 (shO hW.2.1 lb_61) (c_X3_become _ _ cA ad g0 (0 : Int32) (0 : Int32) hW.2.1 ((hW.2.2.1 54 6 (by omega)).trans (zf hF (by decide) rfl : fld g0 54 6 = .int (0 : Int32))) ((hW.2.2.1 54 7 (by omega)).trans (zf hF (by decide) rfl : fld g0 54 7 = .int (0 : Int32)))) ⟨by decide, by decide⟩ rfl rfl hl.1 (Nat.le_of_ble_eq_true rfl) dX11_copy_8 (fun v g307 H locs hp hW1 => ?_)
  obtain ⟨rfl, hs1, hf1, q306⟩ := hp
  have hW : WS ad cA (fun i k => (i = 61 ∧ (k = 6 ∨ k = 7)) ∨ (62 ≤ i ∧ i < 67)) g0 K g307 H locs := ⟨hW1, hs1, hW.2.2.tr hf1 (fun i k h => by omega)⟩
  refine q_aload_n hM dX11_copy_11 (lv_at hl 0 rfl) ?_
  refine w_get (v := .ref (ad 61)) hM hW FG_X11_43 lb_0 (rf_0_9 hW.2.1) dX11_copy_12 ?_
  refine w_get (v := .int (0 : Int32)) hM hW FG_X11_196 lb_61 q306 dX11_copy_15 ?_
  exact hE _ _ _ _ _ _ hW.1 ⟨_, rfl, hW.2.1, FR.wk hW.2.2 (fun i k h => by omega), (by have := kc_0; omega)⟩ dX11_copy_18

theorem dX11_keep_0 : decode cX11_keep 0 = .ok (.aload_n 0, 1) := by decide +kernel
theorem dX11_keep_1 : decode cX11_keep 1 = .ok (.getfield 30, 3) := by decide +kernel
theorem dX11_keep_4 : decode cX11_keep 4 = .ok (.aload_n 0, 1) := by decide +kernel
theorem dX11_keep_5 : decode cX11_keep 5 = .ok (.getfield 26, 3) := by decide +kernel
theorem dX11_keep_8 : decode cX11_keep 8 = .ok (.invokevirtual 319, 3) := by decide +kernel
theorem dX11_keep_11 : decode cX11_keep 11 = .ok (.aload_n 0, 1) := by decide +kernel
theorem dX11_keep_12 : decode cX11_keep 12 = .ok (.iconst 1, 1) := by decide +kernel
theorem dX11_keep_13 : decode cX11_keep 13 = .ok (.putfield 108, 3) := by decide +kernel
theorem dX11_keep_16 : decode cX11_keep 16 = .ok (.aload_n 0, 1) := by decide +kernel
theorem dX11_keep_17 : decode cX11_keep 17 = .ok (.getfield 26, 3) := by decide +kernel
theorem dX11_keep_20 : decode cX11_keep 20 = .ok (.getfield 322, 3) := by decide +kernel
theorem dX11_keep_23 : decode cX11_keep 23 = .ok (.ireturn, 1) := by decide +kernel
theorem FG_X11_30 : FG RX11 30 11 16 11 := ⟨RX11, TX11, rfl, wX11, by decide, kAW (v_1_7 (List.mem_of_getElem? (i := 7) rfl)) rfl, rfl⟩
theorem FP_X11_108 : FPX RX11 108 11 16 15 .boolean := ⟨⟨RX11, TX11, tyX11, rfl, wX11, by decide, kAW (v_1_7 (List.mem_of_getElem? (i := 11) rfl)) rfl, rfl, tyX11_ok, nmX11, by decide +kernel, rfl⟩, by decide +kernel⟩
theorem FG_X11_322 : FG RX11 322 7 8 4 := ⟨RX7, TX7, rfl, wX7, by decide, kAW (v_0_5 (List.mem_of_getElem? (i := 10) rfl)) rfl, rfl⟩
set_option maxRecDepth 100000 in
set_option maxHeartbeats 4000000 in
theorem p_X11_keep (l : Launch) (D : va_G) (cA : Nat → ClassId) (ad : Nat → Nat) (g0 : Nat → va_E)  (hSh : Shp ad cA g0) (hF : ∀ j, j < NN → g0 j = gF ad cA j) : CT l NN ad cA D yX11_keep cX11_keep 1 (some FieldType.int) (1, 23) [.ref (ad 0)] g0 (fun v g' => ∃ r : Int32, v = some (.int r) ∧ Shp ad cA g' ∧ FR (fun i _ => i < 129) g0 g' ∧ (r.toInt = 0)) := by
  refine q_enterI (by decide) (Nat.le_of_ble_eq_true rfl) rfl (fun K H locs ls _ _ hM hW0 hR hC hE hl => ?_)
  have hl : lv_has ls 1 [(0, .ref (ad 0))] := hl
  have hW : WS ad cA (fun i k => i = 31 ∨ i = 32 ∨ (34 ≤ i ∧ i < 42) ∨ (i = 30 ∧ (k = 3 ∨ k = 4 ∨ k = 5 ∨ k = 6 ∨ k = 7)) ∨ (i = 0 ∧ (k = 15))) g0 K g0 H locs := ⟨hW0, hSh, FR.rf⟩
  have f308 : fld g0 30 3 = .int (0 : Int32) := (zf hF (by decide) rfl : fld g0 30 3 = .int (0 : Int32))
  have f309 : fld g0 30 4 = .int (0 : Int32) := (zf hF (by decide) rfl : fld g0 30 4 = .int (0 : Int32))
  have f310 : fld g0 30 5 = .int (0 : Int32) := (zf hF (by decide) rfl : fld g0 30 5 = .int (0 : Int32))
  have f311 : fld g0 30 6 = .int (0 : Int32) := (zf hF (by decide) rfl : fld g0 30 6 = .int (0 : Int32))
  have f312 : fld g0 30 7 = .int (1 : Int32) := (zf hF (by decide) rfl : fld g0 30 7 = .int (1 : Int32))
  have f313 : fld g0 0 15 = .int (0 : Int32) := (zf hF (by decide) rfl : fld g0 0 15 = .int (0 : Int32))
  refine q_aload_n hM dX11_keep_0 (lv_at hl 0 rfl) ?_
  refine w_get (v := .ref (ad 30)) hM hW FG_X11_30 lb_0 (rf_0_11 hW.2.1) dX11_keep_1 ?_
  refine q_aload_n hM dX11_keep_4 (lv_at hl 0 rfl) ?_
  refine w_get (v := .ref (ad 18)) hM hW FG_X11_26 lb_0 (rf_0_10 hW.2.1) dX11_keep_5 ?_
  refine q_callV (As := [.ref (ad 18)]) (rest := []) hM hW.1 hR hC myX7_become (kAW (v_3_0 (List.mem_of_getElem? (i := 9) rfl)) rfl) (rfl : vwCl[7]? = some (RX7, TX7, 8)) rfl lb_30.1 (shO hW.2.1 lb_30) (c_X7_become_30 _ _ cA ad g0 (0 : Int32) (0 : Int32) (0 : Int32) (0 : Int32) (1 : Int32) hW.2.1 ((hW.2.2.1 18 3 (by omega)).trans (zf hF (by decide) rfl : fld g0 18 3 = .int (0 : Int32))) ((hW.2.2.1 18 4 (by omega)).trans (zf hF (by decide) rfl : fld g0 18 4 = .int (0 : Int32))) ((hW.2.2.1 18 5 (by omega)).trans (zf hF (by decide) rfl : fld g0 18 5 = .int (0 : Int32))) ((hW.2.2.1 18 6 (by omega)).trans (zf hF (by decide) rfl : fld g0 18 6 = .int (0 : Int32))) ((hW.2.2.1 18 7 (by omega)).trans (zf hF (by decide) rfl : fld g0 18 7 = .int (1 : Int32)))) ⟨by decide, by decide⟩ rfl rfl hl.1 (Nat.le_of_ble_eq_true rfl) dX11_keep_8 (fun v g319 H locs hp hW1 => ?_)
  obtain ⟨rfl, hs1, hf1, q314, q315, q316, q317, q318⟩ := hp
  have f320 : fld g319 0 15 = .int (0 : Int32) := (hf1.1 0 15 (by omega)).trans f313
  have hW : WS ad cA (fun i k => i = 31 ∨ i = 32 ∨ (34 ≤ i ∧ i < 42) ∨ (i = 30 ∧ (k = 3 ∨ k = 4 ∨ k = 5 ∨ k = 6 ∨ k = 7)) ∨ (i = 0 ∧ (k = 15))) g0 K g319 H locs := ⟨hW1, hs1, hW.2.2.tr hf1 (fun i k h => by omega)⟩
  refine q_aload_n hM dX11_keep_11 (lv_at hl 0 rfl) ?_
  refine q_iconst (v := (1 : Int32)) hM dX11_keep_12 (by decide) ?_
  refine w_put hM hW FP_X11_108 lb_0 (by omega) (Or.inl ⟨_, rfl⟩) rfl rfl dX11_keep_13 (fun g321 H locs hW e1 e2 => ?_)
  have f322 : fld g321 30 3 = .int (0 : Int32) := (e2.1 30 3 (by unfold Only; omega)).trans q314
  have f323 : fld g321 30 4 = .int (0 : Int32) := (e2.1 30 4 (by unfold Only; omega)).trans q315
  have f324 : fld g321 30 5 = .int (0 : Int32) := (e2.1 30 5 (by unfold Only; omega)).trans q316
  have f325 : fld g321 30 6 = .int (0 : Int32) := (e2.1 30 6 (by unfold Only; omega)).trans q317
  have f326 : fld g321 30 7 = .int (1 : Int32) := (e2.1 30 7 (by unfold Only; omega)).trans q318
  have f327 : fld g321 0 15 = .int (1 : Int32) := e1
  refine q_aload_n hM dX11_keep_16 (lv_at hl 0 rfl) ?_
  refine w_get (v := .ref (ad 18)) hM hW FG_X11_26 lb_0 (rf_0_10 hW.2.1) dX11_keep_17 ?_
  refine w_get (v := .int (0 : Int32)) hM hW FG_X11_322 lb_18 ((hW.2.2.1 18 4 (by omega)).trans (zf hF (by decide) rfl : fld g0 18 4 = .int (0 : Int32))) dX11_keep_20 ?_
  exact hE _ _ _ _ _ _ hW.1 ⟨_, rfl, hW.2.1, FR.wk hW.2.2 (fun i k h => by omega), (by have := kc_0; omega)⟩ dX11_keep_23

theorem dX11_kin_0 : decode cX11_kin 0 = .ok (.iload_n 1, 1) := by decide +kernel
theorem dX11_kin_1 : decode cX11_kin 1 = .ok (.bipush 100, 2) := by decide +kernel
theorem dX11_kin_3 : decode cX11_kin 3 = .ok (.if_icmp .ne 11, 3) := by decide +kernel
theorem dX11_kin_6 : decode cX11_kin 6 = .ok (.aload_n 0, 1) := by decide +kernel
theorem dX11_kin_7 : decode cX11_kin 7 = .ok (.getfield 19, 3) := by decide +kernel
theorem dX11_kin_10 : decode cX11_kin 10 = .ok (.invokevirtual 247, 3) := by decide +kernel
theorem dX11_kin_13 : decode cX11_kin 13 = .ok (.ireturn, 1) := by decide +kernel
theorem dX11_kin_14 : decode cX11_kin 14 = .ok (.aload_n 0, 1) := by decide +kernel
theorem dX11_kin_15 : decode cX11_kin 15 = .ok (.getfield 19, 3) := by decide +kernel
theorem dX11_kin_18 : decode cX11_kin 18 = .ok (.getfield 116, 3) := by decide +kernel
theorem dX11_kin_21 : decode cX11_kin 21 = .ok (.iload_n 1, 1) := by decide +kernel
theorem dX11_kin_22 : decode cX11_kin 22 = .ok (.invokestatic 123, 3) := by decide +kernel
theorem dX11_kin_25 : decode cX11_kin 25 = .ok (.ifCond .eq 14, 3) := by decide +kernel
theorem dX11_kin_39 : decode cX11_kin 39 = .ok (.iconst (-1), 1) := by decide +kernel
theorem dX11_kin_40 : decode cX11_kin 40 = .ok (.ireturn, 1) := by decide +kernel
theorem myX5_groups : MI yX5_groups cX5_groups 3 (some FieldType.int) 0 := ⟨kAW (v_3_9 (List.mem_of_getElem? (i := 5) rfl)) rfl, kAW (v_0_0 (List.mem_of_getElem? (i := 3) rfl)) rfl, kAW (v_3_9 (List.mem_of_getElem? (i := 3) rfl)) rfl, kAW (v_3_9 (List.mem_of_getElem? (i := 4) rfl)) rfl, by decide, by decide, by decide +kernel⟩
set_option maxRecDepth 100000 in
set_option maxHeartbeats 4000000 in
theorem p_X11_kin (l : Launch) (D : va_G) (cA : Nat → ClassId) (ad : Nat → Nat) (g0 : Nat → va_E) (a : Int32) (hSh : Shp ad cA g0) (hF : ∀ j, j < NN → g0 j = gF ad cA j) : CT l NN ad cA D yX11_kin cX11_kin 2 (some FieldType.int) (2, 43) [.ref (ad 0), .int a] g0 (fun v g' => ∃ r : Int32, v = some (.int r) ∧ Shp ad cA g' ∧ FR (fun i _ => i < 129) g0 g' ∧ (((a.toInt = 100) ∧ r.toInt = 0) ∨ (¬ (a.toInt = 100) ∧ r.toInt = -1))) := by
  refine q_enterI (by decide) (Nat.le_of_ble_eq_true rfl) rfl (fun K H locs ls _ _ hM hW0 hR hC hE hl => ?_)
  have hl : lv_has ls 2 [(0, .ref (ad 0)), (1, .int a)] := hl
  have hW : WS ad cA (fun i k => False) g0 K g0 H locs := ⟨hW0, hSh, FR.rf⟩
  have := kc_0
  have := kc_100
  have := kc_m1
  refine q_iload_n hM dX11_kin_0 (lv_at hl 1 rfl) ?_
  refine q_bipush (v := (100 : Int32)) hM dX11_kin_1 (by decide) ?_
  refine q_icmp_ne (tgt := 14) hM dX11_kin_3 (by decide) (rfl : a.toInt = a.toInt) (kc_100 : (100 : Int32).toInt = 100) (fun h3 => ?_) (fun h3 => ?_)
  · refine q_aload_n hM dX11_kin_14 (lv_at hl 0 rfl) ?_
    refine w_get (v := .ref (ad 3)) hM hW FG_X11_19 lb_0 (rf_0_1 hW.2.1) dX11_kin_15 ?_
    refine w_get (v := .int (0 : Int32)) hM hW FG_X11_116 lb_3 ((hW.2.2.1 3 2 (fun h => h)).trans (zf hF (by decide) rfl : fld g0 3 2 = .int (0 : Int32))) dX11_kin_18 ?_
    refine q_iload_n hM dX11_kin_21 (lv_at hl 1 rfl) ?_
    refine q_callS (As := [.int (0 : Int32), .int a]) (rest := []) hM hW.1 hR hC myX11_has (kAW (v_1_10 (List.mem_of_getElem? (i := 8) rfl)) rfl) (c_X11_has _ _ cA ad g0 (0 : Int32) a hW.2.1) ⟨by decide, by decide⟩ rfl rfl hl.1 (Nat.le_of_ble_eq_true rfl) dX11_kin_22 (fun v g329 H locs hp hW1 => ?_)
    obtain ⟨r328, rfl, hr328, rfl⟩ := hp
    have hW : WS ad cA (fun i k => False) g0 K g0 H locs := ⟨hW1, hW.2.1, hW.2.2⟩
    have kr328 : r328.toInt = 0 := has_r0 hr328
    refine q_if_eq (tgt := 39) hM dX11_kin_25 (by decide) (kr328 : r328.toInt = 0) (fun h25 => ?_) (fun h25 => ?_)
    · refine q_iconst (v := ((-1) : Int32)) hM dX11_kin_39 (by decide) ?_
      exact hE _ _ _ _ _ _ hW.1 ⟨_, rfl, hW.2.1, FR.wk hW.2.2 (fun _ _ h => h.elim), (by have := kc_m1; omega)⟩ dX11_kin_40
    · omega
  · refine q_aload_n hM dX11_kin_6 (lv_at hl 0 rfl) ?_
    refine w_get (v := .ref (ad 3)) hM hW FG_X11_19 lb_0 (rf_0_1 hW.2.1) dX11_kin_7 ?_
    refine q_callV (As := []) (rest := []) hM hW.1 hR hC myX5_groups (kAW (v_3_9 (List.mem_of_getElem? (i := 2) rfl)) rfl) (rfl : vwCl[5]? = some (RX5, TX5, 3)) rfl lb_3.1 (shO hW.2.1 lb_3) (c_X5_groups _ _ cA ad g0  hW.2.1 hF) ⟨by decide, by decide⟩ rfl rfl hl.1 (Nat.le_of_ble_eq_true rfl) dX11_kin_10 (fun v g331 H locs hp hW1 => ?_)
    obtain ⟨r330, rfl, hr330, rfl⟩ := hp
    have hW : WS ad cA (fun i k => False) g0 K g0 H locs := ⟨hW1, hW.2.1, hW.2.2⟩
    exact hE _ _ _ _ _ _ hW.1 ⟨_, rfl, hW.2.1, FR.wk hW.2.2 (fun _ _ h => h.elim), (by omega)⟩ dX11_kin_13

theorem dX11_root_0 : decode cX11_root 0 = .ok (.bipush (-2), 2) := by decide +kernel
theorem dX11_root_2 : decode cX11_root 2 = .ok (.istore_n 1, 1) := by decide +kernel
theorem dX11_root_3 : decode cX11_root 3 = .ok (.iconst (-1), 1) := by decide +kernel
theorem dX11_root_4 : decode cX11_root 4 = .ok (.istore_n 2, 1) := by decide +kernel
theorem dX11_root_5 : decode cX11_root 5 = .ok (.iconst 0, 1) := by decide +kernel
theorem dX11_root_6 : decode cX11_root 6 = .ok (.istore_n 3, 1) := by decide +kernel
theorem dX11_root_7 : decode cX11_root 7 = .ok (.iload_n 3, 1) := by decide +kernel
theorem dX11_root_8 : decode cX11_root 8 = .ok (.bipush 12, 2) := by decide +kernel
theorem dX11_root_10 : decode cX11_root 10 = .ok (.if_icmp .ge 48, 3) := by decide +kernel
theorem dX11_root_13 : decode cX11_root 13 = .ok (.aload_n 0, 1) := by decide +kernel
theorem dX11_root_14 : decode cX11_root 14 = .ok (.getfield 19, 3) := by decide +kernel
theorem dX11_root_17 : decode cX11_root 17 = .ok (.iload_n 3, 1) := by decide +kernel
theorem dX11_root_18 : decode cX11_root 18 = .ok (.iconst 0, 1) := by decide +kernel
theorem dX11_root_19 : decode cX11_root 19 = .ok (.invokevirtual 244, 3) := by decide +kernel
theorem dX11_root_22 : decode cX11_root 22 = .ok (.invokestatic 206, 3) := by decide +kernel
theorem dX11_root_25 : decode cX11_root 25 = .ok (.istore 4, 2) := by decide +kernel
theorem dX11_root_27 : decode cX11_root 27 = .ok (.aload_n 0, 1) := by decide +kernel
theorem dX11_root_28 : decode cX11_root 28 = .ok (.getfield 19, 3) := by decide +kernel
theorem dX11_root_31 : decode cX11_root 31 = .ok (.getfield 116, 3) := by decide +kernel
theorem dX11_root_34 : decode cX11_root 34 = .ok (.iload_n 3, 1) := by decide +kernel
theorem dX11_root_35 : decode cX11_root 35 = .ok (.invokestatic 123, 3) := by decide +kernel
theorem dX11_root_38 : decode cX11_root 38 = .ok (.ifCond .eq 14, 3) := by decide +kernel
theorem dX11_root_52 : decode cX11_root 52 = .ok (.iinc 3 1, 3) := by decide +kernel
theorem dX11_root_55 : decode cX11_root 55 = .ok (.goto (-48), 3) := by decide +kernel
theorem dX11_root_58 : decode cX11_root 58 = .ok (.iload_n 1, 1) := by decide +kernel
theorem dX11_root_59 : decode cX11_root 59 = .ok (.ireturn, 1) := by decide +kernel
theorem myX5_reached : MI yX5_reached cX5_reached 8 (some FieldType.int) 2 := ⟨kAW (v_3_7 (List.mem_of_getElem? (i := 15) rfl)) rfl, kAW (v_0_0 (List.mem_of_getElem? (i := 3) rfl)) rfl, kAW (v_3_7 (List.mem_of_getElem? (i := 13) rfl)) rfl, kAW (v_3_7 (List.mem_of_getElem? (i := 14) rfl)) rfl, by decide, by decide, by decide +kernel⟩
set_option maxRecDepth 100000 in
set_option maxHeartbeats 4000000 in
theorem p_X11_root (l : Launch) (D : va_G) (cA : Nat → ClassId) (ad : Nat → Nat) (g0 : Nat → va_E)  (hSh : Shp ad cA g0) (hF : ∀ j, j < NN → g0 j = gF ad cA j) : CT l NN ad cA D yX11_root cX11_root 5 (some FieldType.int) (2, 50) [.ref (ad 0)] g0 (fun v g' => ∃ r : Int32, v = some (.int r) ∧ Shp ad cA g' ∧ FR (fun i _ => i < 129) g0 g' ∧ (r.toInt = -2)) := by
  refine q_enterI (by decide) (Nat.le_of_ble_eq_true rfl) rfl (fun K H locs ls _ _ hM hW0 hR hC hE hl => ?_)
  have hl : lv_has ls 5 [(0, .ref (ad 0))] := hl
  have hW : WS ad cA (fun i k => False) g0 K g0 H locs := ⟨hW0, hSh, FR.rf⟩
  refine q_bipush (v := ((-2) : Int32)) hM dX11_root_0 (by decide) ?_
  refine q_istore_n (lv9 := [(1, .int ((-2) : Int32)), (0, .ref (ad 0))]) hM dX11_root_2 hl (by decide) rfl (fun ls hl => ?_)
  refine q_iconst (v := ((-1) : Int32)) hM dX11_root_3 (by decide) ?_
  refine q_istore_n (lv9 := [(2, .int ((-1) : Int32)), (1, .int ((-2) : Int32)), (0, .ref (ad 0))]) hM dX11_root_4 hl (by decide) rfl (fun ls hl => ?_)
  refine q_iconst (v := (0 : Int32)) hM dX11_root_5 (by decide) ?_
  refine q_istore_n (lv9 := [(3, .int (0 : Int32)), (2, .int ((-1) : Int32)), (1, .int ((-2) : Int32)), (0, .ref (ad 0))]) hM dX11_root_6 hl (by decide) rfl (fun ls hl => ?_)
  have L7 : ∀ (fu7 : Nat) (i : Int32) (H : Heap) (locs : List Loc) (ls : Array Slot), (12 - i.toInt).toNat < fu7 → (0 ≤ i.toInt) → (i.toInt ≤ 12) → lv_has ls 5 [(0, .ref (ad 0)), (1, .int ((-2) : Int32)), (2, .int ((-1) : Int32)), (3, .int i)] → WS ad cA (fun i k => False) g0 K g0 H locs → XX K 0 0 H locs 7 ls [] := by
    intro fu7
    induction fu7 with
    | zero => intro i H locs ls h0; omega
    | succ fu7 ih7 =>
      intro i H locs ls hm7 i7_0 i7_1 hl hW
      refine q_iload_n hM dX11_root_7 (lv_at hl 3 rfl) ?_
      refine q_bipush (v := (12 : Int32)) hM dX11_root_8 (by decide) ?_
      refine q_icmp_ge (tgt := 58) hM dX11_root_10 (by decide) (rfl : i.toInt = i.toInt) (kc_12 : (12 : Int32).toInt = 12) (fun h10 => ?_) (fun h10 => ?_)
      · refine q_iload_n hM dX11_root_58 (lv_at hl 1 rfl) ?_
        exact hE _ _ _ _ _ _ hW.1 ⟨_, rfl, hW.2.1, FR.wk hW.2.2 (fun _ _ h => h.elim), (by have := kc_m2; omega)⟩ dX11_root_59
      · refine q_aload_n hM dX11_root_13 (lv_at hl 0 rfl) ?_
        refine w_get (v := .ref (ad 3)) hM hW FG_X11_19 lb_0 (rf_0_1 hW.2.1) dX11_root_14 ?_
        refine q_iload_n hM dX11_root_17 (lv_at hl 3 rfl) ?_
        refine q_iconst (v := (0 : Int32)) hM dX11_root_18 (by decide) ?_
        refine q_callV (As := [.int i, .int (0 : Int32)]) (rest := []) hM hW.1 hR hC myX5_reached (kAW (v_3_8 (List.mem_of_getElem? (i := 9) rfl)) rfl) (rfl : vwCl[5]? = some (RX5, TX5, 3)) rfl lb_3.1 (shO hW.2.1 lb_3) (c_X5_reached _ _ cA ad g0 i hW.2.1 hF (by omega) (by omega)) ⟨by decide, by decide⟩ rfl rfl hl.1 (Nat.le_of_ble_eq_true rfl) dX11_root_19 (fun v g333 H locs hp hW1 => ?_)
        obtain ⟨r332, rfl, hr332, rfl⟩ := hp
        have hW : WS ad cA (fun i k => False) g0 K g0 H locs := ⟨hW1, hW.2.1, hW.2.2⟩
        refine q_callS (As := [.int r332]) (rest := []) hM hW.1 hR hC myJ6_bitCount_0f7a4 (kAW (v_3_1 (List.mem_of_getElem? (i := 2) rfl)) rfl) (c_J6_bitCount_0f7a4 _ _ cA ad g0 r332 hW.2.1) ⟨by decide, by decide⟩ rfl rfl hl.1 (Nat.le_of_ble_eq_true rfl) dX11_root_22 (fun v g335 H locs hp hW1 => ?_)
        obtain ⟨r334, rfl, hr334, rfl⟩ := hp
        have hW : WS ad cA (fun i k => False) g0 K g0 H locs := ⟨hW1, hW.2.1, hW.2.2⟩
        refine q_istore (lv9 := [(4, .int r334), (0, .ref (ad 0)), (1, .int ((-2) : Int32)), (2, .int ((-1) : Int32)), (3, .int i)]) hM dX11_root_25 hl (by decide) rfl (fun ls hl => ?_)
        refine q_aload_n hM dX11_root_27 (lv_at hl 1 rfl) ?_
        refine w_get (v := .ref (ad 3)) hM hW FG_X11_19 lb_0 (rf_0_1 hW.2.1) dX11_root_28 ?_
        refine w_get (v := .int (0 : Int32)) hM hW FG_X11_116 lb_3 ((hW.2.2.1 3 2 (fun h => h)).trans (zf hF (by decide) rfl : fld g0 3 2 = .int (0 : Int32))) dX11_root_31 ?_
        refine q_iload_n hM dX11_root_34 (lv_at hl 4 rfl) ?_
        refine q_callS (As := [.int (0 : Int32), .int i]) (rest := []) hM hW.1 hR hC myX11_has (kAW (v_1_10 (List.mem_of_getElem? (i := 8) rfl)) rfl) (c_X11_has _ _ cA ad g0 (0 : Int32) i hW.2.1) ⟨by decide, by decide⟩ rfl rfl hl.1 (Nat.le_of_ble_eq_true rfl) dX11_root_35 (fun v g337 H locs hp hW1 => ?_)
        obtain ⟨r336, rfl, hr336, rfl⟩ := hp
        have hW : WS ad cA (fun i k => False) g0 K g0 H locs := ⟨hW1, hW.2.1, hW.2.2⟩
        have kr336 : r336.toInt = 0 := has_r0 hr336
        refine q_if_eq (tgt := 52) hM dX11_root_38 (by decide) (kr336 : r336.toInt = 0) (fun h38 => ?_) (fun h38 => ?_)
        · refine q_iinc (lv9 := fun z338 => [(3, .int z338), (4, .int r334), (0, .ref (ad 0)), (1, .int ((-2) : Int32)), (2, .int ((-1) : Int32))]) hM dX11_root_52 hl (kq := 4) rfl (by decide) (fun _ => rfl) (fun z338 ls hz338 hl => ?_)
          have tz338 := i_addT hz338 (rfl : i.toInt = i.toInt) (kc_1 : (Int32.ofInt 1).toInt = 1) (by omega) (by omega)
          refine q_goto (tgt := 7) hM dX11_root_55 (by decide) ?_
          exact ih7 z338 _ _ _ (by omega) (by omega) (by omega) (lv_sub hl [2, 3, 4, 0] rfl) hW
        · omega
  have := kc_0
  exact L7 _ (0 : Int32) _ _ _ (Nat.lt_succ_self _) (by omega) (by omega) (lv_sub hl [3, 2, 1, 0] rfl) hW

theorem dX11_skill_0 : decode cX11_skill 0 = .ok (.iload_n 1, 1) := by decide +kernel
theorem dX11_skill_1 : decode cX11_skill 1 = .ok (.iconst 0, 1) := by decide +kernel
theorem dX11_skill_2 : decode cX11_skill 2 = .ok (.iconst 4, 1) := by decide +kernel
theorem dX11_skill_3 : decode cX11_skill 3 = .ok (.invokestatic 112, 3) := by decide +kernel
theorem dX11_skill_6 : decode cX11_skill 6 = .ok (.ifCond .eq 22, 3) := by decide +kernel
theorem dX11_skill_9 : decode cX11_skill 9 = .ok (.iload_n 2, 1) := by decide +kernel
theorem dX11_skill_10 : decode cX11_skill 10 = .ok (.iconst 0, 1) := by decide +kernel
theorem dX11_skill_11 : decode cX11_skill 11 = .ok (.iconst 5, 1) := by decide +kernel
theorem dX11_skill_12 : decode cX11_skill 12 = .ok (.invokestatic 112, 3) := by decide +kernel
theorem dX11_skill_15 : decode cX11_skill 15 = .ok (.ifCond .eq 13, 3) := by decide +kernel
theorem dX11_skill_18 : decode cX11_skill 18 = .ok (.iload_n 3, 1) := by decide +kernel
theorem dX11_skill_19 : decode cX11_skill 19 = .ok (.iconst 0, 1) := by decide +kernel
theorem dX11_skill_20 : decode cX11_skill 20 = .ok (.bipush 99, 2) := by decide +kernel
theorem dX11_skill_22 : decode cX11_skill 22 = .ok (.invokestatic 112, 3) := by decide +kernel
theorem dX11_skill_25 : decode cX11_skill 25 = .ok (.ifCond .ne 5, 3) := by decide +kernel
theorem dX11_skill_28 : decode cX11_skill 28 = .ok (.iconst 0, 1) := by decide +kernel
theorem dX11_skill_29 : decode cX11_skill 29 = .ok (.ireturn, 1) := by decide +kernel
theorem dX11_skill_30 : decode cX11_skill 30 = .ok (.aload_n 0, 1) := by decide +kernel
theorem dX11_skill_31 : decode cX11_skill 31 = .ok (.getfield 90, 3) := by decide +kernel
theorem dX11_skill_34 : decode cX11_skill 34 = .ok (.dup, 1) := by decide +kernel
theorem dX11_skill_35 : decode cX11_skill 35 = .ok (.getfield 273, 3) := by decide +kernel
theorem dX11_skill_38 : decode cX11_skill 38 = .ok (.iconst 1, 1) := by decide +kernel
theorem dX11_skill_39 : decode cX11_skill 39 = .ok (.iload_n 1, 1) := by decide +kernel
theorem dX11_skill_40 : decode cX11_skill 40 = .ok (.ishl, 1) := by decide +kernel
theorem dX11_skill_41 : decode cX11_skill 41 = .ok (.ior, 1) := by decide +kernel
theorem dX11_skill_42 : decode cX11_skill 42 = .ok (.putfield 273, 3) := by decide +kernel
theorem dX11_skill_45 : decode cX11_skill 45 = .ok (.aload_n 0, 1) := by decide +kernel
theorem dX11_skill_46 : decode cX11_skill 46 = .ok (.getfield 90, 3) := by decide +kernel
theorem dX11_skill_49 : decode cX11_skill 49 = .ok (.getfield 276, 3) := by decide +kernel
theorem dX11_skill_52 : decode cX11_skill 52 = .ok (.iload_n 1, 1) := by decide +kernel
theorem dX11_skill_53 : decode cX11_skill 53 = .ok (.aaload, 1) := by decide +kernel
theorem dX11_skill_54 : decode cX11_skill 54 = .ok (.iload_n 2, 1) := by decide +kernel
theorem dX11_skill_55 : decode cX11_skill 55 = .ok (.iload_n 3, 1) := by decide +kernel
theorem dX11_skill_56 : decode cX11_skill 56 = .ok (.iastore, 1) := by decide +kernel
theorem dX11_skill_57 : decode cX11_skill 57 = .ok (.iconst 1, 1) := by decide +kernel
theorem dX11_skill_58 : decode cX11_skill 58 = .ok (.ireturn, 1) := by decide +kernel
theorem FP_X11_273 : FPX RX11 273 9 5 4 .int := ⟨⟨RX9, TX9, tyX9, rfl, wX9, by decide, kAW (v_1_2 (List.mem_of_getElem? (i := 13) rfl)) rfl, rfl, tyX9_ok, nmX9, by decide +kernel, rfl⟩, by decide +kernel⟩
theorem FG_X11_276 : FG RX11 276 9 5 1 := ⟨RX9, TX9, rfl, wX9, by decide, kAW (v_1_2 (List.mem_of_getElem? (i := 8) rfl)) rfl, rfl⟩
set_option maxRecDepth 100000 in
set_option maxHeartbeats 4000000 in
theorem p_X11_skill (l : Launch) (D : va_G) (cA : Nat → ClassId) (ad : Nat → Nat) (g0 : Nat → va_E) (a b c : Int32) (hSh : Shp ad cA g0) (hF : ∀ j, j < NN → g0 j = gF ad cA j) : CT l NN ad cA D yX11_skill cX11_skill 4 (some FieldType.boolean) (1, 22) [.ref (ad 0), .int a, .int b, .int c] g0 (fun v g' => ∃ r : Int32, v = some (.int r) ∧ Shp ad cA g' ∧ FR (fun i _ => i < 129) g0 g' ∧ ((r.toInt = 1 ∧ 0 ≤ a.toInt ∧ a.toInt ≤ 4 ∧ 0 ≤ b.toInt ∧ b.toInt ≤ 5 ∧ 0 ≤ c.toInt ∧ c.toInt ≤ 99) ∨ (r.toInt = 0 ∧ ¬ (0 ≤ a.toInt ∧ a.toInt ≤ 4 ∧ 0 ≤ b.toInt ∧ b.toInt ≤ 5 ∧ 0 ≤ c.toInt ∧ c.toInt ≤ 99)))) := by
  refine q_enterZ (by decide) (Nat.le_of_ble_eq_true rfl) (fun K H locs ls _ _ hM hW0 hR hC hE hl => ?_)
  have hl : lv_has ls 4 [(0, .ref (ad 0)), (1, .int a), (2, .int b), (3, .int c)] := hl
  have hW : WS ad cA (fun i k => (i = 102 ∧ (k = 4)) ∨ (113 ≤ i ∧ i < 118)) g0 K g0 H locs := ⟨hW0, hSh, FR.rf⟩
  have := kc_0
  have := kc_4
  have := kc_5
  have := kc_99
  have f339 : fld g0 102 4 = .int (0 : Int32) := (zf hF (by decide) rfl : fld g0 102 4 = .int (0 : Int32))
  refine q_iload_n hM dX11_skill_0 (lv_at hl 1 rfl) ?_
  refine q_iconst (v := (0 : Int32)) hM dX11_skill_1 (by decide) ?_
  refine q_iconst (v := (4 : Int32)) hM dX11_skill_2 (by decide) ?_
  refine q_callS (As := [.int a, .int (0 : Int32), .int (4 : Int32)]) (rest := []) hM hW.1 hR hC myX11_within (kAW (v_1_10 (List.mem_of_getElem? (i := 1) rfl)) rfl) (c_X11_within _ _ cA ad g0 a (0 : Int32) (4 : Int32) hW.2.1) ⟨by decide, by decide⟩ rfl rfl hl.1 (Nat.le_of_ble_eq_true rfl) dX11_skill_3 (fun v g341 H locs hp hW1 => ?_)
  obtain ⟨r340, rfl, hr340, rfl⟩ := hp
  have hW : WS ad cA (fun i k => (i = 102 ∧ (k = 4)) ∨ (113 ≤ i ∧ i < 118)) g0 K g0 H locs := ⟨hW1, hW.2.1, hW.2.2⟩
  refine q_if_eq (tgt := 28) hM dX11_skill_6 (by decide) (rfl : r340.toInt = r340.toInt) (fun h6 => ?_) (fun h6 => ?_)
  · refine q_iconst (v := (0 : Int32)) hM dX11_skill_28 (by decide) ?_
    exact hE _ _ _ _ _ _ hW.1 nz_0 ⟨_, rfl, hW.2.1, FR.wk hW.2.2 (fun i k h => by omega), (by have := kc_0; omega)⟩ dX11_skill_29
  · refine q_iload_n hM dX11_skill_9 (lv_at hl 2 rfl) ?_
    refine q_iconst (v := (0 : Int32)) hM dX11_skill_10 (by decide) ?_
    refine q_iconst (v := (5 : Int32)) hM dX11_skill_11 (by decide) ?_
    refine q_callS (As := [.int b, .int (0 : Int32), .int (5 : Int32)]) (rest := []) hM hW.1 hR hC myX11_within (kAW (v_1_10 (List.mem_of_getElem? (i := 1) rfl)) rfl) (c_X11_within _ _ cA ad g0 b (0 : Int32) (5 : Int32) hW.2.1) ⟨by decide, by decide⟩ rfl rfl hl.1 (Nat.le_of_ble_eq_true rfl) dX11_skill_12 (fun v g343 H locs hp hW1 => ?_)
    obtain ⟨r342, rfl, hr342, rfl⟩ := hp
    have hW : WS ad cA (fun i k => (i = 102 ∧ (k = 4)) ∨ (113 ≤ i ∧ i < 118)) g0 K g0 H locs := ⟨hW1, hW.2.1, hW.2.2⟩
    refine q_if_eq (tgt := 28) hM dX11_skill_15 (by decide) (rfl : r342.toInt = r342.toInt) (fun h15 => ?_) (fun h15 => ?_)
    · refine q_iconst (v := (0 : Int32)) hM dX11_skill_28 (by decide) ?_
      exact hE _ _ _ _ _ _ hW.1 nz_0 ⟨_, rfl, hW.2.1, FR.wk hW.2.2 (fun i k h => by omega), (by have := kc_0; omega)⟩ dX11_skill_29
    · refine q_iload_n hM dX11_skill_18 (lv_at hl 3 rfl) ?_
      refine q_iconst (v := (0 : Int32)) hM dX11_skill_19 (by decide) ?_
      refine q_bipush (v := (99 : Int32)) hM dX11_skill_20 (by decide) ?_
      refine q_callS (As := [.int c, .int (0 : Int32), .int (99 : Int32)]) (rest := []) hM hW.1 hR hC myX11_within (kAW (v_1_10 (List.mem_of_getElem? (i := 1) rfl)) rfl) (c_X11_within _ _ cA ad g0 c (0 : Int32) (99 : Int32) hW.2.1) ⟨by decide, by decide⟩ rfl rfl hl.1 (Nat.le_of_ble_eq_true rfl) dX11_skill_22 (fun v g345 H locs hp hW1 => ?_)
      obtain ⟨r344, rfl, hr344, rfl⟩ := hp
      have hW : WS ad cA (fun i k => (i = 102 ∧ (k = 4)) ∨ (113 ≤ i ∧ i < 118)) g0 K g0 H locs := ⟨hW1, hW.2.1, hW.2.2⟩
      refine q_if_ne (tgt := 30) hM dX11_skill_25 (by decide) (rfl : r344.toInt = r344.toInt) (fun h25 => ?_) (fun h25 => ?_)
      · refine q_aload_n hM dX11_skill_30 (lv_at hl 0 rfl) ?_
        refine w_get (v := .ref (ad 102)) hM hW FG_X11_90 lb_0 (rf_0_3 hW.2.1) dX11_skill_31 ?_
        refine q_dup hM dX11_skill_34 rfl ?_
        refine w_get (v := .int (0 : Int32)) hM hW FG_X11_273 lb_102 f339 dX11_skill_35 ?_
        refine q_iconst (v := (1 : Int32)) hM dX11_skill_38 (by decide) ?_
        refine q_iload_n hM dX11_skill_39 (lv_at hl 1 rfl) ?_
        refine q_ishl hM dX11_skill_40 (fun z346 hz346 => ?_)
        refine q_ior hM dX11_skill_41 (fun z347 hz347 => ?_)
        refine w_put hM hW FP_X11_273 lb_102 (by omega) (Or.inl ⟨_, rfl⟩) rfl rfl dX11_skill_42 (fun g348 H locs hW e1 e2 => ?_)
        have f349 : fld g348 102 4 = .int z347 := e1
        refine q_aload_n hM dX11_skill_45 (lv_at hl 0 rfl) ?_
        refine w_get (v := .ref (ad 102)) hM hW FG_X11_90 lb_0 (rf_0_3 hW.2.1) dX11_skill_46 ?_
        refine w_get (v := .ref (ad 112)) hM hW FG_X11_276 lb_102 (rf_102_1 hW.2.1) dX11_skill_49 ?_
        refine q_iload_n hM dX11_skill_52 (lv_at hl 1 rfl) ?_
        refine w_aald hM hW lb_112 (Or.inl rfl) (i_in (by omega) (by omega)) (aq (aq_112 hW.2.1) (by omega) (by omega)) dX11_skill_53 ?_
        refine q_iload_n hM dX11_skill_54 (lv_at hl 2 rfl) ?_
        refine q_iload_n hM dX11_skill_55 (lv_at hl 3 rfl) ?_
        refine w_iast hM hW (lr_113 (by omega)) (by omega) (i_in (by omega) (by omega)) dX11_skill_56 (fun g350 H locs hW e1 e2 => ?_)
        have f351 : fld g350 102 4 = .int z347 := (e2.1 102 4 (by unfold Only; omega)).trans f349
        refine q_iconst (v := (1 : Int32)) hM dX11_skill_57 (by decide) ?_
        exact hE _ _ _ _ _ _ hW.1 nz_1 ⟨_, rfl, hW.2.1, FR.wk hW.2.2 (fun i k h => by omega), (by have := kc_1; omega)⟩ dX11_skill_58
      · refine q_iconst (v := (0 : Int32)) hM dX11_skill_28 (by decide) ?_
        exact hE _ _ _ _ _ _ hW.1 nz_0 ⟨_, rfl, hW.2.1, FR.wk hW.2.2 (fun i k h => by omega), (by have := kc_0; omega)⟩ dX11_skill_29

theorem dX11_feed_0 : decode cX11_feed 0 = .ok (.aload_n 0, 1) := by decide +kernel
theorem dX11_feed_1 : decode cX11_feed 1 = .ok (.getfield 10, 3) := by decide +kernel
theorem dX11_feed_4 : decode cX11_feed 4 = .ok (.getfield 139, 3) := by decide +kernel
theorem dX11_feed_7 : decode cX11_feed 7 = .ok (.bipush 20, 2) := by decide +kernel
theorem dX11_feed_9 : decode cX11_feed 9 = .ok (.iadd, 1) := by decide +kernel
theorem dX11_feed_10 : decode cX11_feed 10 = .ok (.sipush 260, 3) := by decide +kernel
theorem dX11_feed_13 : decode cX11_feed 13 = .ok (.if_icmp .le 5, 3) := by decide +kernel
theorem dX11_feed_18 : decode cX11_feed 18 = .ok (.aload_n 0, 1) := by decide +kernel
theorem dX11_feed_19 : decode cX11_feed 19 = .ok (.getfield 10, 3) := by decide +kernel
theorem dX11_feed_22 : decode cX11_feed 22 = .ok (.iload_n 1, 1) := by decide +kernel
theorem dX11_feed_23 : decode cX11_feed 23 = .ok (.invokevirtual 142, 3) := by decide +kernel
theorem dX11_feed_26 : decode cX11_feed 26 = .ok (.aload_n 0, 1) := by decide +kernel
theorem dX11_feed_27 : decode cX11_feed 27 = .ok (.getfield 10, 3) := by decide +kernel
theorem dX11_feed_30 : decode cX11_feed 30 = .ok (.iload_n 2, 1) := by decide +kernel
theorem dX11_feed_31 : decode cX11_feed 31 = .ok (.invokevirtual 142, 3) := by decide +kernel
theorem dX11_feed_34 : decode cX11_feed 34 = .ok (.aload_n 0, 1) := by decide +kernel
theorem dX11_feed_35 : decode cX11_feed 35 = .ok (.getfield 10, 3) := by decide +kernel
theorem dX11_feed_38 : decode cX11_feed 38 = .ok (.iload_n 3, 1) := by decide +kernel
theorem dX11_feed_39 : decode cX11_feed 39 = .ok (.invokevirtual 142, 3) := by decide +kernel
theorem dX11_feed_42 : decode cX11_feed 42 = .ok (.aload_n 0, 1) := by decide +kernel
theorem dX11_feed_43 : decode cX11_feed 43 = .ok (.getfield 10, 3) := by decide +kernel
theorem dX11_feed_46 : decode cX11_feed 46 = .ok (.iload 4, 2) := by decide +kernel
theorem dX11_feed_48 : decode cX11_feed 48 = .ok (.invokevirtual 142, 3) := by decide +kernel
theorem dX11_feed_51 : decode cX11_feed 51 = .ok (.aload_n 0, 1) := by decide +kernel
theorem dX11_feed_52 : decode cX11_feed 52 = .ok (.getfield 10, 3) := by decide +kernel
theorem dX11_feed_55 : decode cX11_feed 55 = .ok (.iload 5, 2) := by decide +kernel
theorem dX11_feed_57 : decode cX11_feed 57 = .ok (.invokevirtual 142, 3) := by decide +kernel
theorem dX11_feed_60 : decode cX11_feed 60 = .ok (.aload_n 0, 1) := by decide +kernel
theorem dX11_feed_61 : decode cX11_feed 61 = .ok (.getfield 10, 3) := by decide +kernel
theorem dX11_feed_64 : decode cX11_feed 64 = .ok (.getfield 139, 3) := by decide +kernel
theorem dX11_feed_67 : decode cX11_feed 67 = .ok (.ireturn, 1) := by decide +kernel
theorem myX10_put : MI yX10_put cX10_put 3 none 1 := ⟨kAW (v_1_11 (List.mem_of_getElem? (i := 14) rfl)) rfl, kAW (v_0_0 (List.mem_of_getElem? (i := 2) rfl)) rfl, kAW (v_1_11 (List.mem_of_getElem? (i := 12) rfl)) rfl, kAW (v_1_11 (List.mem_of_getElem? (i := 13) rfl)) rfl, by decide, by decide, by decide +kernel⟩
set_option maxRecDepth 100000 in
set_option maxHeartbeats 4000000 in
theorem p_X11_feed (l : Launch) (D : va_G) (cA : Nat → ClassId) (ad : Nat → Nat) (g0 : Nat → va_E) (a b c d e : Int32) (hSh : Shp ad cA g0) (hF : ∀ j, j < NN → g0 j = gF ad cA j) : CT l NN ad cA D yX11_feed cX11_feed 6 (some FieldType.int) (1, 22) [.ref (ad 0), .int a, .int b, .int c, .int d, .int e] g0 (fun v g' => ∃ r : Int32, v = some (.int r) ∧ Shp ad cA g' ∧ FR (fun i _ => i < 129) g0 g' ∧ (r.toInt = 20)) := by
  refine q_enterI (by decide) (Nat.le_of_ble_eq_true rfl) rfl (fun K H locs ls _ _ hM hW0 hR hC hE hl => ?_)
  have hl : lv_has ls 6 [(0, .ref (ad 0)), (1, .int a), (2, .int b), (3, .int c), (4, .int d), (5, .int e)] := hl
  have hW : WS ad cA (fun i k => (i = 1 ∧ (k = 1)) ∨ i = 2) g0 K g0 H locs := ⟨hW0, hSh, FR.rf⟩
  have := kc_0
  have := kc_20
  have := kc_260
  have f352 : fld g0 1 1 = .int (0 : Int32) := (zf hF (by decide) rfl : fld g0 1 1 = .int (0 : Int32))
  refine q_aload_n hM dX11_feed_0 (lv_at hl 0 rfl) ?_
  refine w_get (v := .ref (ad 1)) hM hW FG_X11_10 lb_0 (rf_0_0 hW.2.1) dX11_feed_1 ?_
  refine w_get (v := .int (0 : Int32)) hM hW FG_X11_139 lb_1 f352 dX11_feed_4 ?_
  refine q_bipush (v := (20 : Int32)) hM dX11_feed_7 (by decide) ?_
  refine q_iadd hM dX11_feed_9 (fun z353 hz353 => ?_)
  have tz353 := i_addT hz353 (kc_0 : (0 : Int32).toInt = 0) (kc_20 : (20 : Int32).toInt = 20) (by omega) (by omega)
  refine q_sipush (v := (260 : Int32)) hM dX11_feed_10 (by decide) ?_
  refine q_icmp_le (tgt := 18) hM dX11_feed_13 (by decide) (rfl : z353.toInt = z353.toInt) (kc_260 : (260 : Int32).toInt = 260) (fun h13 => ?_) (fun h13 => ?_)
  · refine q_aload_n hM dX11_feed_18 (lv_at hl 0 rfl) ?_
    refine w_get (v := .ref (ad 1)) hM hW FG_X11_10 lb_0 (rf_0_0 hW.2.1) dX11_feed_19 ?_
    refine q_iload_n hM dX11_feed_22 (lv_at hl 1 rfl) ?_
    refine q_callV (As := [.int a]) (rest := []) hM hW.1 hR hC myX10_put (kAW (v_1_11 (List.mem_of_getElem? (i := 11) rfl)) rfl) (rfl : vwCl[10]? = some (RX10, TX10, 2)) rfl lb_1.1 (shO hW.2.1 lb_1) (c_X10_put _ _ cA ad g0 a (0 : Int32) hW.2.1 f352 (by have := kc_0; omega) (by have := kc_0; omega)) ⟨by decide, by decide⟩ rfl rfl hl.1 (Nat.le_of_ble_eq_true rfl) dX11_feed_23 (fun v g357 H locs hp hW1 => ?_)
    obtain ⟨v354, rfl, hs1, hf1, q355, q356⟩ := hp
    have hW : WS ad cA (fun i k => (i = 1 ∧ (k = 1)) ∨ i = 2) g0 K g357 H locs := ⟨hW1, hs1, hW.2.2.tr hf1 (fun i k h => by omega)⟩
    refine q_aload_n hM dX11_feed_26 (lv_at hl 0 rfl) ?_
    refine w_get (v := .ref (ad 1)) hM hW FG_X11_10 lb_0 (rf_0_0 hW.2.1) dX11_feed_27 ?_
    refine q_iload_n hM dX11_feed_30 (lv_at hl 2 rfl) ?_
    refine q_callV (As := [.int b]) (rest := []) hM hW.1 hR hC myX10_put (kAW (v_1_11 (List.mem_of_getElem? (i := 11) rfl)) rfl) (rfl : vwCl[10]? = some (RX10, TX10, 2)) rfl lb_1.1 (shO hW.2.1 lb_1) (c_X10_put _ _ cA ad g357 b v354 hW.2.1 q356 (by have := kc_0; omega) (by have := kc_0; omega)) ⟨by decide, by decide⟩ rfl rfl hl.1 (Nat.le_of_ble_eq_true rfl) dX11_feed_31 (fun v g361 H locs hp hW1 => ?_)
    obtain ⟨v358, rfl, hs1, hf1, q359, q360⟩ := hp
    have hW : WS ad cA (fun i k => (i = 1 ∧ (k = 1)) ∨ i = 2) g0 K g361 H locs := ⟨hW1, hs1, hW.2.2.tr hf1 (fun i k h => by omega)⟩
    refine q_aload_n hM dX11_feed_34 (lv_at hl 0 rfl) ?_
    refine w_get (v := .ref (ad 1)) hM hW FG_X11_10 lb_0 (rf_0_0 hW.2.1) dX11_feed_35 ?_
    refine q_iload_n hM dX11_feed_38 (lv_at hl 3 rfl) ?_
    refine q_callV (As := [.int c]) (rest := []) hM hW.1 hR hC myX10_put (kAW (v_1_11 (List.mem_of_getElem? (i := 11) rfl)) rfl) (rfl : vwCl[10]? = some (RX10, TX10, 2)) rfl lb_1.1 (shO hW.2.1 lb_1) (c_X10_put _ _ cA ad g361 c v358 hW.2.1 q360 (by have := kc_0; omega) (by have := kc_0; omega)) ⟨by decide, by decide⟩ rfl rfl hl.1 (Nat.le_of_ble_eq_true rfl) dX11_feed_39 (fun v g365 H locs hp hW1 => ?_)
    obtain ⟨v362, rfl, hs1, hf1, q363, q364⟩ := hp
    have hW : WS ad cA (fun i k => (i = 1 ∧ (k = 1)) ∨ i = 2) g0 K g365 H locs := ⟨hW1, hs1, hW.2.2.tr hf1 (fun i k h => by omega)⟩
    refine q_aload_n hM dX11_feed_42 (lv_at hl 0 rfl) ?_
    refine w_get (v := .ref (ad 1)) hM hW FG_X11_10 lb_0 (rf_0_0 hW.2.1) dX11_feed_43 ?_
    refine q_iload hM dX11_feed_46 (lv_at hl 4 rfl) ?_
    refine q_callV (As := [.int d]) (rest := []) hM hW.1 hR hC myX10_put (kAW (v_1_11 (List.mem_of_getElem? (i := 11) rfl)) rfl) (rfl : vwCl[10]? = some (RX10, TX10, 2)) rfl lb_1.1 (shO hW.2.1 lb_1) (c_X10_put _ _ cA ad g365 d v362 hW.2.1 q364 (by have := kc_0; omega) (by have := kc_0; omega)) ⟨by decide, by decide⟩ rfl rfl hl.1 (Nat.le_of_ble_eq_true rfl) dX11_feed_48 (fun v g369 H locs hp hW1 => ?_)
    obtain ⟨v366, rfl, hs1, hf1, q367, q368⟩ := hp
    have hW : WS ad cA (fun i k => (i = 1 ∧ (k = 1)) ∨ i = 2) g0 K g369 H locs := ⟨hW1, hs1, hW.2.2.tr hf1 (fun i k h => by omega)⟩
    refine q_aload_n hM dX11_feed_51 (lv_at hl 0 rfl) ?_
    refine w_get (v := .ref (ad 1)) hM hW FG_X11_10 lb_0 (rf_0_0 hW.2.1) dX11_feed_52 ?_
    refine q_iload hM dX11_feed_55 (lv_at hl 5 rfl) ?_
    refine q_callV (As := [.int e]) (rest := []) hM hW.1 hR hC myX10_put (kAW (v_1_11 (List.mem_of_getElem? (i := 11) rfl)) rfl) (rfl : vwCl[10]? = some (RX10, TX10, 2)) rfl lb_1.1 (shO hW.2.1 lb_1) (c_X10_put _ _ cA ad g369 e v366 hW.2.1 q368 (by have := kc_0; omega) (by have := kc_0; omega)) ⟨by decide, by decide⟩ rfl rfl hl.1 (Nat.le_of_ble_eq_true rfl) dX11_feed_57 (fun v g373 H locs hp hW1 => ?_)
    obtain ⟨v370, rfl, hs1, hf1, q371, q372⟩ := hp
    have hW : WS ad cA (fun i k => (i = 1 ∧ (k = 1)) ∨ i = 2) g0 K g373 H locs := ⟨hW1, hs1, hW.2.2.tr hf1 (fun i k h => by omega)⟩
    refine q_aload_n hM dX11_feed_60 (lv_at hl 0 rfl) ?_
    refine w_get (v := .ref (ad 1)) hM hW FG_X11_10 lb_0 (rf_0_0 hW.2.1) dX11_feed_61 ?_
    refine w_get (v := .int v370) hM hW FG_X11_139 lb_1 q372 dX11_feed_64 ?_
    exact hE _ _ _ _ _ _ hW.1 ⟨_, rfl, hW.2.1, FR.wk hW.2.2 (fun i k h => by omega), (by omega)⟩ dX11_feed_67
  · omega

theorem dX11_tried_0 : decode cX11_tried 0 = .ok (.aload_n 0, 1) := by decide +kernel
theorem dX11_tried_1 : decode cX11_tried 1 = .ok (.iload_n 1, 1) := by decide +kernel
theorem dX11_tried_2 : decode cX11_tried 2 = .ok (.iload_n 2, 1) := by decide +kernel
theorem dX11_tried_3 : decode cX11_tried 3 = .ok (.invokevirtual 183, 3) := by decide +kernel
theorem dX11_tried_6 : decode cX11_tried 6 = .ok (.ifCond .ne 5, 3) := by decide +kernel
theorem dX11_tried_9 : decode cX11_tried 9 = .ok (.iconst (-1), 1) := by decide +kernel
theorem dX11_tried_10 : decode cX11_tried 10 = .ok (.ireturn, 1) := by decide +kernel
theorem dX11_tried_11 : decode cX11_tried 11 = .ok (.aload_n 0, 1) := by decide +kernel
theorem dX11_tried_12 : decode cX11_tried 12 = .ok (.aload_n 0, 1) := by decide +kernel
theorem dX11_tried_13 : decode cX11_tried 13 = .ok (.getfield 39, 3) := by decide +kernel
theorem dX11_tried_16 : decode cX11_tried 16 = .ok (.invokevirtual 186, 3) := by decide +kernel
theorem dX11_tried_19 : decode cX11_tried 19 = .ok (.aload_n 0, 1) := by decide +kernel
theorem dX11_tried_20 : decode cX11_tried 20 = .ok (.getfield 83, 3) := by decide +kernel
theorem dX11_tried_23 : decode cX11_tried 23 = .ok (.iload_n 1, 1) := by decide +kernel
theorem dX11_tried_24 : decode cX11_tried 24 = .ok (.invokevirtual 180, 3) := by decide +kernel
theorem dX11_tried_27 : decode cX11_tried 27 = .ok (.aload_n 0, 1) := by decide +kernel
theorem dX11_tried_28 : decode cX11_tried 28 = .ok (.iload_n 2, 1) := by decide +kernel
theorem dX11_tried_29 : decode cX11_tried 29 = .ok (.invokevirtual 190, 3) := by decide +kernel
theorem dX11_tried_32 : decode cX11_tried 32 = .ok (.ireturn, 1) := by decide +kernel
theorem myX11_canBeTried : MI yX11_canBeTried cX11_canBeTried 3 (some FieldType.boolean) 2 := ⟨kAW (v_3_0 (List.mem_of_getElem? (i := 4) rfl)) rfl, kAW (v_0_0 (List.mem_of_getElem? (i := 1) rfl)) rfl, kAW (v_3_0 (List.mem_of_getElem? (i := 3) rfl)) rfl, kAW (tp_t1 (List.mem_of_getElem? (i := 6) rfl)) rfl, by decide, by decide, by decide +kernel⟩
theorem myX11_beginTrial : MI yX11_beginTrial cX11_beginTrial 2 none 1 := ⟨kAW (v_3_0 (List.mem_of_getElem? (i := 8) rfl)) rfl, kAW (v_0_0 (List.mem_of_getElem? (i := 1) rfl)) rfl, kAW (v_3_0 (List.mem_of_getElem? (i := 7) rfl)) rfl, kAW (tp_t1 (List.mem_of_getElem? (i := 7) rfl)) rfl, by decide, by decide, by decide +kernel⟩
theorem myX11_trialTells : MI yX11_trialTells cX11_trialTells 2 (some FieldType.int) 1 := ⟨kAW (v_3_1 (List.mem_of_getElem? (i := 0) rfl)) rfl, kAW (v_0_0 (List.mem_of_getElem? (i := 1) rfl)) rfl, kAW (v_3_0 (List.mem_of_getElem? (i := 15) rfl)) rfl, kAW (tp_t1 (List.mem_of_getElem? (i := 8) rfl)) rfl, by decide, by decide, by decide +kernel⟩
set_option maxRecDepth 100000 in
set_option maxHeartbeats 4000000 in
theorem p_X11_tried (l : Launch) (D : va_G) (cA : Nat → ClassId) (ad : Nat → Nat) (g0 : Nat → va_E) (a b : Int32) (hSh : Shp ad cA g0) (hF : ∀ j, j < NN → g0 j = gF ad cA j) : CT l NN ad cA D yX11_tried cX11_tried 3 (some FieldType.int) (2, 44) [.ref (ad 0), .int a, .int b] g0 (fun v g' => ∃ r : Int32, v = some (.int r) ∧ Shp ad cA g' ∧ FR (fun i _ => i < 129) g0 g' ∧ (((1 ≤ a.toInt ∧ a.toInt ≤ 60 ∧ 0 ≤ b.toInt ∧ b.toInt ≤ 3) ∧ r.toInt = 0) ∨ (¬ (1 ≤ a.toInt ∧ a.toInt ≤ 60 ∧ 0 ≤ b.toInt ∧ b.toInt ≤ 3) ∧ r.toInt = -1))) := by
  refine q_enterI (by decide) (Nat.le_of_ble_eq_true rfl) rfl (fun K H locs ls _ _ hM hW0 hR hC hE hl => ?_)
  have hl : lv_has ls 3 [(0, .ref (ad 0)), (1, .int a), (2, .int b)] := hl
  have hW : WS ad cA (fun i k => i = 43 ∨ i = 44 ∨ (46 ≤ i ∧ i < 54) ∨ (i = 42 ∧ (k = 3 ∨ k = 4 ∨ k = 5 ∨ k = 6 ∨ k = 7)) ∨ (i = 80 ∧ (k = 7 ∨ k = 8 ∨ k = 9 ∨ k = 10))) g0 K g0 H locs := ⟨hW0, hSh, FR.rf⟩
  have := kc_0
  have := kc_1
  have := kc_3
  have := kc_60
  have := kc_m1
  have f374 : fld g0 42 3 = .int (0 : Int32) := (zf hF (by decide) rfl : fld g0 42 3 = .int (0 : Int32))
  have f375 : fld g0 42 4 = .int (0 : Int32) := (zf hF (by decide) rfl : fld g0 42 4 = .int (0 : Int32))
  have f376 : fld g0 42 5 = .int (0 : Int32) := (zf hF (by decide) rfl : fld g0 42 5 = .int (0 : Int32))
  have f377 : fld g0 42 6 = .int (0 : Int32) := (zf hF (by decide) rfl : fld g0 42 6 = .int (0 : Int32))
  have f378 : fld g0 42 7 = .int (1 : Int32) := (zf hF (by decide) rfl : fld g0 42 7 = .int (1 : Int32))
  have f379 : fld g0 80 7 = .int (0 : Int32) := (zf hF (by decide) rfl : fld g0 80 7 = .int (0 : Int32))
  have f380 : fld g0 80 8 = .int (0 : Int32) := (zf hF (by decide) rfl : fld g0 80 8 = .int (0 : Int32))
  have f381 : fld g0 80 9 = .ref (ad 54) := (zf hF (by decide) rfl : fld g0 80 9 = .ref (ad 54))
  have f382 : fld g0 80 10 = .ref (ad 18) := (zf hF (by decide) rfl : fld g0 80 10 = .ref (ad 18))
  refine q_aload_n hM dX11_tried_0 (lv_at hl 0 rfl) ?_
  refine q_iload_n hM dX11_tried_1 (lv_at hl 1 rfl) ?_
  refine q_iload_n hM dX11_tried_2 (lv_at hl 2 rfl) ?_
  refine q_callV (As := [.int a, .int b]) (rest := []) hM hW.1 hR hC myX11_canBeTried (kAW (v_3_0 (List.mem_of_getElem? (i := 1) rfl)) rfl) (rfl : vwCl[11]? = some (RX11, TX11, 16)) rfl lb_0.1 (shO hW.2.1 lb_0) (c_X11_canBeTried _ _ cA ad g0 a b hW.2.1 hF) ⟨by decide, by decide⟩ rfl rfl hl.1 (Nat.le_of_ble_eq_true rfl) dX11_tried_3 (fun v g384 H locs hp hW1 => ?_)
  obtain ⟨r383, rfl, hr383, rfl⟩ := hp
  have hW : WS ad cA (fun i k => i = 43 ∨ i = 44 ∨ (46 ≤ i ∧ i < 54) ∨ (i = 42 ∧ (k = 3 ∨ k = 4 ∨ k = 5 ∨ k = 6 ∨ k = 7)) ∨ (i = 80 ∧ (k = 7 ∨ k = 8 ∨ k = 9 ∨ k = 10))) g0 K g0 H locs := ⟨hW1, hW.2.1, hW.2.2⟩
  refine q_if_ne (tgt := 11) hM dX11_tried_6 (by decide) (rfl : r383.toInt = r383.toInt) (fun h6 => ?_) (fun h6 => ?_)
  · refine q_aload_n hM dX11_tried_11 (lv_at hl 0 rfl) ?_
    refine q_aload_n hM dX11_tried_12 (lv_at hl 0 rfl) ?_
    refine w_get (v := .ref (ad 54)) hM hW FG_X11_39 lb_0 ((hW.2.2.1 0 13 (by omega)).trans (zf hF (by decide) rfl : fld g0 0 13 = .ref (ad 54))) dX11_tried_13 ?_
    refine q_callV (As := [.ref (ad 54)]) (rest := []) hM hW.1 hR hC myX11_beginTrial (kAW (v_3_0 (List.mem_of_getElem? (i := 5) rfl)) rfl) (rfl : vwCl[11]? = some (RX11, TX11, 16)) rfl lb_0.1 (shO hW.2.1 lb_0) (c_X11_beginTrial _ _ cA ad g0 54 (0 : Int32) (0 : Int32) (0 : Int32) (0 : Int32) (1 : Int32) hW.2.1 ((hW.2.2.1 18 3 (by omega)).trans (zf hF (by decide) rfl : fld g0 18 3 = .int (0 : Int32))) ((hW.2.2.1 18 4 (by omega)).trans (zf hF (by decide) rfl : fld g0 18 4 = .int (0 : Int32))) ((hW.2.2.1 18 5 (by omega)).trans (zf hF (by decide) rfl : fld g0 18 5 = .int (0 : Int32))) ((hW.2.2.1 18 6 (by omega)).trans (zf hF (by decide) rfl : fld g0 18 6 = .int (0 : Int32))) ((hW.2.2.1 18 7 (by omega)).trans (zf hF (by decide) rfl : fld g0 18 7 = .int (1 : Int32)))) ⟨by decide, by decide⟩ rfl rfl hl.1 (Nat.le_of_ble_eq_true rfl) dX11_tried_16 (fun v g394 H locs hp hW1 => ?_)
    obtain ⟨rfl, hs1, hf1, q385, q386, q387, q388, q389, q390, q391, q392, q393⟩ := hp
    have hW : WS ad cA (fun i k => i = 43 ∨ i = 44 ∨ (46 ≤ i ∧ i < 54) ∨ (i = 42 ∧ (k = 3 ∨ k = 4 ∨ k = 5 ∨ k = 6 ∨ k = 7)) ∨ (i = 80 ∧ (k = 7 ∨ k = 8 ∨ k = 9 ∨ k = 10))) g0 K g394 H locs := ⟨hW1, hs1, hW.2.2.tr hf1 (fun i k h => by omega)⟩
    refine q_aload_n hM dX11_tried_19 (lv_at hl 0 rfl) ?_
    refine w_get (v := .ref (ad 80)) hM hW FG_X11_83 lb_0 (rf_0_2 hW.2.1) dX11_tried_20 ?_
    refine q_iload_n hM dX11_tried_23 (lv_at hl 1 rfl) ?_
    refine q_callV (As := [.int a]) (rest := []) hM hW.1 hR hC myX2_go (kAW (v_2_9 (List.mem_of_getElem? (i := 15) rfl)) rfl) (rfl : vwCl[2]? = some (RX2, TX2, 11)) rfl lb_80.1 (shO hW.2.1 lb_80) (c_X2_go_42 _ _ cA ad g394 a (0 : Int32) hW.2.1 q393 q385 q386 (by have := kc_0; omega)) ⟨by decide, by decide⟩ rfl rfl hl.1 (Nat.le_of_ble_eq_true rfl) dX11_tried_24 (fun v g397 H locs hp hW1 => ?_)
    obtain ⟨v395, rfl, hs1, hf1, q396⟩ := hp
    have f398 : fld g397 42 3 = .int (0 : Int32) := (hf1.1 42 3 (by omega)).trans q385
    have f399 : fld g397 42 5 = .int (0 : Int32) := (hf1.1 42 5 (by omega)).trans q387
    have f400 : fld g397 42 6 = .int (0 : Int32) := (hf1.1 42 6 (by omega)).trans q388
    have f401 : fld g397 42 7 = .int (1 : Int32) := (hf1.1 42 7 (by omega)).trans q389
    have f402 : fld g397 80 7 = .int (0 : Int32) := (hf1.1 80 7 (by omega)).trans q390
    have f403 : fld g397 80 8 = .int (0 : Int32) := (hf1.1 80 8 (by omega)).trans q391
    have f404 : fld g397 80 9 = .ref (ad 54) := (hf1.1 80 9 (by omega)).trans q392
    have f405 : fld g397 80 10 = .ref (ad 42) := (hf1.1 80 10 (by omega)).trans q393
    have hW : WS ad cA (fun i k => i = 43 ∨ i = 44 ∨ (46 ≤ i ∧ i < 54) ∨ (i = 42 ∧ (k = 3 ∨ k = 4 ∨ k = 5 ∨ k = 6 ∨ k = 7)) ∨ (i = 80 ∧ (k = 7 ∨ k = 8 ∨ k = 9 ∨ k = 10))) g0 K g397 H locs := ⟨hW1, hs1, hW.2.2.tr hf1 (fun i k h => by omega)⟩
    refine q_aload_n hM dX11_tried_27 (lv_at hl 0 rfl) ?_
    refine q_iload_n hM dX11_tried_28 (lv_at hl 2 rfl) ?_
    refine q_callV (As := [.int b]) (rest := []) hM hW.1 hR hC myX11_trialTells (kAW (v_3_0 (List.mem_of_getElem? (i := 13) rfl)) rfl) (rfl : vwCl[11]? = some (RX11, TX11, 16)) rfl lb_0.1 (shO hW.2.1 lb_0) (c_X11_trialTells _ _ cA ad g397 b hW.2.1 f399 ((hW.2.2.1 18 5 (by omega)).trans (zf hF (by decide) rfl : fld g0 18 5 = .int (0 : Int32))) f402 f400 ((hW.2.2.1 18 6 (by omega)).trans (zf hF (by decide) rfl : fld g0 18 6 = .int (0 : Int32))) f403 (by omega) (by omega)) ⟨by decide, by decide⟩ rfl rfl hl.1 (Nat.le_of_ble_eq_true rfl) dX11_tried_29 (fun v g407 H locs hp hW1 => ?_)
    obtain ⟨r406, rfl, hr406, rfl⟩ := hp
    have hW : WS ad cA (fun i k => i = 43 ∨ i = 44 ∨ (46 ≤ i ∧ i < 54) ∨ (i = 42 ∧ (k = 3 ∨ k = 4 ∨ k = 5 ∨ k = 6 ∨ k = 7)) ∨ (i = 80 ∧ (k = 7 ∨ k = 8 ∨ k = 9 ∨ k = 10))) g0 K g397 H locs := ⟨hW1, hW.2.1, hW.2.2⟩
    exact hE _ _ _ _ _ _ hW.1 ⟨_, rfl, hW.2.1, FR.wk hW.2.2 (fun i k h => by omega), (by have := hr406; omega)⟩ dX11_tried_32
  · refine q_iconst (v := ((-1) : Int32)) hM dX11_tried_9 (by decide) ?_
    exact hE _ _ _ _ _ _ hW.1 ⟨_, rfl, hW.2.1, FR.wk hW.2.2 (fun i k h => by omega), (by have := kc_m1; omega)⟩ dX11_tried_10

theorem dX11_other_0 : decode cX11_other 0 = .ok (.aload_n 0, 1) := by decide +kernel
theorem dX11_other_1 : decode cX11_other 1 = .ok (.iload_n 1, 1) := by decide +kernel
theorem dX11_other_2 : decode cX11_other 2 = .ok (.iload_n 2, 1) := by decide +kernel
theorem dX11_other_3 : decode cX11_other 3 = .ok (.invokevirtual 183, 3) := by decide +kernel
theorem dX11_other_6 : decode cX11_other 6 = .ok (.ifCond .ne 5, 3) := by decide +kernel
theorem dX11_other_9 : decode cX11_other 9 = .ok (.iconst (-1), 1) := by decide +kernel
theorem dX11_other_10 : decode cX11_other 10 = .ok (.ireturn, 1) := by decide +kernel
theorem dX11_other_11 : decode cX11_other 11 = .ok (.aload_n 0, 1) := by decide +kernel
theorem dX11_other_12 : decode cX11_other 12 = .ok (.aload_n 0, 1) := by decide +kernel
theorem dX11_other_13 : decode cX11_other 13 = .ok (.getfield 43, 3) := by decide +kernel
theorem dX11_other_16 : decode cX11_other 16 = .ok (.invokevirtual 186, 3) := by decide +kernel
theorem dX11_other_19 : decode cX11_other 19 = .ok (.aload_n 0, 1) := by decide +kernel
theorem dX11_other_20 : decode cX11_other 20 = .ok (.getfield 83, 3) := by decide +kernel
theorem dX11_other_23 : decode cX11_other 23 = .ok (.iload_n 1, 1) := by decide +kernel
theorem dX11_other_24 : decode cX11_other 24 = .ok (.invokevirtual 180, 3) := by decide +kernel
theorem dX11_other_27 : decode cX11_other 27 = .ok (.aload_n 0, 1) := by decide +kernel
theorem dX11_other_28 : decode cX11_other 28 = .ok (.iload_n 2, 1) := by decide +kernel
theorem dX11_other_29 : decode cX11_other 29 = .ok (.invokevirtual 190, 3) := by decide +kernel
theorem dX11_other_32 : decode cX11_other 32 = .ok (.ireturn, 1) := by decide +kernel
set_option maxRecDepth 100000 in
set_option maxHeartbeats 4000000 in
theorem p_X11_other (l : Launch) (D : va_G) (cA : Nat → ClassId) (ad : Nat → Nat) (g0 : Nat → va_E) (a b : Int32) (hSh : Shp ad cA g0) (hF : ∀ j, j < NN → g0 j = gF ad cA j) : CT l NN ad cA D yX11_other cX11_other 3 (some FieldType.int) (2, 44) [.ref (ad 0), .int a, .int b] g0 (fun v g' => ∃ r : Int32, v = some (.int r) ∧ Shp ad cA g' ∧ FR (fun i _ => i < 129) g0 g' ∧ (((1 ≤ a.toInt ∧ a.toInt ≤ 60 ∧ 0 ≤ b.toInt ∧ b.toInt ≤ 3) ∧ r.toInt = 0) ∨ (¬ (1 ≤ a.toInt ∧ a.toInt ≤ 60 ∧ 0 ≤ b.toInt ∧ b.toInt ≤ 3) ∧ r.toInt = -1))) := by
  refine q_enterI (by decide) (Nat.le_of_ble_eq_true rfl) rfl (fun K H locs ls _ _ hM hW0 hR hC hE hl => ?_)
  have hl : lv_has ls 3 [(0, .ref (ad 0)), (1, .int a), (2, .int b)] := hl
  have hW : WS ad cA (fun i k => i = 43 ∨ i = 44 ∨ (46 ≤ i ∧ i < 54) ∨ (i = 42 ∧ (k = 3 ∨ k = 4 ∨ k = 5 ∨ k = 6 ∨ k = 7)) ∨ (i = 80 ∧ (k = 7 ∨ k = 8 ∨ k = 9 ∨ k = 10))) g0 K g0 H locs := ⟨hW0, hSh, FR.rf⟩
  have := kc_0
  have := kc_1
  have := kc_3
  have := kc_60
  have := kc_m1
  have f408 : fld g0 42 3 = .int (0 : Int32) := (zf hF (by decide) rfl : fld g0 42 3 = .int (0 : Int32))
  have f409 : fld g0 42 4 = .int (0 : Int32) := (zf hF (by decide) rfl : fld g0 42 4 = .int (0 : Int32))
  have f410 : fld g0 42 5 = .int (0 : Int32) := (zf hF (by decide) rfl : fld g0 42 5 = .int (0 : Int32))
  have f411 : fld g0 42 6 = .int (0 : Int32) := (zf hF (by decide) rfl : fld g0 42 6 = .int (0 : Int32))
  have f412 : fld g0 42 7 = .int (1 : Int32) := (zf hF (by decide) rfl : fld g0 42 7 = .int (1 : Int32))
  have f413 : fld g0 80 7 = .int (0 : Int32) := (zf hF (by decide) rfl : fld g0 80 7 = .int (0 : Int32))
  have f414 : fld g0 80 8 = .int (0 : Int32) := (zf hF (by decide) rfl : fld g0 80 8 = .int (0 : Int32))
  have f415 : fld g0 80 9 = .ref (ad 54) := (zf hF (by decide) rfl : fld g0 80 9 = .ref (ad 54))
  have f416 : fld g0 80 10 = .ref (ad 18) := (zf hF (by decide) rfl : fld g0 80 10 = .ref (ad 18))
  refine q_aload_n hM dX11_other_0 (lv_at hl 0 rfl) ?_
  refine q_iload_n hM dX11_other_1 (lv_at hl 1 rfl) ?_
  refine q_iload_n hM dX11_other_2 (lv_at hl 2 rfl) ?_
  refine q_callV (As := [.int a, .int b]) (rest := []) hM hW.1 hR hC myX11_canBeTried (kAW (v_3_0 (List.mem_of_getElem? (i := 1) rfl)) rfl) (rfl : vwCl[11]? = some (RX11, TX11, 16)) rfl lb_0.1 (shO hW.2.1 lb_0) (c_X11_canBeTried _ _ cA ad g0 a b hW.2.1 hF) ⟨by decide, by decide⟩ rfl rfl hl.1 (Nat.le_of_ble_eq_true rfl) dX11_other_3 (fun v g418 H locs hp hW1 => ?_)
  obtain ⟨r417, rfl, hr417, rfl⟩ := hp
  have hW : WS ad cA (fun i k => i = 43 ∨ i = 44 ∨ (46 ≤ i ∧ i < 54) ∨ (i = 42 ∧ (k = 3 ∨ k = 4 ∨ k = 5 ∨ k = 6 ∨ k = 7)) ∨ (i = 80 ∧ (k = 7 ∨ k = 8 ∨ k = 9 ∨ k = 10))) g0 K g0 H locs := ⟨hW1, hW.2.1, hW.2.2⟩
  refine q_if_ne (tgt := 11) hM dX11_other_6 (by decide) (rfl : r417.toInt = r417.toInt) (fun h6 => ?_) (fun h6 => ?_)
  · refine q_aload_n hM dX11_other_11 (lv_at hl 0 rfl) ?_
    refine q_aload_n hM dX11_other_12 (lv_at hl 0 rfl) ?_
    refine w_get (v := .ref (ad 61)) hM hW FG_X11_43 lb_0 (rf_0_9 hW.2.1) dX11_other_13 ?_
    refine q_callV (As := [.ref (ad 61)]) (rest := []) hM hW.1 hR hC myX11_beginTrial (kAW (v_3_0 (List.mem_of_getElem? (i := 5) rfl)) rfl) (rfl : vwCl[11]? = some (RX11, TX11, 16)) rfl lb_0.1 (shO hW.2.1 lb_0) (c_X11_beginTrial _ _ cA ad g0 61 (0 : Int32) (0 : Int32) (0 : Int32) (0 : Int32) (1 : Int32) hW.2.1 ((hW.2.2.1 18 3 (by omega)).trans (zf hF (by decide) rfl : fld g0 18 3 = .int (0 : Int32))) ((hW.2.2.1 18 4 (by omega)).trans (zf hF (by decide) rfl : fld g0 18 4 = .int (0 : Int32))) ((hW.2.2.1 18 5 (by omega)).trans (zf hF (by decide) rfl : fld g0 18 5 = .int (0 : Int32))) ((hW.2.2.1 18 6 (by omega)).trans (zf hF (by decide) rfl : fld g0 18 6 = .int (0 : Int32))) ((hW.2.2.1 18 7 (by omega)).trans (zf hF (by decide) rfl : fld g0 18 7 = .int (1 : Int32)))) ⟨by decide, by decide⟩ rfl rfl hl.1 (Nat.le_of_ble_eq_true rfl) dX11_other_16 (fun v g428 H locs hp hW1 => ?_)
    obtain ⟨rfl, hs1, hf1, q419, q420, q421, q422, q423, q424, q425, q426, q427⟩ := hp
    have hW : WS ad cA (fun i k => i = 43 ∨ i = 44 ∨ (46 ≤ i ∧ i < 54) ∨ (i = 42 ∧ (k = 3 ∨ k = 4 ∨ k = 5 ∨ k = 6 ∨ k = 7)) ∨ (i = 80 ∧ (k = 7 ∨ k = 8 ∨ k = 9 ∨ k = 10))) g0 K g428 H locs := ⟨hW1, hs1, hW.2.2.tr hf1 (fun i k h => by omega)⟩
    refine q_aload_n hM dX11_other_19 (lv_at hl 0 rfl) ?_
    refine w_get (v := .ref (ad 80)) hM hW FG_X11_83 lb_0 (rf_0_2 hW.2.1) dX11_other_20 ?_
    refine q_iload_n hM dX11_other_23 (lv_at hl 1 rfl) ?_
    refine q_callV (As := [.int a]) (rest := []) hM hW.1 hR hC myX2_go (kAW (v_2_9 (List.mem_of_getElem? (i := 15) rfl)) rfl) (rfl : vwCl[2]? = some (RX2, TX2, 11)) rfl lb_80.1 (shO hW.2.1 lb_80) (c_X2_go_42 _ _ cA ad g428 a (0 : Int32) hW.2.1 q427 q419 q420 (by have := kc_0; omega)) ⟨by decide, by decide⟩ rfl rfl hl.1 (Nat.le_of_ble_eq_true rfl) dX11_other_24 (fun v g431 H locs hp hW1 => ?_)
    obtain ⟨v429, rfl, hs1, hf1, q430⟩ := hp
    have f432 : fld g431 42 3 = .int (0 : Int32) := (hf1.1 42 3 (by omega)).trans q419
    have f433 : fld g431 42 5 = .int (0 : Int32) := (hf1.1 42 5 (by omega)).trans q421
    have f434 : fld g431 42 6 = .int (0 : Int32) := (hf1.1 42 6 (by omega)).trans q422
    have f435 : fld g431 42 7 = .int (1 : Int32) := (hf1.1 42 7 (by omega)).trans q423
    have f436 : fld g431 80 7 = .int (0 : Int32) := (hf1.1 80 7 (by omega)).trans q424
    have f437 : fld g431 80 8 = .int (0 : Int32) := (hf1.1 80 8 (by omega)).trans q425
    have f438 : fld g431 80 9 = .ref (ad 61) := (hf1.1 80 9 (by omega)).trans q426
    have f439 : fld g431 80 10 = .ref (ad 42) := (hf1.1 80 10 (by omega)).trans q427
    have hW : WS ad cA (fun i k => i = 43 ∨ i = 44 ∨ (46 ≤ i ∧ i < 54) ∨ (i = 42 ∧ (k = 3 ∨ k = 4 ∨ k = 5 ∨ k = 6 ∨ k = 7)) ∨ (i = 80 ∧ (k = 7 ∨ k = 8 ∨ k = 9 ∨ k = 10))) g0 K g431 H locs := ⟨hW1, hs1, hW.2.2.tr hf1 (fun i k h => by omega)⟩
    refine q_aload_n hM dX11_other_27 (lv_at hl 0 rfl) ?_
    refine q_iload_n hM dX11_other_28 (lv_at hl 2 rfl) ?_
    refine q_callV (As := [.int b]) (rest := []) hM hW.1 hR hC myX11_trialTells (kAW (v_3_0 (List.mem_of_getElem? (i := 13) rfl)) rfl) (rfl : vwCl[11]? = some (RX11, TX11, 16)) rfl lb_0.1 (shO hW.2.1 lb_0) (c_X11_trialTells _ _ cA ad g431 b hW.2.1 f433 ((hW.2.2.1 18 5 (by omega)).trans (zf hF (by decide) rfl : fld g0 18 5 = .int (0 : Int32))) f436 f434 ((hW.2.2.1 18 6 (by omega)).trans (zf hF (by decide) rfl : fld g0 18 6 = .int (0 : Int32))) f437 (by omega) (by omega)) ⟨by decide, by decide⟩ rfl rfl hl.1 (Nat.le_of_ble_eq_true rfl) dX11_other_29 (fun v g441 H locs hp hW1 => ?_)
    obtain ⟨r440, rfl, hr440, rfl⟩ := hp
    have hW : WS ad cA (fun i k => i = 43 ∨ i = 44 ∨ (46 ≤ i ∧ i < 54) ∨ (i = 42 ∧ (k = 3 ∨ k = 4 ∨ k = 5 ∨ k = 6 ∨ k = 7)) ∨ (i = 80 ∧ (k = 7 ∨ k = 8 ∨ k = 9 ∨ k = 10))) g0 K g431 H locs := ⟨hW1, hW.2.1, hW.2.2⟩
    exact hE _ _ _ _ _ _ hW.1 ⟨_, rfl, hW.2.1, FR.wk hW.2.2 (fun i k h => by omega), (by have := hr440; omega)⟩ dX11_other_32
  · refine q_iconst (v := ((-1) : Int32)) hM dX11_other_9 (by decide) ?_
    exact hE _ _ _ _ _ _ hW.1 ⟨_, rfl, hW.2.1, FR.wk hW.2.2 (fun i k h => by omega), (by have := kc_m1; omega)⟩ dX11_other_10

theorem dX11_count_0 : decode cX11_count 0 = .ok (.aload_n 0, 1) := by decide +kernel
theorem dX11_count_1 : decode cX11_count 1 = .ok (.getfield 83, 3) := by decide +kernel
theorem dX11_count_4 : decode cX11_count 4 = .ok (.getfield 158, 3) := by decide +kernel
theorem dX11_count_7 : decode cX11_count 7 = .ok (.iload_n 1, 1) := by decide +kernel
theorem dX11_count_8 : decode cX11_count 8 = .ok (.bipush 20, 2) := by decide +kernel
theorem dX11_count_10 : decode cX11_count 10 = .ok (.isub, 1) := by decide +kernel
theorem dX11_count_11 : decode cX11_count 11 = .ok (.invokestatic 123, 3) := by decide +kernel
theorem dX11_count_14 : decode cX11_count 14 = .ok (.ifCond .eq 19, 3) := by decide +kernel
theorem dX11_count_33 : decode cX11_count 33 = .ok (.iload_n 1, 1) := by decide +kernel
theorem dX11_count_34 : decode cX11_count 34 = .ok (.bipush 31, 2) := by decide +kernel
theorem dX11_count_36 : decode cX11_count 36 = .ok (.bipush 39, 2) := by decide +kernel
theorem dX11_count_38 : decode cX11_count 38 = .ok (.invokestatic 112, 3) := by decide +kernel
theorem dX11_count_41 : decode cX11_count 41 = .ok (.ifCond .eq 28, 3) := by decide +kernel
theorem dX11_count_44 : decode cX11_count 44 = .ok (.aload_n 0, 1) := by decide +kernel
theorem dX11_count_45 : decode cX11_count 45 = .ok (.getfield 83, 3) := by decide +kernel
theorem dX11_count_48 : decode cX11_count 48 = .ok (.getfield 164, 3) := by decide +kernel
theorem dX11_count_51 : decode cX11_count 51 = .ok (.iload_n 1, 1) := by decide +kernel
theorem dX11_count_52 : decode cX11_count 52 = .ok (.bipush 30, 2) := by decide +kernel
theorem dX11_count_54 : decode cX11_count 54 = .ok (.isub, 1) := by decide +kernel
theorem dX11_count_55 : decode cX11_count 55 = .ok (.iaload, 1) := by decide +kernel
theorem dX11_count_56 : decode cX11_count 56 = .ok (.istore_n 2, 1) := by decide +kernel
theorem dX11_count_57 : decode cX11_count 57 = .ok (.iload_n 2, 1) := by decide +kernel
theorem dX11_count_58 : decode cX11_count 58 = .ok (.iconst (-1), 1) := by decide +kernel
theorem dX11_count_59 : decode cX11_count 59 = .ok (.if_icmp .ne 8, 3) := by decide +kernel
theorem dX11_count_62 : decode cX11_count 62 = .ok (.bipush (-2), 2) := by decide +kernel
theorem dX11_count_64 : decode cX11_count 64 = .ok (.goto 4, 3) := by decide +kernel
theorem dX11_count_68 : decode cX11_count 68 = .ok (.ireturn, 1) := by decide +kernel
theorem dX11_count_69 : decode cX11_count 69 = .ok (.aload_n 0, 1) := by decide +kernel
theorem dX11_count_70 : decode cX11_count 70 = .ok (.getfield 19, 3) := by decide +kernel
theorem dX11_count_73 : decode cX11_count 73 = .ok (.getfield 116, 3) := by decide +kernel
theorem dX11_count_76 : decode cX11_count 76 = .ok (.iload_n 1, 1) := by decide +kernel
theorem dX11_count_77 : decode cX11_count 77 = .ok (.bipush 40, 2) := by decide +kernel
theorem dX11_count_79 : decode cX11_count 79 = .ok (.isub, 1) := by decide +kernel
theorem dX11_count_80 : decode cX11_count 80 = .ok (.invokestatic 123, 3) := by decide +kernel
theorem dX11_count_83 : decode cX11_count 83 = .ok (.ifCond .eq 16, 3) := by decide +kernel
theorem dX11_count_99 : decode cX11_count 99 = .ok (.iload_n 1, 1) := by decide +kernel
theorem dX11_count_100 : decode cX11_count 100 = .ok (.tableswitch 160 0 11 #[64, 72, 80, 88, 96, 104, 112, 120, 128, 136, 144, 152], 64) := by decide +kernel
theorem dX11_count_164 : decode cX11_count 164 = .ok (.aload_n 0, 1) := by decide +kernel
theorem dX11_count_165 : decode cX11_count 165 = .ok (.getfield 26, 3) := by decide +kernel
theorem dX11_count_168 : decode cX11_count 168 = .ok (.getfield 322, 3) := by decide +kernel
theorem dX11_count_171 : decode cX11_count 171 = .ok (.ireturn, 1) := by decide +kernel
theorem dX11_count_172 : decode cX11_count 172 = .ok (.aload_n 0, 1) := by decide +kernel
theorem dX11_count_173 : decode cX11_count 173 = .ok (.getfield 26, 3) := by decide +kernel
theorem dX11_count_176 : decode cX11_count 176 = .ok (.getfield 173, 3) := by decide +kernel
theorem dX11_count_179 : decode cX11_count 179 = .ok (.ireturn, 1) := by decide +kernel
theorem dX11_count_180 : decode cX11_count 180 = .ok (.aload_n 0, 1) := by decide +kernel
theorem dX11_count_181 : decode cX11_count 181 = .ok (.getfield 26, 3) := by decide +kernel
theorem dX11_count_184 : decode cX11_count 184 = .ok (.getfield 328, 3) := by decide +kernel
theorem dX11_count_187 : decode cX11_count 187 = .ok (.ireturn, 1) := by decide +kernel
theorem dX11_count_188 : decode cX11_count 188 = .ok (.aload_n 0, 1) := by decide +kernel
theorem dX11_count_189 : decode cX11_count 189 = .ok (.getfield 19, 3) := by decide +kernel
theorem dX11_count_192 : decode cX11_count 192 = .ok (.getfield 116, 3) := by decide +kernel
theorem dX11_count_195 : decode cX11_count 195 = .ok (.ireturn, 1) := by decide +kernel
theorem dX11_count_196 : decode cX11_count 196 = .ok (.aload_n 0, 1) := by decide +kernel
theorem dX11_count_197 : decode cX11_count 197 = .ok (.getfield 26, 3) := by decide +kernel
theorem dX11_count_200 : decode cX11_count 200 = .ok (.getfield 135, 3) := by decide +kernel
theorem dX11_count_203 : decode cX11_count 203 = .ok (.ireturn, 1) := by decide +kernel
theorem dX11_count_204 : decode cX11_count 204 = .ok (.aload_n 0, 1) := by decide +kernel
theorem dX11_count_205 : decode cX11_count 205 = .ok (.getfield 83, 3) := by decide +kernel
theorem dX11_count_208 : decode cX11_count 208 = .ok (.getfield 158, 3) := by decide +kernel
theorem dX11_count_211 : decode cX11_count 211 = .ok (.ireturn, 1) := by decide +kernel
theorem dX11_count_212 : decode cX11_count 212 = .ok (.aload_n 0, 1) := by decide +kernel
theorem dX11_count_213 : decode cX11_count 213 = .ok (.getfield 90, 3) := by decide +kernel
theorem dX11_count_216 : decode cX11_count 216 = .ok (.getfield 273, 3) := by decide +kernel
theorem dX11_count_219 : decode cX11_count 219 = .ok (.ireturn, 1) := by decide +kernel
theorem dX11_count_220 : decode cX11_count 220 = .ok (.aload_n 0, 1) := by decide +kernel
theorem dX11_count_221 : decode cX11_count 221 = .ok (.getfield 39, 3) := by decide +kernel
theorem dX11_count_224 : decode cX11_count 224 = .ok (.getfield 196, 3) := by decide +kernel
theorem dX11_count_227 : decode cX11_count 227 = .ok (.ireturn, 1) := by decide +kernel
theorem dX11_count_228 : decode cX11_count 228 = .ok (.aload_n 0, 1) := by decide +kernel
theorem dX11_count_229 : decode cX11_count 229 = .ok (.getfield 10, 3) := by decide +kernel
theorem dX11_count_232 : decode cX11_count 232 = .ok (.getfield 139, 3) := by decide +kernel
theorem dX11_count_235 : decode cX11_count 235 = .ok (.ireturn, 1) := by decide +kernel
theorem dX11_count_236 : decode cX11_count 236 = .ok (.aload_n 0, 1) := by decide +kernel
theorem dX11_count_237 : decode cX11_count 237 = .ok (.getfield 26, 3) := by decide +kernel
theorem dX11_count_240 : decode cX11_count 240 = .ok (.getfield 316, 3) := by decide +kernel
theorem dX11_count_243 : decode cX11_count 243 = .ok (.ireturn, 1) := by decide +kernel
theorem dX11_count_244 : decode cX11_count 244 = .ok (.aload_n 0, 1) := by decide +kernel
theorem dX11_count_245 : decode cX11_count 245 = .ok (.getfield 83, 3) := by decide +kernel
theorem dX11_count_248 : decode cX11_count 248 = .ok (.getfield 167, 3) := by decide +kernel
theorem dX11_count_251 : decode cX11_count 251 = .ok (.ireturn, 1) := by decide +kernel
theorem dX11_count_252 : decode cX11_count 252 = .ok (.aload_n 0, 1) := by decide +kernel
theorem dX11_count_253 : decode cX11_count 253 = .ok (.getfield 83, 3) := by decide +kernel
theorem dX11_count_256 : decode cX11_count 256 = .ok (.getfield 170, 3) := by decide +kernel
theorem dX11_count_259 : decode cX11_count 259 = .ok (.ireturn, 1) := by decide +kernel
theorem dX11_count_260 : decode cX11_count 260 = .ok (.iconst (-1), 1) := by decide +kernel
theorem dX11_count_261 : decode cX11_count 261 = .ok (.ireturn, 1) := by decide +kernel
theorem FG_X11_158 : FG RX11 158 2 11 4 := ⟨RX2, TX2, rfl, wX2, by decide, kAW (v_0_14 (List.mem_of_getElem? (i := 11) rfl)) rfl, rfl⟩
theorem FG_X11_316 : FG RX11 316 7 8 7 := ⟨RX7, TX7, rfl, wX7, by decide, kAW (v_0_6 (List.mem_of_getElem? (i := 2) rfl)) rfl, rfl⟩
theorem FG_X11_167 : FG RX11 167 2 11 5 := ⟨RX2, TX2, rfl, wX2, by decide, kAW (v_0_14 (List.mem_of_getElem? (i := 13) rfl)) rfl, rfl⟩
theorem FG_X11_170 : FG RX11 170 2 11 6 := ⟨RX2, TX2, rfl, wX2, by decide, kAW (v_0_14 (List.mem_of_getElem? (i := 15) rfl)) rfl, rfl⟩
set_option maxRecDepth 100000 in
set_option maxHeartbeats 4000000 in
theorem p_X11_count (l : Launch) (D : va_G) (cA : Nat → ClassId) (ad : Nat → Nat) (g0 : Nat → va_E) (a : Int32) (hSh : Shp ad cA g0) (hF : ∀ j, j < NN → g0 j = gF ad cA j) : CT l NN ad cA D yX11_count cX11_count 3 (some FieldType.int) (1, 22) [.ref (ad 0), .int a] g0 (fun v g' => ∃ r : Int32, v = some (.int r) ∧ Shp ad cA g' ∧ FR (fun i _ => i < 129) g0 g' ∧ ((a.toInt = 9 ∧ r.toInt = 1) ∨ (0 ≤ a.toInt ∧ a.toInt ≤ 11 ∧ a.toInt ≠ 9 ∧ r.toInt = 0) ∨ (31 ≤ a.toInt ∧ a.toInt ≤ 39 ∧ r.toInt = -2) ∨ ((a.toInt < 0 ∨ (11 < a.toInt ∧ a.toInt < 31) ∨ 39 < a.toInt) ∧ r.toInt = -1))) := by
  refine q_enterI (by decide) (Nat.le_of_ble_eq_true rfl) rfl (fun K H locs ls _ _ hM hW0 hR hC hE hl => ?_)
  have hl : lv_has ls 3 [(0, .ref (ad 0)), (1, .int a)] := hl
  have hW : WS ad cA (fun i k => False) g0 K g0 H locs := ⟨hW0, hSh, FR.rf⟩
  have := kc_0
  have := kc_m1
  have := kc_m2
  have := kc_31
  have := kc_39
  refine q_aload_n hM dX11_count_0 (lv_at hl 0 rfl) ?_
  refine w_get (v := .ref (ad 80)) hM hW FG_X11_83 lb_0 (rf_0_2 hW.2.1) dX11_count_1 ?_
  refine w_get (v := .int (0 : Int32)) hM hW FG_X11_158 lb_80 ((hW.2.2.1 80 4 (fun h => h)).trans (zf hF (by decide) rfl : fld g0 80 4 = .int (0 : Int32))) dX11_count_4 ?_
  refine q_iload_n hM dX11_count_7 (lv_at hl 1 rfl) ?_
  refine q_bipush (v := (20 : Int32)) hM dX11_count_8 (by decide) ?_
  refine q_isub hM dX11_count_10 (fun z442 hz442 => ?_)
  refine q_callS (As := [.int (0 : Int32), .int z442]) (rest := []) hM hW.1 hR hC myX11_has (kAW (v_1_10 (List.mem_of_getElem? (i := 8) rfl)) rfl) (c_X11_has _ _ cA ad g0 (0 : Int32) z442 hW.2.1) ⟨by decide, by decide⟩ rfl rfl hl.1 (Nat.le_of_ble_eq_true rfl) dX11_count_11 (fun v g444 H locs hp hW1 => ?_)
  obtain ⟨r443, rfl, hr443, rfl⟩ := hp
  have hW : WS ad cA (fun i k => False) g0 K g0 H locs := ⟨hW1, hW.2.1, hW.2.2⟩
  have kr443 : r443.toInt = 0 := has_r0 hr443
  refine q_if_eq (tgt := 33) hM dX11_count_14 (by decide) (kr443 : r443.toInt = 0) (fun h14 => ?_) (fun h14 => ?_)
  · refine q_iload_n hM dX11_count_33 (lv_at hl 1 rfl) ?_
    refine q_bipush (v := (31 : Int32)) hM dX11_count_34 (by decide) ?_
    refine q_bipush (v := (39 : Int32)) hM dX11_count_36 (by decide) ?_
    refine q_callS (As := [.int a, .int (31 : Int32), .int (39 : Int32)]) (rest := []) hM hW.1 hR hC myX11_within (kAW (v_1_10 (List.mem_of_getElem? (i := 1) rfl)) rfl) (c_X11_within _ _ cA ad g0 a (31 : Int32) (39 : Int32) hW.2.1) ⟨by decide, by decide⟩ rfl rfl hl.1 (Nat.le_of_ble_eq_true rfl) dX11_count_38 (fun v g446 H locs hp hW1 => ?_)
    obtain ⟨r445, rfl, hr445, rfl⟩ := hp
    have hW : WS ad cA (fun i k => False) g0 K g0 H locs := ⟨hW1, hW.2.1, hW.2.2⟩
    refine q_if_eq (tgt := 69) hM dX11_count_41 (by decide) (rfl : r445.toInt = r445.toInt) (fun h41 => ?_) (fun h41 => ?_)
    · refine q_aload_n hM dX11_count_69 (lv_at hl 0 rfl) ?_
      refine w_get (v := .ref (ad 3)) hM hW FG_X11_19 lb_0 (rf_0_1 hW.2.1) dX11_count_70 ?_
      refine w_get (v := .int (0 : Int32)) hM hW FG_X11_116 lb_3 ((hW.2.2.1 3 2 (fun h => h)).trans (zf hF (by decide) rfl : fld g0 3 2 = .int (0 : Int32))) dX11_count_73 ?_
      refine q_iload_n hM dX11_count_76 (lv_at hl 1 rfl) ?_
      refine q_bipush (v := (40 : Int32)) hM dX11_count_77 (by decide) ?_
      refine q_isub hM dX11_count_79 (fun z447 hz447 => ?_)
      refine q_callS (As := [.int (0 : Int32), .int z447]) (rest := []) hM hW.1 hR hC myX11_has (kAW (v_1_10 (List.mem_of_getElem? (i := 8) rfl)) rfl) (c_X11_has _ _ cA ad g0 (0 : Int32) z447 hW.2.1) ⟨by decide, by decide⟩ rfl rfl hl.1 (Nat.le_of_ble_eq_true rfl) dX11_count_80 (fun v g449 H locs hp hW1 => ?_)
      obtain ⟨r448, rfl, hr448, rfl⟩ := hp
      have hW : WS ad cA (fun i k => False) g0 K g0 H locs := ⟨hW1, hW.2.1, hW.2.2⟩
      have kr448 : r448.toInt = 0 := has_r0 hr448
      refine q_if_eq (tgt := 99) hM dX11_count_83 (by decide) (kr448 : r448.toInt = 0) (fun h83 => ?_) (fun h83 => ?_)
      · refine q_iload_n hM dX11_count_99 (lv_at hl 1 rfl) ?_
        rcases (show a.toInt < 0 ∨ 11 < a.toInt ∨ a.toInt = 0 ∨ a.toInt = 1 ∨ a.toInt = 2 ∨ a.toInt = 3 ∨ a.toInt = 4 ∨ a.toInt = 5 ∨ a.toInt = 6 ∨ a.toInt = 7 ∨ a.toInt = 8 ∨ a.toInt = 9 ∨ a.toInt = 10 ∨ a.toInt = 11 from by omega) with h100 | h100 | h100 | h100 | h100 | h100 | h100 | h100 | h100 | h100 | h100 | h100 | h100 | h100
        · refine q_tableOut (tgt := 260) hM dX11_count_100 rfl (by omega) (by decide) ?_
          refine q_iconst (v := ((-1) : Int32)) hM dX11_count_260 (by decide) ?_
          exact hE _ _ _ _ _ _ hW.1 ⟨_, rfl, hW.2.1, FR.wk hW.2.2 (fun _ _ h => h.elim), (by have := kc_m1; omega)⟩ dX11_count_261
        · refine q_tableOut (tgt := 260) hM dX11_count_100 rfl (by omega) (by decide) ?_
          refine q_iconst (v := ((-1) : Int32)) hM dX11_count_260 (by decide) ?_
          exact hE _ _ _ _ _ _ hW.1 ⟨_, rfl, hW.2.1, FR.wk hW.2.2 (fun _ _ h => h.elim), (by have := kc_m1; omega)⟩ dX11_count_261
        · refine q_tableIn (tgt := 164) hM dX11_count_100 ((rfl : a.toInt = _).trans h100) (by decide) (by decide) rfl (by decide) ?_
          refine q_aload_n hM dX11_count_164 (lv_at hl 0 rfl) ?_
          refine w_get (v := .ref (ad 18)) hM hW FG_X11_26 lb_0 (rf_0_10 hW.2.1) dX11_count_165 ?_
          refine w_get (v := .int (0 : Int32)) hM hW FG_X11_322 lb_18 ((hW.2.2.1 18 4 (fun h => h)).trans (zf hF (by decide) rfl : fld g0 18 4 = .int (0 : Int32))) dX11_count_168 ?_
          exact hE _ _ _ _ _ _ hW.1 ⟨_, rfl, hW.2.1, FR.wk hW.2.2 (fun _ _ h => h.elim), (by have := kc_0; omega)⟩ dX11_count_171
        · refine q_tableIn (tgt := 172) hM dX11_count_100 ((rfl : a.toInt = _).trans h100) (by decide) (by decide) rfl (by decide) ?_
          refine q_aload_n hM dX11_count_172 (lv_at hl 0 rfl) ?_
          refine w_get (v := .ref (ad 18)) hM hW FG_X11_26 lb_0 (rf_0_10 hW.2.1) dX11_count_173 ?_
          refine w_get (v := .int (0 : Int32)) hM hW FG_X11_173 lb_18 ((hW.2.2.1 18 5 (fun h => h)).trans (zf hF (by decide) rfl : fld g0 18 5 = .int (0 : Int32))) dX11_count_176 ?_
          exact hE _ _ _ _ _ _ hW.1 ⟨_, rfl, hW.2.1, FR.wk hW.2.2 (fun _ _ h => h.elim), (by have := kc_0; omega)⟩ dX11_count_179
        · refine q_tableIn (tgt := 180) hM dX11_count_100 ((rfl : a.toInt = _).trans h100) (by decide) (by decide) rfl (by decide) ?_
          refine q_aload_n hM dX11_count_180 (lv_at hl 0 rfl) ?_
          refine w_get (v := .ref (ad 18)) hM hW FG_X11_26 lb_0 (rf_0_10 hW.2.1) dX11_count_181 ?_
          refine w_get (v := .int (0 : Int32)) hM hW FG_X11_328 lb_18 ((hW.2.2.1 18 6 (fun h => h)).trans (zf hF (by decide) rfl : fld g0 18 6 = .int (0 : Int32))) dX11_count_184 ?_
          exact hE _ _ _ _ _ _ hW.1 ⟨_, rfl, hW.2.1, FR.wk hW.2.2 (fun _ _ h => h.elim), (by have := kc_0; omega)⟩ dX11_count_187
        · refine q_tableIn (tgt := 188) hM dX11_count_100 ((rfl : a.toInt = _).trans h100) (by decide) (by decide) rfl (by decide) ?_
          refine q_aload_n hM dX11_count_188 (lv_at hl 0 rfl) ?_
          refine w_get (v := .ref (ad 3)) hM hW FG_X11_19 lb_0 (rf_0_1 hW.2.1) dX11_count_189 ?_
          refine w_get (v := .int (0 : Int32)) hM hW FG_X11_116 lb_3 ((hW.2.2.1 3 2 (fun h => h)).trans (zf hF (by decide) rfl : fld g0 3 2 = .int (0 : Int32))) dX11_count_192 ?_
          exact hE _ _ _ _ _ _ hW.1 ⟨_, rfl, hW.2.1, FR.wk hW.2.2 (fun _ _ h => h.elim), (by have := kc_0; omega)⟩ dX11_count_195
        · refine q_tableIn (tgt := 196) hM dX11_count_100 ((rfl : a.toInt = _).trans h100) (by decide) (by decide) rfl (by decide) ?_
          refine q_aload_n hM dX11_count_196 (lv_at hl 0 rfl) ?_
          refine w_get (v := .ref (ad 18)) hM hW FG_X11_26 lb_0 (rf_0_10 hW.2.1) dX11_count_197 ?_
          refine w_get (v := .int (0 : Int32)) hM hW FG_X11_135 lb_18 ((hW.2.2.1 18 3 (fun h => h)).trans (zf hF (by decide) rfl : fld g0 18 3 = .int (0 : Int32))) dX11_count_200 ?_
          exact hE _ _ _ _ _ _ hW.1 ⟨_, rfl, hW.2.1, FR.wk hW.2.2 (fun _ _ h => h.elim), (by have := kc_0; omega)⟩ dX11_count_203
        · refine q_tableIn (tgt := 204) hM dX11_count_100 ((rfl : a.toInt = _).trans h100) (by decide) (by decide) rfl (by decide) ?_
          refine q_aload_n hM dX11_count_204 (lv_at hl 0 rfl) ?_
          refine w_get (v := .ref (ad 80)) hM hW FG_X11_83 lb_0 (rf_0_2 hW.2.1) dX11_count_205 ?_
          refine w_get (v := .int (0 : Int32)) hM hW FG_X11_158 lb_80 ((hW.2.2.1 80 4 (fun h => h)).trans (zf hF (by decide) rfl : fld g0 80 4 = .int (0 : Int32))) dX11_count_208 ?_
          exact hE _ _ _ _ _ _ hW.1 ⟨_, rfl, hW.2.1, FR.wk hW.2.2 (fun _ _ h => h.elim), (by have := kc_0; omega)⟩ dX11_count_211
        · refine q_tableIn (tgt := 212) hM dX11_count_100 ((rfl : a.toInt = _).trans h100) (by decide) (by decide) rfl (by decide) ?_
          refine q_aload_n hM dX11_count_212 (lv_at hl 0 rfl) ?_
          refine w_get (v := .ref (ad 102)) hM hW FG_X11_90 lb_0 (rf_0_3 hW.2.1) dX11_count_213 ?_
          refine w_get (v := .int (0 : Int32)) hM hW FG_X11_273 lb_102 ((hW.2.2.1 102 4 (fun h => h)).trans (zf hF (by decide) rfl : fld g0 102 4 = .int (0 : Int32))) dX11_count_216 ?_
          exact hE _ _ _ _ _ _ hW.1 ⟨_, rfl, hW.2.1, FR.wk hW.2.2 (fun _ _ h => h.elim), (by have := kc_0; omega)⟩ dX11_count_219
        · refine q_tableIn (tgt := 220) hM dX11_count_100 ((rfl : a.toInt = _).trans h100) (by decide) (by decide) rfl (by decide) ?_
          refine q_aload_n hM dX11_count_220 (lv_at hl 0 rfl) ?_
          refine w_get (v := .ref (ad 54)) hM hW FG_X11_39 lb_0 ((hW.2.2.1 0 13 (fun h => h)).trans (zf hF (by decide) rfl : fld g0 0 13 = .ref (ad 54))) dX11_count_221 ?_
          refine w_get (v := .int (0 : Int32)) hM hW FG_X11_196 lb_54 ((hW.2.2.1 54 6 (fun h => h)).trans (zf hF (by decide) rfl : fld g0 54 6 = .int (0 : Int32))) dX11_count_224 ?_
          exact hE _ _ _ _ _ _ hW.1 ⟨_, rfl, hW.2.1, FR.wk hW.2.2 (fun _ _ h => h.elim), (by have := kc_0; omega)⟩ dX11_count_227
        · refine q_tableIn (tgt := 228) hM dX11_count_100 ((rfl : a.toInt = _).trans h100) (by decide) (by decide) rfl (by decide) ?_
          refine q_aload_n hM dX11_count_228 (lv_at hl 0 rfl) ?_
          refine w_get (v := .ref (ad 1)) hM hW FG_X11_10 lb_0 (rf_0_0 hW.2.1) dX11_count_229 ?_
          refine w_get (v := .int (0 : Int32)) hM hW FG_X11_139 lb_1 ((hW.2.2.1 1 1 (fun h => h)).trans (zf hF (by decide) rfl : fld g0 1 1 = .int (0 : Int32))) dX11_count_232 ?_
          exact hE _ _ _ _ _ _ hW.1 ⟨_, rfl, hW.2.1, FR.wk hW.2.2 (fun _ _ h => h.elim), (by have := kc_0; omega)⟩ dX11_count_235
        · refine q_tableIn (tgt := 236) hM dX11_count_100 ((rfl : a.toInt = _).trans h100) (by decide) (by decide) rfl (by decide) ?_
          refine q_aload_n hM dX11_count_236 (lv_at hl 0 rfl) ?_
          refine w_get (v := .ref (ad 18)) hM hW FG_X11_26 lb_0 (rf_0_10 hW.2.1) dX11_count_237 ?_
          refine w_get (v := .int (1 : Int32)) hM hW FG_X11_316 lb_18 ((hW.2.2.1 18 7 (fun h => h)).trans (zf hF (by decide) rfl : fld g0 18 7 = .int (1 : Int32))) dX11_count_240 ?_
          exact hE _ _ _ _ _ _ hW.1 ⟨_, rfl, hW.2.1, FR.wk hW.2.2 (fun _ _ h => h.elim), (by have := kc_1; omega)⟩ dX11_count_243
        · refine q_tableIn (tgt := 244) hM dX11_count_100 ((rfl : a.toInt = _).trans h100) (by decide) (by decide) rfl (by decide) ?_
          refine q_aload_n hM dX11_count_244 (lv_at hl 0 rfl) ?_
          refine w_get (v := .ref (ad 80)) hM hW FG_X11_83 lb_0 (rf_0_2 hW.2.1) dX11_count_245 ?_
          refine w_get (v := .int (0 : Int32)) hM hW FG_X11_167 lb_80 ((hW.2.2.1 80 5 (fun h => h)).trans (zf hF (by decide) rfl : fld g0 80 5 = .int (0 : Int32))) dX11_count_248 ?_
          exact hE _ _ _ _ _ _ hW.1 ⟨_, rfl, hW.2.1, FR.wk hW.2.2 (fun _ _ h => h.elim), (by have := kc_0; omega)⟩ dX11_count_251
        · refine q_tableIn (tgt := 252) hM dX11_count_100 ((rfl : a.toInt = _).trans h100) (by decide) (by decide) rfl (by decide) ?_
          refine q_aload_n hM dX11_count_252 (lv_at hl 0 rfl) ?_
          refine w_get (v := .ref (ad 80)) hM hW FG_X11_83 lb_0 (rf_0_2 hW.2.1) dX11_count_253 ?_
          refine w_get (v := .int (0 : Int32)) hM hW FG_X11_170 lb_80 ((hW.2.2.1 80 6 (fun h => h)).trans (zf hF (by decide) rfl : fld g0 80 6 = .int (0 : Int32))) dX11_count_256 ?_
          exact hE _ _ _ _ _ _ hW.1 ⟨_, rfl, hW.2.1, FR.wk hW.2.2 (fun _ _ h => h.elim), (by have := kc_0; omega)⟩ dX11_count_259
      · omega
    · refine q_aload_n hM dX11_count_44 (lv_at hl 0 rfl) ?_
      refine w_get (v := .ref (ad 80)) hM hW FG_X11_83 lb_0 (rf_0_2 hW.2.1) dX11_count_45 ?_
      refine w_get (v := .ref (ad 82)) hM hW FG_X11_164 lb_80 (rf_80_2 hW.2.1) dX11_count_48 ?_
      refine q_iload_n hM dX11_count_51 (lv_at hl 1 rfl) ?_
      refine q_bipush (v := (30 : Int32)) hM dX11_count_52 (by decide) ?_
      refine q_isub hM dX11_count_54 (fun z450 hz450 => ?_)
      have tz450 := i_subT hz450 (rfl : a.toInt = a.toInt) (kc_30 : (30 : Int32).toInt = 30) (by omega) (by omega)
      refine w_iald hM hW lb_82 (i_in (by omega) (by omega)) dX11_count_55 ?_
      refine q_top (fun y451 hy451 => ?_)
      have ky451 : y451.toInt = (-1) := by rw [hy451, ((hW.2.2.2.1 82 (fun h => h)).trans (za hF (by decide) rfl : arI g0 82 = fun _ => (-1)))]; rfl
      refine q_istore_n (lv9 := [(2, .int y451), (0, .ref (ad 0)), (1, .int a)]) hM dX11_count_56 hl (by decide) rfl (fun ls hl => ?_)
      refine q_iload_n hM dX11_count_57 (lv_at hl 0 rfl) ?_
      refine q_iconst (v := ((-1) : Int32)) hM dX11_count_58 (by decide) ?_
      refine q_icmp_ne (tgt := 67) hM dX11_count_59 (by decide) (ky451 : y451.toInt = (-1)) (kc_m1 : ((-1) : Int32).toInt = (-1)) (fun h59 => ?_) (fun h59 => ?_)
      · omega
      · refine q_bipush (v := ((-2) : Int32)) hM dX11_count_62 (by decide) ?_
        refine q_goto (tgt := 68) hM dX11_count_64 (by decide) ?_
        exact hE _ _ _ _ _ _ hW.1 ⟨_, rfl, hW.2.1, FR.wk hW.2.2 (fun _ _ h => h.elim), (by have := kc_m2; omega)⟩ dX11_count_68
  · omega

theorem dX7_tell_0 : decode cX7_tell 0 = .ok (.aload_n 0, 1) := by decide +kernel
theorem dX7_tell_1 : decode cX7_tell 1 = .ok (.dup, 1) := by decide +kernel
theorem dX7_tell_2 : decode cX7_tell 2 = .ok (.getfield 23, 3) := by decide +kernel
theorem dX7_tell_5 : decode cX7_tell 5 = .ok (.iconst 1, 1) := by decide +kernel
theorem dX7_tell_6 : decode cX7_tell 6 = .ok (.iload_n 1, 1) := by decide +kernel
theorem dX7_tell_7 : decode cX7_tell 7 = .ok (.ishl, 1) := by decide +kernel
theorem dX7_tell_8 : decode cX7_tell 8 = .ok (.ior, 1) := by decide +kernel
theorem dX7_tell_9 : decode cX7_tell 9 = .ok (.putfield 23, 3) := by decide +kernel
theorem dX7_tell_12 : decode cX7_tell 12 = .ok (.aload_n 0, 1) := by decide +kernel
theorem dX7_tell_13 : decode cX7_tell 13 = .ok (.getfield 9, 3) := by decide +kernel
theorem dX7_tell_16 : decode cX7_tell 16 = .ok (.iload_n 1, 1) := by decide +kernel
theorem dX7_tell_17 : decode cX7_tell 17 = .ok (.iload_n 2, 1) := by decide +kernel
theorem dX7_tell_18 : decode cX7_tell 18 = .ok (.iastore, 1) := by decide +kernel
theorem dX7_tell_19 : decode cX7_tell 19 = .ok (.aload_n 0, 1) := by decide +kernel
theorem dX7_tell_20 : decode cX7_tell 20 = .ok (.getfield 15, 3) := by decide +kernel
theorem dX7_tell_23 : decode cX7_tell 23 = .ok (.iload_n 1, 1) := by decide +kernel
theorem dX7_tell_24 : decode cX7_tell 24 = .ok (.iload_n 3, 1) := by decide +kernel
theorem dX7_tell_25 : decode cX7_tell 25 = .ok (.iastore, 1) := by decide +kernel
theorem dX7_tell_26 : decode cX7_tell 26 = .ok (.iconst 0, 1) := by decide +kernel
theorem dX7_tell_27 : decode cX7_tell 27 = .ok (.istore 4, 2) := by decide +kernel
theorem dX7_tell_29 : decode cX7_tell 29 = .ok (.iload 4, 2) := by decide +kernel
theorem dX7_tell_31 : decode cX7_tell 31 = .ok (.bipush 12, 2) := by decide +kernel
theorem dX7_tell_33 : decode cX7_tell 33 = .ok (.if_icmp .ge 19, 3) := by decide +kernel
theorem dX7_tell_36 : decode cX7_tell 36 = .ok (.aload_n 0, 1) := by decide +kernel
theorem dX7_tell_37 : decode cX7_tell 37 = .ok (.getfield 20, 3) := by decide +kernel
theorem dX7_tell_40 : decode cX7_tell 40 = .ok (.iload_n 1, 1) := by decide +kernel
theorem dX7_tell_41 : decode cX7_tell 41 = .ok (.aaload, 1) := by decide +kernel
theorem dX7_tell_42 : decode cX7_tell 42 = .ok (.iload 4, 2) := by decide +kernel
theorem dX7_tell_44 : decode cX7_tell 44 = .ok (.iconst 0, 1) := by decide +kernel
theorem dX7_tell_45 : decode cX7_tell 45 = .ok (.iastore, 1) := by decide +kernel
theorem dX7_tell_46 : decode cX7_tell 46 = .ok (.iinc 4 1, 3) := by decide +kernel
theorem dX7_tell_49 : decode cX7_tell 49 = .ok (.goto (-20), 3) := by decide +kernel
theorem dX7_tell_52 : decode cX7_tell 52 = .ok (.return_, 1) := by decide +kernel
set_option maxRecDepth 100000 in
set_option maxHeartbeats 4000000 in
theorem c_X7_tell (l : Launch) (D : va_G) (cA : Nat → ClassId) (ad : Nat → Nat) (g0 : Nat → va_E) (p gr ag : Int32) (hSh : Shp ad cA g0) (p0 : 0 ≤ p.toInt) (p7 : p.toInt ≤ 7) : CT l NN ad cA D yX7_tell cX7_tell 5 none (0, 0) [.ref (ad 18), .int p, .int gr, .int ag] g0 (fun v g' => v = none ∧ Shp ad cA g' ∧ FR (fun i k => (i = 18 ∧ (k = 3)) ∨ i = 19 ∨ i = 20 ∨ (22 ≤ i ∧ i < 30)) g0 g') := by
  refine q_enterV (by decide) (Nat.le_of_ble_eq_true rfl) (fun K H locs ls _ _ hM hW0 hR hC hE hl => ?_)
  have hl : lv_has ls 5 [(0, .ref (ad 18)), (1, .int p), (2, .int gr), (3, .int ag)] := hl
  have hW : WS ad cA (fun i k => (i = 18 ∧ (k = 3)) ∨ i = 19 ∨ i = 20 ∨ (22 ≤ i ∧ i < 30)) g0 K g0 H locs := ⟨hW0, hSh, FR.rf⟩
  refine q_aload_n hM dX7_tell_0 (lv_at hl 0 rfl) ?_
  refine q_dup hM dX7_tell_1 rfl ?_
  refine w_getI hM hW FG_X7_23 lb_18 (by decide) (by decide) dX7_tell_2 (fun x452 fx452 => ?_)
  refine q_iconst (v := (1 : Int32)) hM dX7_tell_5 (by decide) ?_
  refine q_iload_n hM dX7_tell_6 (lv_at hl 1 rfl) ?_
  refine q_ishl hM dX7_tell_7 (fun z453 hz453 => ?_)
  refine q_ior hM dX7_tell_8 (fun z454 hz454 => ?_)
  refine w_put hM hW FP_X7_23 lb_18 (by omega) (Or.inl ⟨_, rfl⟩) rfl rfl dX7_tell_9 (fun g455 H locs hW e1 e2 => ?_)
  have f456 : fld g455 18 3 = .int z454 := e1
  refine q_aload_n hM dX7_tell_12 (lv_at hl 0 rfl) ?_
  refine w_get (v := .ref (ad 19)) hM hW FG_X7_9 lb_18 (rf_18_0 hW.2.1) dX7_tell_13 ?_
  refine q_iload_n hM dX7_tell_16 (lv_at hl 1 rfl) ?_
  refine q_iload_n hM dX7_tell_17 (lv_at hl 2 rfl) ?_
  refine w_iast hM hW lb_19 (by omega) (i_in (by omega) (by omega)) dX7_tell_18 (fun g457 H locs hW e1 e2 => ?_)
  have f458 : fld g457 18 3 = .int z454 := (e2.1 18 3 (by unfold Only; omega)).trans f456
  refine q_aload_n hM dX7_tell_19 (lv_at hl 0 rfl) ?_
  refine w_get (v := .ref (ad 20)) hM hW FG_X7_15 lb_18 (rf_18_1 hW.2.1) dX7_tell_20 ?_
  refine q_iload_n hM dX7_tell_23 (lv_at hl 1 rfl) ?_
  refine q_iload_n hM dX7_tell_24 (lv_at hl 3 rfl) ?_
  refine w_iast hM hW lb_20 (by omega) (i_in (by omega) (by omega)) dX7_tell_25 (fun g459 H locs hW e1 e2 => ?_)
  have f460 : fld g459 18 3 = .int z454 := (e2.1 18 3 (by unfold Only; omega)).trans f458
  refine q_iconst (v := (0 : Int32)) hM dX7_tell_26 (by decide) ?_
  refine q_istore (lv9 := [(4, .int (0 : Int32)), (0, .ref (ad 18)), (1, .int p), (2, .int gr), (3, .int ag)]) hM dX7_tell_27 hl (by decide) rfl (fun ls hl => ?_)
  have L29 : ∀ (fu29 : Nat) (i : Int32) (g9 : Nat → va_E) (H : Heap) (locs : List Loc) (ls : Array Slot), (12 - i.toInt).toNat < fu29 → (0 ≤ i.toInt) → (i.toInt ≤ 12) → lv_has ls 5 [(0, .ref (ad 18)), (1, .int p), (2, .int gr), (3, .int ag), (4, .int i)] → WS ad cA (fun i k => (i = 18 ∧ (k = 3)) ∨ i = 19 ∨ i = 20 ∨ (22 ≤ i ∧ i < 30)) g0 K g9 H locs → XX K 0 0 H locs 29 ls [] := by
    intro fu29
    induction fu29 with
    | zero => intro i g9 H locs ls h0; omega
    | succ fu29 ih29 =>
      intro i g9 H locs ls hm29 i29_0 i29_1 hl hW
      refine q_iload hM dX7_tell_29 (lv_at hl 4 rfl) ?_
      refine q_bipush (v := (12 : Int32)) hM dX7_tell_31 (by decide) ?_
      refine q_icmp_ge (tgt := 52) hM dX7_tell_33 (by decide) (rfl : i.toInt = i.toInt) (kc_12 : (12 : Int32).toInt = 12) (fun h33 => ?_) (fun h33 => ?_)
      · exact hE _ _ _ _ _ hW.1 ⟨rfl, hW.2.1, hW.2.2⟩ dX7_tell_52
      · refine q_aload_n hM dX7_tell_36 (lv_at hl 0 rfl) ?_
        refine w_get (v := .ref (ad 21)) hM hW FG_X7_20 lb_18 (rf_18_2 hW.2.1) dX7_tell_37 ?_
        refine q_iload_n hM dX7_tell_40 (lv_at hl 1 rfl) ?_
        refine w_aald hM hW lb_21 (Or.inl rfl) (i_in (by omega) (by omega)) (aq (aq_21 hW.2.1) (by omega) (by omega)) dX7_tell_41 ?_
        refine q_iload hM dX7_tell_42 (lv_at hl 4 rfl) ?_
        refine q_iconst (v := (0 : Int32)) hM dX7_tell_44 (by decide) ?_
        refine w_iast hM hW (lr_22 (by omega)) (by omega) (i_in (by omega) (by omega)) dX7_tell_45 (fun g461 H locs hW e1 e2 => ?_)
        refine q_iinc (lv9 := fun z462 => [(4, .int z462), (0, .ref (ad 18)), (1, .int p), (2, .int gr), (3, .int ag)]) hM dX7_tell_46 hl (kq := 4) rfl (by decide) (fun _ => rfl) (fun z462 ls hz462 hl => ?_)
        have tz462 := i_addT hz462 (rfl : i.toInt = i.toInt) (kc_1 : (Int32.ofInt 1).toInt = 1) (by omega) (by omega)
        refine q_goto (tgt := 29) hM dX7_tell_49 (by decide) ?_
        exact ih29 z462 _ _ _ _ (by omega) (by omega) (by omega) (lv_sub hl [1, 2, 3, 4, 0] rfl) hW
  have := kc_0
  exact L29 _ (0 : Int32) _ _ _ _ (Nat.lt_succ_self _) (by omega) (by omega) (lv_sub hl [1, 2, 3, 4, 0] rfl) hW

theorem dX11_pupil_0 : decode cX11_pupil 0 = .ok (.iload_n 1, 1) := by decide +kernel
theorem dX11_pupil_1 : decode cX11_pupil 1 = .ok (.iconst 0, 1) := by decide +kernel
theorem dX11_pupil_2 : decode cX11_pupil 2 = .ok (.bipush 7, 2) := by decide +kernel
theorem dX11_pupil_4 : decode cX11_pupil 4 = .ok (.invokestatic 112, 3) := by decide +kernel
theorem dX11_pupil_7 : decode cX11_pupil 7 = .ok (.ifCond .eq 23, 3) := by decide +kernel
theorem dX11_pupil_10 : decode cX11_pupil 10 = .ok (.iload_n 2, 1) := by decide +kernel
theorem dX11_pupil_11 : decode cX11_pupil 11 = .ok (.iconst 1, 1) := by decide +kernel
theorem dX11_pupil_12 : decode cX11_pupil 12 = .ok (.bipush 9, 2) := by decide +kernel
theorem dX11_pupil_14 : decode cX11_pupil 14 = .ok (.invokestatic 112, 3) := by decide +kernel
theorem dX11_pupil_17 : decode cX11_pupil 17 = .ok (.ifCond .eq 13, 3) := by decide +kernel
theorem dX11_pupil_20 : decode cX11_pupil 20 = .ok (.iload_n 3, 1) := by decide +kernel
theorem dX11_pupil_21 : decode cX11_pupil 21 = .ok (.iconst 0, 1) := by decide +kernel
theorem dX11_pupil_22 : decode cX11_pupil 22 = .ok (.bipush 99, 2) := by decide +kernel
theorem dX11_pupil_24 : decode cX11_pupil 24 = .ok (.invokestatic 112, 3) := by decide +kernel
theorem dX11_pupil_27 : decode cX11_pupil 27 = .ok (.ifCond .ne 5, 3) := by decide +kernel
theorem dX11_pupil_30 : decode cX11_pupil 30 = .ok (.iconst 0, 1) := by decide +kernel
theorem dX11_pupil_31 : decode cX11_pupil 31 = .ok (.ireturn, 1) := by decide +kernel
theorem dX11_pupil_32 : decode cX11_pupil 32 = .ok (.aload_n 0, 1) := by decide +kernel
theorem dX11_pupil_33 : decode cX11_pupil 33 = .ok (.getfield 26, 3) := by decide +kernel
theorem dX11_pupil_36 : decode cX11_pupil 36 = .ok (.iload_n 1, 1) := by decide +kernel
theorem dX11_pupil_37 : decode cX11_pupil 37 = .ok (.iload_n 2, 1) := by decide +kernel
theorem dX11_pupil_38 : decode cX11_pupil 38 = .ok (.iload_n 3, 1) := by decide +kernel
theorem dX11_pupil_39 : decode cX11_pupil 39 = .ok (.invokevirtual 131, 3) := by decide +kernel
theorem dX11_pupil_42 : decode cX11_pupil 42 = .ok (.iconst 1, 1) := by decide +kernel
theorem dX11_pupil_43 : decode cX11_pupil 43 = .ok (.ireturn, 1) := by decide +kernel
theorem myX7_tell : MI yX7_tell cX7_tell 5 none 3 := ⟨kAW (v_1_11 (List.mem_of_getElem? (i := 2) rfl)) rfl, kAW (v_0_0 (List.mem_of_getElem? (i := 4) rfl)) rfl, kAW (v_1_11 (List.mem_of_getElem? (i := 0) rfl)) rfl, kAW (v_1_11 (List.mem_of_getElem? (i := 1) rfl)) rfl, by decide, by decide, by decide +kernel⟩
set_option maxRecDepth 100000 in
set_option maxHeartbeats 4000000 in
theorem p_X11_pupil (l : Launch) (D : va_G) (cA : Nat → ClassId) (ad : Nat → Nat) (g0 : Nat → va_E) (a b c : Int32) (hSh : Shp ad cA g0) (hF : ∀ j, j < NN → g0 j = gF ad cA j) : CT l NN ad cA D yX11_pupil cX11_pupil 4 (some FieldType.boolean) (1, 24) [.ref (ad 0), .int a, .int b, .int c] g0 (fun v g' => ∃ r : Int32, v = some (.int r) ∧ Shp ad cA g' ∧ FR (fun i _ => i < 129) g0 g' ∧ ((r.toInt = 1 ∧ 0 ≤ a.toInt ∧ a.toInt ≤ 7 ∧ 1 ≤ b.toInt ∧ b.toInt ≤ 9 ∧ 0 ≤ c.toInt ∧ c.toInt ≤ 99) ∨ (r.toInt = 0 ∧ ¬ (0 ≤ a.toInt ∧ a.toInt ≤ 7 ∧ 1 ≤ b.toInt ∧ b.toInt ≤ 9 ∧ 0 ≤ c.toInt ∧ c.toInt ≤ 99)))) := by
  refine q_enterZ (by decide) (Nat.le_of_ble_eq_true rfl) (fun K H locs ls _ _ hM hW0 hR hC hE hl => ?_)
  have hl : lv_has ls 4 [(0, .ref (ad 0)), (1, .int a), (2, .int b), (3, .int c)] := hl
  have hW : WS ad cA (fun i k => (i = 18 ∧ (k = 3)) ∨ i = 19 ∨ i = 20 ∨ (22 ≤ i ∧ i < 30)) g0 K g0 H locs := ⟨hW0, hSh, FR.rf⟩
  have := kc_0
  have := kc_7
  have := kc_1
  have := kc_9
  have := kc_99
  have f463 : fld g0 18 3 = .int (0 : Int32) := (zf hF (by decide) rfl : fld g0 18 3 = .int (0 : Int32))
  refine q_iload_n hM dX11_pupil_0 (lv_at hl 1 rfl) ?_
  refine q_iconst (v := (0 : Int32)) hM dX11_pupil_1 (by decide) ?_
  refine q_bipush (v := (7 : Int32)) hM dX11_pupil_2 (by decide) ?_
  refine q_callS (As := [.int a, .int (0 : Int32), .int (7 : Int32)]) (rest := []) hM hW.1 hR hC myX11_within (kAW (v_1_10 (List.mem_of_getElem? (i := 1) rfl)) rfl) (c_X11_within _ _ cA ad g0 a (0 : Int32) (7 : Int32) hW.2.1) ⟨by decide, by decide⟩ rfl rfl hl.1 (Nat.le_of_ble_eq_true rfl) dX11_pupil_4 (fun v g465 H locs hp hW1 => ?_)
  obtain ⟨r464, rfl, hr464, rfl⟩ := hp
  have hW : WS ad cA (fun i k => (i = 18 ∧ (k = 3)) ∨ i = 19 ∨ i = 20 ∨ (22 ≤ i ∧ i < 30)) g0 K g0 H locs := ⟨hW1, hW.2.1, hW.2.2⟩
  refine q_if_eq (tgt := 30) hM dX11_pupil_7 (by decide) (rfl : r464.toInt = r464.toInt) (fun h7 => ?_) (fun h7 => ?_)
  · refine q_iconst (v := (0 : Int32)) hM dX11_pupil_30 (by decide) ?_
    exact hE _ _ _ _ _ _ hW.1 nz_0 ⟨_, rfl, hW.2.1, FR.wk hW.2.2 (fun i k h => by omega), (by have := kc_0; omega)⟩ dX11_pupil_31
  · refine q_iload_n hM dX11_pupil_10 (lv_at hl 2 rfl) ?_
    refine q_iconst (v := (1 : Int32)) hM dX11_pupil_11 (by decide) ?_
    refine q_bipush (v := (9 : Int32)) hM dX11_pupil_12 (by decide) ?_
    refine q_callS (As := [.int b, .int (1 : Int32), .int (9 : Int32)]) (rest := []) hM hW.1 hR hC myX11_within (kAW (v_1_10 (List.mem_of_getElem? (i := 1) rfl)) rfl) (c_X11_within _ _ cA ad g0 b (1 : Int32) (9 : Int32) hW.2.1) ⟨by decide, by decide⟩ rfl rfl hl.1 (Nat.le_of_ble_eq_true rfl) dX11_pupil_14 (fun v g467 H locs hp hW1 => ?_)
    obtain ⟨r466, rfl, hr466, rfl⟩ := hp
    have hW : WS ad cA (fun i k => (i = 18 ∧ (k = 3)) ∨ i = 19 ∨ i = 20 ∨ (22 ≤ i ∧ i < 30)) g0 K g0 H locs := ⟨hW1, hW.2.1, hW.2.2⟩
    refine q_if_eq (tgt := 30) hM dX11_pupil_17 (by decide) (rfl : r466.toInt = r466.toInt) (fun h17 => ?_) (fun h17 => ?_)
    · refine q_iconst (v := (0 : Int32)) hM dX11_pupil_30 (by decide) ?_
      exact hE _ _ _ _ _ _ hW.1 nz_0 ⟨_, rfl, hW.2.1, FR.wk hW.2.2 (fun i k h => by omega), (by have := kc_0; omega)⟩ dX11_pupil_31
    · refine q_iload_n hM dX11_pupil_20 (lv_at hl 3 rfl) ?_
      refine q_iconst (v := (0 : Int32)) hM dX11_pupil_21 (by decide) ?_
      refine q_bipush (v := (99 : Int32)) hM dX11_pupil_22 (by decide) ?_
      refine q_callS (As := [.int c, .int (0 : Int32), .int (99 : Int32)]) (rest := []) hM hW.1 hR hC myX11_within (kAW (v_1_10 (List.mem_of_getElem? (i := 1) rfl)) rfl) (c_X11_within _ _ cA ad g0 c (0 : Int32) (99 : Int32) hW.2.1) ⟨by decide, by decide⟩ rfl rfl hl.1 (Nat.le_of_ble_eq_true rfl) dX11_pupil_24 (fun v g469 H locs hp hW1 => ?_)
      obtain ⟨r468, rfl, hr468, rfl⟩ := hp
      have hW : WS ad cA (fun i k => (i = 18 ∧ (k = 3)) ∨ i = 19 ∨ i = 20 ∨ (22 ≤ i ∧ i < 30)) g0 K g0 H locs := ⟨hW1, hW.2.1, hW.2.2⟩
      refine q_if_ne (tgt := 32) hM dX11_pupil_27 (by decide) (rfl : r468.toInt = r468.toInt) (fun h27 => ?_) (fun h27 => ?_)
      · refine q_aload_n hM dX11_pupil_32 (lv_at hl 0 rfl) ?_
        refine w_get (v := .ref (ad 18)) hM hW FG_X11_26 lb_0 (rf_0_10 hW.2.1) dX11_pupil_33 ?_
        refine q_iload_n hM dX11_pupil_36 (lv_at hl 1 rfl) ?_
        refine q_iload_n hM dX11_pupil_37 (lv_at hl 2 rfl) ?_
        refine q_iload_n hM dX11_pupil_38 (lv_at hl 3 rfl) ?_
        refine q_callV (As := [.int a, .int b, .int c]) (rest := []) hM hW.1 hR hC myX7_tell (kAW (v_1_10 (List.mem_of_getElem? (i := 15) rfl)) rfl) (rfl : vwCl[7]? = some (RX7, TX7, 8)) rfl lb_18.1 (shO hW.2.1 lb_18) (c_X7_tell _ _ cA ad g0 a b c hW.2.1 (by omega) (by omega)) ⟨by decide, by decide⟩ rfl rfl hl.1 (Nat.le_of_ble_eq_true rfl) dX11_pupil_39 (fun v g470 H locs hp hW1 => ?_)
        obtain ⟨rfl, hs1, hf1⟩ := hp
        have hW : WS ad cA (fun i k => (i = 18 ∧ (k = 3)) ∨ i = 19 ∨ i = 20 ∨ (22 ≤ i ∧ i < 30)) g0 K g470 H locs := ⟨hW1, hs1, hW.2.2.tr hf1 (fun i k h => by omega)⟩
        refine q_iconst (v := (1 : Int32)) hM dX11_pupil_42 (by decide) ?_
        exact hE _ _ _ _ _ _ hW.1 nz_1 ⟨_, rfl, hW.2.1, FR.wk hW.2.2 (fun i k h => by omega), (by have := kc_1; omega)⟩ dX11_pupil_43
      · refine q_iconst (v := (0 : Int32)) hM dX11_pupil_30 (by decide) ?_
        exact hE _ _ _ _ _ _ hW.1 nz_0 ⟨_, rfl, hW.2.1, FR.wk hW.2.2 (fun i k h => by omega), (by have := kc_0; omega)⟩ dX11_pupil_31
end
