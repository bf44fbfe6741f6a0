section
-- ===== PART A: goes FIRST, ahead of the names: the tables' words, and 'selects' of the private methods out of them =====
/-- a private method of a class that the tables say can be made, by its rows of tables_1 -/
def lw_okq (q : MethodName × Nat) : Prop := (q.1.cls ≠ "java/lang/invoke/MethodHandle" ∧ q.1.cls ≠ "java/lang/invoke/VarHandle") ∧ Cond.instantiable q.1.cls q.2 ∈ tables_1 ∧ Cond.privateMethod q.1 ∈ tables_1 ∧ Cond.instanceMethod q.1 ∈ tables_1
theorem lw_p0 : lw_okq (⟨"RollStages", "releaseAt", "(I)LRollStages$Release;"⟩, 7) := ⟨⟨by decide +kernel, by decide +kernel⟩, List.mem_of_getElem? (i := 10) (by decide +kernel), List.mem_of_getElem? (i := 149) (by decide +kernel), List.mem_of_getElem? (i := 150) (by decide +kernel)⟩
theorem lw_p1 : lw_okq (⟨"RollStages$Release", "addStage", "(II)Z"⟩, 14) := ⟨⟨by decide +kernel, by decide +kernel⟩, List.mem_of_getElem? (i := 91) (by decide +kernel), List.mem_of_getElem? (i := 153) (by decide +kernel), List.mem_of_getElem? (i := 154) (by decide +kernel)⟩
theorem lw_p2 : lw_okq (⟨"RollStages$Release", "setHealth", "(II)Z"⟩, 14) := ⟨⟨by decide +kernel, by decide +kernel⟩, List.mem_of_getElem? (i := 91) (by decide +kernel), List.mem_of_getElem? (i := 162) (by decide +kernel), List.mem_of_getElem? (i := 163) (by decide +kernel)⟩
theorem lw_p3 : lw_okq (⟨"RollStages$Release", "begin", "(I)Z"⟩, 14) := ⟨⟨by decide +kernel, by decide +kernel⟩, List.mem_of_getElem? (i := 91) (by decide +kernel), List.mem_of_getElem? (i := 170) (by decide +kernel), List.mem_of_getElem? (i := 171) (by decide +kernel)⟩
theorem lw_p4 : lw_okq (⟨"RollStages$Release", "rollAt", "(II)V"⟩, 14) := ⟨⟨by decide +kernel, by decide +kernel⟩, List.mem_of_getElem? (i := 91) (by decide +kernel), List.mem_of_getElem? (i := 174) (by decide +kernel), List.mem_of_getElem? (i := 175) (by decide +kernel)⟩
theorem lw_p5 : lw_okq (⟨"RollStages$Release", "addReports", "(II)Z"⟩, 14) := ⟨⟨by decide +kernel, by decide +kernel⟩, List.mem_of_getElem? (i := 91) (by decide +kernel), List.mem_of_getElem? (i := 182) (by decide +kernel), List.mem_of_getElem? (i := 183) (by decide +kernel)⟩
theorem lw_p6 : lw_okq (⟨"RollStages$Release", "holdByHand", "()Z"⟩, 14) := ⟨⟨by decide +kernel, by decide +kernel⟩, List.mem_of_getElem? (i := 91) (by decide +kernel), List.mem_of_getElem? (i := 190) (by decide +kernel), List.mem_of_getElem? (i := 191) (by decide +kernel)⟩
theorem lw_p7 : lw_okq (⟨"RollStages$Release", "holdFor", "(I)V"⟩, 14) := ⟨⟨by decide +kernel, by decide +kernel⟩, List.mem_of_getElem? (i := 91) (by decide +kernel), List.mem_of_getElem? (i := 194) (by decide +kernel), List.mem_of_getElem? (i := 195) (by decide +kernel)⟩
theorem lw_p8 : lw_okq (⟨"RollStages$Release", "goOn", "(I)Z"⟩, 14) := ⟨⟨by decide +kernel, by decide +kernel⟩, List.mem_of_getElem? (i := 91) (by decide +kernel), List.mem_of_getElem? (i := 198) (by decide +kernel), List.mem_of_getElem? (i := 199) (by decide +kernel)⟩
theorem lw_p9 : lw_okq (⟨"RollStages$Release", "bar", "()Z"⟩, 14) := ⟨⟨by decide +kernel, by decide +kernel⟩, List.mem_of_getElem? (i := 91) (by decide +kernel), List.mem_of_getElem? (i := 206) (by decide +kernel), List.mem_of_getElem? (i := 207) (by decide +kernel)⟩
theorem lw_p10 : lw_okq (⟨"RollStages$Release", "passTicks", "(II)V"⟩, 14) := ⟨⟨by decide +kernel, by decide +kernel⟩, List.mem_of_getElem? (i := 91) (by decide +kernel), List.mem_of_getElem? (i := 214) (by decide +kernel), List.mem_of_getElem? (i := 215) (by decide +kernel)⟩
theorem lw_p11 : lw_okq (⟨"RollStages$Release", "valueOfStage", "([I)I"⟩, 14) := ⟨⟨by decide +kernel, by decide +kernel⟩, List.mem_of_getElem? (i := 91) (by decide +kernel), List.mem_of_getElem? (i := 218) (by decide +kernel), List.mem_of_getElem? (i := 219) (by decide +kernel)⟩
theorem lw_p12 : lw_okq (⟨"RollStages$Release", "judge", "(I)V"⟩, 14) := ⟨⟨by decide +kernel, by decide +kernel⟩, List.mem_of_getElem? (i := 91) (by decide +kernel), List.mem_of_getElem? (i := 225) (by decide +kernel), List.mem_of_getElem? (i := 226) (by decide +kernel)⟩
theorem lw_p13 : lw_okq (⟨"RollStages$Release", "allReports", "()I"⟩, 14) := ⟨⟨by decide +kernel, by decide +kernel⟩, List.mem_of_getElem? (i := 91) (by decide +kernel), List.mem_of_getElem? (i := 229) (by decide +kernel), List.mem_of_getElem? (i := 230) (by decide +kernel)⟩
theorem lw_p14 : lw_okq (⟨"RollStages$Release", "isTooBad", "()Z"⟩, 14) := ⟨⟨by decide +kernel, by decide +kernel⟩, List.mem_of_getElem? (i := 91) (by decide +kernel), List.mem_of_getElem? (i := 233) (by decide +kernel), List.mem_of_getElem? (i := 234) (by decide +kernel)⟩
theorem lw_p15 : lw_okq (⟨"RollStages$Release", "stageNow", "()I"⟩, 14) := ⟨⟨by decide +kernel, by decide +kernel⟩, List.mem_of_getElem? (i := 91) (by decide +kernel), List.mem_of_getElem? (i := 241) (by decide +kernel), List.mem_of_getElem? (i := 242) (by decide +kernel)⟩
def lw_privs_1 : List (MethodName × Nat) := [(⟨"RollStages", "releaseAt", "(I)LRollStages$Release;"⟩, 7), (⟨"RollStages$Release", "addStage", "(II)Z"⟩, 14), (⟨"RollStages$Release", "setHealth", "(II)Z"⟩, 14), (⟨"RollStages$Release", "begin", "(I)Z"⟩, 14), (⟨"RollStages$Release", "rollAt", "(II)V"⟩, 14), (⟨"RollStages$Release", "addReports", "(II)Z"⟩, 14), (⟨"RollStages$Release", "holdByHand", "()Z"⟩, 14), (⟨"RollStages$Release", "holdFor", "(I)V"⟩, 14), (⟨"RollStages$Release", "goOn", "(I)Z"⟩, 14), (⟨"RollStages$Release", "bar", "()Z"⟩, 14), (⟨"RollStages$Release", "passTicks", "(II)V"⟩, 14), (⟨"RollStages$Release", "valueOfStage", "([I)I"⟩, 14), (⟨"RollStages$Release", "judge", "(I)V"⟩, 14), (⟨"RollStages$Release", "allReports", "()I"⟩, 14), (⟨"RollStages$Release", "isTooBad", "()Z"⟩, 14), (⟨"RollStages$Release", "stageNow", "()I"⟩, 14)]
theorem lw_r1 : ∀ q ∈ lw_privs_1, lw_okq q := List.forall_mem_cons.mpr ⟨lw_p0, List.forall_mem_cons.mpr ⟨lw_p1, List.forall_mem_cons.mpr ⟨lw_p2, List.forall_mem_cons.mpr ⟨lw_p3, List.forall_mem_cons.mpr ⟨lw_p4, List.forall_mem_cons.mpr ⟨lw_p5, List.forall_mem_cons.mpr ⟨lw_p6, List.forall_mem_cons.mpr ⟨lw_p7, List.forall_mem_cons.mpr ⟨lw_p8, List.forall_mem_cons.mpr ⟨lw_p9, List.forall_mem_cons.mpr ⟨lw_p10, List.forall_mem_cons.mpr ⟨lw_p11, List.forall_mem_cons.mpr ⟨lw_p12, List.forall_mem_cons.mpr ⟨lw_p13, List.forall_mem_cons.mpr ⟨lw_p14, List.forall_mem_cons.mpr ⟨lw_p15, fun _ h => absurd h List.not_mem_nil⟩⟩⟩⟩⟩⟩⟩⟩⟩⟩⟩⟩⟩⟩⟩⟩
theorem lw_p16 : lw_okq (⟨"RollStages$Release", "isAtStage", "()Z"⟩, 14) := ⟨⟨by decide +kernel, by decide +kernel⟩, List.mem_of_getElem? (i := 91) (by decide +kernel), List.mem_of_getElem? (i := 245) (by decide +kernel), List.mem_of_getElem? (i := 246) (by decide +kernel)⟩
theorem lw_p17 : lw_okq (⟨"RollStages$Release", "shareNow", "()I"⟩, 14) := ⟨⟨by decide +kernel, by decide +kernel⟩, List.mem_of_getElem? (i := 91) (by decide +kernel), List.mem_of_getElem? (i := 249) (by decide +kernel), List.mem_of_getElem? (i := 250) (by decide +kernel)⟩
theorem lw_p18 : lw_okq (⟨"RollStages", "machineAt", "(I)LRollStages$Machine;"⟩, 7) := ⟨⟨by decide +kernel, by decide +kernel⟩, List.mem_of_getElem? (i := 10) (by decide +kernel), List.mem_of_getElem? (i := 298) (by decide +kernel), List.mem_of_getElem? (i := 299) (by decide +kernel)⟩
theorem lw_p19 : lw_okq (⟨"RollStages", "offerTo", "(LRollStages$Machine;)I"⟩, 7) := ⟨⟨by decide +kernel, by decide +kernel⟩, List.mem_of_getElem? (i := 10) (by decide +kernel), List.mem_of_getElem? (i := 310) (by decide +kernel), List.mem_of_getElem? (i := 311) (by decide +kernel)⟩
theorem lw_p20 : lw_okq (⟨"RollStages", "newestFor", "(LRollStages$Machine;)I"⟩, 7) := ⟨⟨by decide +kernel, by decide +kernel⟩, List.mem_of_getElem? (i := 10) (by decide +kernel), List.mem_of_getElem? (i := 314) (by decide +kernel), List.mem_of_getElem? (i := 315) (by decide +kernel)⟩
theorem lw_p21 : lw_okq (⟨"RollStages", "mayGet", "(LRollStages$Machine;I)Z"⟩, 7) := ⟨⟨by decide +kernel, by decide +kernel⟩, List.mem_of_getElem? (i := 10) (by decide +kernel), List.mem_of_getElem? (i := 318) (by decide +kernel), List.mem_of_getElem? (i := 319) (by decide +kernel)⟩
theorem lw_p22 : lw_okq (⟨"RollStages", "isOpenTo", "(LRollStages$Machine;LRollStages$Release;I)Z"⟩, 7) := ⟨⟨by decide +kernel, by decide +kernel⟩, List.mem_of_getElem? (i := 10) (by decide +kernel), List.mem_of_getElem? (i := 322) (by decide +kernel), List.mem_of_getElem? (i := 323) (by decide +kernel)⟩
theorem lw_p23 : lw_okq (⟨"RollStages$Release", "isForced", "()Z"⟩, 14) := ⟨⟨by decide +kernel, by decide +kernel⟩, List.mem_of_getElem? (i := 91) (by decide +kernel), List.mem_of_getElem? (i := 326) (by decide +kernel), List.mem_of_getElem? (i := 327) (by decide +kernel)⟩
theorem lw_p24 : lw_okq (⟨"RollStages$Release", "reachesRing", "(I)Z"⟩, 14) := ⟨⟨by decide +kernel, by decide +kernel⟩, List.mem_of_getElem? (i := 91) (by decide +kernel), List.mem_of_getElem? (i := 330) (by decide +kernel), List.mem_of_getElem? (i := 331) (by decide +kernel)⟩
theorem lw_p25 : lw_okq (⟨"RollStages", "mayKeep", "(LRollStages$Machine;)Z"⟩, 7) := ⟨⟨by decide +kernel, by decide +kernel⟩, List.mem_of_getElem? (i := 10) (by decide +kernel), List.mem_of_getElem? (i := 334) (by decide +kernel), List.mem_of_getElem? (i := 335) (by decide +kernel)⟩
theorem lw_p26 : lw_okq (⟨"RollStages$Deltas", "put", "(III)Z"⟩, 8) := ⟨⟨by decide +kernel, by decide +kernel⟩, List.mem_of_getElem? (i := 22) (by decide +kernel), List.mem_of_getElem? (i := 346) (by decide +kernel), List.mem_of_getElem? (i := 347) (by decide +kernel)⟩
theorem lw_p27 : lw_okq (⟨"RollStages$Deltas", "placeOf", "(II)I"⟩, 8) := ⟨⟨by decide +kernel, by decide +kernel⟩, List.mem_of_getElem? (i := 22) (by decide +kernel), List.mem_of_getElem? (i := 350) (by decide +kernel), List.mem_of_getElem? (i := 351) (by decide +kernel)⟩
theorem lw_p28 : lw_okq (⟨"RollStages", "findWay", "(LRollStages$Machine;)V"⟩, 7) := ⟨⟨by decide +kernel, by decide +kernel⟩, List.mem_of_getElem? (i := 10) (by decide +kernel), List.mem_of_getElem? (i := 360) (by decide +kernel), List.mem_of_getElem? (i := 361) (by decide +kernel)⟩
theorem lw_p29 : lw_okq (⟨"RollStages$Deltas", "setWay", "(II)V"⟩, 8) := ⟨⟨by decide +kernel, by decide +kernel⟩, List.mem_of_getElem? (i := 22) (by decide +kernel), List.mem_of_getElem? (i := 364) (by decide +kernel), List.mem_of_getElem? (i := 365) (by decide +kernel)⟩
theorem lw_p30 : lw_okq (⟨"RollStages$Deltas", "searchCheaper", "(II[LRollStages$Release;)V"⟩, 8) := ⟨⟨by decide +kernel, by decide +kernel⟩, List.mem_of_getElem? (i := 22) (by decide +kernel), List.mem_of_getElem? (i := 368) (by decide +kernel), List.mem_of_getElem? (i := 369) (by decide +kernel)⟩
theorem lw_p31 : lw_okq (⟨"RollStages$Deltas", "takeOneMore", "()V"⟩, 8) := ⟨⟨by decide +kernel, by decide +kernel⟩, List.mem_of_getElem? (i := 22) (by decide +kernel), List.mem_of_getElem? (i := 377) (by decide +kernel), List.mem_of_getElem? (i := 378) (by decide +kernel)⟩
def lw_privs_2 : List (MethodName × Nat) := [(⟨"RollStages$Release", "isAtStage", "()Z"⟩, 14), (⟨"RollStages$Release", "shareNow", "()I"⟩, 14), (⟨"RollStages", "machineAt", "(I)LRollStages$Machine;"⟩, 7), (⟨"RollStages", "offerTo", "(LRollStages$Machine;)I"⟩, 7), (⟨"RollStages", "newestFor", "(LRollStages$Machine;)I"⟩, 7), (⟨"RollStages", "mayGet", "(LRollStages$Machine;I)Z"⟩, 7), (⟨"RollStages", "isOpenTo", "(LRollStages$Machine;LRollStages$Release;I)Z"⟩, 7), (⟨"RollStages$Release", "isForced", "()Z"⟩, 14), (⟨"RollStages$Release", "reachesRing", "(I)Z"⟩, 14), (⟨"RollStages", "mayKeep", "(LRollStages$Machine;)Z"⟩, 7), (⟨"RollStages$Deltas", "put", "(III)Z"⟩, 8), (⟨"RollStages$Deltas", "placeOf", "(II)I"⟩, 8), (⟨"RollStages", "findWay", "(LRollStages$Machine;)V"⟩, 7), (⟨"RollStages$Deltas", "setWay", "(II)V"⟩, 8), (⟨"RollStages$Deltas", "searchCheaper", "(II[LRollStages$Release;)V"⟩, 8), (⟨"RollStages$Deltas", "takeOneMore", "()V"⟩, 8)]
theorem lw_r2 : ∀ q ∈ lw_privs_2, lw_okq q := List.forall_mem_cons.mpr ⟨lw_p16, List.forall_mem_cons.mpr ⟨lw_p17, List.forall_mem_cons.mpr ⟨lw_p18, List.forall_mem_cons.mpr ⟨lw_p19, List.forall_mem_cons.mpr ⟨lw_p20, List.forall_mem_cons.mpr ⟨lw_p21, List.forall_mem_cons.mpr ⟨lw_p22, List.forall_mem_cons.mpr ⟨lw_p23, List.forall_mem_cons.mpr ⟨lw_p24, List.forall_mem_cons.mpr ⟨lw_p25, List.forall_mem_cons.mpr ⟨lw_p26, List.forall_mem_cons.mpr ⟨lw_p27, List.forall_mem_cons.mpr ⟨lw_p28, List.forall_mem_cons.mpr ⟨lw_p29, List.forall_mem_cons.mpr ⟨lw_p30, List.forall_mem_cons.mpr ⟨lw_p31, fun _ h => absurd h List.not_mem_nil⟩⟩⟩⟩⟩⟩⟩⟩⟩⟩⟩⟩⟩⟩⟩⟩
theorem lw_p32 : lw_okq (⟨"RollStages$Deltas", "dropRevoked", "([LRollStages$Release;)V"⟩, 8) := ⟨⟨by decide +kernel, by decide +kernel⟩, List.mem_of_getElem? (i := 22) (by decide +kernel), List.mem_of_getElem? (i := 388) (by decide +kernel), List.mem_of_getElem? (i := 389) (by decide +kernel)⟩
theorem lw_p33 : lw_okq (⟨"RollStagesModel", "isRelease", "(I)Z"⟩, 31) := ⟨⟨by decide +kernel, by decide +kernel⟩, List.mem_of_getElem? (i := 404) (by decide +kernel), List.mem_of_getElem? (i := 517) (by decide +kernel), List.mem_of_getElem? (i := 518) (by decide +kernel)⟩
theorem lw_p34 : lw_okq (⟨"RollStagesModel", "begin", "(II)V"⟩, 31) := ⟨⟨by decide +kernel, by decide +kernel⟩, List.mem_of_getElem? (i := 404) (by decide +kernel), List.mem_of_getElem? (i := 529) (by decide +kernel), List.mem_of_getElem? (i := 530) (by decide +kernel)⟩
theorem lw_p35 : lw_okq (⟨"RollStagesModel", "halt", "(II)V"⟩, 31) := ⟨⟨by decide +kernel, by decide +kernel⟩, List.mem_of_getElem? (i := 404) (by decide +kernel), List.mem_of_getElem? (i := 541) (by decide +kernel), List.mem_of_getElem? (i := 542) (by decide +kernel)⟩
theorem lw_p36 : lw_okq (⟨"RollStagesModel", "pass", "(I)V"⟩, 31) := ⟨⟨by decide +kernel, by decide +kernel⟩, List.mem_of_getElem? (i := 404) (by decide +kernel), List.mem_of_getElem? (i := 553) (by decide +kernel), List.mem_of_getElem? (i := 554) (by decide +kernel)⟩
theorem lw_p37 : lw_okq (⟨"RollStagesModel", "shareOf", "(I)I"⟩, 31) := ⟨⟨by decide +kernel, by decide +kernel⟩, List.mem_of_getElem? (i := 404) (by decide +kernel), List.mem_of_getElem? (i := 561) (by decide +kernel), List.mem_of_getElem? (i := 562) (by decide +kernel)⟩
theorem lw_p38 : lw_okq (⟨"RollStagesModel", "isMachine", "(I)Z"⟩, 31) := ⟨⟨by decide +kernel, by decide +kernel⟩, List.mem_of_getElem? (i := 404) (by decide +kernel), List.mem_of_getElem? (i := 577) (by decide +kernel), List.mem_of_getElem? (i := 578) (by decide +kernel)⟩
theorem lw_p39 : lw_okq (⟨"RollStagesModel", "offer", "(I)I"⟩, 31) := ⟨⟨by decide +kernel, by decide +kernel⟩, List.mem_of_getElem? (i := 404) (by decide +kernel), List.mem_of_getElem? (i := 596) (by decide +kernel), List.mem_of_getElem? (i := 597) (by decide +kernel)⟩
theorem lw_p40 : lw_okq (⟨"RollStagesModel", "mayGet", "(II)Z"⟩, 31) := ⟨⟨by decide +kernel, by decide +kernel⟩, List.mem_of_getElem? (i := 404) (by decide +kernel), List.mem_of_getElem? (i := 600) (by decide +kernel), List.mem_of_getElem? (i := 601) (by decide +kernel)⟩
theorem lw_p41 : lw_okq (⟨"RollStagesModel", "isBounded", "(II)Z"⟩, 31) := ⟨⟨by decide +kernel, by decide +kernel⟩, List.mem_of_getElem? (i := 404) (by decide +kernel), List.mem_of_getElem? (i := 604) (by decide +kernel), List.mem_of_getElem? (i := 605) (by decide +kernel)⟩
theorem lw_p42 : lw_okq (⟨"RollStagesModel", "wanted", "(I)I"⟩, 31) := ⟨⟨by decide +kernel, by decide +kernel⟩, List.mem_of_getElem? (i := 404) (by decide +kernel), List.mem_of_getElem? (i := 620) (by decide +kernel), List.mem_of_getElem? (i := 621) (by decide +kernel)⟩
theorem lw_p43 : lw_okq (⟨"RollStagesModel", "findWays", "(I)V"⟩, 31) := ⟨⟨by decide +kernel, by decide +kernel⟩, List.mem_of_getElem? (i := 404) (by decide +kernel), List.mem_of_getElem? (i := 624) (by decide +kernel), List.mem_of_getElem? (i := 625) (by decide +kernel)⟩
def lw_privs_3 : List (MethodName × Nat) := [(⟨"RollStages$Deltas", "dropRevoked", "([LRollStages$Release;)V"⟩, 8), (⟨"RollStagesModel", "isRelease", "(I)Z"⟩, 31), (⟨"RollStagesModel", "begin", "(II)V"⟩, 31), (⟨"RollStagesModel", "halt", "(II)V"⟩, 31), (⟨"RollStagesModel", "pass", "(I)V"⟩, 31), (⟨"RollStagesModel", "shareOf", "(I)I"⟩, 31), (⟨"RollStagesModel", "isMachine", "(I)Z"⟩, 31), (⟨"RollStagesModel", "offer", "(I)I"⟩, 31), (⟨"RollStagesModel", "mayGet", "(II)Z"⟩, 31), (⟨"RollStagesModel", "isBounded", "(II)Z"⟩, 31), (⟨"RollStagesModel", "wanted", "(I)I"⟩, 31), (⟨"RollStagesModel", "findWays", "(I)V"⟩, 31)]
theorem lw_r3 : ∀ q ∈ lw_privs_3, lw_okq q := List.forall_mem_cons.mpr ⟨lw_p32, List.forall_mem_cons.mpr ⟨lw_p33, List.forall_mem_cons.mpr ⟨lw_p34, List.forall_mem_cons.mpr ⟨lw_p35, List.forall_mem_cons.mpr ⟨lw_p36, List.forall_mem_cons.mpr ⟨lw_p37, List.forall_mem_cons.mpr ⟨lw_p38, List.forall_mem_cons.mpr ⟨lw_p39, List.forall_mem_cons.mpr ⟨lw_p40, List.forall_mem_cons.mpr ⟨lw_p41, List.forall_mem_cons.mpr ⟨lw_p42, List.forall_mem_cons.mpr ⟨lw_p43, fun _ h => absurd h List.not_mem_nil⟩⟩⟩⟩⟩⟩⟩⟩⟩⟩⟩⟩
def lw_privs : List (MethodName × Nat) := lw_privs_1 ++ (lw_privs_2 ++ (lw_privs_3))
def lw_tbl : List Cond := k2_sels lw_privs ++ tables_1
theorem lw_privs_ok : ∀ q ∈ lw_privs, lw_okq q := by
  show ∀ q ∈ lw_privs_1 ++ (lw_privs_2 ++ (lw_privs_3)), lw_okq q
  exact List.forall_mem_append.mpr ⟨lw_r1, List.forall_mem_append.mpr ⟨lw_r2, lw_r3⟩⟩
end
section
def R_C : String := "RollStages"
def F_C : u_T := fun k => match k with
  | 0 => ("RollStages", "releases", "[LRollStages$Release;", true)
  | 1 => ("RollStages", "machines", "[LRollStages$Machine;", true)
  | 2 => ("RollStages", "bounds", "[I", true)
  | 3 => ("RollStages", "deltas", "LRollStages$Deltas;", true)
  | 4 => ("RollStages", "releaseCount", "I", false)
  | 5 => ("RollStages", "machineCount", "I", false)
  | _ => ("RollStages", "clock", "I", false)
def ty_C : Nat → FieldType := fun k => match k with
  | 0 => .array (.object "RollStages$Release")
  | 1 => .array (.object "RollStages$Machine")
  | 2 => .array .int
  | 3 => .object "RollStages$Deltas"
  | 4 => .int
  | 5 => .int
  | _ => .int
theorem n_C : ∀ a, a < 7 → ∀ b, b < 7 → a ≠ b → (F_C a).2.1 ≠ (F_C b).2.1 := by decide +kernel
theorem ty_C_ok : ∀ k, k < 7 → parseFieldDescriptor (F_C k).2.2.1 = some (ty_C k) := by decide +kernel
def R_R : String := "RollStages$Release"
def F_R : u_T := fun k => match k with
  | 0 => ("RollStages$Release", "channel", "I", true)
  | 1 => ("RollStages$Release", "security", "Z", true)
  | 2 => ("RollStages$Release", "whole", "I", true)
  | 3 => ("RollStages$Release", "shares", "[I", true)
  | 4 => ("RollStages$Release", "waits", "[I", true)
  | 5 => ("RollStages$Release", "stageCount", "I", false)
  | 6 => ("RollStages$Release", "mostBad", "I", false)
  | 7 => ("RollStages$Release", "ofReports", "I", false)
  | 8 => ("RollStages$Release", "state", "I", false)
  | 9 => ("RollStages$Release", "why", "I", false)
  | 10 => ("RollStages$Release", "stageIndex", "I", false)
  | 11 => ("RollStages$Release", "waitBegan", "I", false)
  | 12 => ("RollStages$Release", "goodReports", "I", false)
  | _ => ("RollStages$Release", "badReports", "I", false)
def ty_R : Nat → FieldType := fun k => match k with
  | 0 => .int
  | 1 => .boolean
  | 2 => .int
  | 3 => .array .int
  | 4 => .array .int
  | 5 => .int
  | 6 => .int
  | 7 => .int
  | 8 => .int
  | 9 => .int
  | 10 => .int
  | 11 => .int
  | 12 => .int
  | _ => .int
theorem n_R : ∀ a, a < 14 → ∀ b, b < 14 → a ≠ b → (F_R a).2.1 ≠ (F_R b).2.1 := by decide +kernel
theorem ty_R_ok : ∀ k, k < 14 → parseFieldDescriptor (F_R k).2.2.1 = some (ty_R k) := by decide +kernel
def R_M : String := "RollStages$Machine"
def F_M : u_T := fun k => match k with
  | 0 => ("RollStages$Machine", "channel", "I", true)
  | 1 => ("RollStages$Machine", "ring", "I", true)
  | 2 => ("RollStages$Machine", "row", "I", true)
  | 3 => ("RollStages$Machine", "has", "I", false)
  | _ => ("RollStages$Machine", "pin", "I", false)
def ty_M : Nat → FieldType := fun k => match k with
  | 0 => .int
  | 1 => .int
  | 2 => .int
  | 3 => .int
  | _ => .int
theorem n_M : ∀ a, a < 5 → ∀ b, b < 5 → a ≠ b → (F_M a).2.1 ≠ (F_M b).2.1 := by decide +kernel
theorem ty_M_ok : ∀ k, k < 5 → parseFieldDescriptor (F_M k).2.2.1 = some (ty_M k) := by decide +kernel
def R_D : String := "RollStages$Deltas"
def F_D : u_T := fun k => match k with
  | 0 => ("RollStages$Deltas", "froms", "[I", true)
  | 1 => ("RollStages$Deltas", "tos", "[I", true)
  | 2 => ("RollStages$Deltas", "sizes", "[I", true)
  | 3 => ("RollStages$Deltas", "count", "I", false)
  | 4 => ("RollStages$Deltas", "reached", "[I", true)
  | 5 => ("RollStages$Deltas", "next", "[I", true)
  | 6 => ("RollStages$Deltas", "waySize", "I", false)
  | _ => ("RollStages$Deltas", "waySteps", "I", false)
def ty_D : Nat → FieldType := fun k => match k with
  | 0 => .array .int
  | 1 => .array .int
  | 2 => .array .int
  | 3 => .int
  | 4 => .array .int
  | 5 => .array .int
  | 6 => .int
  | _ => .int
theorem n_D : ∀ a, a < 8 → ∀ b, b < 8 → a ≠ b → (F_D a).2.1 ≠ (F_D b).2.1 := by decide +kernel
theorem ty_D_ok : ∀ k, k < 8 → parseFieldDescriptor (F_D k).2.2.1 = some (ty_D k) := by decide +kernel
def R_T : String := "RollStagesModel"
def F_T : u_T := fun k => match k with
  | 0 => ("RollStagesModel", "code", "I", false)
  | 1 => ("RollStagesModel", "clock", "I", false)
  | 2 => ("RollStagesModel", "releases", "I", false)
  | 3 => ("RollStagesModel", "machines", "I", false)
  | 4 => ("RollStagesModel", "deltas", "I", false)
  | 5 => ("RollStagesModel", "channel", "[I", true)
  | 6 => ("RollStagesModel", "whole", "[I", true)
  | 7 => ("RollStagesModel", "stageMany", "[I", true)
  | 8 => ("RollStagesModel", "share", "[I", true)
  | 9 => ("RollStagesModel", "wait", "[I", true)
  | 10 => ("RollStagesModel", "p", "[I", true)
  | 11 => ("RollStagesModel", "q", "[I", true)
  | 12 => ("RollStagesModel", "state", "[I", true)
  | 13 => ("RollStagesModel", "stage", "[I", true)
  | 14 => ("RollStagesModel", "why", "[I", true)
  | 15 => ("RollStagesModel", "since", "[I", true)
  | 16 => ("RollStagesModel", "all", "[I", true)
  | 17 => ("RollStagesModel", "bad", "[I", true)
  | 18 => ("RollStagesModel", "isSecurity", "[Z", true)
  | 19 => ("RollStagesModel", "bound", "[I", true)
  | 20 => ("RollStagesModel", "itsChannel", "[I", true)
  | 21 => ("RollStagesModel", "ring", "[I", true)
  | 22 => ("RollStagesModel", "has", "[I", true)
  | 23 => ("RollStagesModel", "pin", "[I", true)
  | 24 => ("RollStagesModel", "from", "[I", true)
  | 25 => ("RollStagesModel", "to", "[I", true)
  | 26 => ("RollStagesModel", "size", "[I", true)
  | 27 => ("RollStagesModel", "cost", "[I", true)
  | 28 => ("RollStagesModel", "many", "[I", true)
  | 29 => ("RollStagesModel", "nextCost", "[I", true)
  | _ => ("RollStagesModel", "nextMany", "[I", true)
def ty_T : Nat → FieldType := fun k => match k with
  | 0 => .int
  | 1 => .int
  | 2 => .int
  | 3 => .int
  | 4 => .int
  | 5 => .array .int
  | 6 => .array .int
  | 7 => .array .int
  | 8 => .array .int
  | 9 => .array .int
  | 10 => .array .int
  | 11 => .array .int
  | 12 => .array .int
  | 13 => .array .int
  | 14 => .array .int
  | 15 => .array .int
  | 16 => .array .int
  | 17 => .array .int
  | 18 => .array .boolean
  | 19 => .array .int
  | 20 => .array .int
  | 21 => .array .int
  | 22 => .array .int
  | 23 => .array .int
  | 24 => .array .int
  | 25 => .array .int
  | 26 => .array .int
  | 27 => .array .int
  | 28 => .array .int
  | 29 => .array .int
  | _ => .array .int
theorem n_T : ∀ a, a < 31 → ∀ b, b < 31 → a ≠ b → (F_T a).2.1 ≠ (F_T b).2.1 := by decide +kernel
theorem ty_T_ok : ∀ k, k < 31 → parseFieldDescriptor (F_T k).2.2.1 = some (ty_T k) := by decide +kernel
def R_L : String := "RollStagesLaw"
abbrev vcl : List vw_C := [(R_C, F_C, 7), (R_R, F_R, 14), (R_M, F_M, 5), (R_D, F_D, 8), (R_T, F_T, 31)]
/-- the words of the tables that a callee may ask for -/
def tbG : List Cond := lw_tbl.filter goodWord
theorem tbG_sub : ∀ w ∈ tbG, w ∈ lw_tbl := fun w h => (List.mem_filter.mp h).1
theorem tbG_good : ∀ w ∈ tbG, goodWord w = true := fun w h => (List.mem_filter.mp h).2
theorem tbG_in {w : Cond} (h : w ∈ lw_tbl) (g : goodWord w = true) : w ∈ tbG := List.mem_filter.mpr ⟨h, g⟩
theorem tb_s {w : Cond} {i : Nat} (h : (k2_sels lw_privs)[i]? = some w) : w ∈ lw_tbl := List.mem_append_left _ (List.mem_of_getElem? h)
theorem tb_1 {w : Cond} {i : Nat} (h : tables_1_1[i]? = some w) : w ∈ lw_tbl := List.mem_append_right _ (List.mem_append_left _ (List.mem_of_getElem? h))
theorem tb_2 {w : Cond} {i : Nat} (h : tables_1_2[i]? = some w) : w ∈ lw_tbl := List.mem_append_right _ (List.mem_append_right _ (List.mem_append_left _ (List.mem_of_getElem? h)))
theorem tb_3 {w : Cond} {i : Nat} (h : tables_1_3[i]? = some w) : w ∈ lw_tbl := List.mem_append_right _ (List.mem_append_right _ (List.mem_append_right _ (List.mem_of_getElem? h)))
theorem tb_good {x y : Cond} (hy : y ∈ tbG) : GoodIn (x :: tbG) (y :: tbG) := fun w h => (List.mem_cons.mp h).elim (fun e => by subst e; exact ⟨List.mem_cons_of_mem _ hy, good_of_word (tbG_good _ hy)⟩) (fun h => ⟨List.mem_cons_of_mem _ h, good_of_word (tbG_good _ h)⟩)
theorem tb_law {y : Cond} (hy : y ∈ tbG) : GoodIn lw_tbl (y :: tbG) := fun w h => (List.mem_cons.mp h).elim (fun e => by subst e; exact ⟨tbG_sub _ hy, good_of_word (tbG_good _ hy)⟩) (fun h => ⟨tbG_sub _ h, good_of_word (tbG_good _ h)⟩)
abbrev c_C_init : ByteArray := prog_1_method_1_code
def y_C_init : MethodName := ⟨"RollStages", "<init>", "()V"⟩
def ws_C_init : List Cond := .code y_C_init c_C_init 1 none :: tbG
abbrev c_D_init : ByteArray := prog_2_method_1_code
def y_D_init : MethodName := ⟨"RollStages$Deltas", "<init>", "()V"⟩
def ws_D_init : List Cond := .code y_D_init c_D_init 1 none :: tbG
abbrev c_A_fill : ByteArray := prog_9_method_103_code
def y_A_fill : MethodName := ⟨"java/util/Arrays", "fill", "([II)V"⟩
def ws_A_fill : List Cond := .code y_A_fill c_A_fill 4 none :: tbG
abbrev c_C_release : ByteArray := prog_1_method_2_code
def y_C_release : MethodName := ⟨"RollStages", "release", "(IZI)I"⟩
def ws_C_release : List Cond := .code y_C_release c_C_release 4 (some .int) :: tbG
abbrev c_C_isChannel : ByteArray := prog_1_method_23_code
def y_C_isChannel : MethodName := ⟨"RollStages", "isChannel", "(I)Z"⟩
def ws_C_isChannel : List Cond := .code y_C_isChannel c_C_isChannel 1 (some .boolean) :: tbG
abbrev c_C_within : ByteArray := prog_1_method_22_code
def y_C_within : MethodName := ⟨"RollStages", "within", "(III)Z"⟩
def ws_C_within : List Cond := .code y_C_within c_C_within 3 (some .boolean) :: tbG
abbrev c_R_init : ByteArray := prog_4_method_1_code
def y_R_init : MethodName := ⟨"RollStages$Release", "<init>", "(IZI)V"⟩
def ws_R_init : List Cond := .code y_R_init c_R_init 4 none :: tbG
abbrev c_C_stage : ByteArray := prog_1_method_3_code
def y_C_stage : MethodName := ⟨"RollStages", "stage", "(III)Z"⟩
def ws_C_stage : List Cond := .code y_C_stage c_C_stage 5 (some .boolean) :: tbG
abbrev c_C_releaseAt : ByteArray := prog_1_method_25_code
def y_C_releaseAt : MethodName := ⟨"RollStages", "releaseAt", "(I)LRollStages$Release;"⟩
def ws_C_releaseAt : List Cond := .code y_C_releaseAt c_C_releaseAt 2 (some (.object "RollStages$Release")) :: tbG
abbrev c_R_addStage : ByteArray := prog_4_method_2_code
def y_R_addStage : MethodName := ⟨"RollStages$Release", "addStage", "(II)Z"⟩
def ws_R_addStage : List Cond := .code y_R_addStage c_R_addStage 4 (some .boolean) :: tbG
abbrev c_C_health : ByteArray := prog_1_method_4_code
def y_C_health : MethodName := ⟨"RollStages", "health", "(III)Z"⟩
def ws_C_health : List Cond := .code y_C_health c_C_health 5 (some .boolean) :: tbG
abbrev c_R_setHealth : ByteArray := prog_4_method_3_code
def y_R_setHealth : MethodName := ⟨"RollStages$Release", "setHealth", "(II)Z"⟩
def ws_R_setHealth : List Cond := .code y_R_setHealth c_R_setHealth 3 (some .boolean) :: tbG
abbrev c_C_start : ByteArray := prog_1_method_5_code
def y_C_start : MethodName := ⟨"RollStages", "start", "(I)Z"⟩
def ws_C_start : List Cond := .code y_C_start c_C_start 3 (some .boolean) :: tbG
abbrev c_R_begin : ByteArray := prog_4_method_4_code
def y_R_begin : MethodName := ⟨"RollStages$Release", "begin", "(I)Z"⟩
def ws_R_begin : List Cond := .code y_R_begin c_R_begin 2 (some .boolean) :: tbG
abbrev c_R_rollAt : ByteArray := prog_4_method_12_code
def y_R_rollAt : MethodName := ⟨"RollStages$Release", "rollAt", "(II)V"⟩
def ws_R_rollAt : List Cond := .code y_R_rollAt c_R_rollAt 3 none :: tbG
abbrev c_C_report : ByteArray := prog_1_method_6_code
def y_C_report : MethodName := ⟨"RollStages", "report", "(III)Z"⟩
def ws_C_report : List Cond := .code y_C_report c_C_report 5 (some .boolean) :: tbG
abbrev c_R_addReports : ByteArray := prog_4_method_5_code
def y_R_addReports : MethodName := ⟨"RollStages$Release", "addReports", "(II)Z"⟩
def ws_R_addReports : List Cond := .code y_R_addReports c_R_addReports 3 (some .boolean) :: tbG
abbrev c_C_hold : ByteArray := prog_1_method_7_code
def y_C_hold : MethodName := ⟨"RollStages", "hold", "(IZ)Z"⟩
def ws_C_hold : List Cond := .code y_C_hold c_C_hold 4 (some .boolean) :: tbG
abbrev c_R_holdByHand : ByteArray := prog_4_method_6_code
def y_R_holdByHand : MethodName := ⟨"RollStages$Release", "holdByHand", "()Z"⟩
def ws_R_holdByHand : List Cond := .code y_R_holdByHand c_R_holdByHand 1 (some .boolean) :: tbG
abbrev c_R_holdFor : ByteArray := prog_4_method_13_code
def y_R_holdFor : MethodName := ⟨"RollStages$Release", "holdFor", "(I)V"⟩
def ws_R_holdFor : List Cond := .code y_R_holdFor c_R_holdFor 2 none :: tbG
abbrev c_R_goOn : ByteArray := prog_4_method_7_code
def y_R_goOn : MethodName := ⟨"RollStages$Release", "goOn", "(I)Z"⟩
def ws_R_goOn : List Cond := .code y_R_goOn c_R_goOn 2 (some .boolean) :: tbG
abbrev c_C_revoke : ByteArray := prog_1_method_8_code
def y_C_revoke : MethodName := ⟨"RollStages", "revoke", "(I)Z"⟩
def ws_C_revoke : List Cond := .code y_C_revoke c_C_revoke 3 (some .boolean) :: tbG
abbrev c_R_bar : ByteArray := prog_4_method_8_code
def y_R_bar : MethodName := ⟨"RollStages$Release", "bar", "()Z"⟩
def ws_R_bar : List Cond := .code y_R_bar c_R_bar 1 (some .boolean) :: tbG
abbrev c_C_tick : ByteArray := prog_1_method_9_code
def y_C_tick : MethodName := ⟨"RollStages", "tick", "(I)I"⟩
def ws_C_tick : List Cond := .code y_C_tick c_C_tick 5 (some .int) :: tbG
abbrev c_R_passTicks : ByteArray := prog_4_method_9_code
def y_R_passTicks : MethodName := ⟨"RollStages$Release", "passTicks", "(II)V"⟩
def ws_R_passTicks : List Cond := .code y_R_passTicks c_R_passTicks 5 none :: tbG
abbrev c_R_valueOfStage : ByteArray := prog_4_method_17_code
def y_R_valueOfStage : MethodName := ⟨"RollStages$Release", "valueOfStage", "([I)I"⟩
def ws_R_valueOfStage : List Cond := .code y_R_valueOfStage c_R_valueOfStage 2 (some .int) :: tbG
abbrev c_H_max : ByteArray := prog_7_method_65_code
def y_H_max : MethodName := ⟨"java/lang/Math", "max", "(II)I"⟩
def ws_H_max : List Cond := .code y_H_max c_H_max 2 (some .int) :: tbG
abbrev c_R_judge : ByteArray := prog_4_method_10_code
def y_R_judge : MethodName := ⟨"RollStages$Release", "judge", "(I)V"⟩
def ws_R_judge : List Cond := .code y_R_judge c_R_judge 2 none :: tbG
abbrev c_R_allReports : ByteArray := prog_4_method_18_code
def y_R_allReports : MethodName := ⟨"RollStages$Release", "allReports", "()I"⟩
def ws_R_allReports : List Cond := .code y_R_allReports c_R_allReports 1 (some .int) :: tbG
abbrev c_R_isTooBad : ByteArray := prog_4_method_11_code
def y_R_isTooBad : MethodName := ⟨"RollStages$Release", "isTooBad", "()Z"⟩
def ws_R_isTooBad : List Cond := .code y_R_isTooBad c_R_isTooBad 1 (some .boolean) :: tbG
abbrev c_C_about : ByteArray := prog_1_method_10_code
def y_C_about : MethodName := ⟨"RollStages", "about", "(II)I"⟩
def ws_C_about : List Cond := .code y_C_about c_C_about 4 (some .int) :: tbG
abbrev c_R_stageNow : ByteArray := prog_4_method_15_code
def y_R_stageNow : MethodName := ⟨"RollStages$Release", "stageNow", "()I"⟩
def ws_R_stageNow : List Cond := .code y_R_stageNow c_R_stageNow 1 (some .int) :: tbG
abbrev c_R_isAtStage : ByteArray := prog_4_method_14_code
def y_R_isAtStage : MethodName := ⟨"RollStages$Release", "isAtStage", "()Z"⟩
def ws_R_isAtStage : List Cond := .code y_R_isAtStage c_R_isAtStage 1 (some .boolean) :: tbG
abbrev c_R_shareNow : ByteArray := prog_4_method_16_code
def y_R_shareNow : MethodName := ⟨"RollStages$Release", "shareNow", "()I"⟩
def ws_R_shareNow : List Cond := .code y_R_shareNow c_R_shareNow 1 (some .int) :: tbG
abbrev c_C_back : ByteArray := prog_1_method_11_code
def y_C_back : MethodName := ⟨"RollStages", "back", "(II)Z"⟩
def ws_C_back : List Cond := .code y_C_back c_C_back 4 (some .boolean) :: tbG
abbrev c_C_machine : ByteArray := prog_1_method_12_code
def y_C_machine : MethodName := ⟨"RollStages", "machine", "(II)I"⟩
def ws_C_machine : List Cond := .code y_C_machine c_C_machine 3 (some .int) :: tbG
abbrev c_C_rowOf : ByteArray := prog_1_method_24_code
def y_C_rowOf : MethodName := ⟨"RollStages", "rowOf", "(I)I"⟩
def ws_C_rowOf : List Cond := .code y_C_rowOf c_C_rowOf 3 (some .int) :: tbG
abbrev c_M_init : ByteArray := prog_3_method_1_code
def y_M_init : MethodName := ⟨"RollStages$Machine", "<init>", "(III)V"⟩
def ws_M_init : List Cond := .code y_M_init c_M_init 4 none :: tbG
abbrev c_C_row : ByteArray := prog_1_method_13_code
def y_C_row : MethodName := ⟨"RollStages", "row", "(I)I"⟩
def ws_C_row : List Cond := .code y_C_row c_C_row 3 (some .int) :: tbG
abbrev c_C_machineAt : ByteArray := prog_1_method_26_code
def y_C_machineAt : MethodName := ⟨"RollStages", "machineAt", "(I)LRollStages$Machine;"⟩
def ws_C_machineAt : List Cond := .code y_C_machineAt c_C_machineAt 2 (some (.object "RollStages$Machine")) :: tbG
abbrev c_C_pin : ByteArray := prog_1_method_14_code
def y_C_pin : MethodName := ⟨"RollStages", "pin", "(II)Z"⟩
def ws_C_pin : List Cond := .code y_C_pin c_C_pin 4 (some .boolean) :: tbG
abbrev c_C_offered : ByteArray := prog_1_method_15_code
def y_C_offered : MethodName := ⟨"RollStages", "offered", "(I)I"⟩
def ws_C_offered : List Cond := .code y_C_offered c_C_offered 3 (some .int) :: tbG
abbrev c_C_offerTo : ByteArray := prog_1_method_27_code
def y_C_offerTo : MethodName := ⟨"RollStages", "offerTo", "(LRollStages$Machine;)I"⟩
def ws_C_offerTo : List Cond := .code y_C_offerTo c_C_offerTo 4 (some .int) :: tbG
abbrev c_C_newestFor : ByteArray := prog_1_method_28_code
def y_C_newestFor : MethodName := ⟨"RollStages", "newestFor", "(LRollStages$Machine;)I"⟩
def ws_C_newestFor : List Cond := .code y_C_newestFor c_C_newestFor 3 (some .int) :: tbG
abbrev c_C_mayGet : ByteArray := prog_1_method_29_code
def y_C_mayGet : MethodName := ⟨"RollStages", "mayGet", "(LRollStages$Machine;I)Z"⟩
def ws_C_mayGet : List Cond := .code y_C_mayGet c_C_mayGet 4 (some .boolean) :: tbG
abbrev c_C_isOpenTo : ByteArray := prog_1_method_31_code
def y_C_isOpenTo : MethodName := ⟨"RollStages", "isOpenTo", "(LRollStages$Machine;LRollStages$Release;I)Z"⟩
def ws_C_isOpenTo : List Cond := .code y_C_isOpenTo c_C_isOpenTo 5 (some .boolean) :: tbG
abbrev c_R_isForced : ByteArray := prog_4_method_19_code
def y_R_isForced : MethodName := ⟨"RollStages$Release", "isForced", "()Z"⟩
def ws_R_isForced : List Cond := .code y_R_isForced c_R_isForced 1 (some .boolean) :: tbG
abbrev c_R_reachesRing : ByteArray := prog_4_method_20_code
def y_R_reachesRing : MethodName := ⟨"RollStages$Release", "reachesRing", "(I)Z"⟩
def ws_R_reachesRing : List Cond := .code y_R_reachesRing c_R_reachesRing 2 (some .boolean) :: tbG
abbrev c_C_mayKeep : ByteArray := prog_1_method_30_code
def y_C_mayKeep : MethodName := ⟨"RollStages", "mayKeep", "(LRollStages$Machine;)Z"⟩
def ws_C_mayKeep : List Cond := .code y_C_mayKeep c_C_mayKeep 3 (some .boolean) :: tbG
abbrev c_C_may : ByteArray := prog_1_method_16_code
def y_C_may : MethodName := ⟨"RollStages", "may", "(II)Z"⟩
def ws_C_may : List Cond := .code y_C_may c_C_may 4 (some .boolean) :: tbG
abbrev c_C_delta : ByteArray := prog_1_method_17_code
def y_C_delta : MethodName := ⟨"RollStages", "delta", "(III)Z"⟩
def ws_C_delta : List Cond := .code y_C_delta c_C_delta 4 (some .boolean) :: tbG
abbrev c_D_put : ByteArray := prog_2_method_2_code
def y_D_put : MethodName := ⟨"RollStages$Deltas", "put", "(III)Z"⟩
def ws_D_put : List Cond := .code y_D_put c_D_put 5 (some .boolean) :: tbG
abbrev c_D_placeOf : ByteArray := prog_2_method_3_code
def y_D_placeOf : MethodName := ⟨"RollStages$Deltas", "placeOf", "(II)I"⟩
def ws_D_placeOf : List Cond := .code y_D_placeOf c_D_placeOf 4 (some .int) :: tbG
abbrev c_C_cost : ByteArray := prog_1_method_18_code
def y_C_cost : MethodName := ⟨"RollStages", "cost", "(I)I"⟩
def ws_C_cost : List Cond := .code y_C_cost c_C_cost 3 (some .int) :: tbG
abbrev c_C_findWay : ByteArray := prog_1_method_32_code
def y_C_findWay : MethodName := ⟨"RollStages", "findWay", "(LRollStages$Machine;)V"⟩
def ws_C_findWay : List Cond := .code y_C_findWay c_C_findWay 4 none :: tbG
abbrev c_D_setWay : ByteArray := prog_2_method_4_code
def y_D_setWay : MethodName := ⟨"RollStages$Deltas", "setWay", "(II)V"⟩
def ws_D_setWay : List Cond := .code y_D_setWay c_D_setWay 3 none :: tbG
abbrev c_D_searchCheaper : ByteArray := prog_2_method_5_code
def y_D_searchCheaper : MethodName := ⟨"RollStages$Deltas", "searchCheaper", "(II[LRollStages$Release;)V"⟩
def ws_D_searchCheaper : List Cond := .code y_D_searchCheaper c_D_searchCheaper 6 none :: tbG
abbrev c_D_lower : ByteArray := prog_2_method_9_code
def y_D_lower : MethodName := ⟨"RollStages$Deltas", "lower", "([III)V"⟩
def ws_D_lower : List Cond := .code y_D_lower c_D_lower 3 none :: tbG
abbrev c_D_takeOneMore : ByteArray := prog_2_method_6_code
def y_D_takeOneMore : MethodName := ⟨"RollStages$Deltas", "takeOneMore", "()V"⟩
def ws_D_takeOneMore : List Cond := .code y_D_takeOneMore c_D_takeOneMore 3 none :: tbG
abbrev c_D_sizeAt : ByteArray := prog_2_method_8_code
def y_D_sizeAt : MethodName := ⟨"RollStages$Deltas", "sizeAt", "([II)I"⟩
def ws_D_sizeAt : List Cond := .code y_D_sizeAt c_D_sizeAt 2 (some .int) :: tbG
abbrev c_D_dropRevoked : ByteArray := prog_2_method_7_code
def y_D_dropRevoked : MethodName := ⟨"RollStages$Deltas", "dropRevoked", "([LRollStages$Release;)V"⟩
def ws_D_dropRevoked : List Cond := .code y_D_dropRevoked c_D_dropRevoked 4 none :: tbG
abbrev c_C_steps : ByteArray := prog_1_method_19_code
def y_C_steps : MethodName := ⟨"RollStages", "steps", "(I)I"⟩
def ws_C_steps : List Cond := .code y_C_steps c_C_steps 3 (some .int) :: tbG
abbrev c_C_update : ByteArray := prog_1_method_20_code
def y_C_update : MethodName := ⟨"RollStages", "update", "(I)I"⟩
def ws_C_update : List Cond := .code y_C_update c_C_update 4 (some .int) :: tbG
abbrev c_C_has : ByteArray := prog_1_method_21_code
def y_C_has : MethodName := ⟨"RollStages", "has", "(I)I"⟩
def ws_C_has : List Cond := .code y_C_has c_C_has 3 (some .int) :: tbG
abbrev c_T_init : ByteArray := prog_6_method_1_code
def y_T_init : MethodName := ⟨"RollStagesModel", "<init>", "()V"⟩
def ws_T_init : List Cond := .code y_T_init c_T_init 2 none :: tbG
abbrev c_T_release : ByteArray := prog_6_method_6_code
def y_T_release : MethodName := ⟨"RollStagesModel", "release", "(IZI)I"⟩
def ws_T_release : List Cond := .code y_T_release c_T_release 4 (some .int) :: tbG
abbrev c_T_isWithin : ByteArray := prog_6_method_5_code
def y_T_isWithin : MethodName := ⟨"RollStagesModel", "isWithin", "(III)Z"⟩
def ws_T_isWithin : List Cond := .code y_T_isWithin c_T_isWithin 3 (some .boolean) :: tbG
abbrev c_T_stage : ByteArray := prog_6_method_7_code
def y_T_stage : MethodName := ⟨"RollStagesModel", "stage", "(III)Z"⟩
def ws_T_stage : List Cond := .code y_T_stage c_T_stage 4 (some .boolean) :: tbG
abbrev c_T_isRelease : ByteArray := prog_6_method_3_code
def y_T_isRelease : MethodName := ⟨"RollStagesModel", "isRelease", "(I)Z"⟩
def ws_T_isRelease : List Cond := .code y_T_isRelease c_T_isRelease 2 (some .boolean) :: tbG
abbrev c_T_health : ByteArray := prog_6_method_8_code
def y_T_health : MethodName := ⟨"RollStagesModel", "health", "(III)Z"⟩
def ws_T_health : List Cond := .code y_T_health c_T_health 4 (some .boolean) :: tbG
abbrev c_T_start : ByteArray := prog_6_method_10_code
def y_T_start : MethodName := ⟨"RollStagesModel", "start", "(I)Z"⟩
def ws_T_start : List Cond := .code y_T_start c_T_start 2 (some .boolean) :: tbG
abbrev c_T_begin : ByteArray := prog_6_method_9_code
def y_T_begin : MethodName := ⟨"RollStagesModel", "begin", "(II)V"⟩
def ws_T_begin : List Cond := .code y_T_begin c_T_begin 3 none :: tbG
abbrev c_T_report : ByteArray := prog_6_method_11_code
def y_T_report : MethodName := ⟨"RollStagesModel", "report", "(III)Z"⟩
def ws_T_report : List Cond := .code y_T_report c_T_report 4 (some .boolean) :: tbG
abbrev c_T_hold : ByteArray := prog_6_method_13_code
def y_T_hold : MethodName := ⟨"RollStagesModel", "hold", "(IZ)Z"⟩
def ws_T_hold : List Cond := .code y_T_hold c_T_hold 3 (some .boolean) :: tbG
abbrev c_T_halt : ByteArray := prog_6_method_12_code
def y_T_halt : MethodName := ⟨"RollStagesModel", "halt", "(II)V"⟩
def ws_T_halt : List Cond := .code y_T_halt c_T_halt 3 none :: tbG
abbrev c_T_revoke : ByteArray := prog_6_method_14_code
def y_T_revoke : MethodName := ⟨"RollStagesModel", "revoke", "(I)Z"⟩
def ws_T_revoke : List Cond := .code y_T_revoke c_T_revoke 2 (some .boolean) :: tbG
abbrev c_T_tick : ByteArray := prog_6_method_16_code
def y_T_tick : MethodName := ⟨"RollStagesModel", "tick", "(I)I"⟩
def ws_T_tick : List Cond := .code y_T_tick c_T_tick 4 (some .int) :: tbG
abbrev c_T_pass : ByteArray := prog_6_method_15_code
def y_T_pass : MethodName := ⟨"RollStagesModel", "pass", "(I)V"⟩
def ws_T_pass : List Cond := .code y_T_pass c_T_pass 2 none :: tbG
abbrev c_T_about : ByteArray := prog_6_method_18_code
def y_T_about : MethodName := ⟨"RollStagesModel", "about", "(II)I"⟩
def ws_T_about : List Cond := .code y_T_about c_T_about 3 (some .int) :: tbG
abbrev c_T_shareOf : ByteArray := prog_6_method_17_code
def y_T_shareOf : MethodName := ⟨"RollStagesModel", "shareOf", "(I)I"⟩
def ws_T_shareOf : List Cond := .code y_T_shareOf c_T_shareOf 2 (some .int) :: tbG
abbrev c_T_back : ByteArray := prog_6_method_19_code
def y_T_back : MethodName := ⟨"RollStagesModel", "back", "(II)Z"⟩
def ws_T_back : List Cond := .code y_T_back c_T_back 3 (some .boolean) :: tbG
abbrev c_T_machine : ByteArray := prog_6_method_20_code
def y_T_machine : MethodName := ⟨"RollStagesModel", "machine", "(II)I"⟩
def ws_T_machine : List Cond := .code y_T_machine c_T_machine 3 (some .int) :: tbG
abbrev c_T_row : ByteArray := prog_6_method_22_code
def y_T_row : MethodName := ⟨"RollStagesModel", "row", "(I)I"⟩
def ws_T_row : List Cond := .code y_T_row c_T_row 2 (some .int) :: tbG
abbrev c_T_isMachine : ByteArray := prog_6_method_4_code
def y_T_isMachine : MethodName := ⟨"RollStagesModel", "isMachine", "(I)Z"⟩
def ws_T_isMachine : List Cond := .code y_T_isMachine c_T_isMachine 2 (some .boolean) :: tbG
abbrev c_T_rowOf : ByteArray := prog_6_method_21_code
def y_T_rowOf : MethodName := ⟨"RollStagesModel", "rowOf", "(I)I"⟩
def ws_T_rowOf : List Cond := .code y_T_rowOf c_T_rowOf 1 (some .int) :: tbG
abbrev c_T_pin : ByteArray := prog_6_method_23_code
def y_T_pin : MethodName := ⟨"RollStagesModel", "pin", "(II)Z"⟩
def ws_T_pin : List Cond := .code y_T_pin c_T_pin 3 (some .boolean) :: tbG
abbrev c_T_offered : ByteArray := prog_6_method_27_code
def y_T_offered : MethodName := ⟨"RollStagesModel", "offered", "(I)I"⟩
def ws_T_offered : List Cond := .code y_T_offered c_T_offered 2 (some .int) :: tbG
abbrev c_T_offer : ByteArray := prog_6_method_26_code
def y_T_offer : MethodName := ⟨"RollStagesModel", "offer", "(I)I"⟩
def ws_T_offer : List Cond := .code y_T_offer c_T_offer 4 (some .int) :: tbG
abbrev c_T_mayGet : ByteArray := prog_6_method_25_code
def y_T_mayGet : MethodName := ⟨"RollStagesModel", "mayGet", "(II)Z"⟩
def ws_T_mayGet : List Cond := .code y_T_mayGet c_T_mayGet 3 (some .boolean) :: tbG
abbrev c_T_isBounded : ByteArray := prog_6_method_24_code
def y_T_isBounded : MethodName := ⟨"RollStagesModel", "isBounded", "(II)Z"⟩
def ws_T_isBounded : List Cond := .code y_T_isBounded c_T_isBounded 3 (some .boolean) :: tbG
abbrev c_T_may : ByteArray := prog_6_method_28_code
def y_T_may : MethodName := ⟨"RollStagesModel", "may", "(II)Z"⟩
def ws_T_may : List Cond := .code y_T_may c_T_may 3 (some .boolean) :: tbG
abbrev c_T_delta : ByteArray := prog_6_method_29_code
def y_T_delta : MethodName := ⟨"RollStagesModel", "delta", "(III)Z"⟩
def ws_T_delta : List Cond := .code y_T_delta c_T_delta 5 (some .boolean) :: tbG
abbrev c_T_cost : ByteArray := prog_6_method_32_code
def y_T_cost : MethodName := ⟨"RollStagesModel", "cost", "(I)I"⟩
def ws_T_cost : List Cond := .code y_T_cost c_T_cost 3 (some .int) :: tbG
abbrev c_T_wanted : ByteArray := prog_6_method_31_code
def y_T_wanted : MethodName := ⟨"RollStagesModel", "wanted", "(I)I"⟩
def ws_T_wanted : List Cond := .code y_T_wanted c_T_wanted 3 (some .int) :: tbG
abbrev c_T_findWays : ByteArray := prog_6_method_30_code
def y_T_findWays : MethodName := ⟨"RollStagesModel", "findWays", "(I)V"⟩
def ws_T_findWays : List Cond := .code y_T_findWays c_T_findWays 5 none :: tbG
abbrev c_T_steps : ByteArray := prog_6_method_33_code
def y_T_steps : MethodName := ⟨"RollStagesModel", "steps", "(I)I"⟩
def ws_T_steps : List Cond := .code y_T_steps c_T_steps 3 (some .int) :: tbG
abbrev c_T_update : ByteArray := prog_6_method_34_code
def y_T_update : MethodName := ⟨"RollStagesModel", "update", "(I)I"⟩
def ws_T_update : List Cond := .code y_T_update c_T_update 2 (some .int) :: tbG
abbrev c_T_has : ByteArray := prog_6_method_35_code
def y_T_has : MethodName := ⟨"RollStagesModel", "has", "(I)I"⟩
def ws_T_has : List Cond := .code y_T_has c_T_has 2 (some .int) :: tbG
abbrev c_L_law : ByteArray := code
end
section
theorem tw_0 : Cond.initialized "RollStagesLaw" ∈ tbG := tbG_in (tb_1 (i := 0) (by decide +kernel)) (by first | rfl | decide +kernel)
theorem tw_1 : Cond.initialized "RollStages" ∈ tbG := tbG_in (tb_1 (i := 1) (by decide +kernel)) (by first | rfl | decide +kernel)
theorem tw_2 : Cond.initialized "RollStages$Deltas" ∈ tbG := tbG_in (tb_1 (i := 2) (by decide +kernel)) (by first | rfl | decide +kernel)
theorem tw_3 : Cond.initialized "java/util/Arrays" ∈ tbG := tbG_in (tb_1 (i := 3) (by decide +kernel)) (by first | rfl | decide +kernel)
theorem tw_4 : Cond.initialized "RollStagesModel" ∈ tbG := tbG_in (tb_1 (i := 4) (by decide +kernel)) (by first | rfl | decide +kernel)
theorem tw_5 : Cond.initialized "RollStages$Release" ∈ tbG := tbG_in (tb_1 (i := 5) (by decide +kernel)) (by first | rfl | decide +kernel)
theorem tw_6 : Cond.initialized "java/lang/Math" ∈ tbG := tbG_in (tb_1 (i := 6) (by decide +kernel)) (by first | rfl | decide +kernel)
theorem tw_7 : Cond.initialized "RollStages$Machine" ∈ tbG := tbG_in (tb_1 (i := 7) (by decide +kernel)) (by first | rfl | decide +kernel)
theorem tw_8 : Cond.initialized "java/lang/System" ∈ tbG := tbG_in (tb_1 (i := 8) (by decide +kernel)) (by first | rfl | decide +kernel)
theorem tw_9 : Cond.classLink "RollStagesLaw" 7 "RollStages" ∈ tbG := tbG_in (tb_1 (i := 9) (by decide +kernel)) (by first | rfl | decide +kernel)
theorem tw_10 : Cond.instantiable "RollStages" 7 ∈ tbG := tbG_in (tb_1 (i := 10) (by decide +kernel)) (by first | rfl | decide +kernel)
theorem tw_11 : Cond.methodLink "RollStagesLaw" 9 ⟨"RollStages", "<init>", "()V"⟩ ∈ tbG := tbG_in (tb_1 (i := 11) (by decide +kernel)) (by first | rfl | decide +kernel)
theorem tw_12 : Cond.instanceMethod ⟨"RollStages", "<init>", "()V"⟩ ∈ tbG := tbG_in (tb_1 (i := 12) (by decide +kernel)) (by first | rfl | decide +kernel)
theorem tw_13 : Cond.code ⟨"RollStages", "<init>", "()V"⟩ prog_1_method_1_code 1 none ∈ tbG := tbG_in (tb_1 (i := 13) (rfl)) (by first | rfl | decide +kernel)
theorem tw_14 : Cond.methodLink "RollStages" 1 ⟨"java/lang/Object", "<init>", "()V"⟩ ∈ tbG := tbG_in (tb_1 (i := 14) (by decide +kernel)) (by first | rfl | decide +kernel)
theorem tw_15 : Cond.instanceMethod ⟨"java/lang/Object", "<init>", "()V"⟩ ∈ tbG := tbG_in (tb_1 (i := 15) (by decide +kernel)) (by first | rfl | decide +kernel)
theorem tw_16 : Cond.code ⟨"java/lang/Object", "<init>", "()V"⟩ object_method_1_code 1 none ∈ tbG := tbG_in (tb_1 (i := 16) (rfl)) (by first | rfl | decide +kernel)
theorem tw_17 : Cond.classLink "RollStages" 9 "RollStages$Release" ∈ tbG := tbG_in (tb_1 (i := 17) (by decide +kernel)) (by first | rfl | decide +kernel)
theorem tw_18 : Cond.arrayOver (.object "RollStages$Release") ∈ lw_tbl := tb_1 (i := 18) (by decide +kernel)
theorem tw_19 : Cond.classLink "RollStages" 15 "RollStages$Machine" ∈ tbG := tbG_in (tb_1 (i := 19) (by decide +kernel)) (by first | rfl | decide +kernel)
theorem tw_20 : Cond.arrayOver (.object "RollStages$Machine") ∈ lw_tbl := tb_1 (i := 20) (by decide +kernel)
theorem tw_21 : Cond.classLink "RollStages" 25 "RollStages$Deltas" ∈ tbG := tbG_in (tb_1 (i := 21) (by decide +kernel)) (by first | rfl | decide +kernel)
theorem tw_22 : Cond.instantiable "RollStages$Deltas" 8 ∈ tbG := tbG_in (tb_1 (i := 22) (by decide +kernel)) (by first | rfl | decide +kernel)
theorem tw_23 : Cond.methodLinkNest "RollStages" 27 ⟨"RollStages$Deltas", "<init>", "()V"⟩ "RollStages" ∈ lw_tbl := tb_1 (i := 23) (by decide +kernel)
theorem tw_24 : Cond.instanceMethod ⟨"RollStages$Deltas", "<init>", "()V"⟩ ∈ tbG := tbG_in (tb_1 (i := 24) (by decide +kernel)) (by first | rfl | decide +kernel)
theorem tw_25 : Cond.code ⟨"RollStages$Deltas", "<init>", "()V"⟩ prog_2_method_1_code 1 none ∈ tbG := tbG_in (tb_1 (i := 25) (rfl)) (by first | rfl | decide +kernel)
theorem tw_26 : Cond.methodLink "RollStages$Deltas" 3 ⟨"java/lang/Object", "<init>", "()V"⟩ ∈ tbG := tbG_in (tb_1 (i := 26) (by decide +kernel)) (by first | rfl | decide +kernel)
theorem tw_27 : Cond.fieldLink "RollStages$Deltas" 9 "RollStages$Deltas" "froms" "[I" ∈ tbG := tbG_in (tb_1 (i := 27) (by decide +kernel)) (by first | rfl | decide +kernel)
theorem tw_28 : Cond.fieldLink "RollStages$Deltas" 15 "RollStages$Deltas" "tos" "[I" ∈ tbG := tbG_in (tb_1 (i := 28) (by decide +kernel)) (by first | rfl | decide +kernel)
theorem tw_29 : Cond.fieldLink "RollStages$Deltas" 18 "RollStages$Deltas" "sizes" "[I" ∈ tbG := tbG_in (tb_1 (i := 29) (by decide +kernel)) (by first | rfl | decide +kernel)
theorem tw_30 : Cond.fieldLink "RollStages$Deltas" 35 "RollStages$Deltas" "count" "I" ∈ tbG := tbG_in (tb_1 (i := 30) (by decide +kernel)) (by first | rfl | decide +kernel)
theorem tw_31 : Cond.fieldLink "RollStages$Deltas" 21 "RollStages$Deltas" "reached" "[I" ∈ tbG := tbG_in (tb_1 (i := 31) (by decide +kernel)) (by first | rfl | decide +kernel)
theorem tw_32 : Cond.fieldLink "RollStages$Deltas" 24 "RollStages$Deltas" "next" "[I" ∈ tbG := tbG_in (tb_1 (i := 32) (by decide +kernel)) (by first | rfl | decide +kernel)
theorem tw_33 : Cond.fieldLink "RollStages$Deltas" 44 "RollStages$Deltas" "waySize" "I" ∈ tbG := tbG_in (tb_1 (i := 33) (by decide +kernel)) (by first | rfl | decide +kernel)
theorem tw_34 : Cond.fieldLinkNest "RollStages" 142 "RollStages$Deltas" "waySize" "I" "RollStages" ∈ lw_tbl := tb_1 (i := 34) (by decide +kernel)
theorem tw_35 : Cond.fieldLink "RollStages$Deltas" 47 "RollStages$Deltas" "waySteps" "I" ∈ tbG := tbG_in (tb_1 (i := 35) (by decide +kernel)) (by first | rfl | decide +kernel)
theorem tw_36 : Cond.fieldLinkNest "RollStages" 145 "RollStages$Deltas" "waySteps" "I" "RollStages" ∈ lw_tbl := tb_1 (i := 36) (by decide +kernel)
theorem tw_37 : Cond.laysFinal "RollStages$Deltas" "RollStages$Deltas" "froms" "[I" ∈ tbG := tbG_in (tb_1 (i := 37) (by decide +kernel)) (by first | rfl | decide +kernel)
theorem tw_39 : Cond.laysFinal "RollStages$Deltas" "RollStages$Deltas" "tos" "[I" ∈ tbG := tbG_in (tb_1 (i := 39) (by decide +kernel)) (by first | rfl | decide +kernel)
theorem tw_41 : Cond.laysFinal "RollStages$Deltas" "RollStages$Deltas" "sizes" "[I" ∈ tbG := tbG_in (tb_1 (i := 41) (by decide +kernel)) (by first | rfl | decide +kernel)
theorem tw_43 : Cond.lays "RollStages$Deltas" "RollStages$Deltas" "count" "I" ∈ tbG := tbG_in (tb_1 (i := 43) (by decide +kernel)) (by first | rfl | decide +kernel)
theorem tw_45 : Cond.laysFinal "RollStages$Deltas" "RollStages$Deltas" "reached" "[I" ∈ tbG := tbG_in (tb_1 (i := 45) (by decide +kernel)) (by first | rfl | decide +kernel)
theorem tw_47 : Cond.laysFinal "RollStages$Deltas" "RollStages$Deltas" "next" "[I" ∈ tbG := tbG_in (tb_1 (i := 47) (by decide +kernel)) (by first | rfl | decide +kernel)
theorem tw_49 : Cond.lays "RollStages$Deltas" "RollStages$Deltas" "waySize" "I" ∈ tbG := tbG_in (tb_1 (i := 49) (by decide +kernel)) (by first | rfl | decide +kernel)
theorem tw_51 : Cond.lays "RollStages$Deltas" "RollStages$Deltas" "waySteps" "I" ∈ tbG := tbG_in (tb_1 (i := 51) (by decide +kernel)) (by first | rfl | decide +kernel)
theorem tw_54 : Cond.arrayClass .int ∈ tbG := tbG_in (tb_1 (i := 54) (by decide +kernel)) (by first | rfl | decide +kernel)
theorem tw_55 : Cond.methodLink "RollStages" 32 ⟨"java/util/Arrays", "fill", "([II)V"⟩ ∈ tbG := tbG_in (tb_1 (i := 55) (by decide +kernel)) (by first | rfl | decide +kernel)
theorem tw_56 : Cond.static ⟨"java/util/Arrays", "fill", "([II)V"⟩ ∈ tbG := tbG_in (tb_1 (i := 56) (by decide +kernel)) (by first | rfl | decide +kernel)
theorem tw_57 : Cond.code ⟨"java/util/Arrays", "fill", "([II)V"⟩ prog_9_method_103_code 4 none ∈ tbG := tbG_in (tb_1 (i := 57) (rfl)) (by first | rfl | decide +kernel)
theorem tw_58 : Cond.fieldLink "RollStages" 11 "RollStages" "releases" "[LRollStages$Release;" ∈ tbG := tbG_in (tb_1 (i := 58) (by decide +kernel)) (by first | rfl | decide +kernel)
theorem tw_59 : Cond.fieldLink "RollStages" 17 "RollStages" "machines" "[LRollStages$Machine;" ∈ tbG := tbG_in (tb_1 (i := 59) (by decide +kernel)) (by first | rfl | decide +kernel)
theorem tw_60 : Cond.fieldLink "RollStages" 21 "RollStages" "bounds" "[I" ∈ tbG := tbG_in (tb_1 (i := 60) (by decide +kernel)) (by first | rfl | decide +kernel)
theorem tw_61 : Cond.fieldLink "RollStages" 28 "RollStages" "deltas" "LRollStages$Deltas;" ∈ tbG := tbG_in (tb_1 (i := 61) (by decide +kernel)) (by first | rfl | decide +kernel)
theorem tw_62 : Cond.fieldLink "RollStages" 38 "RollStages" "releaseCount" "I" ∈ tbG := tbG_in (tb_1 (i := 62) (by decide +kernel)) (by first | rfl | decide +kernel)
theorem tw_63 : Cond.fieldLink "RollStages" 107 "RollStages" "machineCount" "I" ∈ tbG := tbG_in (tb_1 (i := 63) (by decide +kernel)) (by first | rfl | decide +kernel)
theorem tw_64 : Cond.fieldLink "RollStages" 65 "RollStages" "clock" "I" ∈ tbG := tbG_in (tb_1 (i := 64) (by decide +kernel)) (by first | rfl | decide +kernel)
theorem tw_65 : Cond.laysFinal "RollStages" "RollStages" "releases" "[LRollStages$Release;" ∈ tbG := tbG_in (tb_1 (i := 65) (by decide +kernel)) (by first | rfl | decide +kernel)
theorem tw_67 : Cond.laysFinal "RollStages" "RollStages" "machines" "[LRollStages$Machine;" ∈ tbG := tbG_in (tb_1 (i := 67) (by decide +kernel)) (by first | rfl | decide +kernel)
theorem tw_69 : Cond.laysFinal "RollStages" "RollStages" "bounds" "[I" ∈ tbG := tbG_in (tb_1 (i := 69) (by decide +kernel)) (by first | rfl | decide +kernel)
theorem tw_71 : Cond.laysFinal "RollStages" "RollStages" "deltas" "LRollStages$Deltas;" ∈ tbG := tbG_in (tb_1 (i := 71) (by decide +kernel)) (by first | rfl | decide +kernel)
theorem tw_73 : Cond.lays "RollStages" "RollStages" "releaseCount" "I" ∈ tbG := tbG_in (tb_1 (i := 73) (by decide +kernel)) (by first | rfl | decide +kernel)
theorem tw_75 : Cond.lays "RollStages" "RollStages" "machineCount" "I" ∈ tbG := tbG_in (tb_1 (i := 75) (by decide +kernel)) (by first | rfl | decide +kernel)
theorem tw_77 : Cond.lays "RollStages" "RollStages" "clock" "I" ∈ tbG := tbG_in (tb_1 (i := 77) (by decide +kernel)) (by first | rfl | decide +kernel)
theorem tw_80 : Cond.methodLink "RollStagesLaw" 13 ⟨"RollStages", "release", "(IZI)I"⟩ ∈ tbG := tbG_in (tb_1 (i := 80) (by decide +kernel)) (by first | rfl | decide +kernel)
theorem tw_81 : Cond.instanceMethod ⟨"RollStages", "release", "(IZI)I"⟩ ∈ tbG := tbG_in (tb_1 (i := 81) (by decide +kernel)) (by first | rfl | decide +kernel)
theorem tw_82 : Cond.selects "RollStages" ⟨"RollStages", "release", "(IZI)I"⟩ ⟨"RollStages", "release", "(IZI)I"⟩ ∈ tbG := tbG_in (tb_1 (i := 82) (by decide +kernel)) (by first | rfl | decide +kernel)
theorem tw_83 : Cond.code ⟨"RollStages", "release", "(IZI)I"⟩ prog_1_method_2_code 4 (some .int) ∈ tbG := tbG_in (tb_1 (i := 83) (rfl)) (by first | rfl | decide +kernel)
theorem tw_84 : Cond.methodLink "RollStages" 42 ⟨"RollStages", "isChannel", "(I)Z"⟩ ∈ tbG := tbG_in (tb_1 (i := 84) (by decide +kernel)) (by first | rfl | decide +kernel)
theorem tw_85 : Cond.static ⟨"RollStages", "isChannel", "(I)Z"⟩ ∈ tbG := tbG_in (tb_1 (i := 85) (by decide +kernel)) (by first | rfl | decide +kernel)
theorem tw_86 : Cond.code ⟨"RollStages", "isChannel", "(I)Z"⟩ prog_1_method_23_code 1 (some .boolean) ∈ tbG := tbG_in (tb_1 (i := 86) (rfl)) (by first | rfl | decide +kernel)
theorem tw_87 : Cond.methodLink "RollStages" 47 ⟨"RollStages", "within", "(III)Z"⟩ ∈ tbG := tbG_in (tb_1 (i := 87) (by decide +kernel)) (by first | rfl | decide +kernel)
theorem tw_88 : Cond.static ⟨"RollStages", "within", "(III)Z"⟩ ∈ tbG := tbG_in (tb_1 (i := 88) (by decide +kernel)) (by first | rfl | decide +kernel)
theorem tw_89 : Cond.code ⟨"RollStages", "within", "(III)Z"⟩ prog_1_method_22_code 3 (some .boolean) ∈ tbG := tbG_in (tb_1 (i := 89) (rfl)) (by first | rfl | decide +kernel)
theorem tw_90 : Cond.constant "RollStages" 46 100000 ∈ tbG := tbG_in (tb_1 (i := 90) (by decide +kernel)) (by first | rfl | decide +kernel)
theorem tw_91 : Cond.instantiable "RollStages$Release" 14 ∈ tbG := tbG_in (tb_1 (i := 91) (by decide +kernel)) (by first | rfl | decide +kernel)
theorem tw_92 : Cond.methodLinkNest "RollStages" 51 ⟨"RollStages$Release", "<init>", "(IZI)V"⟩ "RollStages" ∈ lw_tbl := tb_1 (i := 92) (by decide +kernel)
theorem tw_93 : Cond.instanceMethod ⟨"RollStages$Release", "<init>", "(IZI)V"⟩ ∈ tbG := tbG_in (tb_1 (i := 93) (by decide +kernel)) (by first | rfl | decide +kernel)
theorem tw_94 : Cond.code ⟨"RollStages$Release", "<init>", "(IZI)V"⟩ prog_4_method_1_code 4 none ∈ tbG := tbG_in (tb_1 (i := 94) (rfl)) (by first | rfl | decide +kernel)
theorem tw_95 : Cond.methodLink "RollStages$Release" 3 ⟨"java/lang/Object", "<init>", "()V"⟩ ∈ tbG := tbG_in (tb_1 (i := 95) (by decide +kernel)) (by first | rfl | decide +kernel)
theorem tw_96 : Cond.fieldLink "RollStages$Release" 31 "RollStages$Release" "channel" "I" ∈ tbG := tbG_in (tb_1 (i := 96) (by decide +kernel)) (by first | rfl | decide +kernel)
theorem tw_97 : Cond.fieldLinkNest "RollStages" 104 "RollStages$Release" "channel" "I" "RollStages" ∈ lw_tbl := tb_1 (i := 97) (by decide +kernel)
theorem tw_98 : Cond.fieldLink "RollStages$Release" 34 "RollStages$Release" "security" "Z" ∈ tbG := tbG_in (tb_1 (i := 98) (by decide +kernel)) (by first | rfl | decide +kernel)
theorem tw_99 : Cond.fieldLink "RollStages$Release" 38 "RollStages$Release" "whole" "I" ∈ tbG := tbG_in (tb_1 (i := 99) (by decide +kernel)) (by first | rfl | decide +kernel)
theorem tw_100 : Cond.fieldLinkNest "RollStages" 181 "RollStages$Release" "whole" "I" "RollStages" ∈ lw_tbl := tb_1 (i := 100) (by decide +kernel)
theorem tw_101 : Cond.fieldLink "RollStages$Release" 9 "RollStages$Release" "shares" "[I" ∈ tbG := tbG_in (tb_1 (i := 101) (by decide +kernel)) (by first | rfl | decide +kernel)
theorem tw_102 : Cond.fieldLink "RollStages$Release" 15 "RollStages$Release" "waits" "[I" ∈ tbG := tbG_in (tb_1 (i := 102) (by decide +kernel)) (by first | rfl | decide +kernel)
theorem tw_103 : Cond.fieldLink "RollStages$Release" 41 "RollStages$Release" "stageCount" "I" ∈ tbG := tbG_in (tb_1 (i := 103) (by decide +kernel)) (by first | rfl | decide +kernel)
theorem tw_104 : Cond.fieldLink "RollStages$Release" 18 "RollStages$Release" "mostBad" "I" ∈ tbG := tbG_in (tb_1 (i := 104) (by decide +kernel)) (by first | rfl | decide +kernel)
theorem tw_105 : Cond.fieldLink "RollStages$Release" 22 "RollStages$Release" "ofReports" "I" ∈ tbG := tbG_in (tb_1 (i := 105) (by decide +kernel)) (by first | rfl | decide +kernel)
theorem tw_106 : Cond.fieldLink "RollStages$Release" 25 "RollStages$Release" "state" "I" ∈ tbG := tbG_in (tb_1 (i := 106) (by decide +kernel)) (by first | rfl | decide +kernel)
theorem tw_107 : Cond.fieldLinkNest "RollStages$Deltas" 82 "RollStages$Release" "state" "I" "RollStages" ∈ lw_tbl := tb_1 (i := 107) (by decide +kernel)
theorem tw_108 : Cond.fieldLinkNest "RollStages" 88 "RollStages$Release" "state" "I" "RollStages" ∈ lw_tbl := tb_1 (i := 108) (by decide +kernel)
theorem tw_109 : Cond.fieldLink "RollStages$Release" 28 "RollStages$Release" "why" "I" ∈ tbG := tbG_in (tb_1 (i := 109) (by decide +kernel)) (by first | rfl | decide +kernel)
theorem tw_110 : Cond.fieldLinkNest "RollStages" 95 "RollStages$Release" "why" "I" "RollStages" ∈ lw_tbl := tb_1 (i := 110) (by decide +kernel)
theorem tw_111 : Cond.fieldLink "RollStages$Release" 62 "RollStages$Release" "stageIndex" "I" ∈ tbG := tbG_in (tb_1 (i := 111) (by decide +kernel)) (by first | rfl | decide +kernel)
theorem tw_112 : Cond.fieldLink "RollStages$Release" 65 "RollStages$Release" "waitBegan" "I" ∈ tbG := tbG_in (tb_1 (i := 112) (by decide +kernel)) (by first | rfl | decide +kernel)
theorem tw_113 : Cond.fieldLink "RollStages$Release" 52 "RollStages$Release" "goodReports" "I" ∈ tbG := tbG_in (tb_1 (i := 113) (by decide +kernel)) (by first | rfl | decide +kernel)
theorem tw_114 : Cond.fieldLink "RollStages$Release" 55 "RollStages$Release" "badReports" "I" ∈ tbG := tbG_in (tb_1 (i := 114) (by decide +kernel)) (by first | rfl | decide +kernel)
theorem tw_115 : Cond.laysFinal "RollStages$Release" "RollStages$Release" "channel" "I" ∈ tbG := tbG_in (tb_1 (i := 115) (by decide +kernel)) (by first | rfl | decide +kernel)
theorem tw_117 : Cond.laysFinal "RollStages$Release" "RollStages$Release" "security" "Z" ∈ tbG := tbG_in (tb_1 (i := 117) (by decide +kernel)) (by first | rfl | decide +kernel)
theorem tw_119 : Cond.laysFinal "RollStages$Release" "RollStages$Release" "whole" "I" ∈ tbG := tbG_in (tb_1 (i := 119) (by decide +kernel)) (by first | rfl | decide +kernel)
theorem tw_121 : Cond.laysFinal "RollStages$Release" "RollStages$Release" "shares" "[I" ∈ tbG := tbG_in (tb_1 (i := 121) (by decide +kernel)) (by first | rfl | decide +kernel)
theorem tw_123 : Cond.laysFinal "RollStages$Release" "RollStages$Release" "waits" "[I" ∈ tbG := tbG_in (tb_1 (i := 123) (by decide +kernel)) (by first | rfl | decide +kernel)
theorem tw_125 : Cond.lays "RollStages$Release" "RollStages$Release" "stageCount" "I" ∈ tbG := tbG_in (tb_1 (i := 125) (by decide +kernel)) (by first | rfl | decide +kernel)
theorem tw_127 : Cond.lays "RollStages$Release" "RollStages$Release" "mostBad" "I" ∈ tbG := tbG_in (tb_1 (i := 127) (by decide +kernel)) (by first | rfl | decide +kernel)
theorem tw_129 : Cond.lays "RollStages$Release" "RollStages$Release" "ofReports" "I" ∈ tbG := tbG_in (tb_1 (i := 129) (by decide +kernel)) (by first | rfl | decide +kernel)
theorem tw_131 : Cond.lays "RollStages$Release" "RollStages$Release" "state" "I" ∈ tbG := tbG_in (tb_1 (i := 131) (by decide +kernel)) (by first | rfl | decide +kernel)
theorem tw_133 : Cond.lays "RollStages$Release" "RollStages$Release" "why" "I" ∈ tbG := tbG_in (tb_1 (i := 133) (by decide +kernel)) (by first | rfl | decide +kernel)
theorem tw_135 : Cond.lays "RollStages$Release" "RollStages$Release" "stageIndex" "I" ∈ tbG := tbG_in (tb_1 (i := 135) (by decide +kernel)) (by first | rfl | decide +kernel)
theorem tw_137 : Cond.lays "RollStages$Release" "RollStages$Release" "waitBegan" "I" ∈ tbG := tbG_in (tb_1 (i := 137) (by decide +kernel)) (by first | rfl | decide +kernel)
theorem tw_139 : Cond.lays "RollStages$Release" "RollStages$Release" "goodReports" "I" ∈ tbG := tbG_in (tb_1 (i := 139) (by decide +kernel)) (by first | rfl | decide +kernel)
theorem tw_141 : Cond.lays "RollStages$Release" "RollStages$Release" "badReports" "I" ∈ tbG := tbG_in (tb_1 (i := 141) (by decide +kernel)) (by first | rfl | decide +kernel)
theorem tw_144 : Cond.methodLink "RollStagesLaw" 18 ⟨"RollStages", "stage", "(III)Z"⟩ ∈ tbG := tbG_in (tb_1 (i := 144) (by decide +kernel)) (by first | rfl | decide +kernel)
theorem tw_145 : Cond.instanceMethod ⟨"RollStages", "stage", "(III)Z"⟩ ∈ tbG := tbG_in (tb_1 (i := 145) (by decide +kernel)) (by first | rfl | decide +kernel)
theorem tw_146 : Cond.selects "RollStages" ⟨"RollStages", "stage", "(III)Z"⟩ ⟨"RollStages", "stage", "(III)Z"⟩ ∈ tbG := tbG_in (tb_1 (i := 146) (by decide +kernel)) (by first | rfl | decide +kernel)
theorem tw_147 : Cond.code ⟨"RollStages", "stage", "(III)Z"⟩ prog_1_method_3_code 5 (some .boolean) ∈ tbG := tbG_in (tb_1 (i := 147) (rfl)) (by first | rfl | decide +kernel)
theorem tw_148 : Cond.methodLink "RollStages" 54 ⟨"RollStages", "releaseAt", "(I)LRollStages$Release;"⟩ ∈ tbG := tbG_in (tb_1 (i := 148) (by decide +kernel)) (by first | rfl | decide +kernel)
theorem tw_150 : Cond.instanceMethod ⟨"RollStages", "releaseAt", "(I)LRollStages$Release;"⟩ ∈ tbG := tbG_in (tb_1 (i := 150) (by decide +kernel)) (by first | rfl | decide +kernel)
theorem tw_151 : Cond.code ⟨"RollStages", "releaseAt", "(I)LRollStages$Release;"⟩ prog_1_method_25_code 2 (some (.object "RollStages$Release")) ∈ tbG := tbG_in (tb_1 (i := 151) (rfl)) (by first | rfl | decide +kernel)
theorem tw_152 : Cond.methodLinkNest "RollStages" 58 ⟨"RollStages$Release", "addStage", "(II)Z"⟩ "RollStages" ∈ lw_tbl := tb_1 (i := 152) (by decide +kernel)
theorem tw_154 : Cond.instanceMethod ⟨"RollStages$Release", "addStage", "(II)Z"⟩ ∈ tbG := tbG_in (tb_1 (i := 154) (by decide +kernel)) (by first | rfl | decide +kernel)
theorem tw_155 : Cond.code ⟨"RollStages$Release", "addStage", "(II)Z"⟩ prog_4_method_2_code 4 (some .boolean) ∈ tbG := tbG_in (tb_1 (i := 155) (rfl)) (by first | rfl | decide +kernel)
theorem tw_156 : Cond.methodLinkNest "RollStages$Release" 44 ⟨"RollStages", "within", "(III)Z"⟩ "RollStages" ∈ lw_tbl := tb_1 (i := 156) (by decide +kernel)
theorem tw_157 : Cond.methodLink "RollStagesLaw" 23 ⟨"RollStages", "health", "(III)Z"⟩ ∈ tbG := tbG_in (tb_1 (i := 157) (by decide +kernel)) (by first | rfl | decide +kernel)
theorem tw_158 : Cond.instanceMethod ⟨"RollStages", "health", "(III)Z"⟩ ∈ tbG := tbG_in (tb_1 (i := 158) (by decide +kernel)) (by first | rfl | decide +kernel)
theorem tw_159 : Cond.selects "RollStages" ⟨"RollStages", "health", "(III)Z"⟩ ⟨"RollStages", "health", "(III)Z"⟩ ∈ tbG := tbG_in (tb_1 (i := 159) (by decide +kernel)) (by first | rfl | decide +kernel)
theorem tw_160 : Cond.code ⟨"RollStages", "health", "(III)Z"⟩ prog_1_method_4_code 5 (some .boolean) ∈ tbG := tbG_in (tb_1 (i := 160) (rfl)) (by first | rfl | decide +kernel)
theorem tw_161 : Cond.methodLinkNest "RollStages" 62 ⟨"RollStages$Release", "setHealth", "(II)Z"⟩ "RollStages" ∈ lw_tbl := tb_1 (i := 161) (by decide +kernel)
theorem tw_163 : Cond.instanceMethod ⟨"RollStages$Release", "setHealth", "(II)Z"⟩ ∈ tbG := tbG_in (tb_1 (i := 163) (by decide +kernel)) (by first | rfl | decide +kernel)
theorem tw_164 : Cond.code ⟨"RollStages$Release", "setHealth", "(II)Z"⟩ prog_4_method_3_code 3 (some .boolean) ∈ tbG := tbG_in (tb_1 (i := 164) (rfl)) (by first | rfl | decide +kernel)
theorem tw_165 : Cond.methodLink "RollStagesLaw" 27 ⟨"RollStages", "start", "(I)Z"⟩ ∈ tbG := tbG_in (tb_1 (i := 165) (by decide +kernel)) (by first | rfl | decide +kernel)
theorem tw_166 : Cond.instanceMethod ⟨"RollStages", "start", "(I)Z"⟩ ∈ tbG := tbG_in (tb_1 (i := 166) (by decide +kernel)) (by first | rfl | decide +kernel)
theorem tw_167 : Cond.selects "RollStages" ⟨"RollStages", "start", "(I)Z"⟩ ⟨"RollStages", "start", "(I)Z"⟩ ∈ tbG := tbG_in (tb_1 (i := 167) (by decide +kernel)) (by first | rfl | decide +kernel)
theorem tw_168 : Cond.code ⟨"RollStages", "start", "(I)Z"⟩ prog_1_method_5_code 3 (some .boolean) ∈ tbG := tbG_in (tb_1 (i := 168) (rfl)) (by first | rfl | decide +kernel)
theorem tw_169 : Cond.methodLinkNest "RollStages" 68 ⟨"RollStages$Release", "begin", "(I)Z"⟩ "RollStages" ∈ lw_tbl := tb_1 (i := 169) (by decide +kernel)
theorem tw_171 : Cond.instanceMethod ⟨"RollStages$Release", "begin", "(I)Z"⟩ ∈ tbG := tbG_in (tb_1 (i := 171) (by decide +kernel)) (by first | rfl | decide +kernel)
theorem tw_172 : Cond.code ⟨"RollStages$Release", "begin", "(I)Z"⟩ prog_4_method_4_code 2 (some .boolean) ∈ tbG := tbG_in (tb_1 (i := 172) (rfl)) (by first | rfl | decide +kernel)
theorem tw_173 : Cond.methodLink "RollStages$Release" 48 ⟨"RollStages$Release", "rollAt", "(II)V"⟩ ∈ tbG := tbG_in (tb_1 (i := 173) (by decide +kernel)) (by first | rfl | decide +kernel)
theorem tw_175 : Cond.instanceMethod ⟨"RollStages$Release", "rollAt", "(II)V"⟩ ∈ tbG := tbG_in (tb_1 (i := 175) (by decide +kernel)) (by first | rfl | decide +kernel)
theorem tw_176 : Cond.code ⟨"RollStages$Release", "rollAt", "(II)V"⟩ prog_4_method_12_code 3 none ∈ tbG := tbG_in (tb_1 (i := 176) (rfl)) (by first | rfl | decide +kernel)
theorem tw_177 : Cond.methodLink "RollStagesLaw" 32 ⟨"RollStages", "report", "(III)Z"⟩ ∈ tbG := tbG_in (tb_1 (i := 177) (by decide +kernel)) (by first | rfl | decide +kernel)
theorem tw_178 : Cond.instanceMethod ⟨"RollStages", "report", "(III)Z"⟩ ∈ tbG := tbG_in (tb_1 (i := 178) (by decide +kernel)) (by first | rfl | decide +kernel)
theorem tw_179 : Cond.selects "RollStages" ⟨"RollStages", "report", "(III)Z"⟩ ⟨"RollStages", "report", "(III)Z"⟩ ∈ tbG := tbG_in (tb_1 (i := 179) (by decide +kernel)) (by first | rfl | decide +kernel)
theorem tw_180 : Cond.code ⟨"RollStages", "report", "(III)Z"⟩ prog_1_method_6_code 5 (some .boolean) ∈ tbG := tbG_in (tb_1 (i := 180) (rfl)) (by first | rfl | decide +kernel)
theorem tw_181 : Cond.methodLinkNest "RollStages" 71 ⟨"RollStages$Release", "addReports", "(II)Z"⟩ "RollStages" ∈ lw_tbl := tb_1 (i := 181) (by decide +kernel)
theorem tw_183 : Cond.instanceMethod ⟨"RollStages$Release", "addReports", "(II)Z"⟩ ∈ tbG := tbG_in (tb_1 (i := 183) (by decide +kernel)) (by first | rfl | decide +kernel)
theorem tw_184 : Cond.code ⟨"RollStages$Release", "addReports", "(II)Z"⟩ prog_4_method_5_code 3 (some .boolean) ∈ tbG := tbG_in (tb_1 (i := 184) (rfl)) (by first | rfl | decide +kernel)
theorem tw_185 : Cond.methodLink "RollStagesLaw" 36 ⟨"RollStages", "hold", "(IZ)Z"⟩ ∈ tbG := tbG_in (tb_1 (i := 185) (by decide +kernel)) (by first | rfl | decide +kernel)
theorem tw_186 : Cond.instanceMethod ⟨"RollStages", "hold", "(IZ)Z"⟩ ∈ tbG := tbG_in (tb_1 (i := 186) (by decide +kernel)) (by first | rfl | decide +kernel)
theorem tw_187 : Cond.selects "RollStages" ⟨"RollStages", "hold", "(IZ)Z"⟩ ⟨"RollStages", "hold", "(IZ)Z"⟩ ∈ tbG := tbG_in (tb_1 (i := 187) (by decide +kernel)) (by first | rfl | decide +kernel)
theorem tw_188 : Cond.code ⟨"RollStages", "hold", "(IZ)Z"⟩ prog_1_method_7_code 4 (some .boolean) ∈ tbG := tbG_in (tb_1 (i := 188) (rfl)) (by first | rfl | decide +kernel)
theorem tw_189 : Cond.methodLinkNest "RollStages" 74 ⟨"RollStages$Release", "holdByHand", "()Z"⟩ "RollStages" ∈ lw_tbl := tb_1 (i := 189) (by decide +kernel)
theorem tw_191 : Cond.instanceMethod ⟨"RollStages$Release", "holdByHand", "()Z"⟩ ∈ tbG := tbG_in (tb_1 (i := 191) (by decide +kernel)) (by first | rfl | decide +kernel)
theorem tw_192 : Cond.code ⟨"RollStages$Release", "holdByHand", "()Z"⟩ prog_4_method_6_code 1 (some .boolean) ∈ tbG := tbG_in (tb_1 (i := 192) (rfl)) (by first | rfl | decide +kernel)
theorem tw_193 : Cond.methodLink "RollStages$Release" 58 ⟨"RollStages$Release", "holdFor", "(I)V"⟩ ∈ tbG := tbG_in (tb_1 (i := 193) (by decide +kernel)) (by first | rfl | decide +kernel)
theorem tw_195 : Cond.instanceMethod ⟨"RollStages$Release", "holdFor", "(I)V"⟩ ∈ tbG := tbG_in (tb_1 (i := 195) (by decide +kernel)) (by first | rfl | decide +kernel)
theorem tw_196 : Cond.code ⟨"RollStages$Release", "holdFor", "(I)V"⟩ prog_4_method_13_code 2 none ∈ tbG := tbG_in (tb_1 (i := 196) (rfl)) (by first | rfl | decide +kernel)
theorem tw_197 : Cond.methodLinkNest "RollStages" 78 ⟨"RollStages$Release", "goOn", "(I)Z"⟩ "RollStages" ∈ lw_tbl := tb_1 (i := 197) (by decide +kernel)
theorem tw_199 : Cond.instanceMethod ⟨"RollStages$Release", "goOn", "(I)Z"⟩ ∈ tbG := tbG_in (tb_1 (i := 199) (by decide +kernel)) (by first | rfl | decide +kernel)
theorem tw_200 : Cond.code ⟨"RollStages$Release", "goOn", "(I)Z"⟩ prog_4_method_7_code 2 (some .boolean) ∈ tbG := tbG_in (tb_1 (i := 200) (rfl)) (by first | rfl | decide +kernel)
theorem tw_201 : Cond.methodLink "RollStagesLaw" 41 ⟨"RollStages", "revoke", "(I)Z"⟩ ∈ tbG := tbG_in (tb_1 (i := 201) (by decide +kernel)) (by first | rfl | decide +kernel)
theorem tw_202 : Cond.instanceMethod ⟨"RollStages", "revoke", "(I)Z"⟩ ∈ tbG := tbG_in (tb_1 (i := 202) (by decide +kernel)) (by first | rfl | decide +kernel)
theorem tw_203 : Cond.selects "RollStages" ⟨"RollStages", "revoke", "(I)Z"⟩ ⟨"RollStages", "revoke", "(I)Z"⟩ ∈ tbG := tbG_in (tb_1 (i := 203) (by decide +kernel)) (by first | rfl | decide +kernel)
theorem tw_204 : Cond.code ⟨"RollStages", "revoke", "(I)Z"⟩ prog_1_method_8_code 3 (some .boolean) ∈ tbG := tbG_in (tb_1 (i := 204) (rfl)) (by first | rfl | decide +kernel)
theorem tw_205 : Cond.methodLinkNest "RollStages" 81 ⟨"RollStages$Release", "bar", "()Z"⟩ "RollStages" ∈ lw_tbl := tb_1 (i := 205) (by decide +kernel)
theorem tw_207 : Cond.instanceMethod ⟨"RollStages$Release", "bar", "()Z"⟩ ∈ tbG := tbG_in (tb_1 (i := 207) (by decide +kernel)) (by first | rfl | decide +kernel)
theorem tw_208 : Cond.code ⟨"RollStages$Release", "bar", "()Z"⟩ prog_4_method_8_code 1 (some .boolean) ∈ tbG := tbG_in (tb_1 (i := 208) (rfl)) (by first | rfl | decide +kernel)
theorem tw_209 : Cond.methodLink "RollStagesLaw" 45 ⟨"RollStages", "tick", "(I)I"⟩ ∈ tbG := tbG_in (tb_1 (i := 209) (by decide +kernel)) (by first | rfl | decide +kernel)
theorem tw_210 : Cond.instanceMethod ⟨"RollStages", "tick", "(I)I"⟩ ∈ tbG := tbG_in (tb_1 (i := 210) (by decide +kernel)) (by first | rfl | decide +kernel)
theorem tw_211 : Cond.selects "RollStages" ⟨"RollStages", "tick", "(I)I"⟩ ⟨"RollStages", "tick", "(I)I"⟩ ∈ tbG := tbG_in (tb_1 (i := 211) (by decide +kernel)) (by first | rfl | decide +kernel)
theorem tw_212 : Cond.code ⟨"RollStages", "tick", "(I)I"⟩ prog_1_method_9_code 5 (some .int) ∈ tbG := tbG_in (tb_1 (i := 212) (rfl)) (by first | rfl | decide +kernel)
theorem tw_213 : Cond.methodLinkNest "RollStages" 84 ⟨"RollStages$Release", "passTicks", "(II)V"⟩ "RollStages" ∈ lw_tbl := tb_1 (i := 213) (by decide +kernel)
theorem tw_215 : Cond.instanceMethod ⟨"RollStages$Release", "passTicks", "(II)V"⟩ ∈ tbG := tbG_in (tb_1 (i := 215) (by decide +kernel)) (by first | rfl | decide +kernel)
theorem tw_216 : Cond.code ⟨"RollStages$Release", "passTicks", "(II)V"⟩ prog_4_method_9_code 5 none ∈ tbG := tbG_in (tb_1 (i := 216) (rfl)) (by first | rfl | decide +kernel)
theorem tw_217 : Cond.methodLink "RollStages$Release" 68 ⟨"RollStages$Release", "valueOfStage", "([I)I"⟩ ∈ tbG := tbG_in (tb_1 (i := 217) (by decide +kernel)) (by first | rfl | decide +kernel)
theorem tw_219 : Cond.instanceMethod ⟨"RollStages$Release", "valueOfStage", "([I)I"⟩ ∈ tbG := tbG_in (tb_1 (i := 219) (by decide +kernel)) (by first | rfl | decide +kernel)
theorem tw_220 : Cond.code ⟨"RollStages$Release", "valueOfStage", "([I)I"⟩ prog_4_method_17_code 2 (some .int) ∈ tbG := tbG_in (tb_1 (i := 220) (rfl)) (by first | rfl | decide +kernel)
theorem tw_221 : Cond.methodLink "RollStages$Release" 72 ⟨"java/lang/Math", "max", "(II)I"⟩ ∈ tbG := tbG_in (tb_1 (i := 221) (by decide +kernel)) (by first | rfl | decide +kernel)
theorem tw_222 : Cond.static ⟨"java/lang/Math", "max", "(II)I"⟩ ∈ tbG := tbG_in (tb_1 (i := 222) (by decide +kernel)) (by first | rfl | decide +kernel)
theorem tw_223 : Cond.code ⟨"java/lang/Math", "max", "(II)I"⟩ prog_7_method_65_code 2 (some .int) ∈ tbG := tbG_in (tb_1 (i := 223) (rfl)) (by first | rfl | decide +kernel)
theorem tw_224 : Cond.methodLink "RollStages$Release" 78 ⟨"RollStages$Release", "judge", "(I)V"⟩ ∈ tbG := tbG_in (tb_1 (i := 224) (by decide +kernel)) (by first | rfl | decide +kernel)
theorem tw_226 : Cond.instanceMethod ⟨"RollStages$Release", "judge", "(I)V"⟩ ∈ tbG := tbG_in (tb_1 (i := 226) (by decide +kernel)) (by first | rfl | decide +kernel)
theorem tw_227 : Cond.code ⟨"RollStages$Release", "judge", "(I)V"⟩ prog_4_method_10_code 2 none ∈ tbG := tbG_in (tb_1 (i := 227) (rfl)) (by first | rfl | decide +kernel)
theorem tw_228 : Cond.methodLink "RollStages$Release" 81 ⟨"RollStages$Release", "allReports", "()I"⟩ ∈ tbG := tbG_in (tb_1 (i := 228) (by decide +kernel)) (by first | rfl | decide +kernel)
theorem tw_230 : Cond.instanceMethod ⟨"RollStages$Release", "allReports", "()I"⟩ ∈ tbG := tbG_in (tb_1 (i := 230) (by decide +kernel)) (by first | rfl | decide +kernel)
theorem tw_231 : Cond.code ⟨"RollStages$Release", "allReports", "()I"⟩ prog_4_method_18_code 1 (some .int) ∈ tbG := tbG_in (tb_1 (i := 231) (rfl)) (by first | rfl | decide +kernel)
theorem tw_232 : Cond.methodLink "RollStages$Release" 85 ⟨"RollStages$Release", "isTooBad", "()Z"⟩ ∈ tbG := tbG_in (tb_1 (i := 232) (by decide +kernel)) (by first | rfl | decide +kernel)
theorem tw_234 : Cond.instanceMethod ⟨"RollStages$Release", "isTooBad", "()Z"⟩ ∈ tbG := tbG_in (tb_1 (i := 234) (by decide +kernel)) (by first | rfl | decide +kernel)
theorem tw_235 : Cond.code ⟨"RollStages$Release", "isTooBad", "()Z"⟩ prog_4_method_11_code 1 (some .boolean) ∈ tbG := tbG_in (tb_1 (i := 235) (rfl)) (by first | rfl | decide +kernel)
theorem tw_236 : Cond.methodLink "RollStagesLaw" 50 ⟨"RollStages", "about", "(II)I"⟩ ∈ tbG := tbG_in (tb_1 (i := 236) (by decide +kernel)) (by first | rfl | decide +kernel)
theorem tw_237 : Cond.instanceMethod ⟨"RollStages", "about", "(II)I"⟩ ∈ tbG := tbG_in (tb_1 (i := 237) (by decide +kernel)) (by first | rfl | decide +kernel)
end
section
theorem tw_238 : Cond.selects "RollStages" ⟨"RollStages", "about", "(II)I"⟩ ⟨"RollStages", "about", "(II)I"⟩ ∈ tbG := tbG_in (tb_1 (i := 238) (by decide +kernel)) (by first | rfl | decide +kernel)
theorem tw_239 : Cond.code ⟨"RollStages", "about", "(II)I"⟩ prog_1_method_10_code 4 (some .int) ∈ tbG := tbG_in (tb_1 (i := 239) (rfl)) (by first | rfl | decide +kernel)
theorem tw_240 : Cond.methodLinkNest "RollStages" 91 ⟨"RollStages$Release", "stageNow", "()I"⟩ "RollStages" ∈ lw_tbl := tb_2 (i := 0) (by decide +kernel)
theorem tw_242 : Cond.instanceMethod ⟨"RollStages$Release", "stageNow", "()I"⟩ ∈ tbG := tbG_in (tb_2 (i := 2) (by decide +kernel)) (by first | rfl | decide +kernel)
theorem tw_243 : Cond.code ⟨"RollStages$Release", "stageNow", "()I"⟩ prog_4_method_15_code 1 (some .int) ∈ tbG := tbG_in (tb_2 (i := 3) (rfl)) (by first | rfl | decide +kernel)
theorem tw_244 : Cond.methodLink "RollStages$Release" 89 ⟨"RollStages$Release", "isAtStage", "()Z"⟩ ∈ tbG := tbG_in (tb_2 (i := 4) (by decide +kernel)) (by first | rfl | decide +kernel)
theorem tw_246 : Cond.instanceMethod ⟨"RollStages$Release", "isAtStage", "()Z"⟩ ∈ tbG := tbG_in (tb_2 (i := 6) (by decide +kernel)) (by first | rfl | decide +kernel)
theorem tw_247 : Cond.code ⟨"RollStages$Release", "isAtStage", "()Z"⟩ prog_4_method_14_code 1 (some .boolean) ∈ tbG := tbG_in (tb_2 (i := 7) (rfl)) (by first | rfl | decide +kernel)
theorem tw_248 : Cond.methodLinkNest "RollStages" 98 ⟨"RollStages$Release", "shareNow", "()I"⟩ "RollStages" ∈ lw_tbl := tb_2 (i := 8) (by decide +kernel)
theorem tw_250 : Cond.instanceMethod ⟨"RollStages$Release", "shareNow", "()I"⟩ ∈ tbG := tbG_in (tb_2 (i := 10) (by decide +kernel)) (by first | rfl | decide +kernel)
theorem tw_251 : Cond.code ⟨"RollStages$Release", "shareNow", "()I"⟩ prog_4_method_16_code 1 (some .int) ∈ tbG := tbG_in (tb_2 (i := 11) (rfl)) (by first | rfl | decide +kernel)
theorem tw_252 : Cond.methodLinkNest "RollStages" 101 ⟨"RollStages$Release", "allReports", "()I"⟩ "RollStages" ∈ lw_tbl := tb_2 (i := 12) (by decide +kernel)
theorem tw_253 : Cond.methodLink "RollStagesLaw" 55 ⟨"RollStages", "back", "(II)Z"⟩ ∈ tbG := tbG_in (tb_2 (i := 13) (by decide +kernel)) (by first | rfl | decide +kernel)
theorem tw_254 : Cond.instanceMethod ⟨"RollStages", "back", "(II)Z"⟩ ∈ tbG := tbG_in (tb_2 (i := 14) (by decide +kernel)) (by first | rfl | decide +kernel)
theorem tw_255 : Cond.selects "RollStages" ⟨"RollStages", "back", "(II)Z"⟩ ⟨"RollStages", "back", "(II)Z"⟩ ∈ tbG := tbG_in (tb_2 (i := 15) (by decide +kernel)) (by first | rfl | decide +kernel)
theorem tw_256 : Cond.code ⟨"RollStages", "back", "(II)Z"⟩ prog_1_method_11_code 4 (some .boolean) ∈ tbG := tbG_in (tb_2 (i := 16) (rfl)) (by first | rfl | decide +kernel)
theorem tw_257 : Cond.methodLink "RollStagesLaw" 60 ⟨"RollStages", "machine", "(II)I"⟩ ∈ tbG := tbG_in (tb_2 (i := 17) (by decide +kernel)) (by first | rfl | decide +kernel)
theorem tw_258 : Cond.instanceMethod ⟨"RollStages", "machine", "(II)I"⟩ ∈ tbG := tbG_in (tb_2 (i := 18) (by decide +kernel)) (by first | rfl | decide +kernel)
theorem tw_259 : Cond.selects "RollStages" ⟨"RollStages", "machine", "(II)I"⟩ ⟨"RollStages", "machine", "(II)I"⟩ ∈ tbG := tbG_in (tb_2 (i := 19) (by decide +kernel)) (by first | rfl | decide +kernel)
theorem tw_260 : Cond.code ⟨"RollStages", "machine", "(II)I"⟩ prog_1_method_12_code 3 (some .int) ∈ tbG := tbG_in (tb_2 (i := 20) (rfl)) (by first | rfl | decide +kernel)
theorem tw_261 : Cond.instantiable "RollStages$Machine" 5 ∈ tbG := tbG_in (tb_2 (i := 21) (by decide +kernel)) (by first | rfl | decide +kernel)
theorem tw_262 : Cond.methodLink "RollStages" 110 ⟨"RollStages", "rowOf", "(I)I"⟩ ∈ tbG := tbG_in (tb_2 (i := 22) (by decide +kernel)) (by first | rfl | decide +kernel)
theorem tw_263 : Cond.static ⟨"RollStages", "rowOf", "(I)I"⟩ ∈ tbG := tbG_in (tb_2 (i := 23) (by decide +kernel)) (by first | rfl | decide +kernel)
theorem tw_264 : Cond.code ⟨"RollStages", "rowOf", "(I)I"⟩ prog_1_method_24_code 3 (some .int) ∈ tbG := tbG_in (tb_2 (i := 24) (rfl)) (by first | rfl | decide +kernel)
theorem tw_265 : Cond.constantLong "RollStages" 151 2654435761 ∈ tbG := tbG_in (tb_2 (i := 25) (by decide +kernel)) (by first | rfl | decide +kernel)
theorem tw_266 : Cond.constantLong "RollStages" 153 4294967295 ∈ tbG := tbG_in (tb_2 (i := 26) (by decide +kernel)) (by first | rfl | decide +kernel)
theorem tw_267 : Cond.constantLong "RollStages" 155 1000 ∈ tbG := tbG_in (tb_2 (i := 27) (by decide +kernel)) (by first | rfl | decide +kernel)
theorem tw_268 : Cond.methodLinkNest "RollStages" 114 ⟨"RollStages$Machine", "<init>", "(III)V"⟩ "RollStages" ∈ lw_tbl := tb_2 (i := 28) (by decide +kernel)
theorem tw_269 : Cond.instanceMethod ⟨"RollStages$Machine", "<init>", "(III)V"⟩ ∈ tbG := tbG_in (tb_2 (i := 29) (by decide +kernel)) (by first | rfl | decide +kernel)
theorem tw_270 : Cond.code ⟨"RollStages$Machine", "<init>", "(III)V"⟩ prog_3_method_1_code 4 none ∈ tbG := tbG_in (tb_2 (i := 30) (rfl)) (by first | rfl | decide +kernel)
theorem tw_271 : Cond.methodLink "RollStages$Machine" 3 ⟨"java/lang/Object", "<init>", "()V"⟩ ∈ tbG := tbG_in (tb_2 (i := 31) (by decide +kernel)) (by first | rfl | decide +kernel)
theorem tw_272 : Cond.fieldLink "RollStages$Machine" 18 "RollStages$Machine" "channel" "I" ∈ tbG := tbG_in (tb_2 (i := 32) (by decide +kernel)) (by first | rfl | decide +kernel)
theorem tw_273 : Cond.fieldLinkNest "RollStages" 177 "RollStages$Machine" "channel" "I" "RollStages" ∈ lw_tbl := tb_2 (i := 33) (by decide +kernel)
theorem tw_274 : Cond.fieldLink "RollStages$Machine" 21 "RollStages$Machine" "ring" "I" ∈ tbG := tbG_in (tb_2 (i := 34) (by decide +kernel)) (by first | rfl | decide +kernel)
theorem tw_275 : Cond.fieldLinkNest "RollStages" 171 "RollStages$Machine" "ring" "I" "RollStages" ∈ lw_tbl := tb_2 (i := 35) (by decide +kernel)
theorem tw_276 : Cond.fieldLink "RollStages$Machine" 24 "RollStages$Machine" "row" "I" ∈ tbG := tbG_in (tb_2 (i := 36) (by decide +kernel)) (by first | rfl | decide +kernel)
theorem tw_277 : Cond.fieldLinkNest "RollStages" 121 "RollStages$Machine" "row" "I" "RollStages" ∈ lw_tbl := tb_2 (i := 37) (by decide +kernel)
theorem tw_278 : Cond.fieldLink "RollStages$Machine" 9 "RollStages$Machine" "has" "I" ∈ tbG := tbG_in (tb_2 (i := 38) (by decide +kernel)) (by first | rfl | decide +kernel)
theorem tw_279 : Cond.fieldLinkNest "RollStages" 148 "RollStages$Machine" "has" "I" "RollStages" ∈ lw_tbl := tb_2 (i := 39) (by decide +kernel)
theorem tw_280 : Cond.fieldLink "RollStages$Machine" 15 "RollStages$Machine" "pin" "I" ∈ tbG := tbG_in (tb_2 (i := 40) (by decide +kernel)) (by first | rfl | decide +kernel)
theorem tw_281 : Cond.fieldLinkNest "RollStages" 124 "RollStages$Machine" "pin" "I" "RollStages" ∈ lw_tbl := tb_2 (i := 41) (by decide +kernel)
theorem tw_282 : Cond.laysFinal "RollStages$Machine" "RollStages$Machine" "channel" "I" ∈ tbG := tbG_in (tb_2 (i := 42) (by decide +kernel)) (by first | rfl | decide +kernel)
theorem tw_284 : Cond.laysFinal "RollStages$Machine" "RollStages$Machine" "ring" "I" ∈ tbG := tbG_in (tb_2 (i := 44) (by decide +kernel)) (by first | rfl | decide +kernel)
theorem tw_286 : Cond.laysFinal "RollStages$Machine" "RollStages$Machine" "row" "I" ∈ tbG := tbG_in (tb_2 (i := 46) (by decide +kernel)) (by first | rfl | decide +kernel)
theorem tw_288 : Cond.lays "RollStages$Machine" "RollStages$Machine" "has" "I" ∈ tbG := tbG_in (tb_2 (i := 48) (by decide +kernel)) (by first | rfl | decide +kernel)
theorem tw_290 : Cond.lays "RollStages$Machine" "RollStages$Machine" "pin" "I" ∈ tbG := tbG_in (tb_2 (i := 50) (by decide +kernel)) (by first | rfl | decide +kernel)
theorem tw_293 : Cond.methodLink "RollStagesLaw" 64 ⟨"RollStages", "row", "(I)I"⟩ ∈ tbG := tbG_in (tb_2 (i := 53) (by decide +kernel)) (by first | rfl | decide +kernel)
theorem tw_294 : Cond.instanceMethod ⟨"RollStages", "row", "(I)I"⟩ ∈ tbG := tbG_in (tb_2 (i := 54) (by decide +kernel)) (by first | rfl | decide +kernel)
theorem tw_295 : Cond.selects "RollStages" ⟨"RollStages", "row", "(I)I"⟩ ⟨"RollStages", "row", "(I)I"⟩ ∈ tbG := tbG_in (tb_2 (i := 55) (by decide +kernel)) (by first | rfl | decide +kernel)
theorem tw_296 : Cond.code ⟨"RollStages", "row", "(I)I"⟩ prog_1_method_13_code 3 (some .int) ∈ tbG := tbG_in (tb_2 (i := 56) (rfl)) (by first | rfl | decide +kernel)
theorem tw_297 : Cond.methodLink "RollStages" 117 ⟨"RollStages", "machineAt", "(I)LRollStages$Machine;"⟩ ∈ tbG := tbG_in (tb_2 (i := 57) (by decide +kernel)) (by first | rfl | decide +kernel)
theorem tw_299 : Cond.instanceMethod ⟨"RollStages", "machineAt", "(I)LRollStages$Machine;"⟩ ∈ tbG := tbG_in (tb_2 (i := 59) (by decide +kernel)) (by first | rfl | decide +kernel)
theorem tw_300 : Cond.code ⟨"RollStages", "machineAt", "(I)LRollStages$Machine;"⟩ prog_1_method_26_code 2 (some (.object "RollStages$Machine")) ∈ tbG := tbG_in (tb_2 (i := 60) (rfl)) (by first | rfl | decide +kernel)
theorem tw_301 : Cond.methodLink "RollStagesLaw" 68 ⟨"RollStages", "pin", "(II)Z"⟩ ∈ tbG := tbG_in (tb_2 (i := 61) (by decide +kernel)) (by first | rfl | decide +kernel)
theorem tw_302 : Cond.instanceMethod ⟨"RollStages", "pin", "(II)Z"⟩ ∈ tbG := tbG_in (tb_2 (i := 62) (by decide +kernel)) (by first | rfl | decide +kernel)
theorem tw_303 : Cond.selects "RollStages" ⟨"RollStages", "pin", "(II)Z"⟩ ⟨"RollStages", "pin", "(II)Z"⟩ ∈ tbG := tbG_in (tb_2 (i := 63) (by decide +kernel)) (by first | rfl | decide +kernel)
theorem tw_304 : Cond.code ⟨"RollStages", "pin", "(II)Z"⟩ prog_1_method_14_code 4 (some .boolean) ∈ tbG := tbG_in (tb_2 (i := 64) (rfl)) (by first | rfl | decide +kernel)
theorem tw_305 : Cond.methodLink "RollStagesLaw" 72 ⟨"RollStages", "offered", "(I)I"⟩ ∈ tbG := tbG_in (tb_2 (i := 65) (by decide +kernel)) (by first | rfl | decide +kernel)
theorem tw_306 : Cond.instanceMethod ⟨"RollStages", "offered", "(I)I"⟩ ∈ tbG := tbG_in (tb_2 (i := 66) (by decide +kernel)) (by first | rfl | decide +kernel)
theorem tw_307 : Cond.selects "RollStages" ⟨"RollStages", "offered", "(I)I"⟩ ⟨"RollStages", "offered", "(I)I"⟩ ∈ tbG := tbG_in (tb_2 (i := 67) (by decide +kernel)) (by first | rfl | decide +kernel)
theorem tw_308 : Cond.code ⟨"RollStages", "offered", "(I)I"⟩ prog_1_method_15_code 3 (some .int) ∈ tbG := tbG_in (tb_2 (i := 68) (rfl)) (by first | rfl | decide +kernel)
theorem tw_309 : Cond.methodLink "RollStages" 127 ⟨"RollStages", "offerTo", "(LRollStages$Machine;)I"⟩ ∈ tbG := tbG_in (tb_2 (i := 69) (by decide +kernel)) (by first | rfl | decide +kernel)
theorem tw_311 : Cond.instanceMethod ⟨"RollStages", "offerTo", "(LRollStages$Machine;)I"⟩ ∈ tbG := tbG_in (tb_2 (i := 71) (by decide +kernel)) (by first | rfl | decide +kernel)
theorem tw_312 : Cond.code ⟨"RollStages", "offerTo", "(LRollStages$Machine;)I"⟩ prog_1_method_27_code 4 (some .int) ∈ tbG := tbG_in (tb_2 (i := 72) (rfl)) (by first | rfl | decide +kernel)
theorem tw_313 : Cond.methodLink "RollStages" 157 ⟨"RollStages", "newestFor", "(LRollStages$Machine;)I"⟩ ∈ tbG := tbG_in (tb_2 (i := 73) (by decide +kernel)) (by first | rfl | decide +kernel)
theorem tw_315 : Cond.instanceMethod ⟨"RollStages", "newestFor", "(LRollStages$Machine;)I"⟩ ∈ tbG := tbG_in (tb_2 (i := 75) (by decide +kernel)) (by first | rfl | decide +kernel)
theorem tw_316 : Cond.code ⟨"RollStages", "newestFor", "(LRollStages$Machine;)I"⟩ prog_1_method_28_code 3 (some .int) ∈ tbG := tbG_in (tb_2 (i := 76) (rfl)) (by first | rfl | decide +kernel)
theorem tw_317 : Cond.methodLink "RollStages" 131 ⟨"RollStages", "mayGet", "(LRollStages$Machine;I)Z"⟩ ∈ tbG := tbG_in (tb_2 (i := 77) (by decide +kernel)) (by first | rfl | decide +kernel)
theorem tw_319 : Cond.instanceMethod ⟨"RollStages", "mayGet", "(LRollStages$Machine;I)Z"⟩ ∈ tbG := tbG_in (tb_2 (i := 79) (by decide +kernel)) (by first | rfl | decide +kernel)
theorem tw_320 : Cond.code ⟨"RollStages", "mayGet", "(LRollStages$Machine;I)Z"⟩ prog_1_method_29_code 4 (some .boolean) ∈ tbG := tbG_in (tb_2 (i := 80) (rfl)) (by first | rfl | decide +kernel)
theorem tw_321 : Cond.methodLink "RollStages" 164 ⟨"RollStages", "isOpenTo", "(LRollStages$Machine;LRollStages$Release;I)Z"⟩ ∈ tbG := tbG_in (tb_2 (i := 81) (by decide +kernel)) (by first | rfl | decide +kernel)
theorem tw_323 : Cond.instanceMethod ⟨"RollStages", "isOpenTo", "(LRollStages$Machine;LRollStages$Release;I)Z"⟩ ∈ tbG := tbG_in (tb_2 (i := 83) (by decide +kernel)) (by first | rfl | decide +kernel)
theorem tw_324 : Cond.code ⟨"RollStages", "isOpenTo", "(LRollStages$Machine;LRollStages$Release;I)Z"⟩ prog_1_method_31_code 5 (some .boolean) ∈ tbG := tbG_in (tb_2 (i := 84) (rfl)) (by first | rfl | decide +kernel)
theorem tw_325 : Cond.methodLinkNest "RollStages" 168 ⟨"RollStages$Release", "isForced", "()Z"⟩ "RollStages" ∈ lw_tbl := tb_2 (i := 85) (by decide +kernel)
theorem tw_327 : Cond.instanceMethod ⟨"RollStages$Release", "isForced", "()Z"⟩ ∈ tbG := tbG_in (tb_2 (i := 87) (by decide +kernel)) (by first | rfl | decide +kernel)
theorem tw_328 : Cond.code ⟨"RollStages$Release", "isForced", "()Z"⟩ prog_4_method_19_code 1 (some .boolean) ∈ tbG := tbG_in (tb_2 (i := 88) (rfl)) (by first | rfl | decide +kernel)
theorem tw_329 : Cond.methodLinkNest "RollStages" 174 ⟨"RollStages$Release", "reachesRing", "(I)Z"⟩ "RollStages" ∈ lw_tbl := tb_2 (i := 89) (by decide +kernel)
theorem tw_331 : Cond.instanceMethod ⟨"RollStages$Release", "reachesRing", "(I)Z"⟩ ∈ tbG := tbG_in (tb_2 (i := 91) (by decide +kernel)) (by first | rfl | decide +kernel)
theorem tw_332 : Cond.code ⟨"RollStages$Release", "reachesRing", "(I)Z"⟩ prog_4_method_20_code 2 (some .boolean) ∈ tbG := tbG_in (tb_2 (i := 92) (rfl)) (by first | rfl | decide +kernel)
theorem tw_333 : Cond.methodLink "RollStages" 160 ⟨"RollStages", "mayKeep", "(LRollStages$Machine;)Z"⟩ ∈ tbG := tbG_in (tb_2 (i := 93) (by decide +kernel)) (by first | rfl | decide +kernel)
theorem tw_335 : Cond.instanceMethod ⟨"RollStages", "mayKeep", "(LRollStages$Machine;)Z"⟩ ∈ tbG := tbG_in (tb_2 (i := 95) (by decide +kernel)) (by first | rfl | decide +kernel)
theorem tw_336 : Cond.code ⟨"RollStages", "mayKeep", "(LRollStages$Machine;)Z"⟩ prog_1_method_30_code 3 (some .boolean) ∈ tbG := tbG_in (tb_2 (i := 96) (rfl)) (by first | rfl | decide +kernel)
theorem tw_337 : Cond.methodLink "RollStagesLaw" 76 ⟨"RollStages", "may", "(II)Z"⟩ ∈ tbG := tbG_in (tb_2 (i := 97) (by decide +kernel)) (by first | rfl | decide +kernel)
theorem tw_338 : Cond.instanceMethod ⟨"RollStages", "may", "(II)Z"⟩ ∈ tbG := tbG_in (tb_2 (i := 98) (by decide +kernel)) (by first | rfl | decide +kernel)
theorem tw_339 : Cond.selects "RollStages" ⟨"RollStages", "may", "(II)Z"⟩ ⟨"RollStages", "may", "(II)Z"⟩ ∈ tbG := tbG_in (tb_2 (i := 99) (by decide +kernel)) (by first | rfl | decide +kernel)
theorem tw_340 : Cond.code ⟨"RollStages", "may", "(II)Z"⟩ prog_1_method_16_code 4 (some .boolean) ∈ tbG := tbG_in (tb_2 (i := 100) (rfl)) (by first | rfl | decide +kernel)
theorem tw_341 : Cond.methodLink "RollStagesLaw" 80 ⟨"RollStages", "delta", "(III)Z"⟩ ∈ tbG := tbG_in (tb_2 (i := 101) (by decide +kernel)) (by first | rfl | decide +kernel)
theorem tw_342 : Cond.instanceMethod ⟨"RollStages", "delta", "(III)Z"⟩ ∈ tbG := tbG_in (tb_2 (i := 102) (by decide +kernel)) (by first | rfl | decide +kernel)
theorem tw_343 : Cond.selects "RollStages" ⟨"RollStages", "delta", "(III)Z"⟩ ⟨"RollStages", "delta", "(III)Z"⟩ ∈ tbG := tbG_in (tb_2 (i := 103) (by decide +kernel)) (by first | rfl | decide +kernel)
theorem tw_344 : Cond.code ⟨"RollStages", "delta", "(III)Z"⟩ prog_1_method_17_code 4 (some .boolean) ∈ tbG := tbG_in (tb_2 (i := 104) (rfl)) (by first | rfl | decide +kernel)
theorem tw_345 : Cond.methodLinkNest "RollStages" 135 ⟨"RollStages$Deltas", "put", "(III)Z"⟩ "RollStages" ∈ lw_tbl := tb_2 (i := 105) (by decide +kernel)
theorem tw_347 : Cond.instanceMethod ⟨"RollStages$Deltas", "put", "(III)Z"⟩ ∈ tbG := tbG_in (tb_2 (i := 107) (by decide +kernel)) (by first | rfl | decide +kernel)
theorem tw_348 : Cond.code ⟨"RollStages$Deltas", "put", "(III)Z"⟩ prog_2_method_2_code 5 (some .boolean) ∈ tbG := tbG_in (tb_2 (i := 108) (rfl)) (by first | rfl | decide +kernel)
theorem tw_349 : Cond.methodLink "RollStages$Deltas" 27 ⟨"RollStages$Deltas", "placeOf", "(II)I"⟩ ∈ tbG := tbG_in (tb_2 (i := 109) (by decide +kernel)) (by first | rfl | decide +kernel)
theorem tw_351 : Cond.instanceMethod ⟨"RollStages$Deltas", "placeOf", "(II)I"⟩ ∈ tbG := tbG_in (tb_2 (i := 111) (by decide +kernel)) (by first | rfl | decide +kernel)
theorem tw_352 : Cond.code ⟨"RollStages$Deltas", "placeOf", "(II)I"⟩ prog_2_method_3_code 4 (some .int) ∈ tbG := tbG_in (tb_2 (i := 112) (rfl)) (by first | rfl | decide +kernel)
theorem tw_353 : Cond.methodLinkNest "RollStages$Deltas" 31 ⟨"RollStages", "within", "(III)Z"⟩ "RollStages" ∈ lw_tbl := tb_2 (i := 113) (by decide +kernel)
theorem tw_354 : Cond.methodLink "RollStages$Deltas" 39 ⟨"java/lang/Math", "max", "(II)I"⟩ ∈ tbG := tbG_in (tb_2 (i := 114) (by decide +kernel)) (by first | rfl | decide +kernel)
theorem tw_355 : Cond.methodLink "RollStagesLaw" 84 ⟨"RollStages", "cost", "(I)I"⟩ ∈ tbG := tbG_in (tb_2 (i := 115) (by decide +kernel)) (by first | rfl | decide +kernel)
theorem tw_356 : Cond.instanceMethod ⟨"RollStages", "cost", "(I)I"⟩ ∈ tbG := tbG_in (tb_2 (i := 116) (by decide +kernel)) (by first | rfl | decide +kernel)
theorem tw_357 : Cond.selects "RollStages" ⟨"RollStages", "cost", "(I)I"⟩ ⟨"RollStages", "cost", "(I)I"⟩ ∈ tbG := tbG_in (tb_2 (i := 117) (by decide +kernel)) (by first | rfl | decide +kernel)
theorem tw_358 : Cond.code ⟨"RollStages", "cost", "(I)I"⟩ prog_1_method_18_code 3 (some .int) ∈ tbG := tbG_in (tb_2 (i := 118) (rfl)) (by first | rfl | decide +kernel)
theorem tw_359 : Cond.methodLink "RollStages" 138 ⟨"RollStages", "findWay", "(LRollStages$Machine;)V"⟩ ∈ tbG := tbG_in (tb_2 (i := 119) (by decide +kernel)) (by first | rfl | decide +kernel)
theorem tw_361 : Cond.instanceMethod ⟨"RollStages", "findWay", "(LRollStages$Machine;)V"⟩ ∈ tbG := tbG_in (tb_2 (i := 121) (by decide +kernel)) (by first | rfl | decide +kernel)
theorem tw_362 : Cond.code ⟨"RollStages", "findWay", "(LRollStages$Machine;)V"⟩ prog_1_method_32_code 4 none ∈ tbG := tbG_in (tb_2 (i := 122) (rfl)) (by first | rfl | decide +kernel)
theorem tw_363 : Cond.methodLinkNest "RollStages" 178 ⟨"RollStages$Deltas", "setWay", "(II)V"⟩ "RollStages" ∈ lw_tbl := tb_2 (i := 123) (by decide +kernel)
theorem tw_365 : Cond.instanceMethod ⟨"RollStages$Deltas", "setWay", "(II)V"⟩ ∈ tbG := tbG_in (tb_2 (i := 125) (by decide +kernel)) (by first | rfl | decide +kernel)
theorem tw_366 : Cond.code ⟨"RollStages$Deltas", "setWay", "(II)V"⟩ prog_2_method_4_code 3 none ∈ tbG := tbG_in (tb_2 (i := 126) (rfl)) (by first | rfl | decide +kernel)
theorem tw_367 : Cond.methodLinkNest "RollStages" 184 ⟨"RollStages$Deltas", "searchCheaper", "(II[LRollStages$Release;)V"⟩ "RollStages" ∈ lw_tbl := tb_2 (i := 127) (by decide +kernel)
theorem tw_369 : Cond.instanceMethod ⟨"RollStages$Deltas", "searchCheaper", "(II[LRollStages$Release;)V"⟩ ∈ tbG := tbG_in (tb_2 (i := 129) (by decide +kernel)) (by first | rfl | decide +kernel)
theorem tw_370 : Cond.code ⟨"RollStages$Deltas", "searchCheaper", "(II[LRollStages$Release;)V"⟩ prog_2_method_5_code 6 none ∈ tbG := tbG_in (tb_2 (i := 130) (rfl)) (by first | rfl | decide +kernel)
theorem tw_371 : Cond.constant "RollStages$Deltas" 50 2147483647 ∈ tbG := tbG_in (tb_2 (i := 131) (by decide +kernel)) (by first | rfl | decide +kernel)
theorem tw_372 : Cond.methodLink "RollStages$Deltas" 51 ⟨"java/util/Arrays", "fill", "([II)V"⟩ ∈ tbG := tbG_in (tb_2 (i := 132) (by decide +kernel)) (by first | rfl | decide +kernel)
theorem tw_373 : Cond.methodLink "RollStages$Deltas" 57 ⟨"RollStages$Deltas", "lower", "([III)V"⟩ ∈ tbG := tbG_in (tb_2 (i := 133) (by decide +kernel)) (by first | rfl | decide +kernel)
theorem tw_374 : Cond.static ⟨"RollStages$Deltas", "lower", "([III)V"⟩ ∈ tbG := tbG_in (tb_2 (i := 134) (by decide +kernel)) (by first | rfl | decide +kernel)
theorem tw_375 : Cond.code ⟨"RollStages$Deltas", "lower", "([III)V"⟩ prog_2_method_9_code 3 none ∈ tbG := tbG_in (tb_2 (i := 135) (rfl)) (by first | rfl | decide +kernel)
theorem tw_376 : Cond.methodLink "RollStages$Deltas" 61 ⟨"RollStages$Deltas", "takeOneMore", "()V"⟩ ∈ tbG := tbG_in (tb_2 (i := 136) (by decide +kernel)) (by first | rfl | decide +kernel)
theorem tw_378 : Cond.instanceMethod ⟨"RollStages$Deltas", "takeOneMore", "()V"⟩ ∈ tbG := tbG_in (tb_2 (i := 138) (by decide +kernel)) (by first | rfl | decide +kernel)
theorem tw_379 : Cond.code ⟨"RollStages$Deltas", "takeOneMore", "()V"⟩ prog_2_method_6_code 3 none ∈ tbG := tbG_in (tb_2 (i := 139) (rfl)) (by first | rfl | decide +kernel)
theorem tw_380 : Cond.methodLink "RollStages$Deltas" 64 ⟨"RollStages$Deltas", "sizeAt", "([II)I"⟩ ∈ tbG := tbG_in (tb_2 (i := 140) (by decide +kernel)) (by first | rfl | decide +kernel)
theorem tw_381 : Cond.static ⟨"RollStages$Deltas", "sizeAt", "([II)I"⟩ ∈ tbG := tbG_in (tb_2 (i := 141) (by decide +kernel)) (by first | rfl | decide +kernel)
theorem tw_382 : Cond.code ⟨"RollStages$Deltas", "sizeAt", "([II)I"⟩ prog_2_method_8_code 2 (some .int) ∈ tbG := tbG_in (tb_2 (i := 142) (rfl)) (by first | rfl | decide +kernel)
theorem tw_383 : Cond.methodLink "RollStages$Deltas" 68 ⟨"RollStages$Deltas", "setWay", "(II)V"⟩ ∈ tbG := tbG_in (tb_2 (i := 143) (by decide +kernel)) (by first | rfl | decide +kernel)
theorem tw_384 : Cond.methodLink "RollStages$Deltas" 72 ⟨"java/lang/System", "arraycopy", "(Ljava/lang/Object;ILjava/lang/Object;II)V"⟩ ∈ tbG := tbG_in (tb_2 (i := 144) (by decide +kernel)) (by first | rfl | decide +kernel)
theorem tw_385 : Cond.static ⟨"java/lang/System", "arraycopy", "(Ljava/lang/Object;ILjava/lang/Object;II)V"⟩ ∈ tbG := tbG_in (tb_2 (i := 145) (by decide +kernel)) (by first | rfl | decide +kernel)
theorem tw_386 : Cond.native ⟨"java/lang/System", "arraycopy", "(Ljava/lang/Object;ILjava/lang/Object;II)V"⟩ ∈ tbG := tbG_in (tb_2 (i := 146) (by decide +kernel)) (by first | rfl | decide +kernel)
theorem tw_387 : Cond.methodLink "RollStages$Deltas" 78 ⟨"RollStages$Deltas", "dropRevoked", "([LRollStages$Release;)V"⟩ ∈ tbG := tbG_in (tb_2 (i := 147) (by decide +kernel)) (by first | rfl | decide +kernel)
theorem tw_389 : Cond.instanceMethod ⟨"RollStages$Deltas", "dropRevoked", "([LRollStages$Release;)V"⟩ ∈ tbG := tbG_in (tb_2 (i := 149) (by decide +kernel)) (by first | rfl | decide +kernel)
theorem tw_390 : Cond.code ⟨"RollStages$Deltas", "dropRevoked", "([LRollStages$Release;)V"⟩ prog_2_method_7_code 4 none ∈ tbG := tbG_in (tb_2 (i := 150) (rfl)) (by first | rfl | decide +kernel)
theorem tw_391 : Cond.methodLink "RollStagesLaw" 88 ⟨"RollStages", "steps", "(I)I"⟩ ∈ tbG := tbG_in (tb_2 (i := 151) (by decide +kernel)) (by first | rfl | decide +kernel)
theorem tw_392 : Cond.instanceMethod ⟨"RollStages", "steps", "(I)I"⟩ ∈ tbG := tbG_in (tb_2 (i := 152) (by decide +kernel)) (by first | rfl | decide +kernel)
theorem tw_393 : Cond.selects "RollStages" ⟨"RollStages", "steps", "(I)I"⟩ ⟨"RollStages", "steps", "(I)I"⟩ ∈ tbG := tbG_in (tb_2 (i := 153) (by decide +kernel)) (by first | rfl | decide +kernel)
theorem tw_394 : Cond.code ⟨"RollStages", "steps", "(I)I"⟩ prog_1_method_19_code 3 (some .int) ∈ tbG := tbG_in (tb_2 (i := 154) (rfl)) (by first | rfl | decide +kernel)
theorem tw_395 : Cond.methodLink "RollStagesLaw" 92 ⟨"RollStages", "update", "(I)I"⟩ ∈ tbG := tbG_in (tb_2 (i := 155) (by decide +kernel)) (by first | rfl | decide +kernel)
theorem tw_396 : Cond.instanceMethod ⟨"RollStages", "update", "(I)I"⟩ ∈ tbG := tbG_in (tb_2 (i := 156) (by decide +kernel)) (by first | rfl | decide +kernel)
theorem tw_397 : Cond.selects "RollStages" ⟨"RollStages", "update", "(I)I"⟩ ⟨"RollStages", "update", "(I)I"⟩ ∈ tbG := tbG_in (tb_2 (i := 157) (by decide +kernel)) (by first | rfl | decide +kernel)
theorem tw_398 : Cond.code ⟨"RollStages", "update", "(I)I"⟩ prog_1_method_20_code 4 (some .int) ∈ tbG := tbG_in (tb_2 (i := 158) (rfl)) (by first | rfl | decide +kernel)
theorem tw_399 : Cond.methodLink "RollStagesLaw" 96 ⟨"RollStages", "has", "(I)I"⟩ ∈ tbG := tbG_in (tb_2 (i := 159) (by decide +kernel)) (by first | rfl | decide +kernel)
theorem tw_400 : Cond.instanceMethod ⟨"RollStages", "has", "(I)I"⟩ ∈ tbG := tbG_in (tb_2 (i := 160) (by decide +kernel)) (by first | rfl | decide +kernel)
theorem tw_401 : Cond.selects "RollStages" ⟨"RollStages", "has", "(I)I"⟩ ⟨"RollStages", "has", "(I)I"⟩ ∈ tbG := tbG_in (tb_2 (i := 161) (by decide +kernel)) (by first | rfl | decide +kernel)
theorem tw_402 : Cond.code ⟨"RollStages", "has", "(I)I"⟩ prog_1_method_21_code 3 (some .int) ∈ tbG := tbG_in (tb_2 (i := 162) (rfl)) (by first | rfl | decide +kernel)
theorem tw_403 : Cond.classLink "RollStagesLaw" 10 "RollStagesModel" ∈ tbG := tbG_in (tb_2 (i := 163) (by decide +kernel)) (by first | rfl | decide +kernel)
theorem tw_404 : Cond.instantiable "RollStagesModel" 31 ∈ tbG := tbG_in (tb_2 (i := 164) (by decide +kernel)) (by first | rfl | decide +kernel)
theorem tw_405 : Cond.methodLink "RollStagesLaw" 12 ⟨"RollStagesModel", "<init>", "()V"⟩ ∈ tbG := tbG_in (tb_2 (i := 165) (by decide +kernel)) (by first | rfl | decide +kernel)
theorem tw_406 : Cond.instanceMethod ⟨"RollStagesModel", "<init>", "()V"⟩ ∈ tbG := tbG_in (tb_2 (i := 166) (by decide +kernel)) (by first | rfl | decide +kernel)
theorem tw_407 : Cond.code ⟨"RollStagesModel", "<init>", "()V"⟩ prog_6_method_1_code 2 none ∈ tbG := tbG_in (tb_2 (i := 167) (rfl)) (by first | rfl | decide +kernel)
theorem tw_408 : Cond.methodLink "RollStagesModel" 1 ⟨"java/lang/Object", "<init>", "()V"⟩ ∈ tbG := tbG_in (tb_2 (i := 168) (by decide +kernel)) (by first | rfl | decide +kernel)
theorem tw_409 : Cond.fieldLink "RollStagesModel" 89 "RollStagesModel" "code" "I" ∈ tbG := tbG_in (tb_2 (i := 169) (by decide +kernel)) (by first | rfl | decide +kernel)
theorem tw_410 : Cond.fieldLink "RollStagesModel" 108 "RollStagesModel" "clock" "I" ∈ tbG := tbG_in (tb_2 (i := 170) (by decide +kernel)) (by first | rfl | decide +kernel)
theorem tw_411 : Cond.fieldLink "RollStagesModel" 93 "RollStagesModel" "releases" "I" ∈ tbG := tbG_in (tb_2 (i := 171) (by decide +kernel)) (by first | rfl | decide +kernel)
theorem tw_412 : Cond.fieldLink "RollStagesModel" 96 "RollStagesModel" "machines" "I" ∈ tbG := tbG_in (tb_2 (i := 172) (by decide +kernel)) (by first | rfl | decide +kernel)
theorem tw_413 : Cond.fieldLink "RollStagesModel" 150 "RollStagesModel" "deltas" "I" ∈ tbG := tbG_in (tb_2 (i := 173) (by decide +kernel)) (by first | rfl | decide +kernel)
theorem tw_414 : Cond.fieldLink "RollStagesModel" 7 "RollStagesModel" "channel" "[I" ∈ tbG := tbG_in (tb_2 (i := 174) (by decide +kernel)) (by first | rfl | decide +kernel)
theorem tw_415 : Cond.fieldLink "RollStagesModel" 13 "RollStagesModel" "whole" "[I" ∈ tbG := tbG_in (tb_2 (i := 175) (by decide +kernel)) (by first | rfl | decide +kernel)
theorem tw_416 : Cond.fieldLink "RollStagesModel" 16 "RollStagesModel" "stageMany" "[I" ∈ tbG := tbG_in (tb_2 (i := 176) (by decide +kernel)) (by first | rfl | decide +kernel)
theorem tw_417 : Cond.fieldLink "RollStagesModel" 19 "RollStagesModel" "share" "[I" ∈ tbG := tbG_in (tb_2 (i := 177) (by decide +kernel)) (by first | rfl | decide +kernel)
theorem tw_418 : Cond.fieldLink "RollStagesModel" 22 "RollStagesModel" "wait" "[I" ∈ tbG := tbG_in (tb_2 (i := 178) (by decide +kernel)) (by first | rfl | decide +kernel)
theorem tw_419 : Cond.fieldLink "RollStagesModel" 25 "RollStagesModel" "p" "[I" ∈ tbG := tbG_in (tb_2 (i := 179) (by decide +kernel)) (by first | rfl | decide +kernel)
theorem tw_420 : Cond.fieldLink "RollStagesModel" 28 "RollStagesModel" "q" "[I" ∈ tbG := tbG_in (tb_2 (i := 180) (by decide +kernel)) (by first | rfl | decide +kernel)
theorem tw_421 : Cond.fieldLink "RollStagesModel" 31 "RollStagesModel" "state" "[I" ∈ tbG := tbG_in (tb_2 (i := 181) (by decide +kernel)) (by first | rfl | decide +kernel)
theorem tw_422 : Cond.fieldLink "RollStagesModel" 34 "RollStagesModel" "stage" "[I" ∈ tbG := tbG_in (tb_2 (i := 182) (by decide +kernel)) (by first | rfl | decide +kernel)
theorem tw_423 : Cond.fieldLink "RollStagesModel" 37 "RollStagesModel" "why" "[I" ∈ tbG := tbG_in (tb_2 (i := 183) (by decide +kernel)) (by first | rfl | decide +kernel)
theorem tw_424 : Cond.fieldLink "RollStagesModel" 40 "RollStagesModel" "since" "[I" ∈ tbG := tbG_in (tb_2 (i := 184) (by decide +kernel)) (by first | rfl | decide +kernel)
theorem tw_425 : Cond.fieldLink "RollStagesModel" 43 "RollStagesModel" "all" "[I" ∈ tbG := tbG_in (tb_2 (i := 185) (by decide +kernel)) (by first | rfl | decide +kernel)
theorem tw_426 : Cond.fieldLink "RollStagesModel" 46 "RollStagesModel" "bad" "[I" ∈ tbG := tbG_in (tb_2 (i := 186) (by decide +kernel)) (by first | rfl | decide +kernel)
theorem tw_427 : Cond.fieldLink "RollStagesModel" 49 "RollStagesModel" "isSecurity" "[Z" ∈ tbG := tbG_in (tb_2 (i := 187) (by decide +kernel)) (by first | rfl | decide +kernel)
theorem tw_428 : Cond.fieldLink "RollStagesModel" 53 "RollStagesModel" "bound" "[I" ∈ tbG := tbG_in (tb_2 (i := 188) (by decide +kernel)) (by first | rfl | decide +kernel)
theorem tw_429 : Cond.fieldLink "RollStagesModel" 56 "RollStagesModel" "itsChannel" "[I" ∈ tbG := tbG_in (tb_2 (i := 189) (by decide +kernel)) (by first | rfl | decide +kernel)
theorem tw_430 : Cond.fieldLink "RollStagesModel" 59 "RollStagesModel" "ring" "[I" ∈ tbG := tbG_in (tb_2 (i := 190) (by decide +kernel)) (by first | rfl | decide +kernel)
theorem tw_431 : Cond.fieldLink "RollStagesModel" 62 "RollStagesModel" "has" "[I" ∈ tbG := tbG_in (tb_2 (i := 191) (by decide +kernel)) (by first | rfl | decide +kernel)
theorem tw_432 : Cond.fieldLink "RollStagesModel" 65 "RollStagesModel" "pin" "[I" ∈ tbG := tbG_in (tb_2 (i := 192) (by decide +kernel)) (by first | rfl | decide +kernel)
theorem tw_433 : Cond.fieldLink "RollStagesModel" 68 "RollStagesModel" "from" "[I" ∈ tbG := tbG_in (tb_2 (i := 193) (by decide +kernel)) (by first | rfl | decide +kernel)
theorem tw_434 : Cond.fieldLink "RollStagesModel" 71 "RollStagesModel" "to" "[I" ∈ tbG := tbG_in (tb_2 (i := 194) (by decide +kernel)) (by first | rfl | decide +kernel)
theorem tw_435 : Cond.fieldLink "RollStagesModel" 74 "RollStagesModel" "size" "[I" ∈ tbG := tbG_in (tb_2 (i := 195) (by decide +kernel)) (by first | rfl | decide +kernel)
theorem tw_436 : Cond.fieldLink "RollStagesModel" 77 "RollStagesModel" "cost" "[I" ∈ tbG := tbG_in (tb_2 (i := 196) (by decide +kernel)) (by first | rfl | decide +kernel)
theorem tw_437 : Cond.fieldLink "RollStagesModel" 80 "RollStagesModel" "many" "[I" ∈ tbG := tbG_in (tb_2 (i := 197) (by decide +kernel)) (by first | rfl | decide +kernel)
theorem tw_438 : Cond.fieldLink "RollStagesModel" 83 "RollStagesModel" "nextCost" "[I" ∈ tbG := tbG_in (tb_2 (i := 198) (by decide +kernel)) (by first | rfl | decide +kernel)
theorem tw_439 : Cond.fieldLink "RollStagesModel" 86 "RollStagesModel" "nextMany" "[I" ∈ tbG := tbG_in (tb_2 (i := 199) (by decide +kernel)) (by first | rfl | decide +kernel)
theorem tw_440 : Cond.lays "RollStagesModel" "RollStagesModel" "code" "I" ∈ tbG := tbG_in (tb_2 (i := 200) (by decide +kernel)) (by first | rfl | decide +kernel)
theorem tw_442 : Cond.lays "RollStagesModel" "RollStagesModel" "clock" "I" ∈ tbG := tbG_in (tb_2 (i := 202) (by decide +kernel)) (by first | rfl | decide +kernel)
theorem tw_444 : Cond.lays "RollStagesModel" "RollStagesModel" "releases" "I" ∈ tbG := tbG_in (tb_2 (i := 204) (by decide +kernel)) (by first | rfl | decide +kernel)
theorem tw_446 : Cond.lays "RollStagesModel" "RollStagesModel" "machines" "I" ∈ tbG := tbG_in (tb_2 (i := 206) (by decide +kernel)) (by first | rfl | decide +kernel)
theorem tw_448 : Cond.lays "RollStagesModel" "RollStagesModel" "deltas" "I" ∈ tbG := tbG_in (tb_2 (i := 208) (by decide +kernel)) (by first | rfl | decide +kernel)
theorem tw_450 : Cond.laysFinal "RollStagesModel" "RollStagesModel" "channel" "[I" ∈ tbG := tbG_in (tb_2 (i := 210) (by decide +kernel)) (by first | rfl | decide +kernel)
theorem tw_452 : Cond.laysFinal "RollStagesModel" "RollStagesModel" "whole" "[I" ∈ tbG := tbG_in (tb_2 (i := 212) (by decide +kernel)) (by first | rfl | decide +kernel)
theorem tw_454 : Cond.laysFinal "RollStagesModel" "RollStagesModel" "stageMany" "[I" ∈ tbG := tbG_in (tb_2 (i := 214) (by decide +kernel)) (by first | rfl | decide +kernel)
theorem tw_456 : Cond.laysFinal "RollStagesModel" "RollStagesModel" "share" "[I" ∈ tbG := tbG_in (tb_2 (i := 216) (by decide +kernel)) (by first | rfl | decide +kernel)
theorem tw_458 : Cond.laysFinal "RollStagesModel" "RollStagesModel" "wait" "[I" ∈ tbG := tbG_in (tb_2 (i := 218) (by decide +kernel)) (by first | rfl | decide +kernel)
theorem tw_460 : Cond.laysFinal "RollStagesModel" "RollStagesModel" "p" "[I" ∈ tbG := tbG_in (tb_2 (i := 220) (by decide +kernel)) (by first | rfl | decide +kernel)
theorem tw_462 : Cond.laysFinal "RollStagesModel" "RollStagesModel" "q" "[I" ∈ tbG := tbG_in (tb_2 (i := 222) (by decide +kernel)) (by first | rfl | decide +kernel)
theorem tw_464 : Cond.laysFinal "RollStagesModel" "RollStagesModel" "state" "[I" ∈ tbG := tbG_in (tb_2 (i := 224) (by decide +kernel)) (by first | rfl | decide +kernel)
end
section
theorem tw_466 : Cond.laysFinal "RollStagesModel" "RollStagesModel" "stage" "[I" ∈ tbG := tbG_in (tb_2 (i := 226) (by decide +kernel)) (by first | rfl | decide +kernel)
theorem tw_468 : Cond.laysFinal "RollStagesModel" "RollStagesModel" "why" "[I" ∈ tbG := tbG_in (tb_2 (i := 228) (by decide +kernel)) (by first | rfl | decide +kernel)
theorem tw_470 : Cond.laysFinal "RollStagesModel" "RollStagesModel" "since" "[I" ∈ tbG := tbG_in (tb_2 (i := 230) (by decide +kernel)) (by first | rfl | decide +kernel)
theorem tw_472 : Cond.laysFinal "RollStagesModel" "RollStagesModel" "all" "[I" ∈ tbG := tbG_in (tb_2 (i := 232) (by decide +kernel)) (by first | rfl | decide +kernel)
theorem tw_474 : Cond.laysFinal "RollStagesModel" "RollStagesModel" "bad" "[I" ∈ tbG := tbG_in (tb_2 (i := 234) (by decide +kernel)) (by first | rfl | decide +kernel)
theorem tw_476 : Cond.laysFinal "RollStagesModel" "RollStagesModel" "isSecurity" "[Z" ∈ tbG := tbG_in (tb_2 (i := 236) (by decide +kernel)) (by first | rfl | decide +kernel)
theorem tw_478 : Cond.laysFinal "RollStagesModel" "RollStagesModel" "bound" "[I" ∈ tbG := tbG_in (tb_2 (i := 238) (by decide +kernel)) (by first | rfl | decide +kernel)
theorem tw_480 : Cond.laysFinal "RollStagesModel" "RollStagesModel" "itsChannel" "[I" ∈ tbG := tbG_in (tb_3 (i := 0) (by decide +kernel)) (by first | rfl | decide +kernel)
theorem tw_482 : Cond.laysFinal "RollStagesModel" "RollStagesModel" "ring" "[I" ∈ tbG := tbG_in (tb_3 (i := 2) (by decide +kernel)) (by first | rfl | decide +kernel)
theorem tw_484 : Cond.laysFinal "RollStagesModel" "RollStagesModel" "has" "[I" ∈ tbG := tbG_in (tb_3 (i := 4) (by decide +kernel)) (by first | rfl | decide +kernel)
theorem tw_486 : Cond.laysFinal "RollStagesModel" "RollStagesModel" "pin" "[I" ∈ tbG := tbG_in (tb_3 (i := 6) (by decide +kernel)) (by first | rfl | decide +kernel)
theorem tw_488 : Cond.laysFinal "RollStagesModel" "RollStagesModel" "from" "[I" ∈ tbG := tbG_in (tb_3 (i := 8) (by decide +kernel)) (by first | rfl | decide +kernel)
theorem tw_490 : Cond.laysFinal "RollStagesModel" "RollStagesModel" "to" "[I" ∈ tbG := tbG_in (tb_3 (i := 10) (by decide +kernel)) (by first | rfl | decide +kernel)
theorem tw_492 : Cond.laysFinal "RollStagesModel" "RollStagesModel" "size" "[I" ∈ tbG := tbG_in (tb_3 (i := 12) (by decide +kernel)) (by first | rfl | decide +kernel)
theorem tw_494 : Cond.laysFinal "RollStagesModel" "RollStagesModel" "cost" "[I" ∈ tbG := tbG_in (tb_3 (i := 14) (by decide +kernel)) (by first | rfl | decide +kernel)
theorem tw_496 : Cond.laysFinal "RollStagesModel" "RollStagesModel" "many" "[I" ∈ tbG := tbG_in (tb_3 (i := 16) (by decide +kernel)) (by first | rfl | decide +kernel)
theorem tw_498 : Cond.laysFinal "RollStagesModel" "RollStagesModel" "nextCost" "[I" ∈ tbG := tbG_in (tb_3 (i := 18) (by decide +kernel)) (by first | rfl | decide +kernel)
theorem tw_500 : Cond.laysFinal "RollStagesModel" "RollStagesModel" "nextMany" "[I" ∈ tbG := tbG_in (tb_3 (i := 20) (by decide +kernel)) (by first | rfl | decide +kernel)
theorem tw_503 : Cond.arrayClass .boolean ∈ tbG := tbG_in (tb_3 (i := 23) (by decide +kernel)) (by first | rfl | decide +kernel)
theorem tw_504 : Cond.methodLink "RollStagesLaw" 17 ⟨"RollStagesModel", "release", "(IZI)I"⟩ ∈ tbG := tbG_in (tb_3 (i := 24) (by decide +kernel)) (by first | rfl | decide +kernel)
theorem tw_505 : Cond.instanceMethod ⟨"RollStagesModel", "release", "(IZI)I"⟩ ∈ tbG := tbG_in (tb_3 (i := 25) (by decide +kernel)) (by first | rfl | decide +kernel)
theorem tw_506 : Cond.selects "RollStagesModel" ⟨"RollStagesModel", "release", "(IZI)I"⟩ ⟨"RollStagesModel", "release", "(IZI)I"⟩ ∈ tbG := tbG_in (tb_3 (i := 26) (by decide +kernel)) (by first | rfl | decide +kernel)
theorem tw_507 : Cond.code ⟨"RollStagesModel", "release", "(IZI)I"⟩ prog_6_method_6_code 4 (some .int) ∈ tbG := tbG_in (tb_3 (i := 27) (rfl)) (by first | rfl | decide +kernel)
theorem tw_508 : Cond.methodLink "RollStagesModel" 99 ⟨"RollStagesModel", "isWithin", "(III)Z"⟩ ∈ tbG := tbG_in (tb_3 (i := 28) (by decide +kernel)) (by first | rfl | decide +kernel)
theorem tw_509 : Cond.static ⟨"RollStagesModel", "isWithin", "(III)Z"⟩ ∈ tbG := tbG_in (tb_3 (i := 29) (by decide +kernel)) (by first | rfl | decide +kernel)
theorem tw_510 : Cond.code ⟨"RollStagesModel", "isWithin", "(III)Z"⟩ prog_6_method_5_code 3 (some .boolean) ∈ tbG := tbG_in (tb_3 (i := 30) (rfl)) (by first | rfl | decide +kernel)
theorem tw_511 : Cond.constant "RollStagesModel" 103 100000 ∈ tbG := tbG_in (tb_3 (i := 31) (by decide +kernel)) (by first | rfl | decide +kernel)
theorem tw_512 : Cond.methodLink "RollStagesLaw" 22 ⟨"RollStagesModel", "stage", "(III)Z"⟩ ∈ tbG := tbG_in (tb_3 (i := 32) (by decide +kernel)) (by first | rfl | decide +kernel)
theorem tw_513 : Cond.instanceMethod ⟨"RollStagesModel", "stage", "(III)Z"⟩ ∈ tbG := tbG_in (tb_3 (i := 33) (by decide +kernel)) (by first | rfl | decide +kernel)
theorem tw_514 : Cond.selects "RollStagesModel" ⟨"RollStagesModel", "stage", "(III)Z"⟩ ⟨"RollStagesModel", "stage", "(III)Z"⟩ ∈ tbG := tbG_in (tb_3 (i := 34) (by decide +kernel)) (by first | rfl | decide +kernel)
theorem tw_515 : Cond.code ⟨"RollStagesModel", "stage", "(III)Z"⟩ prog_6_method_7_code 4 (some .boolean) ∈ tbG := tbG_in (tb_3 (i := 35) (rfl)) (by first | rfl | decide +kernel)
theorem tw_516 : Cond.methodLink "RollStagesModel" 104 ⟨"RollStagesModel", "isRelease", "(I)Z"⟩ ∈ tbG := tbG_in (tb_3 (i := 36) (by decide +kernel)) (by first | rfl | decide +kernel)
theorem tw_518 : Cond.instanceMethod ⟨"RollStagesModel", "isRelease", "(I)Z"⟩ ∈ tbG := tbG_in (tb_3 (i := 38) (by decide +kernel)) (by first | rfl | decide +kernel)
theorem tw_519 : Cond.code ⟨"RollStagesModel", "isRelease", "(I)Z"⟩ prog_6_method_3_code 2 (some .boolean) ∈ tbG := tbG_in (tb_3 (i := 39) (rfl)) (by first | rfl | decide +kernel)
theorem tw_520 : Cond.methodLink "RollStagesLaw" 26 ⟨"RollStagesModel", "health", "(III)Z"⟩ ∈ tbG := tbG_in (tb_3 (i := 40) (by decide +kernel)) (by first | rfl | decide +kernel)
theorem tw_521 : Cond.instanceMethod ⟨"RollStagesModel", "health", "(III)Z"⟩ ∈ tbG := tbG_in (tb_3 (i := 41) (by decide +kernel)) (by first | rfl | decide +kernel)
theorem tw_522 : Cond.selects "RollStagesModel" ⟨"RollStagesModel", "health", "(III)Z"⟩ ⟨"RollStagesModel", "health", "(III)Z"⟩ ∈ tbG := tbG_in (tb_3 (i := 42) (by decide +kernel)) (by first | rfl | decide +kernel)
theorem tw_523 : Cond.code ⟨"RollStagesModel", "health", "(III)Z"⟩ prog_6_method_8_code 4 (some .boolean) ∈ tbG := tbG_in (tb_3 (i := 43) (rfl)) (by first | rfl | decide +kernel)
theorem tw_524 : Cond.methodLink "RollStagesLaw" 31 ⟨"RollStagesModel", "start", "(I)Z"⟩ ∈ tbG := tbG_in (tb_3 (i := 44) (by decide +kernel)) (by first | rfl | decide +kernel)
theorem tw_525 : Cond.instanceMethod ⟨"RollStagesModel", "start", "(I)Z"⟩ ∈ tbG := tbG_in (tb_3 (i := 45) (by decide +kernel)) (by first | rfl | decide +kernel)
theorem tw_526 : Cond.selects "RollStagesModel" ⟨"RollStagesModel", "start", "(I)Z"⟩ ⟨"RollStagesModel", "start", "(I)Z"⟩ ∈ tbG := tbG_in (tb_3 (i := 46) (by decide +kernel)) (by first | rfl | decide +kernel)
theorem tw_527 : Cond.code ⟨"RollStagesModel", "start", "(I)Z"⟩ prog_6_method_10_code 2 (some .boolean) ∈ tbG := tbG_in (tb_3 (i := 47) (rfl)) (by first | rfl | decide +kernel)
theorem tw_528 : Cond.methodLink "RollStagesModel" 111 ⟨"RollStagesModel", "begin", "(II)V"⟩ ∈ tbG := tbG_in (tb_3 (i := 48) (by decide +kernel)) (by first | rfl | decide +kernel)
theorem tw_530 : Cond.instanceMethod ⟨"RollStagesModel", "begin", "(II)V"⟩ ∈ tbG := tbG_in (tb_3 (i := 50) (by decide +kernel)) (by first | rfl | decide +kernel)
theorem tw_531 : Cond.code ⟨"RollStagesModel", "begin", "(II)V"⟩ prog_6_method_9_code 3 none ∈ tbG := tbG_in (tb_3 (i := 51) (rfl)) (by first | rfl | decide +kernel)
theorem tw_532 : Cond.methodLink "RollStagesLaw" 35 ⟨"RollStagesModel", "report", "(III)Z"⟩ ∈ tbG := tbG_in (tb_3 (i := 52) (by decide +kernel)) (by first | rfl | decide +kernel)
theorem tw_533 : Cond.instanceMethod ⟨"RollStagesModel", "report", "(III)Z"⟩ ∈ tbG := tbG_in (tb_3 (i := 53) (by decide +kernel)) (by first | rfl | decide +kernel)
theorem tw_534 : Cond.selects "RollStagesModel" ⟨"RollStagesModel", "report", "(III)Z"⟩ ⟨"RollStagesModel", "report", "(III)Z"⟩ ∈ tbG := tbG_in (tb_3 (i := 54) (by decide +kernel)) (by first | rfl | decide +kernel)
theorem tw_535 : Cond.code ⟨"RollStagesModel", "report", "(III)Z"⟩ prog_6_method_11_code 4 (some .boolean) ∈ tbG := tbG_in (tb_3 (i := 55) (rfl)) (by first | rfl | decide +kernel)
theorem tw_536 : Cond.methodLink "RollStagesLaw" 40 ⟨"RollStagesModel", "hold", "(IZ)Z"⟩ ∈ tbG := tbG_in (tb_3 (i := 56) (by decide +kernel)) (by first | rfl | decide +kernel)
theorem tw_537 : Cond.instanceMethod ⟨"RollStagesModel", "hold", "(IZ)Z"⟩ ∈ tbG := tbG_in (tb_3 (i := 57) (by decide +kernel)) (by first | rfl | decide +kernel)
theorem tw_538 : Cond.selects "RollStagesModel" ⟨"RollStagesModel", "hold", "(IZ)Z"⟩ ⟨"RollStagesModel", "hold", "(IZ)Z"⟩ ∈ tbG := tbG_in (tb_3 (i := 58) (by decide +kernel)) (by first | rfl | decide +kernel)
theorem tw_539 : Cond.code ⟨"RollStagesModel", "hold", "(IZ)Z"⟩ prog_6_method_13_code 3 (some .boolean) ∈ tbG := tbG_in (tb_3 (i := 59) (rfl)) (by first | rfl | decide +kernel)
theorem tw_540 : Cond.methodLink "RollStagesModel" 115 ⟨"RollStagesModel", "halt", "(II)V"⟩ ∈ tbG := tbG_in (tb_3 (i := 60) (by decide +kernel)) (by first | rfl | decide +kernel)
theorem tw_542 : Cond.instanceMethod ⟨"RollStagesModel", "halt", "(II)V"⟩ ∈ tbG := tbG_in (tb_3 (i := 62) (by decide +kernel)) (by first | rfl | decide +kernel)
theorem tw_543 : Cond.code ⟨"RollStagesModel", "halt", "(II)V"⟩ prog_6_method_12_code 3 none ∈ tbG := tbG_in (tb_3 (i := 63) (rfl)) (by first | rfl | decide +kernel)
theorem tw_544 : Cond.methodLink "RollStagesLaw" 44 ⟨"RollStagesModel", "revoke", "(I)Z"⟩ ∈ tbG := tbG_in (tb_3 (i := 64) (by decide +kernel)) (by first | rfl | decide +kernel)
theorem tw_545 : Cond.instanceMethod ⟨"RollStagesModel", "revoke", "(I)Z"⟩ ∈ tbG := tbG_in (tb_3 (i := 65) (by decide +kernel)) (by first | rfl | decide +kernel)
theorem tw_546 : Cond.selects "RollStagesModel" ⟨"RollStagesModel", "revoke", "(I)Z"⟩ ⟨"RollStagesModel", "revoke", "(I)Z"⟩ ∈ tbG := tbG_in (tb_3 (i := 66) (by decide +kernel)) (by first | rfl | decide +kernel)
theorem tw_547 : Cond.code ⟨"RollStagesModel", "revoke", "(I)Z"⟩ prog_6_method_14_code 2 (some .boolean) ∈ tbG := tbG_in (tb_3 (i := 67) (rfl)) (by first | rfl | decide +kernel)
theorem tw_548 : Cond.methodLink "RollStagesLaw" 49 ⟨"RollStagesModel", "tick", "(I)I"⟩ ∈ tbG := tbG_in (tb_3 (i := 68) (by decide +kernel)) (by first | rfl | decide +kernel)
theorem tw_549 : Cond.instanceMethod ⟨"RollStagesModel", "tick", "(I)I"⟩ ∈ tbG := tbG_in (tb_3 (i := 69) (by decide +kernel)) (by first | rfl | decide +kernel)
theorem tw_550 : Cond.selects "RollStagesModel" ⟨"RollStagesModel", "tick", "(I)I"⟩ ⟨"RollStagesModel", "tick", "(I)I"⟩ ∈ tbG := tbG_in (tb_3 (i := 70) (by decide +kernel)) (by first | rfl | decide +kernel)
theorem tw_551 : Cond.code ⟨"RollStagesModel", "tick", "(I)I"⟩ prog_6_method_16_code 4 (some .int) ∈ tbG := tbG_in (tb_3 (i := 71) (rfl)) (by first | rfl | decide +kernel)
theorem tw_552 : Cond.methodLink "RollStagesModel" 118 ⟨"RollStagesModel", "pass", "(I)V"⟩ ∈ tbG := tbG_in (tb_3 (i := 72) (by decide +kernel)) (by first | rfl | decide +kernel)
theorem tw_554 : Cond.instanceMethod ⟨"RollStagesModel", "pass", "(I)V"⟩ ∈ tbG := tbG_in (tb_3 (i := 74) (by decide +kernel)) (by first | rfl | decide +kernel)
theorem tw_555 : Cond.code ⟨"RollStagesModel", "pass", "(I)V"⟩ prog_6_method_15_code 2 none ∈ tbG := tbG_in (tb_3 (i := 75) (rfl)) (by first | rfl | decide +kernel)
theorem tw_556 : Cond.methodLink "RollStagesLaw" 54 ⟨"RollStagesModel", "about", "(II)I"⟩ ∈ tbG := tbG_in (tb_3 (i := 76) (by decide +kernel)) (by first | rfl | decide +kernel)
theorem tw_557 : Cond.instanceMethod ⟨"RollStagesModel", "about", "(II)I"⟩ ∈ tbG := tbG_in (tb_3 (i := 77) (by decide +kernel)) (by first | rfl | decide +kernel)
theorem tw_558 : Cond.selects "RollStagesModel" ⟨"RollStagesModel", "about", "(II)I"⟩ ⟨"RollStagesModel", "about", "(II)I"⟩ ∈ tbG := tbG_in (tb_3 (i := 78) (by decide +kernel)) (by first | rfl | decide +kernel)
theorem tw_559 : Cond.code ⟨"RollStagesModel", "about", "(II)I"⟩ prog_6_method_18_code 3 (some .int) ∈ tbG := tbG_in (tb_3 (i := 79) (rfl)) (by first | rfl | decide +kernel)
theorem tw_560 : Cond.methodLink "RollStagesModel" 122 ⟨"RollStagesModel", "shareOf", "(I)I"⟩ ∈ tbG := tbG_in (tb_3 (i := 80) (by decide +kernel)) (by first | rfl | decide +kernel)
theorem tw_562 : Cond.instanceMethod ⟨"RollStagesModel", "shareOf", "(I)I"⟩ ∈ tbG := tbG_in (tb_3 (i := 82) (by decide +kernel)) (by first | rfl | decide +kernel)
theorem tw_563 : Cond.code ⟨"RollStagesModel", "shareOf", "(I)I"⟩ prog_6_method_17_code 2 (some .int) ∈ tbG := tbG_in (tb_3 (i := 83) (rfl)) (by first | rfl | decide +kernel)
theorem tw_564 : Cond.methodLink "RollStagesLaw" 59 ⟨"RollStagesModel", "back", "(II)Z"⟩ ∈ tbG := tbG_in (tb_3 (i := 84) (by decide +kernel)) (by first | rfl | decide +kernel)
theorem tw_565 : Cond.instanceMethod ⟨"RollStagesModel", "back", "(II)Z"⟩ ∈ tbG := tbG_in (tb_3 (i := 85) (by decide +kernel)) (by first | rfl | decide +kernel)
theorem tw_566 : Cond.selects "RollStagesModel" ⟨"RollStagesModel", "back", "(II)Z"⟩ ⟨"RollStagesModel", "back", "(II)Z"⟩ ∈ tbG := tbG_in (tb_3 (i := 86) (by decide +kernel)) (by first | rfl | decide +kernel)
theorem tw_567 : Cond.code ⟨"RollStagesModel", "back", "(II)Z"⟩ prog_6_method_19_code 3 (some .boolean) ∈ tbG := tbG_in (tb_3 (i := 87) (rfl)) (by first | rfl | decide +kernel)
theorem tw_568 : Cond.methodLink "RollStagesLaw" 63 ⟨"RollStagesModel", "machine", "(II)I"⟩ ∈ tbG := tbG_in (tb_3 (i := 88) (by decide +kernel)) (by first | rfl | decide +kernel)
theorem tw_569 : Cond.instanceMethod ⟨"RollStagesModel", "machine", "(II)I"⟩ ∈ tbG := tbG_in (tb_3 (i := 89) (by decide +kernel)) (by first | rfl | decide +kernel)
theorem tw_570 : Cond.selects "RollStagesModel" ⟨"RollStagesModel", "machine", "(II)I"⟩ ⟨"RollStagesModel", "machine", "(II)I"⟩ ∈ tbG := tbG_in (tb_3 (i := 90) (by decide +kernel)) (by first | rfl | decide +kernel)
theorem tw_571 : Cond.code ⟨"RollStagesModel", "machine", "(II)I"⟩ prog_6_method_20_code 3 (some .int) ∈ tbG := tbG_in (tb_3 (i := 91) (rfl)) (by first | rfl | decide +kernel)
theorem tw_572 : Cond.methodLink "RollStagesLaw" 67 ⟨"RollStagesModel", "row", "(I)I"⟩ ∈ tbG := tbG_in (tb_3 (i := 92) (by decide +kernel)) (by first | rfl | decide +kernel)
theorem tw_573 : Cond.instanceMethod ⟨"RollStagesModel", "row", "(I)I"⟩ ∈ tbG := tbG_in (tb_3 (i := 93) (by decide +kernel)) (by first | rfl | decide +kernel)
theorem tw_574 : Cond.selects "RollStagesModel" ⟨"RollStagesModel", "row", "(I)I"⟩ ⟨"RollStagesModel", "row", "(I)I"⟩ ∈ tbG := tbG_in (tb_3 (i := 94) (by decide +kernel)) (by first | rfl | decide +kernel)
theorem tw_575 : Cond.code ⟨"RollStagesModel", "row", "(I)I"⟩ prog_6_method_22_code 2 (some .int) ∈ tbG := tbG_in (tb_3 (i := 95) (rfl)) (by first | rfl | decide +kernel)
theorem tw_576 : Cond.methodLink "RollStagesModel" 134 ⟨"RollStagesModel", "isMachine", "(I)Z"⟩ ∈ tbG := tbG_in (tb_3 (i := 96) (by decide +kernel)) (by first | rfl | decide +kernel)
theorem tw_578 : Cond.instanceMethod ⟨"RollStagesModel", "isMachine", "(I)Z"⟩ ∈ tbG := tbG_in (tb_3 (i := 98) (by decide +kernel)) (by first | rfl | decide +kernel)
theorem tw_579 : Cond.code ⟨"RollStagesModel", "isMachine", "(I)Z"⟩ prog_6_method_4_code 2 (some .boolean) ∈ tbG := tbG_in (tb_3 (i := 99) (rfl)) (by first | rfl | decide +kernel)
theorem tw_580 : Cond.methodLink "RollStagesModel" 137 ⟨"RollStagesModel", "rowOf", "(I)I"⟩ ∈ tbG := tbG_in (tb_3 (i := 100) (by decide +kernel)) (by first | rfl | decide +kernel)
theorem tw_581 : Cond.static ⟨"RollStagesModel", "rowOf", "(I)I"⟩ ∈ tbG := tbG_in (tb_3 (i := 101) (by decide +kernel)) (by first | rfl | decide +kernel)
theorem tw_582 : Cond.code ⟨"RollStagesModel", "rowOf", "(I)I"⟩ prog_6_method_21_code 1 (some .int) ∈ tbG := tbG_in (tb_3 (i := 102) (rfl)) (by first | rfl | decide +kernel)
theorem tw_583 : Cond.constantLong "RollStagesModel" 126 2654435761 ∈ tbG := tbG_in (tb_3 (i := 103) (by decide +kernel)) (by first | rfl | decide +kernel)
theorem tw_584 : Cond.constantLong "RollStagesModel" 128 4294967295 ∈ tbG := tbG_in (tb_3 (i := 104) (by decide +kernel)) (by first | rfl | decide +kernel)
theorem tw_585 : Cond.constantLong "RollStagesModel" 130 128 ∈ tbG := tbG_in (tb_3 (i := 105) (by decide +kernel)) (by first | rfl | decide +kernel)
theorem tw_586 : Cond.constantLong "RollStagesModel" 132 1000 ∈ tbG := tbG_in (tb_3 (i := 106) (by decide +kernel)) (by first | rfl | decide +kernel)
theorem tw_587 : Cond.methodLink "RollStagesLaw" 71 ⟨"RollStagesModel", "pin", "(II)Z"⟩ ∈ tbG := tbG_in (tb_3 (i := 107) (by decide +kernel)) (by first | rfl | decide +kernel)
theorem tw_588 : Cond.instanceMethod ⟨"RollStagesModel", "pin", "(II)Z"⟩ ∈ tbG := tbG_in (tb_3 (i := 108) (by decide +kernel)) (by first | rfl | decide +kernel)
theorem tw_589 : Cond.selects "RollStagesModel" ⟨"RollStagesModel", "pin", "(II)Z"⟩ ⟨"RollStagesModel", "pin", "(II)Z"⟩ ∈ tbG := tbG_in (tb_3 (i := 109) (by decide +kernel)) (by first | rfl | decide +kernel)
theorem tw_590 : Cond.code ⟨"RollStagesModel", "pin", "(II)Z"⟩ prog_6_method_23_code 3 (some .boolean) ∈ tbG := tbG_in (tb_3 (i := 110) (rfl)) (by first | rfl | decide +kernel)
theorem tw_591 : Cond.methodLink "RollStagesLaw" 75 ⟨"RollStagesModel", "offered", "(I)I"⟩ ∈ tbG := tbG_in (tb_3 (i := 111) (by decide +kernel)) (by first | rfl | decide +kernel)
theorem tw_592 : Cond.instanceMethod ⟨"RollStagesModel", "offered", "(I)I"⟩ ∈ tbG := tbG_in (tb_3 (i := 112) (by decide +kernel)) (by first | rfl | decide +kernel)
theorem tw_593 : Cond.selects "RollStagesModel" ⟨"RollStagesModel", "offered", "(I)I"⟩ ⟨"RollStagesModel", "offered", "(I)I"⟩ ∈ tbG := tbG_in (tb_3 (i := 113) (by decide +kernel)) (by first | rfl | decide +kernel)
theorem tw_594 : Cond.code ⟨"RollStagesModel", "offered", "(I)I"⟩ prog_6_method_27_code 2 (some .int) ∈ tbG := tbG_in (tb_3 (i := 114) (rfl)) (by first | rfl | decide +kernel)
theorem tw_595 : Cond.methodLink "RollStagesModel" 147 ⟨"RollStagesModel", "offer", "(I)I"⟩ ∈ tbG := tbG_in (tb_3 (i := 115) (by decide +kernel)) (by first | rfl | decide +kernel)
theorem tw_597 : Cond.instanceMethod ⟨"RollStagesModel", "offer", "(I)I"⟩ ∈ tbG := tbG_in (tb_3 (i := 117) (by decide +kernel)) (by first | rfl | decide +kernel)
theorem tw_598 : Cond.code ⟨"RollStagesModel", "offer", "(I)I"⟩ prog_6_method_26_code 4 (some .int) ∈ tbG := tbG_in (tb_3 (i := 118) (rfl)) (by first | rfl | decide +kernel)
theorem tw_599 : Cond.methodLink "RollStagesModel" 144 ⟨"RollStagesModel", "mayGet", "(II)Z"⟩ ∈ tbG := tbG_in (tb_3 (i := 119) (by decide +kernel)) (by first | rfl | decide +kernel)
theorem tw_601 : Cond.instanceMethod ⟨"RollStagesModel", "mayGet", "(II)Z"⟩ ∈ tbG := tbG_in (tb_3 (i := 121) (by decide +kernel)) (by first | rfl | decide +kernel)
theorem tw_602 : Cond.code ⟨"RollStagesModel", "mayGet", "(II)Z"⟩ prog_6_method_25_code 3 (some .boolean) ∈ tbG := tbG_in (tb_3 (i := 122) (rfl)) (by first | rfl | decide +kernel)
theorem tw_603 : Cond.methodLink "RollStagesModel" 140 ⟨"RollStagesModel", "isBounded", "(II)Z"⟩ ∈ tbG := tbG_in (tb_3 (i := 123) (by decide +kernel)) (by first | rfl | decide +kernel)
theorem tw_605 : Cond.instanceMethod ⟨"RollStagesModel", "isBounded", "(II)Z"⟩ ∈ tbG := tbG_in (tb_3 (i := 125) (by decide +kernel)) (by first | rfl | decide +kernel)
theorem tw_606 : Cond.code ⟨"RollStagesModel", "isBounded", "(II)Z"⟩ prog_6_method_24_code 3 (some .boolean) ∈ tbG := tbG_in (tb_3 (i := 126) (rfl)) (by first | rfl | decide +kernel)
theorem tw_607 : Cond.methodLink "RollStagesLaw" 79 ⟨"RollStagesModel", "may", "(II)Z"⟩ ∈ tbG := tbG_in (tb_3 (i := 127) (by decide +kernel)) (by first | rfl | decide +kernel)
theorem tw_608 : Cond.instanceMethod ⟨"RollStagesModel", "may", "(II)Z"⟩ ∈ tbG := tbG_in (tb_3 (i := 128) (by decide +kernel)) (by first | rfl | decide +kernel)
theorem tw_609 : Cond.selects "RollStagesModel" ⟨"RollStagesModel", "may", "(II)Z"⟩ ⟨"RollStagesModel", "may", "(II)Z"⟩ ∈ tbG := tbG_in (tb_3 (i := 129) (by decide +kernel)) (by first | rfl | decide +kernel)
theorem tw_610 : Cond.code ⟨"RollStagesModel", "may", "(II)Z"⟩ prog_6_method_28_code 3 (some .boolean) ∈ tbG := tbG_in (tb_3 (i := 130) (rfl)) (by first | rfl | decide +kernel)
theorem tw_611 : Cond.methodLink "RollStagesLaw" 83 ⟨"RollStagesModel", "delta", "(III)Z"⟩ ∈ tbG := tbG_in (tb_3 (i := 131) (by decide +kernel)) (by first | rfl | decide +kernel)
theorem tw_612 : Cond.instanceMethod ⟨"RollStagesModel", "delta", "(III)Z"⟩ ∈ tbG := tbG_in (tb_3 (i := 132) (by decide +kernel)) (by first | rfl | decide +kernel)
theorem tw_613 : Cond.selects "RollStagesModel" ⟨"RollStagesModel", "delta", "(III)Z"⟩ ⟨"RollStagesModel", "delta", "(III)Z"⟩ ∈ tbG := tbG_in (tb_3 (i := 133) (by decide +kernel)) (by first | rfl | decide +kernel)
theorem tw_614 : Cond.code ⟨"RollStagesModel", "delta", "(III)Z"⟩ prog_6_method_29_code 5 (some .boolean) ∈ tbG := tbG_in (tb_3 (i := 134) (rfl)) (by first | rfl | decide +kernel)
theorem tw_615 : Cond.methodLink "RollStagesLaw" 87 ⟨"RollStagesModel", "cost", "(I)I"⟩ ∈ tbG := tbG_in (tb_3 (i := 135) (by decide +kernel)) (by first | rfl | decide +kernel)
theorem tw_616 : Cond.instanceMethod ⟨"RollStagesModel", "cost", "(I)I"⟩ ∈ tbG := tbG_in (tb_3 (i := 136) (by decide +kernel)) (by first | rfl | decide +kernel)
theorem tw_617 : Cond.selects "RollStagesModel" ⟨"RollStagesModel", "cost", "(I)I"⟩ ⟨"RollStagesModel", "cost", "(I)I"⟩ ∈ tbG := tbG_in (tb_3 (i := 137) (by decide +kernel)) (by first | rfl | decide +kernel)
theorem tw_618 : Cond.code ⟨"RollStagesModel", "cost", "(I)I"⟩ prog_6_method_32_code 3 (some .int) ∈ tbG := tbG_in (tb_3 (i := 138) (rfl)) (by first | rfl | decide +kernel)
theorem tw_619 : Cond.methodLink "RollStagesModel" 157 ⟨"RollStagesModel", "wanted", "(I)I"⟩ ∈ tbG := tbG_in (tb_3 (i := 139) (by decide +kernel)) (by first | rfl | decide +kernel)
theorem tw_621 : Cond.instanceMethod ⟨"RollStagesModel", "wanted", "(I)I"⟩ ∈ tbG := tbG_in (tb_3 (i := 141) (by decide +kernel)) (by first | rfl | decide +kernel)
theorem tw_622 : Cond.code ⟨"RollStagesModel", "wanted", "(I)I"⟩ prog_6_method_31_code 3 (some .int) ∈ tbG := tbG_in (tb_3 (i := 142) (rfl)) (by first | rfl | decide +kernel)
theorem tw_623 : Cond.methodLink "RollStagesModel" 154 ⟨"RollStagesModel", "findWays", "(I)V"⟩ ∈ tbG := tbG_in (tb_3 (i := 143) (by decide +kernel)) (by first | rfl | decide +kernel)
theorem tw_625 : Cond.instanceMethod ⟨"RollStagesModel", "findWays", "(I)V"⟩ ∈ tbG := tbG_in (tb_3 (i := 145) (by decide +kernel)) (by first | rfl | decide +kernel)
theorem tw_626 : Cond.code ⟨"RollStagesModel", "findWays", "(I)V"⟩ prog_6_method_30_code 5 none ∈ tbG := tbG_in (tb_3 (i := 146) (rfl)) (by first | rfl | decide +kernel)
theorem tw_627 : Cond.constant "RollStagesModel" 153 1000000 ∈ tbG := tbG_in (tb_3 (i := 147) (by decide +kernel)) (by first | rfl | decide +kernel)
theorem tw_628 : Cond.methodLink "RollStagesLaw" 91 ⟨"RollStagesModel", "steps", "(I)I"⟩ ∈ tbG := tbG_in (tb_3 (i := 148) (by decide +kernel)) (by first | rfl | decide +kernel)
theorem tw_629 : Cond.instanceMethod ⟨"RollStagesModel", "steps", "(I)I"⟩ ∈ tbG := tbG_in (tb_3 (i := 149) (by decide +kernel)) (by first | rfl | decide +kernel)
theorem tw_630 : Cond.selects "RollStagesModel" ⟨"RollStagesModel", "steps", "(I)I"⟩ ⟨"RollStagesModel", "steps", "(I)I"⟩ ∈ tbG := tbG_in (tb_3 (i := 150) (by decide +kernel)) (by first | rfl | decide +kernel)
theorem tw_631 : Cond.code ⟨"RollStagesModel", "steps", "(I)I"⟩ prog_6_method_33_code 3 (some .int) ∈ tbG := tbG_in (tb_3 (i := 151) (rfl)) (by first | rfl | decide +kernel)
theorem tw_632 : Cond.methodLink "RollStagesLaw" 95 ⟨"RollStagesModel", "update", "(I)I"⟩ ∈ tbG := tbG_in (tb_3 (i := 152) (by decide +kernel)) (by first | rfl | decide +kernel)
theorem tw_633 : Cond.instanceMethod ⟨"RollStagesModel", "update", "(I)I"⟩ ∈ tbG := tbG_in (tb_3 (i := 153) (by decide +kernel)) (by first | rfl | decide +kernel)
theorem tw_634 : Cond.selects "RollStagesModel" ⟨"RollStagesModel", "update", "(I)I"⟩ ⟨"RollStagesModel", "update", "(I)I"⟩ ∈ tbG := tbG_in (tb_3 (i := 154) (by decide +kernel)) (by first | rfl | decide +kernel)
theorem tw_635 : Cond.code ⟨"RollStagesModel", "update", "(I)I"⟩ prog_6_method_34_code 2 (some .int) ∈ tbG := tbG_in (tb_3 (i := 155) (rfl)) (by first | rfl | decide +kernel)
theorem tw_636 : Cond.methodLink "RollStagesLaw" 99 ⟨"RollStagesModel", "has", "(I)I"⟩ ∈ tbG := tbG_in (tb_3 (i := 156) (by decide +kernel)) (by first | rfl | decide +kernel)
theorem tw_637 : Cond.instanceMethod ⟨"RollStagesModel", "has", "(I)I"⟩ ∈ tbG := tbG_in (tb_3 (i := 157) (by decide +kernel)) (by first | rfl | decide +kernel)
theorem tw_638 : Cond.selects "RollStagesModel" ⟨"RollStagesModel", "has", "(I)I"⟩ ⟨"RollStagesModel", "has", "(I)I"⟩ ∈ tbG := tbG_in (tb_3 (i := 158) (by decide +kernel)) (by first | rfl | decide +kernel)
theorem tw_639 : Cond.code ⟨"RollStagesModel", "has", "(I)I"⟩ prog_6_method_35_code 2 (some .int) ∈ tbG := tbG_in (tb_3 (i := 159) (rfl)) (by first | rfl | decide +kernel)
theorem tw_p0 : Cond.selects "RollStages" ⟨"RollStages", "releaseAt", "(I)LRollStages$Release;"⟩ ⟨"RollStages", "releaseAt", "(I)LRollStages$Release;"⟩ ∈ tbG := tbG_in (tb_s (i := 0) (by decide +kernel)) (by first | rfl | decide +kernel)
theorem tw_p1 : Cond.selects "RollStages$Release" ⟨"RollStages$Release", "addStage", "(II)Z"⟩ ⟨"RollStages$Release", "addStage", "(II)Z"⟩ ∈ tbG := tbG_in (tb_s (i := 1) (by decide +kernel)) (by first | rfl | decide +kernel)
theorem tw_p2 : Cond.selects "RollStages$Release" ⟨"RollStages$Release", "setHealth", "(II)Z"⟩ ⟨"RollStages$Release", "setHealth", "(II)Z"⟩ ∈ tbG := tbG_in (tb_s (i := 2) (by decide +kernel)) (by first | rfl | decide +kernel)
theorem tw_p3 : Cond.selects "RollStages$Release" ⟨"RollStages$Release", "begin", "(I)Z"⟩ ⟨"RollStages$Release", "begin", "(I)Z"⟩ ∈ tbG := tbG_in (tb_s (i := 3) (by decide +kernel)) (by first | rfl | decide +kernel)
theorem tw_p4 : Cond.selects "RollStages$Release" ⟨"RollStages$Release", "rollAt", "(II)V"⟩ ⟨"RollStages$Release", "rollAt", "(II)V"⟩ ∈ tbG := tbG_in (tb_s (i := 4) (by decide +kernel)) (by first | rfl | decide +kernel)
theorem tw_p5 : Cond.selects "RollStages$Release" ⟨"RollStages$Release", "addReports", "(II)Z"⟩ ⟨"RollStages$Release", "addReports", "(II)Z"⟩ ∈ tbG := tbG_in (tb_s (i := 5) (by decide +kernel)) (by first | rfl | decide +kernel)
theorem tw_p6 : Cond.selects "RollStages$Release" ⟨"RollStages$Release", "holdByHand", "()Z"⟩ ⟨"RollStages$Release", "holdByHand", "()Z"⟩ ∈ tbG := tbG_in (tb_s (i := 6) (by decide +kernel)) (by first | rfl | decide +kernel)
theorem tw_p7 : Cond.selects "RollStages$Release" ⟨"RollStages$Release", "holdFor", "(I)V"⟩ ⟨"RollStages$Release", "holdFor", "(I)V"⟩ ∈ tbG := tbG_in (tb_s (i := 7) (by decide +kernel)) (by first | rfl | decide +kernel)
theorem tw_p8 : Cond.selects "RollStages$Release" ⟨"RollStages$Release", "goOn", "(I)Z"⟩ ⟨"RollStages$Release", "goOn", "(I)Z"⟩ ∈ tbG := tbG_in (tb_s (i := 8) (by decide +kernel)) (by first | rfl | decide +kernel)
theorem tw_p9 : Cond.selects "RollStages$Release" ⟨"RollStages$Release", "bar", "()Z"⟩ ⟨"RollStages$Release", "bar", "()Z"⟩ ∈ tbG := tbG_in (tb_s (i := 9) (by decide +kernel)) (by first | rfl | decide +kernel)
theorem tw_p10 : Cond.selects "RollStages$Release" ⟨"RollStages$Release", "passTicks", "(II)V"⟩ ⟨"RollStages$Release", "passTicks", "(II)V"⟩ ∈ tbG := tbG_in (tb_s (i := 10) (by decide +kernel)) (by first | rfl | decide +kernel)
theorem tw_p11 : Cond.selects "RollStages$Release" ⟨"RollStages$Release", "valueOfStage", "([I)I"⟩ ⟨"RollStages$Release", "valueOfStage", "([I)I"⟩ ∈ tbG := tbG_in (tb_s (i := 11) (by decide +kernel)) (by first | rfl | decide +kernel)
theorem tw_p12 : Cond.selects "RollStages$Release" ⟨"RollStages$Release", "judge", "(I)V"⟩ ⟨"RollStages$Release", "judge", "(I)V"⟩ ∈ tbG := tbG_in (tb_s (i := 12) (by decide +kernel)) (by first | rfl | decide +kernel)
theorem tw_p13 : Cond.selects "RollStages$Release" ⟨"RollStages$Release", "allReports", "()I"⟩ ⟨"RollStages$Release", "allReports", "()I"⟩ ∈ tbG := tbG_in (tb_s (i := 13) (by decide +kernel)) (by first | rfl | decide +kernel)
theorem tw_p14 : Cond.selects "RollStages$Release" ⟨"RollStages$Release", "isTooBad", "()Z"⟩ ⟨"RollStages$Release", "isTooBad", "()Z"⟩ ∈ tbG := tbG_in (tb_s (i := 14) (by decide +kernel)) (by first | rfl | decide +kernel)
theorem tw_p15 : Cond.selects "RollStages$Release" ⟨"RollStages$Release", "stageNow", "()I"⟩ ⟨"RollStages$Release", "stageNow", "()I"⟩ ∈ tbG := tbG_in (tb_s (i := 15) (by decide +kernel)) (by first | rfl | decide +kernel)
theorem tw_p16 : Cond.selects "RollStages$Release" ⟨"RollStages$Release", "isAtStage", "()Z"⟩ ⟨"RollStages$Release", "isAtStage", "()Z"⟩ ∈ tbG := tbG_in (tb_s (i := 16) (by decide +kernel)) (by first | rfl | decide +kernel)
theorem tw_p17 : Cond.selects "RollStages$Release" ⟨"RollStages$Release", "shareNow", "()I"⟩ ⟨"RollStages$Release", "shareNow", "()I"⟩ ∈ tbG := tbG_in (tb_s (i := 17) (by decide +kernel)) (by first | rfl | decide +kernel)
theorem tw_p18 : Cond.selects "RollStages" ⟨"RollStages", "machineAt", "(I)LRollStages$Machine;"⟩ ⟨"RollStages", "machineAt", "(I)LRollStages$Machine;"⟩ ∈ tbG := tbG_in (tb_s (i := 18) (by decide +kernel)) (by first | rfl | decide +kernel)
theorem tw_p19 : Cond.selects "RollStages" ⟨"RollStages", "offerTo", "(LRollStages$Machine;)I"⟩ ⟨"RollStages", "offerTo", "(LRollStages$Machine;)I"⟩ ∈ tbG := tbG_in (tb_s (i := 19) (by decide +kernel)) (by first | rfl | decide +kernel)
theorem tw_p20 : Cond.selects "RollStages" ⟨"RollStages", "newestFor", "(LRollStages$Machine;)I"⟩ ⟨"RollStages", "newestFor", "(LRollStages$Machine;)I"⟩ ∈ tbG := tbG_in (tb_s (i := 20) (by decide +kernel)) (by first | rfl | decide +kernel)
theorem tw_p21 : Cond.selects "RollStages" ⟨"RollStages", "mayGet", "(LRollStages$Machine;I)Z"⟩ ⟨"RollStages", "mayGet", "(LRollStages$Machine;I)Z"⟩ ∈ tbG := tbG_in (tb_s (i := 21) (by decide +kernel)) (by first | rfl | decide +kernel)
theorem tw_p22 : Cond.selects "RollStages" ⟨"RollStages", "isOpenTo", "(LRollStages$Machine;LRollStages$Release;I)Z"⟩ ⟨"RollStages", "isOpenTo", "(LRollStages$Machine;LRollStages$Release;I)Z"⟩ ∈ tbG := tbG_in (tb_s (i := 22) (by decide +kernel)) (by first | rfl | decide +kernel)
theorem tw_p23 : Cond.selects "RollStages$Release" ⟨"RollStages$Release", "isForced", "()Z"⟩ ⟨"RollStages$Release", "isForced", "()Z"⟩ ∈ tbG := tbG_in (tb_s (i := 23) (by decide +kernel)) (by first | rfl | decide +kernel)
theorem tw_p24 : Cond.selects "RollStages$Release" ⟨"RollStages$Release", "reachesRing", "(I)Z"⟩ ⟨"RollStages$Release", "reachesRing", "(I)Z"⟩ ∈ tbG := tbG_in (tb_s (i := 24) (by decide +kernel)) (by first | rfl | decide +kernel)
theorem tw_p25 : Cond.selects "RollStages" ⟨"RollStages", "mayKeep", "(LRollStages$Machine;)Z"⟩ ⟨"RollStages", "mayKeep", "(LRollStages$Machine;)Z"⟩ ∈ tbG := tbG_in (tb_s (i := 25) (by decide +kernel)) (by first | rfl | decide +kernel)
theorem tw_p26 : Cond.selects "RollStages$Deltas" ⟨"RollStages$Deltas", "put", "(III)Z"⟩ ⟨"RollStages$Deltas", "put", "(III)Z"⟩ ∈ tbG := tbG_in (tb_s (i := 26) (by decide +kernel)) (by first | rfl | decide +kernel)
theorem tw_p27 : Cond.selects "RollStages$Deltas" ⟨"RollStages$Deltas", "placeOf", "(II)I"⟩ ⟨"RollStages$Deltas", "placeOf", "(II)I"⟩ ∈ tbG := tbG_in (tb_s (i := 27) (by decide +kernel)) (by first | rfl | decide +kernel)
theorem tw_p28 : Cond.selects "RollStages" ⟨"RollStages", "findWay", "(LRollStages$Machine;)V"⟩ ⟨"RollStages", "findWay", "(LRollStages$Machine;)V"⟩ ∈ tbG := tbG_in (tb_s (i := 28) (by decide +kernel)) (by first | rfl | decide +kernel)
theorem tw_p29 : Cond.selects "RollStages$Deltas" ⟨"RollStages$Deltas", "setWay", "(II)V"⟩ ⟨"RollStages$Deltas", "setWay", "(II)V"⟩ ∈ tbG := tbG_in (tb_s (i := 29) (by decide +kernel)) (by first | rfl | decide +kernel)
theorem tw_p30 : Cond.selects "RollStages$Deltas" ⟨"RollStages$Deltas", "searchCheaper", "(II[LRollStages$Release;)V"⟩ ⟨"RollStages$Deltas", "searchCheaper", "(II[LRollStages$Release;)V"⟩ ∈ tbG := tbG_in (tb_s (i := 30) (by decide +kernel)) (by first | rfl | decide +kernel)
theorem tw_p31 : Cond.selects "RollStages$Deltas" ⟨"RollStages$Deltas", "takeOneMore", "()V"⟩ ⟨"RollStages$Deltas", "takeOneMore", "()V"⟩ ∈ tbG := tbG_in (tb_s (i := 31) (by decide +kernel)) (by first | rfl | decide +kernel)
theorem tw_p32 : Cond.selects "RollStages$Deltas" ⟨"RollStages$Deltas", "dropRevoked", "([LRollStages$Release;)V"⟩ ⟨"RollStages$Deltas", "dropRevoked", "([LRollStages$Release;)V"⟩ ∈ tbG := tbG_in (tb_s (i := 32) (by decide +kernel)) (by first | rfl | decide +kernel)
theorem tw_p33 : Cond.selects "RollStagesModel" ⟨"RollStagesModel", "isRelease", "(I)Z"⟩ ⟨"RollStagesModel", "isRelease", "(I)Z"⟩ ∈ tbG := tbG_in (tb_s (i := 33) (by decide +kernel)) (by first | rfl | decide +kernel)
theorem tw_p34 : Cond.selects "RollStagesModel" ⟨"RollStagesModel", "begin", "(II)V"⟩ ⟨"RollStagesModel", "begin", "(II)V"⟩ ∈ tbG := tbG_in (tb_s (i := 34) (by decide +kernel)) (by first | rfl | decide +kernel)
theorem tw_p35 : Cond.selects "RollStagesModel" ⟨"RollStagesModel", "halt", "(II)V"⟩ ⟨"RollStagesModel", "halt", "(II)V"⟩ ∈ tbG := tbG_in (tb_s (i := 35) (by decide +kernel)) (by first | rfl | decide +kernel)
theorem tw_p36 : Cond.selects "RollStagesModel" ⟨"RollStagesModel", "pass", "(I)V"⟩ ⟨"RollStagesModel", "pass", "(I)V"⟩ ∈ tbG := tbG_in (tb_s (i := 36) (by decide +kernel)) (by first | rfl | decide +kernel)
theorem tw_p37 : Cond.selects "RollStagesModel" ⟨"RollStagesModel", "shareOf", "(I)I"⟩ ⟨"RollStagesModel", "shareOf", "(I)I"⟩ ∈ tbG := tbG_in (tb_s (i := 37) (by decide +kernel)) (by first | rfl | decide +kernel)
theorem tw_p38 : Cond.selects "RollStagesModel" ⟨"RollStagesModel", "isMachine", "(I)Z"⟩ ⟨"RollStagesModel", "isMachine", "(I)Z"⟩ ∈ tbG := tbG_in (tb_s (i := 38) (by decide +kernel)) (by first | rfl | decide +kernel)
theorem tw_p39 : Cond.selects "RollStagesModel" ⟨"RollStagesModel", "offer", "(I)I"⟩ ⟨"RollStagesModel", "offer", "(I)I"⟩ ∈ tbG := tbG_in (tb_s (i := 39) (by decide +kernel)) (by first | rfl | decide +kernel)
theorem tw_p40 : Cond.selects "RollStagesModel" ⟨"RollStagesModel", "mayGet", "(II)Z"⟩ ⟨"RollStagesModel", "mayGet", "(II)Z"⟩ ∈ tbG := tbG_in (tb_s (i := 40) (by decide +kernel)) (by first | rfl | decide +kernel)
theorem tw_p41 : Cond.selects "RollStagesModel" ⟨"RollStagesModel", "isBounded", "(II)Z"⟩ ⟨"RollStagesModel", "isBounded", "(II)Z"⟩ ∈ tbG := tbG_in (tb_s (i := 41) (by decide +kernel)) (by first | rfl | decide +kernel)
theorem tw_p42 : Cond.selects "RollStagesModel" ⟨"RollStagesModel", "wanted", "(I)I"⟩ ⟨"RollStagesModel", "wanted", "(I)I"⟩ ∈ tbG := tbG_in (tb_s (i := 42) (by decide +kernel)) (by first | rfl | decide +kernel)
theorem tw_p43 : Cond.selects "RollStagesModel" ⟨"RollStagesModel", "findWays", "(I)V"⟩ ⟨"RollStagesModel", "findWays", "(I)V"⟩ ∈ tbG := tbG_in (tb_s (i := 43) (by decide +kernel)) (by first | rfl | decide +kernel)
end
section
theorem in_C : ∀ w ∈ u_ws R_C F_C 7, w ∈ tbG := by
  intro w hw
  have e : u_ws R_C F_C 7 = [Cond.laysFinal "RollStages" "RollStages" "releases" "[LRollStages$Release;", Cond.laysFinal "RollStages" "RollStages" "machines" "[LRollStages$Machine;", Cond.laysFinal "RollStages" "RollStages" "bounds" "[I", Cond.laysFinal "RollStages" "RollStages" "deltas" "LRollStages$Deltas;", Cond.lays "RollStages" "RollStages" "releaseCount" "I", Cond.lays "RollStages" "RollStages" "machineCount" "I", Cond.lays "RollStages" "RollStages" "clock" "I"] := by decide +kernel
  rw [e] at hw
  exact (List.forall_mem_cons.mpr ⟨tw_65, (List.forall_mem_cons.mpr ⟨tw_67, (List.forall_mem_cons.mpr ⟨tw_69, (List.forall_mem_cons.mpr ⟨tw_71, (List.forall_mem_cons.mpr ⟨tw_73, (List.forall_mem_cons.mpr ⟨tw_75, (List.forall_mem_cons.mpr ⟨tw_77, (fun _ h => absurd h List.not_mem_nil)⟩)⟩)⟩)⟩)⟩)⟩)⟩) w hw
theorem in_R : ∀ w ∈ u_ws R_R F_R 14, w ∈ tbG := by
  intro w hw
  have e : u_ws R_R F_R 14 = [Cond.laysFinal "RollStages$Release" "RollStages$Release" "channel" "I", Cond.laysFinal "RollStages$Release" "RollStages$Release" "security" "Z", Cond.laysFinal "RollStages$Release" "RollStages$Release" "whole" "I", Cond.laysFinal "RollStages$Release" "RollStages$Release" "shares" "[I", Cond.laysFinal "RollStages$Release" "RollStages$Release" "waits" "[I", Cond.lays "RollStages$Release" "RollStages$Release" "stageCount" "I", Cond.lays "RollStages$Release" "RollStages$Release" "mostBad" "I", Cond.lays "RollStages$Release" "RollStages$Release" "ofReports" "I", Cond.lays "RollStages$Release" "RollStages$Release" "state" "I", Cond.lays "RollStages$Release" "RollStages$Release" "why" "I", Cond.lays "RollStages$Release" "RollStages$Release" "stageIndex" "I", Cond.lays "RollStages$Release" "RollStages$Release" "waitBegan" "I", Cond.lays "RollStages$Release" "RollStages$Release" "goodReports" "I", Cond.lays "RollStages$Release" "RollStages$Release" "badReports" "I"] := by decide +kernel
  rw [e] at hw
  exact (List.forall_mem_cons.mpr ⟨tw_115, (List.forall_mem_cons.mpr ⟨tw_117, (List.forall_mem_cons.mpr ⟨tw_119, (List.forall_mem_cons.mpr ⟨tw_121, (List.forall_mem_cons.mpr ⟨tw_123, (List.forall_mem_cons.mpr ⟨tw_125, (List.forall_mem_cons.mpr ⟨tw_127, (List.forall_mem_cons.mpr ⟨tw_129, (List.forall_mem_cons.mpr ⟨tw_131, (List.forall_mem_cons.mpr ⟨tw_133, (List.forall_mem_cons.mpr ⟨tw_135, (List.forall_mem_cons.mpr ⟨tw_137, (List.forall_mem_cons.mpr ⟨tw_139, (List.forall_mem_cons.mpr ⟨tw_141, (fun _ h => absurd h List.not_mem_nil)⟩)⟩)⟩)⟩)⟩)⟩)⟩)⟩)⟩)⟩)⟩)⟩)⟩)⟩) w hw
theorem in_M : ∀ w ∈ u_ws R_M F_M 5, w ∈ tbG := by
  intro w hw
  have e : u_ws R_M F_M 5 = [Cond.laysFinal "RollStages$Machine" "RollStages$Machine" "channel" "I", Cond.laysFinal "RollStages$Machine" "RollStages$Machine" "ring" "I", Cond.laysFinal "RollStages$Machine" "RollStages$Machine" "row" "I", Cond.lays "RollStages$Machine" "RollStages$Machine" "has" "I", Cond.lays "RollStages$Machine" "RollStages$Machine" "pin" "I"] := by decide +kernel
  rw [e] at hw
  exact (List.forall_mem_cons.mpr ⟨tw_282, (List.forall_mem_cons.mpr ⟨tw_284, (List.forall_mem_cons.mpr ⟨tw_286, (List.forall_mem_cons.mpr ⟨tw_288, (List.forall_mem_cons.mpr ⟨tw_290, (fun _ h => absurd h List.not_mem_nil)⟩)⟩)⟩)⟩)⟩) w hw
theorem in_D : ∀ w ∈ u_ws R_D F_D 8, w ∈ tbG := by
  intro w hw
  have e : u_ws R_D F_D 8 = [Cond.laysFinal "RollStages$Deltas" "RollStages$Deltas" "froms" "[I", Cond.laysFinal "RollStages$Deltas" "RollStages$Deltas" "tos" "[I", Cond.laysFinal "RollStages$Deltas" "RollStages$Deltas" "sizes" "[I", Cond.lays "RollStages$Deltas" "RollStages$Deltas" "count" "I", Cond.laysFinal "RollStages$Deltas" "RollStages$Deltas" "reached" "[I", Cond.laysFinal "RollStages$Deltas" "RollStages$Deltas" "next" "[I", Cond.lays "RollStages$Deltas" "RollStages$Deltas" "waySize" "I", Cond.lays "RollStages$Deltas" "RollStages$Deltas" "waySteps" "I"] := by decide +kernel
  rw [e] at hw
  exact (List.forall_mem_cons.mpr ⟨tw_37, (List.forall_mem_cons.mpr ⟨tw_39, (List.forall_mem_cons.mpr ⟨tw_41, (List.forall_mem_cons.mpr ⟨tw_43, (List.forall_mem_cons.mpr ⟨tw_45, (List.forall_mem_cons.mpr ⟨tw_47, (List.forall_mem_cons.mpr ⟨tw_49, (List.forall_mem_cons.mpr ⟨tw_51, (fun _ h => absurd h List.not_mem_nil)⟩)⟩)⟩)⟩)⟩)⟩)⟩)⟩) w hw
theorem in_T : ∀ w ∈ u_ws R_T F_T 31, w ∈ tbG := by
  intro w hw
  have e : u_ws R_T F_T 31 = [Cond.lays "RollStagesModel" "RollStagesModel" "code" "I", Cond.lays "RollStagesModel" "RollStagesModel" "clock" "I", Cond.lays "RollStagesModel" "RollStagesModel" "releases" "I", Cond.lays "RollStagesModel" "RollStagesModel" "machines" "I", Cond.lays "RollStagesModel" "RollStagesModel" "deltas" "I", Cond.laysFinal "RollStagesModel" "RollStagesModel" "channel" "[I", Cond.laysFinal "RollStagesModel" "RollStagesModel" "whole" "[I", Cond.laysFinal "RollStagesModel" "RollStagesModel" "stageMany" "[I", Cond.laysFinal "RollStagesModel" "RollStagesModel" "share" "[I", Cond.laysFinal "RollStagesModel" "RollStagesModel" "wait" "[I", Cond.laysFinal "RollStagesModel" "RollStagesModel" "p" "[I", Cond.laysFinal "RollStagesModel" "RollStagesModel" "q" "[I", Cond.laysFinal "RollStagesModel" "RollStagesModel" "state" "[I", Cond.laysFinal "RollStagesModel" "RollStagesModel" "stage" "[I", Cond.laysFinal "RollStagesModel" "RollStagesModel" "why" "[I", Cond.laysFinal "RollStagesModel" "RollStagesModel" "since" "[I", Cond.laysFinal "RollStagesModel" "RollStagesModel" "all" "[I", Cond.laysFinal "RollStagesModel" "RollStagesModel" "bad" "[I", Cond.laysFinal "RollStagesModel" "RollStagesModel" "isSecurity" "[Z", Cond.laysFinal "RollStagesModel" "RollStagesModel" "bound" "[I", Cond.laysFinal "RollStagesModel" "RollStagesModel" "itsChannel" "[I", Cond.laysFinal "RollStagesModel" "RollStagesModel" "ring" "[I", Cond.laysFinal "RollStagesModel" "RollStagesModel" "has" "[I", Cond.laysFinal "RollStagesModel" "RollStagesModel" "pin" "[I", Cond.laysFinal "RollStagesModel" "RollStagesModel" "from" "[I", Cond.laysFinal "RollStagesModel" "RollStagesModel" "to" "[I", Cond.laysFinal "RollStagesModel" "RollStagesModel" "size" "[I", Cond.laysFinal "RollStagesModel" "RollStagesModel" "cost" "[I", Cond.laysFinal "RollStagesModel" "RollStagesModel" "many" "[I", Cond.laysFinal "RollStagesModel" "RollStagesModel" "nextCost" "[I", Cond.laysFinal "RollStagesModel" "RollStagesModel" "nextMany" "[I"] := by decide +kernel
  rw [e] at hw
  exact (List.forall_mem_cons.mpr ⟨tw_440, (List.forall_mem_cons.mpr ⟨tw_442, (List.forall_mem_cons.mpr ⟨tw_444, (List.forall_mem_cons.mpr ⟨tw_446, (List.forall_mem_cons.mpr ⟨tw_448, (List.forall_mem_cons.mpr ⟨tw_450, (List.forall_mem_cons.mpr ⟨tw_452, (List.forall_mem_cons.mpr ⟨tw_454, (List.forall_mem_cons.mpr ⟨tw_456, (List.forall_mem_cons.mpr ⟨tw_458, (List.forall_mem_cons.mpr ⟨tw_460, (List.forall_mem_cons.mpr ⟨tw_462, (List.forall_mem_cons.mpr ⟨tw_464, (List.forall_mem_cons.mpr ⟨tw_466, (List.forall_mem_cons.mpr ⟨tw_468, (List.forall_mem_cons.mpr ⟨tw_470, (List.forall_mem_cons.mpr ⟨tw_472, (List.forall_mem_cons.mpr ⟨tw_474, (List.forall_mem_cons.mpr ⟨tw_476, (List.forall_mem_cons.mpr ⟨tw_478, (List.forall_mem_cons.mpr ⟨tw_480, (List.forall_mem_cons.mpr ⟨tw_482, (List.forall_mem_cons.mpr ⟨tw_484, (List.forall_mem_cons.mpr ⟨tw_486, (List.forall_mem_cons.mpr ⟨tw_488, (List.forall_mem_cons.mpr ⟨tw_490, (List.forall_mem_cons.mpr ⟨tw_492, (List.forall_mem_cons.mpr ⟨tw_494, (List.forall_mem_cons.mpr ⟨tw_496, (List.forall_mem_cons.mpr ⟨tw_498, (List.forall_mem_cons.mpr ⟨tw_500, (fun _ h => absurd h List.not_mem_nil)⟩)⟩)⟩)⟩)⟩)⟩)⟩)⟩)⟩)⟩)⟩)⟩)⟩)⟩)⟩)⟩)⟩)⟩)⟩)⟩)⟩)⟩)⟩)⟩)⟩)⟩)⟩)⟩)⟩)⟩)⟩) w hw
end
section
theorem d_C_init_0 : decode c_C_init 0 = .ok (.aload_n 0, 1) := by decide +kernel
theorem d_C_init_1 : decode c_C_init 1 = .ok (.invokespecial 1, 3) := by decide +kernel
theorem d_C_init_4 : decode c_C_init 4 = .ok (.aload_n 0, 1) := by decide +kernel
theorem d_C_init_5 : decode c_C_init 5 = .ok (.bipush 16, 2) := by decide +kernel
theorem d_C_init_7 : decode c_C_init 7 = .ok (.anewarray 9, 3) := by decide +kernel
theorem d_C_init_10 : decode c_C_init 10 = .ok (.putfield 11, 3) := by decide +kernel
theorem d_C_init_13 : decode c_C_init 13 = .ok (.aload_n 0, 1) := by decide +kernel
theorem d_C_init_14 : decode c_C_init 14 = .ok (.bipush 30, 2) := by decide +kernel
theorem d_C_init_16 : decode c_C_init 16 = .ok (.anewarray 15, 3) := by decide +kernel
theorem d_C_init_19 : decode c_C_init 19 = .ok (.putfield 17, 3) := by decide +kernel
theorem d_C_init_22 : decode c_C_init 22 = .ok (.aload_n 0, 1) := by decide +kernel
theorem d_C_init_23 : decode c_C_init 23 = .ok (.iconst 3, 1) := by decide +kernel
theorem d_C_init_24 : decode c_C_init 24 = .ok (.newarray .int, 2) := by decide +kernel
theorem d_C_init_26 : decode c_C_init 26 = .ok (.putfield 21, 3) := by decide +kernel
theorem d_C_init_29 : decode c_C_init 29 = .ok (.aload_n 0, 1) := by decide +kernel
theorem d_C_init_30 : decode c_C_init 30 = .ok (.new 25, 3) := by decide +kernel
theorem d_C_init_33 : decode c_C_init 33 = .ok (.dup, 1) := by decide +kernel
theorem d_C_init_34 : decode c_C_init 34 = .ok (.invokespecial 27, 3) := by decide +kernel
theorem d_C_init_37 : decode c_C_init 37 = .ok (.putfield 28, 3) := by decide +kernel
theorem d_C_init_40 : decode c_C_init 40 = .ok (.aload_n 0, 1) := by decide +kernel
theorem d_C_init_41 : decode c_C_init 41 = .ok (.getfield 21, 3) := by decide +kernel
theorem d_C_init_44 : decode c_C_init 44 = .ok (.iconst (-1), 1) := by decide +kernel
theorem d_C_init_45 : decode c_C_init 45 = .ok (.invokestatic 32, 3) := by decide +kernel
theorem d_C_init_48 : decode c_C_init 48 = .ok (.return_, 1) := by decide +kernel
theorem d_C_release_0 : decode c_C_release 0 = .ok (.aload_n 0, 1) := by decide +kernel
theorem d_C_release_1 : decode c_C_release 1 = .ok (.getfield 38, 3) := by decide +kernel
theorem d_C_release_4 : decode c_C_release 4 = .ok (.bipush 16, 2) := by decide +kernel
theorem d_C_release_6 : decode c_C_release 6 = .ok (.if_icmp .ge 20, 3) := by decide +kernel
theorem d_C_release_9 : decode c_C_release 9 = .ok (.iload_n 1, 1) := by decide +kernel
theorem d_C_release_10 : decode c_C_release 10 = .ok (.invokestatic 42, 3) := by decide +kernel
theorem d_C_release_13 : decode c_C_release 13 = .ok (.ifCond .eq 13, 3) := by decide +kernel
theorem d_C_release_16 : decode c_C_release 16 = .ok (.iload_n 3, 1) := by decide +kernel
theorem d_C_release_17 : decode c_C_release 17 = .ok (.iconst 1, 1) := by decide +kernel
theorem d_C_release_18 : decode c_C_release 18 = .ok (.ldc 46, 2) := by decide +kernel
theorem d_C_release_20 : decode c_C_release 20 = .ok (.invokestatic 47, 3) := by decide +kernel
theorem d_C_release_23 : decode c_C_release 23 = .ok (.ifCond .ne 5, 3) := by decide +kernel
theorem d_C_release_26 : decode c_C_release 26 = .ok (.iconst (-1), 1) := by decide +kernel
theorem d_C_release_27 : decode c_C_release 27 = .ok (.ireturn, 1) := by decide +kernel
theorem d_C_release_28 : decode c_C_release 28 = .ok (.aload_n 0, 1) := by decide +kernel
theorem d_C_release_29 : decode c_C_release 29 = .ok (.getfield 11, 3) := by decide +kernel
theorem d_C_release_32 : decode c_C_release 32 = .ok (.aload_n 0, 1) := by decide +kernel
theorem d_C_release_33 : decode c_C_release 33 = .ok (.getfield 38, 3) := by decide +kernel
theorem d_C_release_36 : decode c_C_release 36 = .ok (.new 9, 3) := by decide +kernel
theorem d_C_release_39 : decode c_C_release 39 = .ok (.dup, 1) := by decide +kernel
theorem d_C_release_40 : decode c_C_release 40 = .ok (.iload_n 1, 1) := by decide +kernel
theorem d_C_release_41 : decode c_C_release 41 = .ok (.iload_n 2, 1) := by decide +kernel
theorem d_C_release_42 : decode c_C_release 42 = .ok (.iload_n 3, 1) := by decide +kernel
theorem d_C_release_43 : decode c_C_release 43 = .ok (.invokespecial 51, 3) := by decide +kernel
theorem d_C_release_46 : decode c_C_release 46 = .ok (.aastore, 1) := by decide +kernel
theorem d_C_release_47 : decode c_C_release 47 = .ok (.aload_n 0, 1) := by decide +kernel
theorem d_C_release_48 : decode c_C_release 48 = .ok (.dup, 1) := by decide +kernel
theorem d_C_release_49 : decode c_C_release 49 = .ok (.getfield 38, 3) := by decide +kernel
theorem d_C_release_52 : decode c_C_release 52 = .ok (.iconst 1, 1) := by decide +kernel
theorem d_C_release_53 : decode c_C_release 53 = .ok (.iadd, 1) := by decide +kernel
theorem d_C_release_54 : decode c_C_release 54 = .ok (.putfield 38, 3) := by decide +kernel
theorem d_C_release_57 : decode c_C_release 57 = .ok (.aload_n 0, 1) := by decide +kernel
theorem d_C_release_58 : decode c_C_release 58 = .ok (.getfield 38, 3) := by decide +kernel
theorem d_C_release_61 : decode c_C_release 61 = .ok (.iconst 1, 1) := by decide +kernel
theorem d_C_release_62 : decode c_C_release 62 = .ok (.isub, 1) := by decide +kernel
theorem d_C_release_63 : decode c_C_release 63 = .ok (.ireturn, 1) := by decide +kernel
theorem d_C_stage_0 : decode c_C_stage 0 = .ok (.aload_n 0, 1) := by decide +kernel
theorem d_C_stage_1 : decode c_C_stage 1 = .ok (.iload_n 1, 1) := by decide +kernel
theorem d_C_stage_2 : decode c_C_stage 2 = .ok (.invokevirtual 54, 3) := by decide +kernel
theorem d_C_stage_5 : decode c_C_stage 5 = .ok (.astore 4, 2) := by decide +kernel
theorem d_C_stage_7 : decode c_C_stage 7 = .ok (.aload 4, 2) := by decide +kernel
theorem d_C_stage_9 : decode c_C_stage 9 = .ok (.ifnull 17, 3) := by decide +kernel
theorem d_C_stage_12 : decode c_C_stage 12 = .ok (.aload 4, 2) := by decide +kernel
theorem d_C_stage_14 : decode c_C_stage 14 = .ok (.iload_n 2, 1) := by decide +kernel
theorem d_C_stage_15 : decode c_C_stage 15 = .ok (.iload_n 3, 1) := by decide +kernel
theorem d_C_stage_16 : decode c_C_stage 16 = .ok (.invokevirtual 58, 3) := by decide +kernel
theorem d_C_stage_19 : decode c_C_stage 19 = .ok (.ifCond .eq 7, 3) := by decide +kernel
theorem d_C_stage_22 : decode c_C_stage 22 = .ok (.iconst 1, 1) := by decide +kernel
theorem d_C_stage_23 : decode c_C_stage 23 = .ok (.goto 4, 3) := by decide +kernel
theorem d_C_stage_26 : decode c_C_stage 26 = .ok (.iconst 0, 1) := by decide +kernel
theorem d_C_stage_27 : decode c_C_stage 27 = .ok (.ireturn, 1) := by decide +kernel
theorem d_C_health_0 : decode c_C_health 0 = .ok (.aload_n 0, 1) := by decide +kernel
theorem d_C_health_1 : decode c_C_health 1 = .ok (.iload_n 1, 1) := by decide +kernel
theorem d_C_health_2 : decode c_C_health 2 = .ok (.invokevirtual 54, 3) := by decide +kernel
theorem d_C_health_5 : decode c_C_health 5 = .ok (.astore 4, 2) := by decide +kernel
theorem d_C_health_7 : decode c_C_health 7 = .ok (.aload 4, 2) := by decide +kernel
theorem d_C_health_9 : decode c_C_health 9 = .ok (.ifnull 17, 3) := by decide +kernel
theorem d_C_health_12 : decode c_C_health 12 = .ok (.aload 4, 2) := by decide +kernel
theorem d_C_health_14 : decode c_C_health 14 = .ok (.iload_n 2, 1) := by decide +kernel
theorem d_C_health_15 : decode c_C_health 15 = .ok (.iload_n 3, 1) := by decide +kernel
theorem d_C_health_16 : decode c_C_health 16 = .ok (.invokevirtual 62, 3) := by decide +kernel
theorem d_C_health_19 : decode c_C_health 19 = .ok (.ifCond .eq 7, 3) := by decide +kernel
theorem d_C_health_22 : decode c_C_health 22 = .ok (.iconst 1, 1) := by decide +kernel
theorem d_C_health_23 : decode c_C_health 23 = .ok (.goto 4, 3) := by decide +kernel
theorem d_C_health_26 : decode c_C_health 26 = .ok (.iconst 0, 1) := by decide +kernel
theorem d_C_health_27 : decode c_C_health 27 = .ok (.ireturn, 1) := by decide +kernel
theorem d_C_start_0 : decode c_C_start 0 = .ok (.aload_n 0, 1) := by decide +kernel
theorem d_C_start_1 : decode c_C_start 1 = .ok (.iload_n 1, 1) := by decide +kernel
theorem d_C_start_2 : decode c_C_start 2 = .ok (.invokevirtual 54, 3) := by decide +kernel
theorem d_C_start_5 : decode c_C_start 5 = .ok (.astore_n 2, 1) := by decide +kernel
theorem d_C_start_6 : decode c_C_start 6 = .ok (.aload_n 2, 1) := by decide +kernel
theorem d_C_start_7 : decode c_C_start 7 = .ok (.ifnull 18, 3) := by decide +kernel
theorem d_C_start_10 : decode c_C_start 10 = .ok (.aload_n 2, 1) := by decide +kernel
theorem d_C_start_11 : decode c_C_start 11 = .ok (.aload_n 0, 1) := by decide +kernel
theorem d_C_start_12 : decode c_C_start 12 = .ok (.getfield 65, 3) := by decide +kernel
theorem d_C_start_15 : decode c_C_start 15 = .ok (.invokevirtual 68, 3) := by decide +kernel
theorem d_C_start_18 : decode c_C_start 18 = .ok (.ifCond .eq 7, 3) := by decide +kernel
theorem d_C_start_21 : decode c_C_start 21 = .ok (.iconst 1, 1) := by decide +kernel
theorem d_C_start_22 : decode c_C_start 22 = .ok (.goto 4, 3) := by decide +kernel
theorem d_C_start_25 : decode c_C_start 25 = .ok (.iconst 0, 1) := by decide +kernel
theorem d_C_start_26 : decode c_C_start 26 = .ok (.ireturn, 1) := by decide +kernel
theorem d_C_report_0 : decode c_C_report 0 = .ok (.aload_n 0, 1) := by decide +kernel
theorem d_C_report_1 : decode c_C_report 1 = .ok (.iload_n 1, 1) := by decide +kernel
theorem d_C_report_2 : decode c_C_report 2 = .ok (.invokevirtual 54, 3) := by decide +kernel
theorem d_C_report_5 : decode c_C_report 5 = .ok (.astore 4, 2) := by decide +kernel
theorem d_C_report_7 : decode c_C_report 7 = .ok (.aload 4, 2) := by decide +kernel
theorem d_C_report_9 : decode c_C_report 9 = .ok (.ifnull 17, 3) := by decide +kernel
theorem d_C_report_12 : decode c_C_report 12 = .ok (.aload 4, 2) := by decide +kernel
theorem d_C_report_14 : decode c_C_report 14 = .ok (.iload_n 2, 1) := by decide +kernel
theorem d_C_report_15 : decode c_C_report 15 = .ok (.iload_n 3, 1) := by decide +kernel
theorem d_C_report_16 : decode c_C_report 16 = .ok (.invokevirtual 71, 3) := by decide +kernel
theorem d_C_report_19 : decode c_C_report 19 = .ok (.ifCond .eq 7, 3) := by decide +kernel
theorem d_C_report_22 : decode c_C_report 22 = .ok (.iconst 1, 1) := by decide +kernel
theorem d_C_report_23 : decode c_C_report 23 = .ok (.goto 4, 3) := by decide +kernel
theorem d_C_report_26 : decode c_C_report 26 = .ok (.iconst 0, 1) := by decide +kernel
theorem d_C_report_27 : decode c_C_report 27 = .ok (.ireturn, 1) := by decide +kernel
theorem d_C_hold_0 : decode c_C_hold 0 = .ok (.aload_n 0, 1) := by decide +kernel
theorem d_C_hold_1 : decode c_C_hold 1 = .ok (.iload_n 1, 1) := by decide +kernel
theorem d_C_hold_2 : decode c_C_hold 2 = .ok (.invokevirtual 54, 3) := by decide +kernel
theorem d_C_hold_5 : decode c_C_hold 5 = .ok (.astore_n 3, 1) := by decide +kernel
theorem d_C_hold_6 : decode c_C_hold 6 = .ok (.aload_n 3, 1) := by decide +kernel
theorem d_C_hold_7 : decode c_C_hold 7 = .ok (.ifnonnull 5, 3) := by decide +kernel
theorem d_C_hold_10 : decode c_C_hold 10 = .ok (.iconst 0, 1) := by decide +kernel
theorem d_C_hold_11 : decode c_C_hold 11 = .ok (.ireturn, 1) := by decide +kernel
theorem d_C_hold_12 : decode c_C_hold 12 = .ok (.iload_n 2, 1) := by decide +kernel
theorem d_C_hold_13 : decode c_C_hold 13 = .ok (.ifCond .eq 10, 3) := by decide +kernel
theorem d_C_hold_16 : decode c_C_hold 16 = .ok (.aload_n 3, 1) := by decide +kernel
theorem d_C_hold_17 : decode c_C_hold 17 = .ok (.invokevirtual 74, 3) := by decide +kernel
theorem d_C_hold_20 : decode c_C_hold 20 = .ok (.goto 11, 3) := by decide +kernel
theorem d_C_hold_23 : decode c_C_hold 23 = .ok (.aload_n 3, 1) := by decide +kernel
theorem d_C_hold_24 : decode c_C_hold 24 = .ok (.aload_n 0, 1) := by decide +kernel
theorem d_C_hold_25 : decode c_C_hold 25 = .ok (.getfield 65, 3) := by decide +kernel
theorem d_C_hold_28 : decode c_C_hold 28 = .ok (.invokevirtual 78, 3) := by decide +kernel
theorem d_C_hold_31 : decode c_C_hold 31 = .ok (.ireturn, 1) := by decide +kernel
theorem d_C_revoke_0 : decode c_C_revoke 0 = .ok (.aload_n 0, 1) := by decide +kernel
theorem d_C_revoke_1 : decode c_C_revoke 1 = .ok (.iload_n 1, 1) := by decide +kernel
theorem d_C_revoke_2 : decode c_C_revoke 2 = .ok (.invokevirtual 54, 3) := by decide +kernel
theorem d_C_revoke_5 : decode c_C_revoke 5 = .ok (.astore_n 2, 1) := by decide +kernel
theorem d_C_revoke_6 : decode c_C_revoke 6 = .ok (.aload_n 2, 1) := by decide +kernel
theorem d_C_revoke_7 : decode c_C_revoke 7 = .ok (.ifnull 14, 3) := by decide +kernel
theorem d_C_revoke_10 : decode c_C_revoke 10 = .ok (.aload_n 2, 1) := by decide +kernel
theorem d_C_revoke_11 : decode c_C_revoke 11 = .ok (.invokevirtual 81, 3) := by decide +kernel
theorem d_C_revoke_14 : decode c_C_revoke 14 = .ok (.ifCond .eq 7, 3) := by decide +kernel
theorem d_C_revoke_17 : decode c_C_revoke 17 = .ok (.iconst 1, 1) := by decide +kernel
theorem d_C_revoke_18 : decode c_C_revoke 18 = .ok (.goto 4, 3) := by decide +kernel
theorem d_C_revoke_21 : decode c_C_revoke 21 = .ok (.iconst 0, 1) := by decide +kernel
theorem d_C_revoke_22 : decode c_C_revoke 22 = .ok (.ireturn, 1) := by decide +kernel
theorem d_C_tick_0 : decode c_C_tick 0 = .ok (.iload_n 1, 1) := by decide +kernel
theorem d_C_tick_1 : decode c_C_tick 1 = .ok (.iconst 0, 1) := by decide +kernel
theorem d_C_tick_2 : decode c_C_tick 2 = .ok (.sipush 2000, 3) := by decide +kernel
theorem d_C_tick_5 : decode c_C_tick 5 = .ok (.invokestatic 47, 3) := by decide +kernel
theorem d_C_tick_8 : decode c_C_tick 8 = .ok (.ifCond .ne 5, 3) := by decide +kernel
theorem d_C_tick_11 : decode c_C_tick 11 = .ok (.iconst (-1), 1) := by decide +kernel
theorem d_C_tick_12 : decode c_C_tick 12 = .ok (.ireturn, 1) := by decide +kernel
theorem d_C_tick_13 : decode c_C_tick 13 = .ok (.aload_n 0, 1) := by decide +kernel
theorem d_C_tick_14 : decode c_C_tick 14 = .ok (.getfield 65, 3) := by decide +kernel
theorem d_C_tick_17 : decode c_C_tick 17 = .ok (.iload_n 1, 1) := by decide +kernel
theorem d_C_tick_18 : decode c_C_tick 18 = .ok (.iadd, 1) := by decide +kernel
theorem d_C_tick_19 : decode c_C_tick 19 = .ok (.istore_n 2, 1) := by decide +kernel
theorem d_C_tick_20 : decode c_C_tick 20 = .ok (.iconst 0, 1) := by decide +kernel
theorem d_C_tick_21 : decode c_C_tick 21 = .ok (.istore_n 3, 1) := by decide +kernel
theorem d_C_tick_22 : decode c_C_tick 22 = .ok (.iload_n 3, 1) := by decide +kernel
theorem d_C_tick_23 : decode c_C_tick 23 = .ok (.aload_n 0, 1) := by decide +kernel
theorem d_C_tick_24 : decode c_C_tick 24 = .ok (.getfield 38, 3) := by decide +kernel
theorem d_C_tick_27 : decode c_C_tick 27 = .ok (.if_icmp .ge 31, 3) := by decide +kernel
theorem d_C_tick_30 : decode c_C_tick 30 = .ok (.aload_n 0, 1) := by decide +kernel
theorem d_C_tick_31 : decode c_C_tick 31 = .ok (.iload_n 3, 1) := by decide +kernel
theorem d_C_tick_32 : decode c_C_tick 32 = .ok (.invokevirtual 54, 3) := by decide +kernel
theorem d_C_tick_35 : decode c_C_tick 35 = .ok (.astore 4, 2) := by decide +kernel
theorem d_C_tick_37 : decode c_C_tick 37 = .ok (.aload 4, 2) := by decide +kernel
theorem d_C_tick_39 : decode c_C_tick 39 = .ok (.ifnull 13, 3) := by decide +kernel
theorem d_C_tick_42 : decode c_C_tick 42 = .ok (.aload 4, 2) := by decide +kernel
theorem d_C_tick_44 : decode c_C_tick 44 = .ok (.aload_n 0, 1) := by decide +kernel
theorem d_C_tick_45 : decode c_C_tick 45 = .ok (.getfield 65, 3) := by decide +kernel
theorem d_C_tick_48 : decode c_C_tick 48 = .ok (.iload_n 2, 1) := by decide +kernel
theorem d_C_tick_49 : decode c_C_tick 49 = .ok (.invokevirtual 84, 3) := by decide +kernel
theorem d_C_tick_52 : decode c_C_tick 52 = .ok (.iinc 3 1, 3) := by decide +kernel
theorem d_C_tick_55 : decode c_C_tick 55 = .ok (.goto (-33), 3) := by decide +kernel
theorem d_C_tick_58 : decode c_C_tick 58 = .ok (.aload_n 0, 1) := by decide +kernel
theorem d_C_tick_59 : decode c_C_tick 59 = .ok (.iload_n 2, 1) := by decide +kernel
theorem d_C_tick_60 : decode c_C_tick 60 = .ok (.putfield 65, 3) := by decide +kernel
theorem d_C_tick_63 : decode c_C_tick 63 = .ok (.aload_n 0, 1) := by decide +kernel
theorem d_C_tick_64 : decode c_C_tick 64 = .ok (.getfield 65, 3) := by decide +kernel
theorem d_C_tick_67 : decode c_C_tick 67 = .ok (.ireturn, 1) := by decide +kernel
theorem d_C_about_0 : decode c_C_about 0 = .ok (.aload_n 0, 1) := by decide +kernel
theorem d_C_about_1 : decode c_C_about 1 = .ok (.iload_n 1, 1) := by decide +kernel
theorem d_C_about_2 : decode c_C_about 2 = .ok (.invokevirtual 54, 3) := by decide +kernel
theorem d_C_about_5 : decode c_C_about 5 = .ok (.astore_n 3, 1) := by decide +kernel
theorem d_C_about_6 : decode c_C_about 6 = .ok (.aload_n 3, 1) := by decide +kernel
theorem d_C_about_7 : decode c_C_about 7 = .ok (.ifnonnull 5, 3) := by decide +kernel
theorem d_C_about_10 : decode c_C_about 10 = .ok (.iconst (-1), 1) := by decide +kernel
theorem d_C_about_11 : decode c_C_about 11 = .ok (.ireturn, 1) := by decide +kernel
theorem d_C_about_12 : decode c_C_about 12 = .ok (.iload_n 2, 1) := by decide +kernel
theorem d_C_about_13 : decode c_C_about 13 = .ok (.tableswitch 60 0 4 #[35, 40, 45, 50, 55], 35) := by decide +kernel
theorem d_C_about_48 : decode c_C_about 48 = .ok (.aload_n 3, 1) := by decide +kernel
theorem d_C_about_49 : decode c_C_about 49 = .ok (.getfield 88, 3) := by decide +kernel
theorem d_C_about_52 : decode c_C_about 52 = .ok (.ireturn, 1) := by decide +kernel
theorem d_C_about_53 : decode c_C_about 53 = .ok (.aload_n 3, 1) := by decide +kernel
theorem d_C_about_54 : decode c_C_about 54 = .ok (.invokevirtual 91, 3) := by decide +kernel
theorem d_C_about_57 : decode c_C_about 57 = .ok (.ireturn, 1) := by decide +kernel
theorem d_C_about_58 : decode c_C_about 58 = .ok (.aload_n 3, 1) := by decide +kernel
theorem d_C_about_59 : decode c_C_about 59 = .ok (.getfield 95, 3) := by decide +kernel
theorem d_C_about_62 : decode c_C_about 62 = .ok (.ireturn, 1) := by decide +kernel
theorem d_C_about_63 : decode c_C_about 63 = .ok (.aload_n 3, 1) := by decide +kernel
theorem d_C_about_64 : decode c_C_about 64 = .ok (.invokevirtual 98, 3) := by decide +kernel
theorem d_C_about_67 : decode c_C_about 67 = .ok (.ireturn, 1) := by decide +kernel
theorem d_C_about_68 : decode c_C_about 68 = .ok (.aload_n 3, 1) := by decide +kernel
theorem d_C_about_69 : decode c_C_about 69 = .ok (.invokevirtual 101, 3) := by decide +kernel
theorem d_C_about_72 : decode c_C_about 72 = .ok (.ireturn, 1) := by decide +kernel
theorem d_C_about_73 : decode c_C_about 73 = .ok (.iconst (-1), 1) := by decide +kernel
theorem d_C_about_74 : decode c_C_about 74 = .ok (.ireturn, 1) := by decide +kernel
theorem d_C_back_0 : decode c_C_back 0 = .ok (.iload_n 1, 1) := by decide +kernel
theorem d_C_back_1 : decode c_C_back 1 = .ok (.invokestatic 42, 3) := by decide +kernel
theorem d_C_back_4 : decode c_C_back 4 = .ok (.ifCond .ne 5, 3) := by decide +kernel
theorem d_C_back_7 : decode c_C_back 7 = .ok (.iconst 0, 1) := by decide +kernel
theorem d_C_back_8 : decode c_C_back 8 = .ok (.ireturn, 1) := by decide +kernel
theorem d_C_back_9 : decode c_C_back 9 = .ok (.iload_n 2, 1) := by decide +kernel
theorem d_C_back_10 : decode c_C_back 10 = .ok (.iconst (-1), 1) := by decide +kernel
theorem d_C_back_11 : decode c_C_back 11 = .ok (.if_icmp .eq 23, 3) := by decide +kernel
theorem d_C_back_14 : decode c_C_back 14 = .ok (.aload_n 0, 1) := by decide +kernel
theorem d_C_back_15 : decode c_C_back 15 = .ok (.iload_n 2, 1) := by decide +kernel
theorem d_C_back_16 : decode c_C_back 16 = .ok (.invokevirtual 54, 3) := by decide +kernel
theorem d_C_back_19 : decode c_C_back 19 = .ok (.astore_n 3, 1) := by decide +kernel
theorem d_C_back_20 : decode c_C_back 20 = .ok (.aload_n 3, 1) := by decide +kernel
theorem d_C_back_21 : decode c_C_back 21 = .ok (.ifnull 11, 3) := by decide +kernel
theorem d_C_back_24 : decode c_C_back 24 = .ok (.aload_n 3, 1) := by decide +kernel
theorem d_C_back_25 : decode c_C_back 25 = .ok (.getfield 104, 3) := by decide +kernel
theorem d_C_back_28 : decode c_C_back 28 = .ok (.iload_n 1, 1) := by decide +kernel
theorem d_C_back_29 : decode c_C_back 29 = .ok (.if_icmp .eq 5, 3) := by decide +kernel
theorem d_C_back_32 : decode c_C_back 32 = .ok (.iconst 0, 1) := by decide +kernel
theorem d_C_back_33 : decode c_C_back 33 = .ok (.ireturn, 1) := by decide +kernel
theorem d_C_back_34 : decode c_C_back 34 = .ok (.aload_n 0, 1) := by decide +kernel
theorem d_C_back_35 : decode c_C_back 35 = .ok (.getfield 21, 3) := by decide +kernel
theorem d_C_back_38 : decode c_C_back 38 = .ok (.iload_n 1, 1) := by decide +kernel
theorem d_C_back_39 : decode c_C_back 39 = .ok (.iload_n 2, 1) := by decide +kernel
theorem d_C_back_40 : decode c_C_back 40 = .ok (.iastore, 1) := by decide +kernel
theorem d_C_back_41 : decode c_C_back 41 = .ok (.iconst 1, 1) := by decide +kernel
theorem d_C_back_42 : decode c_C_back 42 = .ok (.ireturn, 1) := by decide +kernel
theorem d_C_machine_0 : decode c_C_machine 0 = .ok (.aload_n 0, 1) := by decide +kernel
theorem d_C_machine_1 : decode c_C_machine 1 = .ok (.getfield 107, 3) := by decide +kernel
theorem d_C_machine_4 : decode c_C_machine 4 = .ok (.bipush 30, 2) := by decide +kernel
theorem d_C_machine_6 : decode c_C_machine 6 = .ok (.if_icmp .ge 19, 3) := by decide +kernel
theorem d_C_machine_9 : decode c_C_machine 9 = .ok (.iload_n 1, 1) := by decide +kernel
theorem d_C_machine_10 : decode c_C_machine 10 = .ok (.invokestatic 42, 3) := by decide +kernel
theorem d_C_machine_13 : decode c_C_machine 13 = .ok (.ifCond .eq 12, 3) := by decide +kernel
theorem d_C_machine_16 : decode c_C_machine 16 = .ok (.iload_n 2, 1) := by decide +kernel
theorem d_C_machine_17 : decode c_C_machine 17 = .ok (.iconst 0, 1) := by decide +kernel
theorem d_C_machine_18 : decode c_C_machine 18 = .ok (.iconst 3, 1) := by decide +kernel
theorem d_C_machine_19 : decode c_C_machine 19 = .ok (.invokestatic 47, 3) := by decide +kernel
theorem d_C_machine_22 : decode c_C_machine 22 = .ok (.ifCond .ne 5, 3) := by decide +kernel
theorem d_C_machine_25 : decode c_C_machine 25 = .ok (.iconst (-1), 1) := by decide +kernel
theorem d_C_machine_26 : decode c_C_machine 26 = .ok (.ireturn, 1) := by decide +kernel
theorem d_C_machine_27 : decode c_C_machine 27 = .ok (.aload_n 0, 1) := by decide +kernel
theorem d_C_machine_28 : decode c_C_machine 28 = .ok (.getfield 17, 3) := by decide +kernel
theorem d_C_machine_31 : decode c_C_machine 31 = .ok (.aload_n 0, 1) := by decide +kernel
theorem d_C_machine_32 : decode c_C_machine 32 = .ok (.getfield 107, 3) := by decide +kernel
theorem d_C_machine_35 : decode c_C_machine 35 = .ok (.new 15, 3) := by decide +kernel
theorem d_C_machine_38 : decode c_C_machine 38 = .ok (.dup, 1) := by decide +kernel
theorem d_C_machine_39 : decode c_C_machine 39 = .ok (.iload_n 1, 1) := by decide +kernel
theorem d_C_machine_40 : decode c_C_machine 40 = .ok (.iload_n 2, 1) := by decide +kernel
theorem d_C_machine_41 : decode c_C_machine 41 = .ok (.aload_n 0, 1) := by decide +kernel
theorem d_C_machine_42 : decode c_C_machine 42 = .ok (.getfield 107, 3) := by decide +kernel
theorem d_C_machine_45 : decode c_C_machine 45 = .ok (.invokestatic 110, 3) := by decide +kernel
theorem d_C_machine_48 : decode c_C_machine 48 = .ok (.invokespecial 114, 3) := by decide +kernel
theorem d_C_machine_51 : decode c_C_machine 51 = .ok (.aastore, 1) := by decide +kernel
theorem d_C_machine_52 : decode c_C_machine 52 = .ok (.aload_n 0, 1) := by decide +kernel
theorem d_C_machine_53 : decode c_C_machine 53 = .ok (.dup, 1) := by decide +kernel
theorem d_C_machine_54 : decode c_C_machine 54 = .ok (.getfield 107, 3) := by decide +kernel
theorem d_C_machine_57 : decode c_C_machine 57 = .ok (.iconst 1, 1) := by decide +kernel
theorem d_C_machine_58 : decode c_C_machine 58 = .ok (.iadd, 1) := by decide +kernel
theorem d_C_machine_59 : decode c_C_machine 59 = .ok (.putfield 107, 3) := by decide +kernel
theorem d_C_machine_62 : decode c_C_machine 62 = .ok (.aload_n 0, 1) := by decide +kernel
theorem d_C_machine_63 : decode c_C_machine 63 = .ok (.getfield 107, 3) := by decide +kernel
theorem d_C_machine_66 : decode c_C_machine 66 = .ok (.iconst 1, 1) := by decide +kernel
theorem d_C_machine_67 : decode c_C_machine 67 = .ok (.isub, 1) := by decide +kernel
theorem d_C_machine_68 : decode c_C_machine 68 = .ok (.ireturn, 1) := by decide +kernel
theorem d_C_row_0 : decode c_C_row 0 = .ok (.aload_n 0, 1) := by decide +kernel
theorem d_C_row_1 : decode c_C_row 1 = .ok (.iload_n 1, 1) := by decide +kernel
theorem d_C_row_2 : decode c_C_row 2 = .ok (.invokevirtual 117, 3) := by decide +kernel
theorem d_C_row_5 : decode c_C_row 5 = .ok (.astore_n 2, 1) := by decide +kernel
theorem d_C_row_6 : decode c_C_row 6 = .ok (.aload_n 2, 1) := by decide +kernel
theorem d_C_row_7 : decode c_C_row 7 = .ok (.ifnonnull 7, 3) := by decide +kernel
theorem d_C_row_10 : decode c_C_row 10 = .ok (.iconst (-1), 1) := by decide +kernel
theorem d_C_row_11 : decode c_C_row 11 = .ok (.goto 7, 3) := by decide +kernel
theorem d_C_row_14 : decode c_C_row 14 = .ok (.aload_n 2, 1) := by decide +kernel
theorem d_C_row_15 : decode c_C_row 15 = .ok (.getfield 121, 3) := by decide +kernel
theorem d_C_row_18 : decode c_C_row 18 = .ok (.ireturn, 1) := by decide +kernel
theorem d_C_pin_0 : decode c_C_pin 0 = .ok (.aload_n 0, 1) := by decide +kernel
theorem d_C_pin_1 : decode c_C_pin 1 = .ok (.iload_n 1, 1) := by decide +kernel
theorem d_C_pin_2 : decode c_C_pin 2 = .ok (.invokevirtual 117, 3) := by decide +kernel
theorem d_C_pin_5 : decode c_C_pin 5 = .ok (.astore_n 3, 1) := by decide +kernel
theorem d_C_pin_6 : decode c_C_pin 6 = .ok (.aload_n 3, 1) := by decide +kernel
theorem d_C_pin_7 : decode c_C_pin 7 = .ok (.ifnull 16, 3) := by decide +kernel
theorem d_C_pin_10 : decode c_C_pin 10 = .ok (.iload_n 2, 1) := by decide +kernel
theorem d_C_pin_11 : decode c_C_pin 11 = .ok (.iconst (-1), 1) := by decide +kernel
theorem d_C_pin_12 : decode c_C_pin 12 = .ok (.if_icmp .eq 13, 3) := by decide +kernel
theorem d_C_pin_15 : decode c_C_pin 15 = .ok (.aload_n 0, 1) := by decide +kernel
theorem d_C_pin_16 : decode c_C_pin 16 = .ok (.iload_n 2, 1) := by decide +kernel
theorem d_C_pin_17 : decode c_C_pin 17 = .ok (.invokevirtual 54, 3) := by decide +kernel
theorem d_C_pin_20 : decode c_C_pin 20 = .ok (.ifnonnull 5, 3) := by decide +kernel
theorem d_C_pin_23 : decode c_C_pin 23 = .ok (.iconst 0, 1) := by decide +kernel
theorem d_C_pin_24 : decode c_C_pin 24 = .ok (.ireturn, 1) := by decide +kernel
theorem d_C_pin_25 : decode c_C_pin 25 = .ok (.aload_n 3, 1) := by decide +kernel
theorem d_C_pin_26 : decode c_C_pin 26 = .ok (.iload_n 2, 1) := by decide +kernel
theorem d_C_pin_27 : decode c_C_pin 27 = .ok (.putfield 124, 3) := by decide +kernel
theorem d_C_pin_30 : decode c_C_pin 30 = .ok (.iconst 1, 1) := by decide +kernel
theorem d_C_pin_31 : decode c_C_pin 31 = .ok (.ireturn, 1) := by decide +kernel
theorem d_C_offered_0 : decode c_C_offered 0 = .ok (.aload_n 0, 1) := by decide +kernel
theorem d_C_offered_1 : decode c_C_offered 1 = .ok (.iload_n 1, 1) := by decide +kernel
theorem d_C_offered_2 : decode c_C_offered 2 = .ok (.invokevirtual 117, 3) := by decide +kernel
theorem d_C_offered_5 : decode c_C_offered 5 = .ok (.astore_n 2, 1) := by decide +kernel
theorem d_C_offered_6 : decode c_C_offered 6 = .ok (.aload_n 2, 1) := by decide +kernel
theorem d_C_offered_7 : decode c_C_offered 7 = .ok (.ifnonnull 7, 3) := by decide +kernel
theorem d_C_offered_10 : decode c_C_offered 10 = .ok (.iconst (-1), 1) := by decide +kernel
theorem d_C_offered_11 : decode c_C_offered 11 = .ok (.goto 8, 3) := by decide +kernel
theorem d_C_offered_14 : decode c_C_offered 14 = .ok (.aload_n 0, 1) := by decide +kernel
theorem d_C_offered_15 : decode c_C_offered 15 = .ok (.aload_n 2, 1) := by decide +kernel
theorem d_C_offered_16 : decode c_C_offered 16 = .ok (.invokevirtual 127, 3) := by decide +kernel
theorem d_C_offered_19 : decode c_C_offered 19 = .ok (.ireturn, 1) := by decide +kernel
theorem d_C_may_0 : decode c_C_may 0 = .ok (.aload_n 0, 1) := by decide +kernel
theorem d_C_may_1 : decode c_C_may 1 = .ok (.iload_n 1, 1) := by decide +kernel
theorem d_C_may_2 : decode c_C_may 2 = .ok (.invokevirtual 117, 3) := by decide +kernel
theorem d_C_may_5 : decode c_C_may 5 = .ok (.astore_n 3, 1) := by decide +kernel
theorem d_C_may_6 : decode c_C_may 6 = .ok (.aload_n 3, 1) := by decide +kernel
theorem d_C_may_7 : decode c_C_may 7 = .ok (.ifnull 16, 3) := by decide +kernel
theorem d_C_may_10 : decode c_C_may 10 = .ok (.aload_n 0, 1) := by decide +kernel
theorem d_C_may_11 : decode c_C_may 11 = .ok (.aload_n 3, 1) := by decide +kernel
theorem d_C_may_12 : decode c_C_may 12 = .ok (.iload_n 2, 1) := by decide +kernel
theorem d_C_may_13 : decode c_C_may 13 = .ok (.invokevirtual 131, 3) := by decide +kernel
theorem d_C_may_16 : decode c_C_may 16 = .ok (.ifCond .eq 7, 3) := by decide +kernel
theorem d_C_may_19 : decode c_C_may 19 = .ok (.iconst 1, 1) := by decide +kernel
theorem d_C_may_20 : decode c_C_may 20 = .ok (.goto 4, 3) := by decide +kernel
theorem d_C_may_23 : decode c_C_may 23 = .ok (.iconst 0, 1) := by decide +kernel
theorem d_C_may_24 : decode c_C_may 24 = .ok (.ireturn, 1) := by decide +kernel
theorem d_C_delta_0 : decode c_C_delta 0 = .ok (.aload_n 0, 1) := by decide +kernel
theorem d_C_delta_1 : decode c_C_delta 1 = .ok (.iload_n 1, 1) := by decide +kernel
theorem d_C_delta_2 : decode c_C_delta 2 = .ok (.invokevirtual 54, 3) := by decide +kernel
theorem d_C_delta_5 : decode c_C_delta 5 = .ok (.ifnull 16, 3) := by decide +kernel
theorem d_C_delta_8 : decode c_C_delta 8 = .ok (.aload_n 0, 1) := by decide +kernel
theorem d_C_delta_9 : decode c_C_delta 9 = .ok (.iload_n 2, 1) := by decide +kernel
theorem d_C_delta_10 : decode c_C_delta 10 = .ok (.invokevirtual 54, 3) := by decide +kernel
theorem d_C_delta_13 : decode c_C_delta 13 = .ok (.ifnull 8, 3) := by decide +kernel
theorem d_C_delta_16 : decode c_C_delta 16 = .ok (.iload_n 1, 1) := by decide +kernel
theorem d_C_delta_17 : decode c_C_delta 17 = .ok (.iload_n 2, 1) := by decide +kernel
theorem d_C_delta_18 : decode c_C_delta 18 = .ok (.if_icmp .ne 5, 3) := by decide +kernel
theorem d_C_delta_21 : decode c_C_delta 21 = .ok (.iconst 0, 1) := by decide +kernel
theorem d_C_delta_22 : decode c_C_delta 22 = .ok (.ireturn, 1) := by decide +kernel
theorem d_C_delta_23 : decode c_C_delta 23 = .ok (.iload_n 3, 1) := by decide +kernel
theorem d_C_delta_24 : decode c_C_delta 24 = .ok (.iconst 1, 1) := by decide +kernel
theorem d_C_delta_25 : decode c_C_delta 25 = .ok (.sipush 1000, 3) := by decide +kernel
theorem d_C_delta_28 : decode c_C_delta 28 = .ok (.invokestatic 47, 3) := by decide +kernel
theorem d_C_delta_31 : decode c_C_delta 31 = .ok (.ifCond .eq 20, 3) := by decide +kernel
theorem d_C_delta_34 : decode c_C_delta 34 = .ok (.aload_n 0, 1) := by decide +kernel
theorem d_C_delta_35 : decode c_C_delta 35 = .ok (.getfield 28, 3) := by decide +kernel
theorem d_C_delta_38 : decode c_C_delta 38 = .ok (.iload_n 1, 1) := by decide +kernel
theorem d_C_delta_39 : decode c_C_delta 39 = .ok (.iload_n 2, 1) := by decide +kernel
theorem d_C_delta_40 : decode c_C_delta 40 = .ok (.iload_n 3, 1) := by decide +kernel
theorem d_C_delta_41 : decode c_C_delta 41 = .ok (.invokevirtual 135, 3) := by decide +kernel
theorem d_C_delta_44 : decode c_C_delta 44 = .ok (.ifCond .eq 7, 3) := by decide +kernel
theorem d_C_delta_47 : decode c_C_delta 47 = .ok (.iconst 1, 1) := by decide +kernel
theorem d_C_delta_48 : decode c_C_delta 48 = .ok (.goto 4, 3) := by decide +kernel
theorem d_C_delta_51 : decode c_C_delta 51 = .ok (.iconst 0, 1) := by decide +kernel
theorem d_C_delta_52 : decode c_C_delta 52 = .ok (.ireturn, 1) := by decide +kernel
theorem d_C_cost_0 : decode c_C_cost 0 = .ok (.aload_n 0, 1) := by decide +kernel
theorem d_C_cost_1 : decode c_C_cost 1 = .ok (.iload_n 1, 1) := by decide +kernel
theorem d_C_cost_2 : decode c_C_cost 2 = .ok (.invokevirtual 117, 3) := by decide +kernel
theorem d_C_cost_5 : decode c_C_cost 5 = .ok (.astore_n 2, 1) := by decide +kernel
theorem d_C_cost_6 : decode c_C_cost 6 = .ok (.aload_n 2, 1) := by decide +kernel
theorem d_C_cost_7 : decode c_C_cost 7 = .ok (.ifnonnull 5, 3) := by decide +kernel
theorem d_C_cost_10 : decode c_C_cost 10 = .ok (.iconst (-1), 1) := by decide +kernel
theorem d_C_cost_11 : decode c_C_cost 11 = .ok (.ireturn, 1) := by decide +kernel
theorem d_C_cost_12 : decode c_C_cost 12 = .ok (.aload_n 0, 1) := by decide +kernel
theorem d_C_cost_13 : decode c_C_cost 13 = .ok (.aload_n 2, 1) := by decide +kernel
theorem d_C_cost_14 : decode c_C_cost 14 = .ok (.invokevirtual 138, 3) := by decide +kernel
theorem d_C_cost_17 : decode c_C_cost 17 = .ok (.aload_n 0, 1) := by decide +kernel
theorem d_C_cost_18 : decode c_C_cost 18 = .ok (.getfield 28, 3) := by decide +kernel
theorem d_C_cost_21 : decode c_C_cost 21 = .ok (.getfield 142, 3) := by decide +kernel
theorem d_C_cost_24 : decode c_C_cost 24 = .ok (.ireturn, 1) := by decide +kernel
theorem d_C_steps_0 : decode c_C_steps 0 = .ok (.aload_n 0, 1) := by decide +kernel
theorem d_C_steps_1 : decode c_C_steps 1 = .ok (.iload_n 1, 1) := by decide +kernel
theorem d_C_steps_2 : decode c_C_steps 2 = .ok (.invokevirtual 117, 3) := by decide +kernel
theorem d_C_steps_5 : decode c_C_steps 5 = .ok (.astore_n 2, 1) := by decide +kernel
theorem d_C_steps_6 : decode c_C_steps 6 = .ok (.aload_n 2, 1) := by decide +kernel
theorem d_C_steps_7 : decode c_C_steps 7 = .ok (.ifnonnull 5, 3) := by decide +kernel
theorem d_C_steps_10 : decode c_C_steps 10 = .ok (.iconst (-1), 1) := by decide +kernel
theorem d_C_steps_11 : decode c_C_steps 11 = .ok (.ireturn, 1) := by decide +kernel
theorem d_C_steps_12 : decode c_C_steps 12 = .ok (.aload_n 0, 1) := by decide +kernel
theorem d_C_steps_13 : decode c_C_steps 13 = .ok (.aload_n 2, 1) := by decide +kernel
theorem d_C_steps_14 : decode c_C_steps 14 = .ok (.invokevirtual 138, 3) := by decide +kernel
theorem d_C_steps_17 : decode c_C_steps 17 = .ok (.aload_n 0, 1) := by decide +kernel
theorem d_C_steps_18 : decode c_C_steps 18 = .ok (.getfield 28, 3) := by decide +kernel
theorem d_C_steps_21 : decode c_C_steps 21 = .ok (.getfield 145, 3) := by decide +kernel
theorem d_C_steps_24 : decode c_C_steps 24 = .ok (.ireturn, 1) := by decide +kernel
theorem d_C_update_0 : decode c_C_update 0 = .ok (.aload_n 0, 1) := by decide +kernel
theorem d_C_update_1 : decode c_C_update 1 = .ok (.iload_n 1, 1) := by decide +kernel
theorem d_C_update_2 : decode c_C_update 2 = .ok (.invokevirtual 117, 3) := by decide +kernel
theorem d_C_update_5 : decode c_C_update 5 = .ok (.astore_n 2, 1) := by decide +kernel
theorem d_C_update_6 : decode c_C_update 6 = .ok (.aload_n 2, 1) := by decide +kernel
theorem d_C_update_7 : decode c_C_update 7 = .ok (.ifnonnull 5, 3) := by decide +kernel
theorem d_C_update_10 : decode c_C_update 10 = .ok (.iconst (-1), 1) := by decide +kernel
theorem d_C_update_11 : decode c_C_update 11 = .ok (.ireturn, 1) := by decide +kernel
theorem d_C_update_12 : decode c_C_update 12 = .ok (.aload_n 0, 1) := by decide +kernel
theorem d_C_update_13 : decode c_C_update 13 = .ok (.aload_n 2, 1) := by decide +kernel
theorem d_C_update_14 : decode c_C_update 14 = .ok (.invokevirtual 127, 3) := by decide +kernel
theorem d_C_update_17 : decode c_C_update 17 = .ok (.istore_n 3, 1) := by decide +kernel
theorem d_C_update_18 : decode c_C_update 18 = .ok (.iload_n 3, 1) := by decide +kernel
theorem d_C_update_19 : decode c_C_update 19 = .ok (.iconst (-1), 1) := by decide +kernel
theorem d_C_update_20 : decode c_C_update 20 = .ok (.if_icmp .eq 8, 3) := by decide +kernel
theorem d_C_update_23 : decode c_C_update 23 = .ok (.aload_n 2, 1) := by decide +kernel
theorem d_C_update_24 : decode c_C_update 24 = .ok (.iload_n 3, 1) := by decide +kernel
theorem d_C_update_25 : decode c_C_update 25 = .ok (.putfield 148, 3) := by decide +kernel
theorem d_C_update_28 : decode c_C_update 28 = .ok (.iload_n 3, 1) := by decide +kernel
theorem d_C_update_29 : decode c_C_update 29 = .ok (.ireturn, 1) := by decide +kernel
theorem d_C_has_0 : decode c_C_has 0 = .ok (.aload_n 0, 1) := by decide +kernel
theorem d_C_has_1 : decode c_C_has 1 = .ok (.iload_n 1, 1) := by decide +kernel
theorem d_C_has_2 : decode c_C_has 2 = .ok (.invokevirtual 117, 3) := by decide +kernel
end
section
theorem d_C_has_5 : decode c_C_has 5 = .ok (.astore_n 2, 1) := by decide +kernel
theorem d_C_has_6 : decode c_C_has 6 = .ok (.aload_n 2, 1) := by decide +kernel
theorem d_C_has_7 : decode c_C_has 7 = .ok (.ifnonnull 7, 3) := by decide +kernel
theorem d_C_has_10 : decode c_C_has 10 = .ok (.iconst (-1), 1) := by decide +kernel
theorem d_C_has_11 : decode c_C_has 11 = .ok (.goto 7, 3) := by decide +kernel
theorem d_C_has_14 : decode c_C_has 14 = .ok (.aload_n 2, 1) := by decide +kernel
theorem d_C_has_15 : decode c_C_has 15 = .ok (.getfield 148, 3) := by decide +kernel
theorem d_C_has_18 : decode c_C_has 18 = .ok (.ireturn, 1) := by decide +kernel
theorem d_C_within_0 : decode c_C_within 0 = .ok (.iload_n 0, 1) := by decide +kernel
theorem d_C_within_1 : decode c_C_within 1 = .ok (.iload_n 1, 1) := by decide +kernel
theorem d_C_within_2 : decode c_C_within 2 = .ok (.if_icmp .lt 12, 3) := by decide +kernel
theorem d_C_within_5 : decode c_C_within 5 = .ok (.iload_n 0, 1) := by decide +kernel
theorem d_C_within_6 : decode c_C_within 6 = .ok (.iload_n 2, 1) := by decide +kernel
theorem d_C_within_7 : decode c_C_within 7 = .ok (.if_icmp .gt 7, 3) := by decide +kernel
theorem d_C_within_10 : decode c_C_within 10 = .ok (.iconst 1, 1) := by decide +kernel
theorem d_C_within_11 : decode c_C_within 11 = .ok (.goto 4, 3) := by decide +kernel
theorem d_C_within_14 : decode c_C_within 14 = .ok (.iconst 0, 1) := by decide +kernel
theorem d_C_within_15 : decode c_C_within 15 = .ok (.ireturn, 1) := by decide +kernel
theorem d_C_isChannel_0 : decode c_C_isChannel 0 = .ok (.iload_n 0, 1) := by decide +kernel
theorem d_C_isChannel_1 : decode c_C_isChannel 1 = .ok (.iconst 0, 1) := by decide +kernel
theorem d_C_isChannel_2 : decode c_C_isChannel 2 = .ok (.iconst 2, 1) := by decide +kernel
theorem d_C_isChannel_3 : decode c_C_isChannel 3 = .ok (.invokestatic 47, 3) := by decide +kernel
theorem d_C_isChannel_6 : decode c_C_isChannel 6 = .ok (.ireturn, 1) := by decide +kernel
theorem d_C_rowOf_0 : decode c_C_rowOf 0 = .ok (.iload_n 0, 1) := by decide +kernel
theorem d_C_rowOf_1 : decode c_C_rowOf 1 = .ok (.iconst 1, 1) := by decide +kernel
theorem d_C_rowOf_2 : decode c_C_rowOf 2 = .ok (.iadd, 1) := by decide +kernel
theorem d_C_rowOf_3 : decode c_C_rowOf 3 = .ok (.i2l, 1) := by decide +kernel
theorem d_C_rowOf_4 : decode c_C_rowOf 4 = .ok (.ldc2_w 151, 3) := by decide +kernel
theorem d_C_rowOf_7 : decode c_C_rowOf 7 = .ok (.lmul, 1) := by decide +kernel
theorem d_C_rowOf_8 : decode c_C_rowOf 8 = .ok (.ldc2_w 153, 3) := by decide +kernel
theorem d_C_rowOf_11 : decode c_C_rowOf 11 = .ok (.land, 1) := by decide +kernel
theorem d_C_rowOf_12 : decode c_C_rowOf 12 = .ok (.lstore_n 1, 1) := by decide +kernel
theorem d_C_rowOf_13 : decode c_C_rowOf 13 = .ok (.lload_n 1, 1) := by decide +kernel
theorem d_C_rowOf_14 : decode c_C_rowOf 14 = .ok (.bipush 7, 2) := by decide +kernel
theorem d_C_rowOf_16 : decode c_C_rowOf 16 = .ok (.lshr, 1) := by decide +kernel
theorem d_C_rowOf_17 : decode c_C_rowOf 17 = .ok (.ldc2_w 155, 3) := by decide +kernel
theorem d_C_rowOf_20 : decode c_C_rowOf 20 = .ok (.lrem, 1) := by decide +kernel
theorem d_C_rowOf_21 : decode c_C_rowOf 21 = .ok (.l2i, 1) := by decide +kernel
theorem d_C_rowOf_22 : decode c_C_rowOf 22 = .ok (.ireturn, 1) := by decide +kernel
theorem d_C_releaseAt_0 : decode c_C_releaseAt 0 = .ok (.iload_n 1, 1) := by decide +kernel
theorem d_C_releaseAt_1 : decode c_C_releaseAt 1 = .ok (.iconst 0, 1) := by decide +kernel
theorem d_C_releaseAt_2 : decode c_C_releaseAt 2 = .ok (.bipush 15, 2) := by decide +kernel
theorem d_C_releaseAt_4 : decode c_C_releaseAt 4 = .ok (.invokestatic 47, 3) := by decide +kernel
theorem d_C_releaseAt_7 : decode c_C_releaseAt 7 = .ok (.ifCond .eq 12, 3) := by decide +kernel
theorem d_C_releaseAt_10 : decode c_C_releaseAt 10 = .ok (.aload_n 0, 1) := by decide +kernel
theorem d_C_releaseAt_11 : decode c_C_releaseAt 11 = .ok (.getfield 11, 3) := by decide +kernel
theorem d_C_releaseAt_14 : decode c_C_releaseAt 14 = .ok (.iload_n 1, 1) := by decide +kernel
theorem d_C_releaseAt_15 : decode c_C_releaseAt 15 = .ok (.aaload, 1) := by decide +kernel
theorem d_C_releaseAt_16 : decode c_C_releaseAt 16 = .ok (.goto 4, 3) := by decide +kernel
theorem d_C_releaseAt_19 : decode c_C_releaseAt 19 = .ok (.aconst_null, 1) := by decide +kernel
theorem d_C_releaseAt_20 : decode c_C_releaseAt 20 = .ok (.areturn, 1) := by decide +kernel
theorem d_C_machineAt_0 : decode c_C_machineAt 0 = .ok (.iload_n 1, 1) := by decide +kernel
theorem d_C_machineAt_1 : decode c_C_machineAt 1 = .ok (.iconst 0, 1) := by decide +kernel
theorem d_C_machineAt_2 : decode c_C_machineAt 2 = .ok (.bipush 29, 2) := by decide +kernel
theorem d_C_machineAt_4 : decode c_C_machineAt 4 = .ok (.invokestatic 47, 3) := by decide +kernel
theorem d_C_machineAt_7 : decode c_C_machineAt 7 = .ok (.ifCond .eq 12, 3) := by decide +kernel
theorem d_C_machineAt_10 : decode c_C_machineAt 10 = .ok (.aload_n 0, 1) := by decide +kernel
theorem d_C_machineAt_11 : decode c_C_machineAt 11 = .ok (.getfield 17, 3) := by decide +kernel
theorem d_C_machineAt_14 : decode c_C_machineAt 14 = .ok (.iload_n 1, 1) := by decide +kernel
theorem d_C_machineAt_15 : decode c_C_machineAt 15 = .ok (.aaload, 1) := by decide +kernel
theorem d_C_machineAt_16 : decode c_C_machineAt 16 = .ok (.goto 4, 3) := by decide +kernel
theorem d_C_machineAt_19 : decode c_C_machineAt 19 = .ok (.aconst_null, 1) := by decide +kernel
theorem d_C_machineAt_20 : decode c_C_machineAt 20 = .ok (.areturn, 1) := by decide +kernel
theorem d_C_offerTo_0 : decode c_C_offerTo 0 = .ok (.aload_n 0, 1) := by decide +kernel
theorem d_C_offerTo_1 : decode c_C_offerTo 1 = .ok (.aload_n 1, 1) := by decide +kernel
theorem d_C_offerTo_2 : decode c_C_offerTo 2 = .ok (.getfield 124, 3) := by decide +kernel
theorem d_C_offerTo_5 : decode c_C_offerTo 5 = .ok (.invokevirtual 54, 3) := by decide +kernel
theorem d_C_offerTo_8 : decode c_C_offerTo 8 = .ok (.astore_n 2, 1) := by decide +kernel
theorem d_C_offerTo_9 : decode c_C_offerTo 9 = .ok (.aload_n 2, 1) := by decide +kernel
theorem d_C_offerTo_10 : decode c_C_offerTo 10 = .ok (.ifnull 16, 3) := by decide +kernel
theorem d_C_offerTo_13 : decode c_C_offerTo 13 = .ok (.aload_n 2, 1) := by decide +kernel
theorem d_C_offerTo_14 : decode c_C_offerTo 14 = .ok (.getfield 88, 3) := by decide +kernel
theorem d_C_offerTo_17 : decode c_C_offerTo 17 = .ok (.iconst 4, 1) := by decide +kernel
theorem d_C_offerTo_18 : decode c_C_offerTo 18 = .ok (.if_icmp .eq 8, 3) := by decide +kernel
theorem d_C_offerTo_21 : decode c_C_offerTo 21 = .ok (.aload_n 1, 1) := by decide +kernel
theorem d_C_offerTo_22 : decode c_C_offerTo 22 = .ok (.getfield 124, 3) := by decide +kernel
theorem d_C_offerTo_25 : decode c_C_offerTo 25 = .ok (.ireturn, 1) := by decide +kernel
theorem d_C_offerTo_26 : decode c_C_offerTo 26 = .ok (.aload_n 0, 1) := by decide +kernel
theorem d_C_offerTo_27 : decode c_C_offerTo 27 = .ok (.aload_n 1, 1) := by decide +kernel
theorem d_C_offerTo_28 : decode c_C_offerTo 28 = .ok (.invokevirtual 157, 3) := by decide +kernel
theorem d_C_offerTo_31 : decode c_C_offerTo 31 = .ok (.istore_n 3, 1) := by decide +kernel
theorem d_C_offerTo_32 : decode c_C_offerTo 32 = .ok (.aload_n 1, 1) := by decide +kernel
theorem d_C_offerTo_33 : decode c_C_offerTo 33 = .ok (.getfield 148, 3) := by decide +kernel
theorem d_C_offerTo_36 : decode c_C_offerTo 36 = .ok (.iload_n 3, 1) := by decide +kernel
theorem d_C_offerTo_37 : decode c_C_offerTo 37 = .ok (.if_icmp .le 18, 3) := by decide +kernel
theorem d_C_offerTo_40 : decode c_C_offerTo 40 = .ok (.aload_n 0, 1) := by decide +kernel
theorem d_C_offerTo_41 : decode c_C_offerTo 41 = .ok (.aload_n 1, 1) := by decide +kernel
theorem d_C_offerTo_42 : decode c_C_offerTo 42 = .ok (.invokevirtual 160, 3) := by decide +kernel
theorem d_C_offerTo_45 : decode c_C_offerTo 45 = .ok (.ifCond .eq 10, 3) := by decide +kernel
theorem d_C_offerTo_48 : decode c_C_offerTo 48 = .ok (.aload_n 1, 1) := by decide +kernel
theorem d_C_offerTo_49 : decode c_C_offerTo 49 = .ok (.getfield 148, 3) := by decide +kernel
theorem d_C_offerTo_52 : decode c_C_offerTo 52 = .ok (.goto 4, 3) := by decide +kernel
theorem d_C_offerTo_55 : decode c_C_offerTo 55 = .ok (.iload_n 3, 1) := by decide +kernel
theorem d_C_offerTo_56 : decode c_C_offerTo 56 = .ok (.ireturn, 1) := by decide +kernel
theorem d_C_newestFor_0 : decode c_C_newestFor 0 = .ok (.aload_n 0, 1) := by decide +kernel
theorem d_C_newestFor_1 : decode c_C_newestFor 1 = .ok (.getfield 38, 3) := by decide +kernel
theorem d_C_newestFor_4 : decode c_C_newestFor 4 = .ok (.iconst 1, 1) := by decide +kernel
theorem d_C_newestFor_5 : decode c_C_newestFor 5 = .ok (.isub, 1) := by decide +kernel
theorem d_C_newestFor_6 : decode c_C_newestFor 6 = .ok (.istore_n 2, 1) := by decide +kernel
theorem d_C_newestFor_7 : decode c_C_newestFor 7 = .ok (.iload_n 2, 1) := by decide +kernel
theorem d_C_newestFor_8 : decode c_C_newestFor 8 = .ok (.ifCond .lt 20, 3) := by decide +kernel
theorem d_C_newestFor_11 : decode c_C_newestFor 11 = .ok (.aload_n 0, 1) := by decide +kernel
theorem d_C_newestFor_12 : decode c_C_newestFor 12 = .ok (.aload_n 1, 1) := by decide +kernel
theorem d_C_newestFor_13 : decode c_C_newestFor 13 = .ok (.iload_n 2, 1) := by decide +kernel
theorem d_C_newestFor_14 : decode c_C_newestFor 14 = .ok (.invokevirtual 131, 3) := by decide +kernel
theorem d_C_newestFor_17 : decode c_C_newestFor 17 = .ok (.ifCond .eq 5, 3) := by decide +kernel
theorem d_C_newestFor_20 : decode c_C_newestFor 20 = .ok (.iload_n 2, 1) := by decide +kernel
theorem d_C_newestFor_21 : decode c_C_newestFor 21 = .ok (.ireturn, 1) := by decide +kernel
theorem d_C_newestFor_22 : decode c_C_newestFor 22 = .ok (.iinc 2 (-1), 3) := by decide +kernel
theorem d_C_newestFor_25 : decode c_C_newestFor 25 = .ok (.goto (-18), 3) := by decide +kernel
theorem d_C_newestFor_28 : decode c_C_newestFor 28 = .ok (.iconst (-1), 1) := by decide +kernel
theorem d_C_newestFor_29 : decode c_C_newestFor 29 = .ok (.ireturn, 1) := by decide +kernel
theorem d_C_mayGet_0 : decode c_C_mayGet 0 = .ok (.aload_n 0, 1) := by decide +kernel
theorem d_C_mayGet_1 : decode c_C_mayGet 1 = .ok (.iload_n 2, 1) := by decide +kernel
theorem d_C_mayGet_2 : decode c_C_mayGet 2 = .ok (.invokevirtual 54, 3) := by decide +kernel
theorem d_C_mayGet_5 : decode c_C_mayGet 5 = .ok (.astore_n 3, 1) := by decide +kernel
theorem d_C_mayGet_6 : decode c_C_mayGet 6 = .ok (.aload_n 3, 1) := by decide +kernel
theorem d_C_mayGet_7 : decode c_C_mayGet 7 = .ok (.ifnull 13, 3) := by decide +kernel
theorem d_C_mayGet_10 : decode c_C_mayGet 10 = .ok (.aload_n 0, 1) := by decide +kernel
theorem d_C_mayGet_11 : decode c_C_mayGet 11 = .ok (.aload_n 1, 1) := by decide +kernel
theorem d_C_mayGet_12 : decode c_C_mayGet 12 = .ok (.aload_n 3, 1) := by decide +kernel
theorem d_C_mayGet_13 : decode c_C_mayGet 13 = .ok (.iload_n 2, 1) := by decide +kernel
theorem d_C_mayGet_14 : decode c_C_mayGet 14 = .ok (.invokevirtual 164, 3) := by decide +kernel
theorem d_C_mayGet_17 : decode c_C_mayGet 17 = .ok (.ifCond .ne 5, 3) := by decide +kernel
theorem d_C_mayGet_20 : decode c_C_mayGet 20 = .ok (.iconst 0, 1) := by decide +kernel
theorem d_C_mayGet_21 : decode c_C_mayGet 21 = .ok (.ireturn, 1) := by decide +kernel
theorem d_C_mayGet_22 : decode c_C_mayGet 22 = .ok (.aload_n 3, 1) := by decide +kernel
theorem d_C_mayGet_23 : decode c_C_mayGet 23 = .ok (.invokevirtual 168, 3) := by decide +kernel
theorem d_C_mayGet_26 : decode c_C_mayGet 26 = .ok (.ifCond .ne 25, 3) := by decide +kernel
theorem d_C_mayGet_29 : decode c_C_mayGet 29 = .ok (.aload_n 1, 1) := by decide +kernel
theorem d_C_mayGet_30 : decode c_C_mayGet 30 = .ok (.getfield 121, 3) := by decide +kernel
theorem d_C_mayGet_33 : decode c_C_mayGet 33 = .ok (.aload_n 3, 1) := by decide +kernel
theorem d_C_mayGet_34 : decode c_C_mayGet 34 = .ok (.invokevirtual 98, 3) := by decide +kernel
theorem d_C_mayGet_37 : decode c_C_mayGet 37 = .ok (.if_icmp .ge 18, 3) := by decide +kernel
theorem d_C_mayGet_40 : decode c_C_mayGet 40 = .ok (.aload_n 3, 1) := by decide +kernel
theorem d_C_mayGet_41 : decode c_C_mayGet 41 = .ok (.aload_n 1, 1) := by decide +kernel
theorem d_C_mayGet_42 : decode c_C_mayGet 42 = .ok (.getfield 171, 3) := by decide +kernel
theorem d_C_mayGet_45 : decode c_C_mayGet 45 = .ok (.invokevirtual 174, 3) := by decide +kernel
theorem d_C_mayGet_48 : decode c_C_mayGet 48 = .ok (.ifCond .eq 7, 3) := by decide +kernel
theorem d_C_mayGet_51 : decode c_C_mayGet 51 = .ok (.iconst 1, 1) := by decide +kernel
theorem d_C_mayGet_52 : decode c_C_mayGet 52 = .ok (.goto 4, 3) := by decide +kernel
theorem d_C_mayGet_55 : decode c_C_mayGet 55 = .ok (.iconst 0, 1) := by decide +kernel
theorem d_C_mayGet_56 : decode c_C_mayGet 56 = .ok (.ireturn, 1) := by decide +kernel
theorem d_C_mayKeep_0 : decode c_C_mayKeep 0 = .ok (.aload_n 0, 1) := by decide +kernel
theorem d_C_mayKeep_1 : decode c_C_mayKeep 1 = .ok (.aload_n 1, 1) := by decide +kernel
theorem d_C_mayKeep_2 : decode c_C_mayKeep 2 = .ok (.getfield 148, 3) := by decide +kernel
theorem d_C_mayKeep_5 : decode c_C_mayKeep 5 = .ok (.invokevirtual 54, 3) := by decide +kernel
theorem d_C_mayKeep_8 : decode c_C_mayKeep 8 = .ok (.astore_n 2, 1) := by decide +kernel
theorem d_C_mayKeep_9 : decode c_C_mayKeep 9 = .ok (.aload_n 2, 1) := by decide +kernel
theorem d_C_mayKeep_10 : decode c_C_mayKeep 10 = .ok (.ifnull 28, 3) := by decide +kernel
theorem d_C_mayKeep_13 : decode c_C_mayKeep 13 = .ok (.aload_n 2, 1) := by decide +kernel
theorem d_C_mayKeep_14 : decode c_C_mayKeep 14 = .ok (.getfield 88, 3) := by decide +kernel
theorem d_C_mayKeep_17 : decode c_C_mayKeep 17 = .ok (.iconst 4, 1) := by decide +kernel
theorem d_C_mayKeep_18 : decode c_C_mayKeep 18 = .ok (.if_icmp .eq 20, 3) := by decide +kernel
theorem d_C_mayKeep_21 : decode c_C_mayKeep 21 = .ok (.aload_n 0, 1) := by decide +kernel
theorem d_C_mayKeep_22 : decode c_C_mayKeep 22 = .ok (.aload_n 1, 1) := by decide +kernel
theorem d_C_mayKeep_23 : decode c_C_mayKeep 23 = .ok (.aload_n 2, 1) := by decide +kernel
theorem d_C_mayKeep_24 : decode c_C_mayKeep 24 = .ok (.aload_n 1, 1) := by decide +kernel
theorem d_C_mayKeep_25 : decode c_C_mayKeep 25 = .ok (.getfield 148, 3) := by decide +kernel
theorem d_C_mayKeep_28 : decode c_C_mayKeep 28 = .ok (.invokevirtual 164, 3) := by decide +kernel
theorem d_C_mayKeep_31 : decode c_C_mayKeep 31 = .ok (.ifCond .eq 7, 3) := by decide +kernel
theorem d_C_mayKeep_34 : decode c_C_mayKeep 34 = .ok (.iconst 1, 1) := by decide +kernel
theorem d_C_mayKeep_35 : decode c_C_mayKeep 35 = .ok (.goto 4, 3) := by decide +kernel
theorem d_C_mayKeep_38 : decode c_C_mayKeep 38 = .ok (.iconst 0, 1) := by decide +kernel
theorem d_C_mayKeep_39 : decode c_C_mayKeep 39 = .ok (.ireturn, 1) := by decide +kernel
theorem d_C_isOpenTo_0 : decode c_C_isOpenTo 0 = .ok (.aload_n 2, 1) := by decide +kernel
theorem d_C_isOpenTo_1 : decode c_C_isOpenTo 1 = .ok (.getfield 104, 3) := by decide +kernel
theorem d_C_isOpenTo_4 : decode c_C_isOpenTo 4 = .ok (.aload_n 1, 1) := by decide +kernel
theorem d_C_isOpenTo_5 : decode c_C_isOpenTo 5 = .ok (.getfield 177, 3) := by decide +kernel
theorem d_C_isOpenTo_8 : decode c_C_isOpenTo 8 = .ok (.if_icmp .ne 13, 3) := by decide +kernel
theorem d_C_isOpenTo_11 : decode c_C_isOpenTo 11 = .ok (.aload_n 1, 1) := by decide +kernel
theorem d_C_isOpenTo_12 : decode c_C_isOpenTo 12 = .ok (.getfield 177, 3) := by decide +kernel
theorem d_C_isOpenTo_15 : decode c_C_isOpenTo 15 = .ok (.invokestatic 42, 3) := by decide +kernel
theorem d_C_isOpenTo_18 : decode c_C_isOpenTo 18 = .ok (.ifCond .ne 5, 3) := by decide +kernel
theorem d_C_isOpenTo_21 : decode c_C_isOpenTo 21 = .ok (.iconst 0, 1) := by decide +kernel
theorem d_C_isOpenTo_22 : decode c_C_isOpenTo 22 = .ok (.ireturn, 1) := by decide +kernel
theorem d_C_isOpenTo_23 : decode c_C_isOpenTo 23 = .ok (.aload_n 0, 1) := by decide +kernel
theorem d_C_isOpenTo_24 : decode c_C_isOpenTo 24 = .ok (.getfield 21, 3) := by decide +kernel
theorem d_C_isOpenTo_27 : decode c_C_isOpenTo 27 = .ok (.aload_n 1, 1) := by decide +kernel
theorem d_C_isOpenTo_28 : decode c_C_isOpenTo 28 = .ok (.getfield 177, 3) := by decide +kernel
theorem d_C_isOpenTo_31 : decode c_C_isOpenTo 31 = .ok (.iaload, 1) := by decide +kernel
theorem d_C_isOpenTo_32 : decode c_C_isOpenTo 32 = .ok (.istore 4, 2) := by decide +kernel
theorem d_C_isOpenTo_34 : decode c_C_isOpenTo 34 = .ok (.iload 4, 2) := by decide +kernel
theorem d_C_isOpenTo_36 : decode c_C_isOpenTo 36 = .ok (.iconst (-1), 1) := by decide +kernel
theorem d_C_isOpenTo_37 : decode c_C_isOpenTo 37 = .ok (.if_icmp .eq 9, 3) := by decide +kernel
theorem d_C_isOpenTo_40 : decode c_C_isOpenTo 40 = .ok (.iload_n 3, 1) := by decide +kernel
theorem d_C_isOpenTo_41 : decode c_C_isOpenTo 41 = .ok (.iload 4, 2) := by decide +kernel
theorem d_C_isOpenTo_43 : decode c_C_isOpenTo 43 = .ok (.if_icmp .gt 7, 3) := by decide +kernel
theorem d_C_isOpenTo_46 : decode c_C_isOpenTo 46 = .ok (.iconst 1, 1) := by decide +kernel
theorem d_C_isOpenTo_47 : decode c_C_isOpenTo 47 = .ok (.goto 4, 3) := by decide +kernel
theorem d_C_isOpenTo_50 : decode c_C_isOpenTo 50 = .ok (.iconst 0, 1) := by decide +kernel
theorem d_C_isOpenTo_51 : decode c_C_isOpenTo 51 = .ok (.ireturn, 1) := by decide +kernel
theorem d_C_findWay_0 : decode c_C_findWay 0 = .ok (.aload_n 0, 1) := by decide +kernel
theorem d_C_findWay_1 : decode c_C_findWay 1 = .ok (.aload_n 1, 1) := by decide +kernel
theorem d_C_findWay_2 : decode c_C_findWay 2 = .ok (.invokevirtual 127, 3) := by decide +kernel
theorem d_C_findWay_5 : decode c_C_findWay 5 = .ok (.istore_n 2, 1) := by decide +kernel
theorem d_C_findWay_6 : decode c_C_findWay 6 = .ok (.aload_n 0, 1) := by decide +kernel
theorem d_C_findWay_7 : decode c_C_findWay 7 = .ok (.iload_n 2, 1) := by decide +kernel
theorem d_C_findWay_8 : decode c_C_findWay 8 = .ok (.invokevirtual 54, 3) := by decide +kernel
theorem d_C_findWay_11 : decode c_C_findWay 11 = .ok (.astore_n 3, 1) := by decide +kernel
theorem d_C_findWay_12 : decode c_C_findWay 12 = .ok (.aload_n 3, 1) := by decide +kernel
theorem d_C_findWay_13 : decode c_C_findWay 13 = .ok (.ifnull 11, 3) := by decide +kernel
theorem d_C_findWay_16 : decode c_C_findWay 16 = .ok (.iload_n 2, 1) := by decide +kernel
theorem d_C_findWay_17 : decode c_C_findWay 17 = .ok (.aload_n 1, 1) := by decide +kernel
theorem d_C_findWay_18 : decode c_C_findWay 18 = .ok (.getfield 148, 3) := by decide +kernel
theorem d_C_findWay_21 : decode c_C_findWay 21 = .ok (.if_icmp .ne 13, 3) := by decide +kernel
theorem d_C_findWay_24 : decode c_C_findWay 24 = .ok (.aload_n 0, 1) := by decide +kernel
theorem d_C_findWay_25 : decode c_C_findWay 25 = .ok (.getfield 28, 3) := by decide +kernel
theorem d_C_findWay_28 : decode c_C_findWay 28 = .ok (.iconst 0, 1) := by decide +kernel
theorem d_C_findWay_29 : decode c_C_findWay 29 = .ok (.iconst 0, 1) := by decide +kernel
theorem d_C_findWay_30 : decode c_C_findWay 30 = .ok (.invokevirtual 178, 3) := by decide +kernel
theorem d_C_findWay_33 : decode c_C_findWay 33 = .ok (.return_, 1) := by decide +kernel
theorem d_C_findWay_34 : decode c_C_findWay 34 = .ok (.aload_n 0, 1) := by decide +kernel
theorem d_C_findWay_35 : decode c_C_findWay 35 = .ok (.getfield 28, 3) := by decide +kernel
theorem d_C_findWay_38 : decode c_C_findWay 38 = .ok (.aload_n 3, 1) := by decide +kernel
theorem d_C_findWay_39 : decode c_C_findWay 39 = .ok (.getfield 181, 3) := by decide +kernel
theorem d_C_findWay_42 : decode c_C_findWay 42 = .ok (.iconst 0, 1) := by decide +kernel
theorem d_C_findWay_43 : decode c_C_findWay 43 = .ok (.invokevirtual 178, 3) := by decide +kernel
theorem d_C_findWay_46 : decode c_C_findWay 46 = .ok (.aload_n 1, 1) := by decide +kernel
theorem d_C_findWay_47 : decode c_C_findWay 47 = .ok (.getfield 148, 3) := by decide +kernel
theorem d_C_findWay_50 : decode c_C_findWay 50 = .ok (.iconst (-1), 1) := by decide +kernel
theorem d_C_findWay_51 : decode c_C_findWay 51 = .ok (.if_icmp .eq 19, 3) := by decide +kernel
theorem d_C_findWay_54 : decode c_C_findWay 54 = .ok (.aload_n 0, 1) := by decide +kernel
theorem d_C_findWay_55 : decode c_C_findWay 55 = .ok (.getfield 28, 3) := by decide +kernel
theorem d_C_findWay_58 : decode c_C_findWay 58 = .ok (.aload_n 1, 1) := by decide +kernel
theorem d_C_findWay_59 : decode c_C_findWay 59 = .ok (.getfield 148, 3) := by decide +kernel
theorem d_C_findWay_62 : decode c_C_findWay 62 = .ok (.iload_n 2, 1) := by decide +kernel
theorem d_C_findWay_63 : decode c_C_findWay 63 = .ok (.aload_n 0, 1) := by decide +kernel
theorem d_C_findWay_64 : decode c_C_findWay 64 = .ok (.getfield 11, 3) := by decide +kernel
theorem d_C_findWay_67 : decode c_C_findWay 67 = .ok (.invokevirtual 184, 3) := by decide +kernel
theorem d_C_findWay_70 : decode c_C_findWay 70 = .ok (.return_, 1) := by decide +kernel
theorem d_T_init_0 : decode c_T_init 0 = .ok (.aload_n 0, 1) := by decide +kernel
theorem d_T_init_1 : decode c_T_init 1 = .ok (.invokespecial 1, 3) := by decide +kernel
theorem d_T_init_4 : decode c_T_init 4 = .ok (.aload_n 0, 1) := by decide +kernel
theorem d_T_init_5 : decode c_T_init 5 = .ok (.bipush 16, 2) := by decide +kernel
theorem d_T_init_7 : decode c_T_init 7 = .ok (.newarray .int, 2) := by decide +kernel
theorem d_T_init_9 : decode c_T_init 9 = .ok (.putfield 7, 3) := by decide +kernel
theorem d_T_init_12 : decode c_T_init 12 = .ok (.aload_n 0, 1) := by decide +kernel
theorem d_T_init_13 : decode c_T_init 13 = .ok (.bipush 16, 2) := by decide +kernel
theorem d_T_init_15 : decode c_T_init 15 = .ok (.newarray .int, 2) := by decide +kernel
theorem d_T_init_17 : decode c_T_init 17 = .ok (.putfield 13, 3) := by decide +kernel
theorem d_T_init_20 : decode c_T_init 20 = .ok (.aload_n 0, 1) := by decide +kernel
theorem d_T_init_21 : decode c_T_init 21 = .ok (.bipush 16, 2) := by decide +kernel
theorem d_T_init_23 : decode c_T_init 23 = .ok (.newarray .int, 2) := by decide +kernel
theorem d_T_init_25 : decode c_T_init 25 = .ok (.putfield 16, 3) := by decide +kernel
theorem d_T_init_28 : decode c_T_init 28 = .ok (.aload_n 0, 1) := by decide +kernel
theorem d_T_init_29 : decode c_T_init 29 = .ok (.bipush 80, 2) := by decide +kernel
theorem d_T_init_31 : decode c_T_init 31 = .ok (.newarray .int, 2) := by decide +kernel
theorem d_T_init_33 : decode c_T_init 33 = .ok (.putfield 19, 3) := by decide +kernel
theorem d_T_init_36 : decode c_T_init 36 = .ok (.aload_n 0, 1) := by decide +kernel
theorem d_T_init_37 : decode c_T_init 37 = .ok (.bipush 80, 2) := by decide +kernel
theorem d_T_init_39 : decode c_T_init 39 = .ok (.newarray .int, 2) := by decide +kernel
theorem d_T_init_41 : decode c_T_init 41 = .ok (.putfield 22, 3) := by decide +kernel
theorem d_T_init_44 : decode c_T_init 44 = .ok (.aload_n 0, 1) := by decide +kernel
theorem d_T_init_45 : decode c_T_init 45 = .ok (.bipush 16, 2) := by decide +kernel
theorem d_T_init_47 : decode c_T_init 47 = .ok (.newarray .int, 2) := by decide +kernel
theorem d_T_init_49 : decode c_T_init 49 = .ok (.putfield 25, 3) := by decide +kernel
theorem d_T_init_52 : decode c_T_init 52 = .ok (.aload_n 0, 1) := by decide +kernel
theorem d_T_init_53 : decode c_T_init 53 = .ok (.bipush 16, 2) := by decide +kernel
theorem d_T_init_55 : decode c_T_init 55 = .ok (.newarray .int, 2) := by decide +kernel
theorem d_T_init_57 : decode c_T_init 57 = .ok (.putfield 28, 3) := by decide +kernel
theorem d_T_init_60 : decode c_T_init 60 = .ok (.aload_n 0, 1) := by decide +kernel
theorem d_T_init_61 : decode c_T_init 61 = .ok (.bipush 16, 2) := by decide +kernel
theorem d_T_init_63 : decode c_T_init 63 = .ok (.newarray .int, 2) := by decide +kernel
theorem d_T_init_65 : decode c_T_init 65 = .ok (.putfield 31, 3) := by decide +kernel
theorem d_T_init_68 : decode c_T_init 68 = .ok (.aload_n 0, 1) := by decide +kernel
theorem d_T_init_69 : decode c_T_init 69 = .ok (.bipush 16, 2) := by decide +kernel
theorem d_T_init_71 : decode c_T_init 71 = .ok (.newarray .int, 2) := by decide +kernel
theorem d_T_init_73 : decode c_T_init 73 = .ok (.putfield 34, 3) := by decide +kernel
theorem d_T_init_76 : decode c_T_init 76 = .ok (.aload_n 0, 1) := by decide +kernel
theorem d_T_init_77 : decode c_T_init 77 = .ok (.bipush 16, 2) := by decide +kernel
theorem d_T_init_79 : decode c_T_init 79 = .ok (.newarray .int, 2) := by decide +kernel
theorem d_T_init_81 : decode c_T_init 81 = .ok (.putfield 37, 3) := by decide +kernel
theorem d_T_init_84 : decode c_T_init 84 = .ok (.aload_n 0, 1) := by decide +kernel
theorem d_T_init_85 : decode c_T_init 85 = .ok (.bipush 16, 2) := by decide +kernel
theorem d_T_init_87 : decode c_T_init 87 = .ok (.newarray .int, 2) := by decide +kernel
theorem d_T_init_89 : decode c_T_init 89 = .ok (.putfield 40, 3) := by decide +kernel
theorem d_T_init_92 : decode c_T_init 92 = .ok (.aload_n 0, 1) := by decide +kernel
theorem d_T_init_93 : decode c_T_init 93 = .ok (.bipush 16, 2) := by decide +kernel
theorem d_T_init_95 : decode c_T_init 95 = .ok (.newarray .int, 2) := by decide +kernel
theorem d_T_init_97 : decode c_T_init 97 = .ok (.putfield 43, 3) := by decide +kernel
theorem d_T_init_100 : decode c_T_init 100 = .ok (.aload_n 0, 1) := by decide +kernel
theorem d_T_init_101 : decode c_T_init 101 = .ok (.bipush 16, 2) := by decide +kernel
theorem d_T_init_103 : decode c_T_init 103 = .ok (.newarray .int, 2) := by decide +kernel
theorem d_T_init_105 : decode c_T_init 105 = .ok (.putfield 46, 3) := by decide +kernel
theorem d_T_init_108 : decode c_T_init 108 = .ok (.aload_n 0, 1) := by decide +kernel
theorem d_T_init_109 : decode c_T_init 109 = .ok (.bipush 16, 2) := by decide +kernel
theorem d_T_init_111 : decode c_T_init 111 = .ok (.newarray .boolean, 2) := by decide +kernel
theorem d_T_init_113 : decode c_T_init 113 = .ok (.putfield 49, 3) := by decide +kernel
theorem d_T_init_116 : decode c_T_init 116 = .ok (.aload_n 0, 1) := by decide +kernel
theorem d_T_init_117 : decode c_T_init 117 = .ok (.iconst 3, 1) := by decide +kernel
theorem d_T_init_118 : decode c_T_init 118 = .ok (.newarray .int, 2) := by decide +kernel
theorem d_T_init_120 : decode c_T_init 120 = .ok (.putfield 53, 3) := by decide +kernel
theorem d_T_init_123 : decode c_T_init 123 = .ok (.aload_n 0, 1) := by decide +kernel
theorem d_T_init_124 : decode c_T_init 124 = .ok (.bipush 30, 2) := by decide +kernel
theorem d_T_init_126 : decode c_T_init 126 = .ok (.newarray .int, 2) := by decide +kernel
theorem d_T_init_128 : decode c_T_init 128 = .ok (.putfield 56, 3) := by decide +kernel
theorem d_T_init_131 : decode c_T_init 131 = .ok (.aload_n 0, 1) := by decide +kernel
theorem d_T_init_132 : decode c_T_init 132 = .ok (.bipush 30, 2) := by decide +kernel
theorem d_T_init_134 : decode c_T_init 134 = .ok (.newarray .int, 2) := by decide +kernel
theorem d_T_init_136 : decode c_T_init 136 = .ok (.putfield 59, 3) := by decide +kernel
theorem d_T_init_139 : decode c_T_init 139 = .ok (.aload_n 0, 1) := by decide +kernel
theorem d_T_init_140 : decode c_T_init 140 = .ok (.bipush 30, 2) := by decide +kernel
theorem d_T_init_142 : decode c_T_init 142 = .ok (.newarray .int, 2) := by decide +kernel
theorem d_T_init_144 : decode c_T_init 144 = .ok (.putfield 62, 3) := by decide +kernel
theorem d_T_init_147 : decode c_T_init 147 = .ok (.aload_n 0, 1) := by decide +kernel
theorem d_T_init_148 : decode c_T_init 148 = .ok (.bipush 30, 2) := by decide +kernel
theorem d_T_init_150 : decode c_T_init 150 = .ok (.newarray .int, 2) := by decide +kernel
theorem d_T_init_152 : decode c_T_init 152 = .ok (.putfield 65, 3) := by decide +kernel
theorem d_T_init_155 : decode c_T_init 155 = .ok (.aload_n 0, 1) := by decide +kernel
theorem d_T_init_156 : decode c_T_init 156 = .ok (.bipush 40, 2) := by decide +kernel
theorem d_T_init_158 : decode c_T_init 158 = .ok (.newarray .int, 2) := by decide +kernel
theorem d_T_init_160 : decode c_T_init 160 = .ok (.putfield 68, 3) := by decide +kernel
theorem d_T_init_163 : decode c_T_init 163 = .ok (.aload_n 0, 1) := by decide +kernel
theorem d_T_init_164 : decode c_T_init 164 = .ok (.bipush 40, 2) := by decide +kernel
theorem d_T_init_166 : decode c_T_init 166 = .ok (.newarray .int, 2) := by decide +kernel
theorem d_T_init_168 : decode c_T_init 168 = .ok (.putfield 71, 3) := by decide +kernel
theorem d_T_init_171 : decode c_T_init 171 = .ok (.aload_n 0, 1) := by decide +kernel
theorem d_T_init_172 : decode c_T_init 172 = .ok (.bipush 40, 2) := by decide +kernel
theorem d_T_init_174 : decode c_T_init 174 = .ok (.newarray .int, 2) := by decide +kernel
theorem d_T_init_176 : decode c_T_init 176 = .ok (.putfield 74, 3) := by decide +kernel
theorem d_T_init_179 : decode c_T_init 179 = .ok (.aload_n 0, 1) := by decide +kernel
theorem d_T_init_180 : decode c_T_init 180 = .ok (.bipush 16, 2) := by decide +kernel
theorem d_T_init_182 : decode c_T_init 182 = .ok (.newarray .int, 2) := by decide +kernel
theorem d_T_init_184 : decode c_T_init 184 = .ok (.putfield 77, 3) := by decide +kernel
theorem d_T_init_187 : decode c_T_init 187 = .ok (.aload_n 0, 1) := by decide +kernel
theorem d_T_init_188 : decode c_T_init 188 = .ok (.bipush 16, 2) := by decide +kernel
theorem d_T_init_190 : decode c_T_init 190 = .ok (.newarray .int, 2) := by decide +kernel
theorem d_T_init_192 : decode c_T_init 192 = .ok (.putfield 80, 3) := by decide +kernel
theorem d_T_init_195 : decode c_T_init 195 = .ok (.aload_n 0, 1) := by decide +kernel
theorem d_T_init_196 : decode c_T_init 196 = .ok (.bipush 16, 2) := by decide +kernel
theorem d_T_init_198 : decode c_T_init 198 = .ok (.newarray .int, 2) := by decide +kernel
theorem d_T_init_200 : decode c_T_init 200 = .ok (.putfield 83, 3) := by decide +kernel
theorem d_T_init_203 : decode c_T_init 203 = .ok (.aload_n 0, 1) := by decide +kernel
theorem d_T_init_204 : decode c_T_init 204 = .ok (.bipush 16, 2) := by decide +kernel
theorem d_T_init_206 : decode c_T_init 206 = .ok (.newarray .int, 2) := by decide +kernel
theorem d_T_init_208 : decode c_T_init 208 = .ok (.putfield 86, 3) := by decide +kernel
theorem d_T_init_211 : decode c_T_init 211 = .ok (.iconst 0, 1) := by decide +kernel
theorem d_T_init_212 : decode c_T_init 212 = .ok (.istore_n 1, 1) := by decide +kernel
theorem d_T_init_213 : decode c_T_init 213 = .ok (.iload_n 1, 1) := by decide +kernel
theorem d_T_init_214 : decode c_T_init 214 = .ok (.iconst 3, 1) := by decide +kernel
theorem d_T_init_215 : decode c_T_init 215 = .ok (.if_icmp .ge 16, 3) := by decide +kernel
theorem d_T_init_218 : decode c_T_init 218 = .ok (.aload_n 0, 1) := by decide +kernel
theorem d_T_init_219 : decode c_T_init 219 = .ok (.getfield 53, 3) := by decide +kernel
theorem d_T_init_222 : decode c_T_init 222 = .ok (.iload_n 1, 1) := by decide +kernel
theorem d_T_init_223 : decode c_T_init 223 = .ok (.iconst (-1), 1) := by decide +kernel
theorem d_T_init_224 : decode c_T_init 224 = .ok (.iastore, 1) := by decide +kernel
theorem d_T_init_225 : decode c_T_init 225 = .ok (.iinc 1 1, 3) := by decide +kernel
theorem d_T_init_228 : decode c_T_init 228 = .ok (.goto (-15), 3) := by decide +kernel
theorem d_T_init_231 : decode c_T_init 231 = .ok (.return_, 1) := by decide +kernel
theorem d_T_isRelease_0 : decode c_T_isRelease 0 = .ok (.iload_n 1, 1) := by decide +kernel
theorem d_T_isRelease_1 : decode c_T_isRelease 1 = .ok (.ifCond .lt 15, 3) := by decide +kernel
theorem d_T_isRelease_4 : decode c_T_isRelease 4 = .ok (.iload_n 1, 1) := by decide +kernel
theorem d_T_isRelease_5 : decode c_T_isRelease 5 = .ok (.aload_n 0, 1) := by decide +kernel
theorem d_T_isRelease_6 : decode c_T_isRelease 6 = .ok (.getfield 93, 3) := by decide +kernel
theorem d_T_isRelease_9 : decode c_T_isRelease 9 = .ok (.if_icmp .ge 7, 3) := by decide +kernel
theorem d_T_isRelease_12 : decode c_T_isRelease 12 = .ok (.iconst 1, 1) := by decide +kernel
theorem d_T_isRelease_13 : decode c_T_isRelease 13 = .ok (.goto 4, 3) := by decide +kernel
theorem d_T_isRelease_16 : decode c_T_isRelease 16 = .ok (.iconst 0, 1) := by decide +kernel
theorem d_T_isRelease_17 : decode c_T_isRelease 17 = .ok (.ireturn, 1) := by decide +kernel
theorem d_T_isMachine_0 : decode c_T_isMachine 0 = .ok (.iload_n 1, 1) := by decide +kernel
theorem d_T_isMachine_1 : decode c_T_isMachine 1 = .ok (.ifCond .lt 15, 3) := by decide +kernel
theorem d_T_isMachine_4 : decode c_T_isMachine 4 = .ok (.iload_n 1, 1) := by decide +kernel
theorem d_T_isMachine_5 : decode c_T_isMachine 5 = .ok (.aload_n 0, 1) := by decide +kernel
theorem d_T_isMachine_6 : decode c_T_isMachine 6 = .ok (.getfield 96, 3) := by decide +kernel
theorem d_T_isMachine_9 : decode c_T_isMachine 9 = .ok (.if_icmp .ge 7, 3) := by decide +kernel
theorem d_T_isMachine_12 : decode c_T_isMachine 12 = .ok (.iconst 1, 1) := by decide +kernel
theorem d_T_isMachine_13 : decode c_T_isMachine 13 = .ok (.goto 4, 3) := by decide +kernel
theorem d_T_isMachine_16 : decode c_T_isMachine 16 = .ok (.iconst 0, 1) := by decide +kernel
theorem d_T_isMachine_17 : decode c_T_isMachine 17 = .ok (.ireturn, 1) := by decide +kernel
theorem d_T_isWithin_0 : decode c_T_isWithin 0 = .ok (.iload_n 0, 1) := by decide +kernel
theorem d_T_isWithin_1 : decode c_T_isWithin 1 = .ok (.iload_n 1, 1) := by decide +kernel
theorem d_T_isWithin_2 : decode c_T_isWithin 2 = .ok (.if_icmp .lt 12, 3) := by decide +kernel
theorem d_T_isWithin_5 : decode c_T_isWithin 5 = .ok (.iload_n 0, 1) := by decide +kernel
theorem d_T_isWithin_6 : decode c_T_isWithin 6 = .ok (.iload_n 2, 1) := by decide +kernel
theorem d_T_isWithin_7 : decode c_T_isWithin 7 = .ok (.if_icmp .gt 7, 3) := by decide +kernel
theorem d_T_isWithin_10 : decode c_T_isWithin 10 = .ok (.iconst 1, 1) := by decide +kernel
theorem d_T_isWithin_11 : decode c_T_isWithin 11 = .ok (.goto 4, 3) := by decide +kernel
theorem d_T_isWithin_14 : decode c_T_isWithin 14 = .ok (.iconst 0, 1) := by decide +kernel
theorem d_T_isWithin_15 : decode c_T_isWithin 15 = .ok (.ireturn, 1) := by decide +kernel
theorem d_T_release_0 : decode c_T_release 0 = .ok (.aload_n 0, 1) := by decide +kernel
theorem d_T_release_1 : decode c_T_release 1 = .ok (.iconst 0, 1) := by decide +kernel
theorem d_T_release_2 : decode c_T_release 2 = .ok (.putfield 89, 3) := by decide +kernel
theorem d_T_release_5 : decode c_T_release 5 = .ok (.aload_n 0, 1) := by decide +kernel
theorem d_T_release_6 : decode c_T_release 6 = .ok (.getfield 93, 3) := by decide +kernel
theorem d_T_release_9 : decode c_T_release 9 = .ok (.bipush 16, 2) := by decide +kernel
theorem d_T_release_11 : decode c_T_release 11 = .ok (.if_icmp .eq 22, 3) := by decide +kernel
theorem d_T_release_14 : decode c_T_release 14 = .ok (.iload_n 1, 1) := by decide +kernel
theorem d_T_release_15 : decode c_T_release 15 = .ok (.iconst 0, 1) := by decide +kernel
theorem d_T_release_16 : decode c_T_release 16 = .ok (.iconst 2, 1) := by decide +kernel
theorem d_T_release_17 : decode c_T_release 17 = .ok (.invokestatic 99, 3) := by decide +kernel
theorem d_T_release_20 : decode c_T_release 20 = .ok (.ifCond .eq 13, 3) := by decide +kernel
theorem d_T_release_23 : decode c_T_release 23 = .ok (.iload_n 3, 1) := by decide +kernel
theorem d_T_release_24 : decode c_T_release 24 = .ok (.iconst 1, 1) := by decide +kernel
theorem d_T_release_25 : decode c_T_release 25 = .ok (.ldc 103, 2) := by decide +kernel
theorem d_T_release_27 : decode c_T_release 27 = .ok (.invokestatic 99, 3) := by decide +kernel
theorem d_T_release_30 : decode c_T_release 30 = .ok (.ifCond .ne 5, 3) := by decide +kernel
theorem d_T_release_33 : decode c_T_release 33 = .ok (.iconst (-1), 1) := by decide +kernel
theorem d_T_release_34 : decode c_T_release 34 = .ok (.ireturn, 1) := by decide +kernel
theorem d_T_release_35 : decode c_T_release 35 = .ok (.aload_n 0, 1) := by decide +kernel
theorem d_T_release_36 : decode c_T_release 36 = .ok (.getfield 7, 3) := by decide +kernel
theorem d_T_release_39 : decode c_T_release 39 = .ok (.aload_n 0, 1) := by decide +kernel
theorem d_T_release_40 : decode c_T_release 40 = .ok (.getfield 93, 3) := by decide +kernel
theorem d_T_release_43 : decode c_T_release 43 = .ok (.iload_n 1, 1) := by decide +kernel
theorem d_T_release_44 : decode c_T_release 44 = .ok (.iastore, 1) := by decide +kernel
theorem d_T_release_45 : decode c_T_release 45 = .ok (.aload_n 0, 1) := by decide +kernel
theorem d_T_release_46 : decode c_T_release 46 = .ok (.getfield 49, 3) := by decide +kernel
theorem d_T_release_49 : decode c_T_release 49 = .ok (.aload_n 0, 1) := by decide +kernel
theorem d_T_release_50 : decode c_T_release 50 = .ok (.getfield 93, 3) := by decide +kernel
theorem d_T_release_53 : decode c_T_release 53 = .ok (.iload_n 2, 1) := by decide +kernel
theorem d_T_release_54 : decode c_T_release 54 = .ok (.bastore, 1) := by decide +kernel
theorem d_T_release_55 : decode c_T_release 55 = .ok (.aload_n 0, 1) := by decide +kernel
theorem d_T_release_56 : decode c_T_release 56 = .ok (.getfield 13, 3) := by decide +kernel
theorem d_T_release_59 : decode c_T_release 59 = .ok (.aload_n 0, 1) := by decide +kernel
theorem d_T_release_60 : decode c_T_release 60 = .ok (.getfield 93, 3) := by decide +kernel
theorem d_T_release_63 : decode c_T_release 63 = .ok (.iload_n 3, 1) := by decide +kernel
theorem d_T_release_64 : decode c_T_release 64 = .ok (.iastore, 1) := by decide +kernel
theorem d_T_release_65 : decode c_T_release 65 = .ok (.aload_n 0, 1) := by decide +kernel
theorem d_T_release_66 : decode c_T_release 66 = .ok (.getfield 25, 3) := by decide +kernel
theorem d_T_release_69 : decode c_T_release 69 = .ok (.aload_n 0, 1) := by decide +kernel
end
section
theorem d_T_release_70 : decode c_T_release 70 = .ok (.getfield 93, 3) := by decide +kernel
theorem d_T_release_73 : decode c_T_release 73 = .ok (.iconst 1, 1) := by decide +kernel
theorem d_T_release_74 : decode c_T_release 74 = .ok (.iastore, 1) := by decide +kernel
theorem d_T_release_75 : decode c_T_release 75 = .ok (.aload_n 0, 1) := by decide +kernel
theorem d_T_release_76 : decode c_T_release 76 = .ok (.getfield 28, 3) := by decide +kernel
theorem d_T_release_79 : decode c_T_release 79 = .ok (.aload_n 0, 1) := by decide +kernel
theorem d_T_release_80 : decode c_T_release 80 = .ok (.getfield 93, 3) := by decide +kernel
theorem d_T_release_83 : decode c_T_release 83 = .ok (.iconst 1, 1) := by decide +kernel
theorem d_T_release_84 : decode c_T_release 84 = .ok (.iastore, 1) := by decide +kernel
theorem d_T_release_85 : decode c_T_release 85 = .ok (.aload_n 0, 1) := by decide +kernel
theorem d_T_release_86 : decode c_T_release 86 = .ok (.dup, 1) := by decide +kernel
theorem d_T_release_87 : decode c_T_release 87 = .ok (.getfield 93, 3) := by decide +kernel
theorem d_T_release_90 : decode c_T_release 90 = .ok (.iconst 1, 1) := by decide +kernel
theorem d_T_release_91 : decode c_T_release 91 = .ok (.iadd, 1) := by decide +kernel
theorem d_T_release_92 : decode c_T_release 92 = .ok (.putfield 93, 3) := by decide +kernel
theorem d_T_release_95 : decode c_T_release 95 = .ok (.aload_n 0, 1) := by decide +kernel
theorem d_T_release_96 : decode c_T_release 96 = .ok (.getfield 93, 3) := by decide +kernel
theorem d_T_release_99 : decode c_T_release 99 = .ok (.iconst 1, 1) := by decide +kernel
theorem d_T_release_100 : decode c_T_release 100 = .ok (.isub, 1) := by decide +kernel
theorem d_T_release_101 : decode c_T_release 101 = .ok (.ireturn, 1) := by decide +kernel
theorem d_T_stage_0 : decode c_T_stage 0 = .ok (.aload_n 0, 1) := by decide +kernel
theorem d_T_stage_1 : decode c_T_stage 1 = .ok (.iconst 0, 1) := by decide +kernel
theorem d_T_stage_2 : decode c_T_stage 2 = .ok (.putfield 89, 3) := by decide +kernel
theorem d_T_stage_5 : decode c_T_stage 5 = .ok (.aload_n 0, 1) := by decide +kernel
theorem d_T_stage_6 : decode c_T_stage 6 = .ok (.iload_n 1, 1) := by decide +kernel
theorem d_T_stage_7 : decode c_T_stage 7 = .ok (.invokevirtual 104, 3) := by decide +kernel
theorem d_T_stage_10 : decode c_T_stage 10 = .ok (.ifCond .eq 44, 3) := by decide +kernel
theorem d_T_stage_13 : decode c_T_stage 13 = .ok (.aload_n 0, 1) := by decide +kernel
theorem d_T_stage_14 : decode c_T_stage 14 = .ok (.getfield 31, 3) := by decide +kernel
theorem d_T_stage_17 : decode c_T_stage 17 = .ok (.iload_n 1, 1) := by decide +kernel
theorem d_T_stage_18 : decode c_T_stage 18 = .ok (.iaload, 1) := by decide +kernel
theorem d_T_stage_19 : decode c_T_stage 19 = .ok (.ifCond .ne 35, 3) := by decide +kernel
theorem d_T_stage_22 : decode c_T_stage 22 = .ok (.aload_n 0, 1) := by decide +kernel
theorem d_T_stage_23 : decode c_T_stage 23 = .ok (.getfield 16, 3) := by decide +kernel
theorem d_T_stage_26 : decode c_T_stage 26 = .ok (.iload_n 1, 1) := by decide +kernel
theorem d_T_stage_27 : decode c_T_stage 27 = .ok (.iaload, 1) := by decide +kernel
theorem d_T_stage_28 : decode c_T_stage 28 = .ok (.iconst 5, 1) := by decide +kernel
theorem d_T_stage_29 : decode c_T_stage 29 = .ok (.if_icmp .eq 25, 3) := by decide +kernel
theorem d_T_stage_32 : decode c_T_stage 32 = .ok (.iload_n 2, 1) := by decide +kernel
theorem d_T_stage_33 : decode c_T_stage 33 = .ok (.iconst 0, 1) := by decide +kernel
theorem d_T_stage_34 : decode c_T_stage 34 = .ok (.sipush 1000, 3) := by decide +kernel
theorem d_T_stage_37 : decode c_T_stage 37 = .ok (.invokestatic 99, 3) := by decide +kernel
theorem d_T_stage_40 : decode c_T_stage 40 = .ok (.ifCond .eq 14, 3) := by decide +kernel
theorem d_T_stage_43 : decode c_T_stage 43 = .ok (.iload_n 3, 1) := by decide +kernel
theorem d_T_stage_44 : decode c_T_stage 44 = .ok (.iconst 0, 1) := by decide +kernel
theorem d_T_stage_45 : decode c_T_stage 45 = .ok (.sipush 1000, 3) := by decide +kernel
theorem d_T_stage_48 : decode c_T_stage 48 = .ok (.invokestatic 99, 3) := by decide +kernel
theorem d_T_stage_51 : decode c_T_stage 51 = .ok (.ifCond .ne 5, 3) := by decide +kernel
theorem d_T_stage_54 : decode c_T_stage 54 = .ok (.iconst 0, 1) := by decide +kernel
theorem d_T_stage_55 : decode c_T_stage 55 = .ok (.ireturn, 1) := by decide +kernel
theorem d_T_stage_56 : decode c_T_stage 56 = .ok (.aload_n 0, 1) := by decide +kernel
theorem d_T_stage_57 : decode c_T_stage 57 = .ok (.getfield 16, 3) := by decide +kernel
theorem d_T_stage_60 : decode c_T_stage 60 = .ok (.iload_n 1, 1) := by decide +kernel
theorem d_T_stage_61 : decode c_T_stage 61 = .ok (.iaload, 1) := by decide +kernel
theorem d_T_stage_62 : decode c_T_stage 62 = .ok (.ifCond .le 26, 3) := by decide +kernel
theorem d_T_stage_65 : decode c_T_stage 65 = .ok (.iload_n 2, 1) := by decide +kernel
theorem d_T_stage_66 : decode c_T_stage 66 = .ok (.aload_n 0, 1) := by decide +kernel
theorem d_T_stage_67 : decode c_T_stage 67 = .ok (.getfield 19, 3) := by decide +kernel
theorem d_T_stage_70 : decode c_T_stage 70 = .ok (.iconst 5, 1) := by decide +kernel
theorem d_T_stage_71 : decode c_T_stage 71 = .ok (.iload_n 1, 1) := by decide +kernel
theorem d_T_stage_72 : decode c_T_stage 72 = .ok (.imul, 1) := by decide +kernel
theorem d_T_stage_73 : decode c_T_stage 73 = .ok (.aload_n 0, 1) := by decide +kernel
theorem d_T_stage_74 : decode c_T_stage 74 = .ok (.getfield 16, 3) := by decide +kernel
theorem d_T_stage_77 : decode c_T_stage 77 = .ok (.iload_n 1, 1) := by decide +kernel
theorem d_T_stage_78 : decode c_T_stage 78 = .ok (.iaload, 1) := by decide +kernel
theorem d_T_stage_79 : decode c_T_stage 79 = .ok (.iadd, 1) := by decide +kernel
theorem d_T_stage_80 : decode c_T_stage 80 = .ok (.iconst 1, 1) := by decide +kernel
theorem d_T_stage_81 : decode c_T_stage 81 = .ok (.isub, 1) := by decide +kernel
theorem d_T_stage_82 : decode c_T_stage 82 = .ok (.iaload, 1) := by decide +kernel
theorem d_T_stage_83 : decode c_T_stage 83 = .ok (.if_icmp .ge 5, 3) := by decide +kernel
theorem d_T_stage_86 : decode c_T_stage 86 = .ok (.iconst 0, 1) := by decide +kernel
theorem d_T_stage_87 : decode c_T_stage 87 = .ok (.ireturn, 1) := by decide +kernel
theorem d_T_stage_88 : decode c_T_stage 88 = .ok (.aload_n 0, 1) := by decide +kernel
theorem d_T_stage_89 : decode c_T_stage 89 = .ok (.getfield 19, 3) := by decide +kernel
theorem d_T_stage_92 : decode c_T_stage 92 = .ok (.iconst 5, 1) := by decide +kernel
theorem d_T_stage_93 : decode c_T_stage 93 = .ok (.iload_n 1, 1) := by decide +kernel
theorem d_T_stage_94 : decode c_T_stage 94 = .ok (.imul, 1) := by decide +kernel
theorem d_T_stage_95 : decode c_T_stage 95 = .ok (.aload_n 0, 1) := by decide +kernel
theorem d_T_stage_96 : decode c_T_stage 96 = .ok (.getfield 16, 3) := by decide +kernel
theorem d_T_stage_99 : decode c_T_stage 99 = .ok (.iload_n 1, 1) := by decide +kernel
theorem d_T_stage_100 : decode c_T_stage 100 = .ok (.iaload, 1) := by decide +kernel
theorem d_T_stage_101 : decode c_T_stage 101 = .ok (.iadd, 1) := by decide +kernel
theorem d_T_stage_102 : decode c_T_stage 102 = .ok (.iload_n 2, 1) := by decide +kernel
theorem d_T_stage_103 : decode c_T_stage 103 = .ok (.iastore, 1) := by decide +kernel
theorem d_T_stage_104 : decode c_T_stage 104 = .ok (.aload_n 0, 1) := by decide +kernel
theorem d_T_stage_105 : decode c_T_stage 105 = .ok (.getfield 22, 3) := by decide +kernel
theorem d_T_stage_108 : decode c_T_stage 108 = .ok (.iconst 5, 1) := by decide +kernel
theorem d_T_stage_109 : decode c_T_stage 109 = .ok (.iload_n 1, 1) := by decide +kernel
theorem d_T_stage_110 : decode c_T_stage 110 = .ok (.imul, 1) := by decide +kernel
theorem d_T_stage_111 : decode c_T_stage 111 = .ok (.aload_n 0, 1) := by decide +kernel
theorem d_T_stage_112 : decode c_T_stage 112 = .ok (.getfield 16, 3) := by decide +kernel
theorem d_T_stage_115 : decode c_T_stage 115 = .ok (.iload_n 1, 1) := by decide +kernel
theorem d_T_stage_116 : decode c_T_stage 116 = .ok (.iaload, 1) := by decide +kernel
theorem d_T_stage_117 : decode c_T_stage 117 = .ok (.iadd, 1) := by decide +kernel
theorem d_T_stage_118 : decode c_T_stage 118 = .ok (.iload_n 3, 1) := by decide +kernel
theorem d_T_stage_119 : decode c_T_stage 119 = .ok (.iastore, 1) := by decide +kernel
theorem d_T_stage_120 : decode c_T_stage 120 = .ok (.aload_n 0, 1) := by decide +kernel
theorem d_T_stage_121 : decode c_T_stage 121 = .ok (.getfield 16, 3) := by decide +kernel
theorem d_T_stage_124 : decode c_T_stage 124 = .ok (.iload_n 1, 1) := by decide +kernel
theorem d_T_stage_125 : decode c_T_stage 125 = .ok (.dup2, 1) := by decide +kernel
theorem d_T_stage_126 : decode c_T_stage 126 = .ok (.iaload, 1) := by decide +kernel
theorem d_T_stage_127 : decode c_T_stage 127 = .ok (.iconst 1, 1) := by decide +kernel
theorem d_T_stage_128 : decode c_T_stage 128 = .ok (.iadd, 1) := by decide +kernel
theorem d_T_stage_129 : decode c_T_stage 129 = .ok (.iastore, 1) := by decide +kernel
theorem d_T_stage_130 : decode c_T_stage 130 = .ok (.iconst 1, 1) := by decide +kernel
theorem d_T_stage_131 : decode c_T_stage 131 = .ok (.ireturn, 1) := by decide +kernel
theorem d_T_health_0 : decode c_T_health 0 = .ok (.aload_n 0, 1) := by decide +kernel
theorem d_T_health_1 : decode c_T_health 1 = .ok (.iconst 0, 1) := by decide +kernel
theorem d_T_health_2 : decode c_T_health 2 = .ok (.putfield 89, 3) := by decide +kernel
theorem d_T_health_5 : decode c_T_health 5 = .ok (.aload_n 0, 1) := by decide +kernel
theorem d_T_health_6 : decode c_T_health 6 = .ok (.iload_n 1, 1) := by decide +kernel
theorem d_T_health_7 : decode c_T_health 7 = .ok (.invokevirtual 104, 3) := by decide +kernel
theorem d_T_health_10 : decode c_T_health 10 = .ok (.ifCond .eq 23, 3) := by decide +kernel
theorem d_T_health_13 : decode c_T_health 13 = .ok (.iload_n 3, 1) := by decide +kernel
theorem d_T_health_14 : decode c_T_health 14 = .ok (.iconst 1, 1) := by decide +kernel
theorem d_T_health_15 : decode c_T_health 15 = .ok (.sipush 1000, 3) := by decide +kernel
theorem d_T_health_18 : decode c_T_health 18 = .ok (.invokestatic 99, 3) := by decide +kernel
theorem d_T_health_21 : decode c_T_health 21 = .ok (.ifCond .eq 12, 3) := by decide +kernel
theorem d_T_health_24 : decode c_T_health 24 = .ok (.iload_n 2, 1) := by decide +kernel
theorem d_T_health_25 : decode c_T_health 25 = .ok (.iconst 0, 1) := by decide +kernel
theorem d_T_health_26 : decode c_T_health 26 = .ok (.iload_n 3, 1) := by decide +kernel
theorem d_T_health_27 : decode c_T_health 27 = .ok (.invokestatic 99, 3) := by decide +kernel
theorem d_T_health_30 : decode c_T_health 30 = .ok (.ifCond .ne 5, 3) := by decide +kernel
theorem d_T_health_33 : decode c_T_health 33 = .ok (.iconst 0, 1) := by decide +kernel
theorem d_T_health_34 : decode c_T_health 34 = .ok (.ireturn, 1) := by decide +kernel
theorem d_T_health_35 : decode c_T_health 35 = .ok (.aload_n 0, 1) := by decide +kernel
theorem d_T_health_36 : decode c_T_health 36 = .ok (.getfield 25, 3) := by decide +kernel
theorem d_T_health_39 : decode c_T_health 39 = .ok (.iload_n 1, 1) := by decide +kernel
theorem d_T_health_40 : decode c_T_health 40 = .ok (.iload_n 2, 1) := by decide +kernel
theorem d_T_health_41 : decode c_T_health 41 = .ok (.iastore, 1) := by decide +kernel
theorem d_T_health_42 : decode c_T_health 42 = .ok (.aload_n 0, 1) := by decide +kernel
theorem d_T_health_43 : decode c_T_health 43 = .ok (.getfield 28, 3) := by decide +kernel
theorem d_T_health_46 : decode c_T_health 46 = .ok (.iload_n 1, 1) := by decide +kernel
theorem d_T_health_47 : decode c_T_health 47 = .ok (.iload_n 3, 1) := by decide +kernel
theorem d_T_health_48 : decode c_T_health 48 = .ok (.iastore, 1) := by decide +kernel
theorem d_T_health_49 : decode c_T_health 49 = .ok (.iconst 1, 1) := by decide +kernel
theorem d_T_health_50 : decode c_T_health 50 = .ok (.ireturn, 1) := by decide +kernel
theorem d_T_begin_0 : decode c_T_begin 0 = .ok (.aload_n 0, 1) := by decide +kernel
theorem d_T_begin_1 : decode c_T_begin 1 = .ok (.getfield 31, 3) := by decide +kernel
theorem d_T_begin_4 : decode c_T_begin 4 = .ok (.iload_n 1, 1) := by decide +kernel
theorem d_T_begin_5 : decode c_T_begin 5 = .ok (.iconst 1, 1) := by decide +kernel
theorem d_T_begin_6 : decode c_T_begin 6 = .ok (.iastore, 1) := by decide +kernel
theorem d_T_begin_7 : decode c_T_begin 7 = .ok (.aload_n 0, 1) := by decide +kernel
theorem d_T_begin_8 : decode c_T_begin 8 = .ok (.getfield 37, 3) := by decide +kernel
theorem d_T_begin_11 : decode c_T_begin 11 = .ok (.iload_n 1, 1) := by decide +kernel
theorem d_T_begin_12 : decode c_T_begin 12 = .ok (.iconst 0, 1) := by decide +kernel
theorem d_T_begin_13 : decode c_T_begin 13 = .ok (.iastore, 1) := by decide +kernel
theorem d_T_begin_14 : decode c_T_begin 14 = .ok (.aload_n 0, 1) := by decide +kernel
theorem d_T_begin_15 : decode c_T_begin 15 = .ok (.getfield 34, 3) := by decide +kernel
theorem d_T_begin_18 : decode c_T_begin 18 = .ok (.iload_n 1, 1) := by decide +kernel
theorem d_T_begin_19 : decode c_T_begin 19 = .ok (.iload_n 2, 1) := by decide +kernel
theorem d_T_begin_20 : decode c_T_begin 20 = .ok (.iastore, 1) := by decide +kernel
theorem d_T_begin_21 : decode c_T_begin 21 = .ok (.aload_n 0, 1) := by decide +kernel
theorem d_T_begin_22 : decode c_T_begin 22 = .ok (.getfield 40, 3) := by decide +kernel
theorem d_T_begin_25 : decode c_T_begin 25 = .ok (.iload_n 1, 1) := by decide +kernel
theorem d_T_begin_26 : decode c_T_begin 26 = .ok (.aload_n 0, 1) := by decide +kernel
theorem d_T_begin_27 : decode c_T_begin 27 = .ok (.getfield 108, 3) := by decide +kernel
theorem d_T_begin_30 : decode c_T_begin 30 = .ok (.iastore, 1) := by decide +kernel
theorem d_T_begin_31 : decode c_T_begin 31 = .ok (.aload_n 0, 1) := by decide +kernel
theorem d_T_begin_32 : decode c_T_begin 32 = .ok (.getfield 43, 3) := by decide +kernel
theorem d_T_begin_35 : decode c_T_begin 35 = .ok (.iload_n 1, 1) := by decide +kernel
theorem d_T_begin_36 : decode c_T_begin 36 = .ok (.iconst 0, 1) := by decide +kernel
theorem d_T_begin_37 : decode c_T_begin 37 = .ok (.iastore, 1) := by decide +kernel
theorem d_T_begin_38 : decode c_T_begin 38 = .ok (.aload_n 0, 1) := by decide +kernel
theorem d_T_begin_39 : decode c_T_begin 39 = .ok (.getfield 46, 3) := by decide +kernel
theorem d_T_begin_42 : decode c_T_begin 42 = .ok (.iload_n 1, 1) := by decide +kernel
theorem d_T_begin_43 : decode c_T_begin 43 = .ok (.iconst 0, 1) := by decide +kernel
theorem d_T_begin_44 : decode c_T_begin 44 = .ok (.iastore, 1) := by decide +kernel
theorem d_T_begin_45 : decode c_T_begin 45 = .ok (.return_, 1) := by decide +kernel
theorem d_T_start_0 : decode c_T_start 0 = .ok (.aload_n 0, 1) := by decide +kernel
theorem d_T_start_1 : decode c_T_start 1 = .ok (.iconst 0, 1) := by decide +kernel
theorem d_T_start_2 : decode c_T_start 2 = .ok (.putfield 89, 3) := by decide +kernel
theorem d_T_start_5 : decode c_T_start 5 = .ok (.aload_n 0, 1) := by decide +kernel
theorem d_T_start_6 : decode c_T_start 6 = .ok (.iload_n 1, 1) := by decide +kernel
theorem d_T_start_7 : decode c_T_start 7 = .ok (.invokevirtual 104, 3) := by decide +kernel
theorem d_T_start_10 : decode c_T_start 10 = .ok (.ifCond .eq 21, 3) := by decide +kernel
theorem d_T_start_13 : decode c_T_start 13 = .ok (.aload_n 0, 1) := by decide +kernel
theorem d_T_start_14 : decode c_T_start 14 = .ok (.getfield 31, 3) := by decide +kernel
theorem d_T_start_17 : decode c_T_start 17 = .ok (.iload_n 1, 1) := by decide +kernel
theorem d_T_start_18 : decode c_T_start 18 = .ok (.iaload, 1) := by decide +kernel
theorem d_T_start_19 : decode c_T_start 19 = .ok (.ifCond .ne 12, 3) := by decide +kernel
theorem d_T_start_22 : decode c_T_start 22 = .ok (.aload_n 0, 1) := by decide +kernel
theorem d_T_start_23 : decode c_T_start 23 = .ok (.getfield 16, 3) := by decide +kernel
theorem d_T_start_26 : decode c_T_start 26 = .ok (.iload_n 1, 1) := by decide +kernel
theorem d_T_start_27 : decode c_T_start 27 = .ok (.iaload, 1) := by decide +kernel
theorem d_T_start_28 : decode c_T_start 28 = .ok (.ifCond .ne 5, 3) := by decide +kernel
theorem d_T_start_31 : decode c_T_start 31 = .ok (.iconst 0, 1) := by decide +kernel
theorem d_T_start_32 : decode c_T_start 32 = .ok (.ireturn, 1) := by decide +kernel
theorem d_T_start_33 : decode c_T_start 33 = .ok (.aload_n 0, 1) := by decide +kernel
theorem d_T_start_34 : decode c_T_start 34 = .ok (.iload_n 1, 1) := by decide +kernel
theorem d_T_start_35 : decode c_T_start 35 = .ok (.iconst 0, 1) := by decide +kernel
theorem d_T_start_36 : decode c_T_start 36 = .ok (.invokevirtual 111, 3) := by decide +kernel
theorem d_T_start_39 : decode c_T_start 39 = .ok (.iconst 1, 1) := by decide +kernel
theorem d_T_start_40 : decode c_T_start 40 = .ok (.ireturn, 1) := by decide +kernel
theorem d_T_report_0 : decode c_T_report 0 = .ok (.aload_n 0, 1) := by decide +kernel
theorem d_T_report_1 : decode c_T_report 1 = .ok (.iconst 0, 1) := by decide +kernel
theorem d_T_report_2 : decode c_T_report 2 = .ok (.putfield 89, 3) := by decide +kernel
theorem d_T_report_5 : decode c_T_report 5 = .ok (.aload_n 0, 1) := by decide +kernel
theorem d_T_report_6 : decode c_T_report 6 = .ok (.iload_n 1, 1) := by decide +kernel
theorem d_T_report_7 : decode c_T_report 7 = .ok (.invokevirtual 104, 3) := by decide +kernel
theorem d_T_report_10 : decode c_T_report 10 = .ok (.ifCond .eq 35, 3) := by decide +kernel
theorem d_T_report_13 : decode c_T_report 13 = .ok (.iload_n 2, 1) := by decide +kernel
theorem d_T_report_14 : decode c_T_report 14 = .ok (.iconst 0, 1) := by decide +kernel
theorem d_T_report_15 : decode c_T_report 15 = .ok (.sipush 10000, 3) := by decide +kernel
theorem d_T_report_18 : decode c_T_report 18 = .ok (.invokestatic 99, 3) := by decide +kernel
theorem d_T_report_21 : decode c_T_report 21 = .ok (.ifCond .eq 24, 3) := by decide +kernel
theorem d_T_report_24 : decode c_T_report 24 = .ok (.iload_n 3, 1) := by decide +kernel
theorem d_T_report_25 : decode c_T_report 25 = .ok (.iconst 0, 1) := by decide +kernel
theorem d_T_report_26 : decode c_T_report 26 = .ok (.sipush 10000, 3) := by decide +kernel
theorem d_T_report_29 : decode c_T_report 29 = .ok (.invokestatic 99, 3) := by decide +kernel
theorem d_T_report_32 : decode c_T_report 32 = .ok (.ifCond .eq 13, 3) := by decide +kernel
theorem d_T_report_35 : decode c_T_report 35 = .ok (.aload_n 0, 1) := by decide +kernel
theorem d_T_report_36 : decode c_T_report 36 = .ok (.getfield 31, 3) := by decide +kernel
theorem d_T_report_39 : decode c_T_report 39 = .ok (.iload_n 1, 1) := by decide +kernel
theorem d_T_report_40 : decode c_T_report 40 = .ok (.iaload, 1) := by decide +kernel
theorem d_T_report_41 : decode c_T_report 41 = .ok (.iconst 1, 1) := by decide +kernel
theorem d_T_report_42 : decode c_T_report 42 = .ok (.if_icmp .eq 5, 3) := by decide +kernel
theorem d_T_report_45 : decode c_T_report 45 = .ok (.iconst 0, 1) := by decide +kernel
theorem d_T_report_46 : decode c_T_report 46 = .ok (.ireturn, 1) := by decide +kernel
theorem d_T_report_47 : decode c_T_report 47 = .ok (.aload_n 0, 1) := by decide +kernel
theorem d_T_report_48 : decode c_T_report 48 = .ok (.getfield 43, 3) := by decide +kernel
theorem d_T_report_51 : decode c_T_report 51 = .ok (.iload_n 1, 1) := by decide +kernel
theorem d_T_report_52 : decode c_T_report 52 = .ok (.dup2, 1) := by decide +kernel
theorem d_T_report_53 : decode c_T_report 53 = .ok (.iaload, 1) := by decide +kernel
theorem d_T_report_54 : decode c_T_report 54 = .ok (.iload_n 2, 1) := by decide +kernel
theorem d_T_report_55 : decode c_T_report 55 = .ok (.iload_n 3, 1) := by decide +kernel
theorem d_T_report_56 : decode c_T_report 56 = .ok (.iadd, 1) := by decide +kernel
theorem d_T_report_57 : decode c_T_report 57 = .ok (.iadd, 1) := by decide +kernel
theorem d_T_report_58 : decode c_T_report 58 = .ok (.iastore, 1) := by decide +kernel
theorem d_T_report_59 : decode c_T_report 59 = .ok (.aload_n 0, 1) := by decide +kernel
theorem d_T_report_60 : decode c_T_report 60 = .ok (.getfield 46, 3) := by decide +kernel
theorem d_T_report_63 : decode c_T_report 63 = .ok (.iload_n 1, 1) := by decide +kernel
theorem d_T_report_64 : decode c_T_report 64 = .ok (.dup2, 1) := by decide +kernel
theorem d_T_report_65 : decode c_T_report 65 = .ok (.iaload, 1) := by decide +kernel
theorem d_T_report_66 : decode c_T_report 66 = .ok (.iload_n 3, 1) := by decide +kernel
theorem d_T_report_67 : decode c_T_report 67 = .ok (.iadd, 1) := by decide +kernel
theorem d_T_report_68 : decode c_T_report 68 = .ok (.iastore, 1) := by decide +kernel
theorem d_T_report_69 : decode c_T_report 69 = .ok (.iconst 1, 1) := by decide +kernel
theorem d_T_report_70 : decode c_T_report 70 = .ok (.ireturn, 1) := by decide +kernel
theorem d_T_halt_0 : decode c_T_halt 0 = .ok (.aload_n 0, 1) := by decide +kernel
theorem d_T_halt_1 : decode c_T_halt 1 = .ok (.getfield 31, 3) := by decide +kernel
theorem d_T_halt_4 : decode c_T_halt 4 = .ok (.iload_n 1, 1) := by decide +kernel
theorem d_T_halt_5 : decode c_T_halt 5 = .ok (.iconst 2, 1) := by decide +kernel
theorem d_T_halt_6 : decode c_T_halt 6 = .ok (.iastore, 1) := by decide +kernel
theorem d_T_halt_7 : decode c_T_halt 7 = .ok (.aload_n 0, 1) := by decide +kernel
theorem d_T_halt_8 : decode c_T_halt 8 = .ok (.getfield 37, 3) := by decide +kernel
theorem d_T_halt_11 : decode c_T_halt 11 = .ok (.iload_n 1, 1) := by decide +kernel
theorem d_T_halt_12 : decode c_T_halt 12 = .ok (.iload_n 2, 1) := by decide +kernel
theorem d_T_halt_13 : decode c_T_halt 13 = .ok (.iastore, 1) := by decide +kernel
theorem d_T_halt_14 : decode c_T_halt 14 = .ok (.return_, 1) := by decide +kernel
theorem d_T_hold_0 : decode c_T_hold 0 = .ok (.aload_n 0, 1) := by decide +kernel
theorem d_T_hold_1 : decode c_T_hold 1 = .ok (.iconst 0, 1) := by decide +kernel
theorem d_T_hold_2 : decode c_T_hold 2 = .ok (.putfield 89, 3) := by decide +kernel
theorem d_T_hold_5 : decode c_T_hold 5 = .ok (.aload_n 0, 1) := by decide +kernel
theorem d_T_hold_6 : decode c_T_hold 6 = .ok (.iload_n 1, 1) := by decide +kernel
theorem d_T_hold_7 : decode c_T_hold 7 = .ok (.invokevirtual 104, 3) := by decide +kernel
theorem d_T_hold_10 : decode c_T_hold 10 = .ok (.ifCond .eq 21, 3) := by decide +kernel
theorem d_T_hold_13 : decode c_T_hold 13 = .ok (.aload_n 0, 1) := by decide +kernel
theorem d_T_hold_14 : decode c_T_hold 14 = .ok (.getfield 31, 3) := by decide +kernel
theorem d_T_hold_17 : decode c_T_hold 17 = .ok (.iload_n 1, 1) := by decide +kernel
theorem d_T_hold_18 : decode c_T_hold 18 = .ok (.iaload, 1) := by decide +kernel
theorem d_T_hold_19 : decode c_T_hold 19 = .ok (.iload_n 2, 1) := by decide +kernel
theorem d_T_hold_20 : decode c_T_hold 20 = .ok (.ifCond .eq 7, 3) := by decide +kernel
theorem d_T_hold_23 : decode c_T_hold 23 = .ok (.iconst 1, 1) := by decide +kernel
theorem d_T_hold_24 : decode c_T_hold 24 = .ok (.goto 4, 3) := by decide +kernel
theorem d_T_hold_27 : decode c_T_hold 27 = .ok (.iconst 2, 1) := by decide +kernel
theorem d_T_hold_28 : decode c_T_hold 28 = .ok (.if_icmp .eq 5, 3) := by decide +kernel
theorem d_T_hold_31 : decode c_T_hold 31 = .ok (.iconst 0, 1) := by decide +kernel
theorem d_T_hold_32 : decode c_T_hold 32 = .ok (.ireturn, 1) := by decide +kernel
theorem d_T_hold_33 : decode c_T_hold 33 = .ok (.iload_n 2, 1) := by decide +kernel
theorem d_T_hold_34 : decode c_T_hold 34 = .ok (.ifCond .eq 12, 3) := by decide +kernel
theorem d_T_hold_37 : decode c_T_hold 37 = .ok (.aload_n 0, 1) := by decide +kernel
theorem d_T_hold_38 : decode c_T_hold 38 = .ok (.iload_n 1, 1) := by decide +kernel
theorem d_T_hold_39 : decode c_T_hold 39 = .ok (.iconst 3, 1) := by decide +kernel
theorem d_T_hold_40 : decode c_T_hold 40 = .ok (.invokevirtual 115, 3) := by decide +kernel
theorem d_T_hold_43 : decode c_T_hold 43 = .ok (.goto 14, 3) := by decide +kernel
theorem d_T_hold_46 : decode c_T_hold 46 = .ok (.aload_n 0, 1) := by decide +kernel
theorem d_T_hold_47 : decode c_T_hold 47 = .ok (.iload_n 1, 1) := by decide +kernel
theorem d_T_hold_48 : decode c_T_hold 48 = .ok (.aload_n 0, 1) := by decide +kernel
theorem d_T_hold_49 : decode c_T_hold 49 = .ok (.getfield 34, 3) := by decide +kernel
theorem d_T_hold_52 : decode c_T_hold 52 = .ok (.iload_n 1, 1) := by decide +kernel
theorem d_T_hold_53 : decode c_T_hold 53 = .ok (.iaload, 1) := by decide +kernel
theorem d_T_hold_54 : decode c_T_hold 54 = .ok (.invokevirtual 111, 3) := by decide +kernel
theorem d_T_hold_57 : decode c_T_hold 57 = .ok (.iconst 1, 1) := by decide +kernel
theorem d_T_hold_58 : decode c_T_hold 58 = .ok (.ireturn, 1) := by decide +kernel
theorem d_T_revoke_0 : decode c_T_revoke 0 = .ok (.aload_n 0, 1) := by decide +kernel
theorem d_T_revoke_1 : decode c_T_revoke 1 = .ok (.iconst 0, 1) := by decide +kernel
theorem d_T_revoke_2 : decode c_T_revoke 2 = .ok (.putfield 89, 3) := by decide +kernel
theorem d_T_revoke_5 : decode c_T_revoke 5 = .ok (.aload_n 0, 1) := by decide +kernel
theorem d_T_revoke_6 : decode c_T_revoke 6 = .ok (.iload_n 1, 1) := by decide +kernel
theorem d_T_revoke_7 : decode c_T_revoke 7 = .ok (.invokevirtual 104, 3) := by decide +kernel
theorem d_T_revoke_10 : decode c_T_revoke 10 = .ok (.ifCond .eq 13, 3) := by decide +kernel
theorem d_T_revoke_13 : decode c_T_revoke 13 = .ok (.aload_n 0, 1) := by decide +kernel
theorem d_T_revoke_14 : decode c_T_revoke 14 = .ok (.getfield 31, 3) := by decide +kernel
theorem d_T_revoke_17 : decode c_T_revoke 17 = .ok (.iload_n 1, 1) := by decide +kernel
theorem d_T_revoke_18 : decode c_T_revoke 18 = .ok (.iaload, 1) := by decide +kernel
theorem d_T_revoke_19 : decode c_T_revoke 19 = .ok (.iconst 4, 1) := by decide +kernel
theorem d_T_revoke_20 : decode c_T_revoke 20 = .ok (.if_icmp .ne 5, 3) := by decide +kernel
theorem d_T_revoke_23 : decode c_T_revoke 23 = .ok (.iconst 0, 1) := by decide +kernel
theorem d_T_revoke_24 : decode c_T_revoke 24 = .ok (.ireturn, 1) := by decide +kernel
theorem d_T_revoke_25 : decode c_T_revoke 25 = .ok (.aload_n 0, 1) := by decide +kernel
theorem d_T_revoke_26 : decode c_T_revoke 26 = .ok (.getfield 31, 3) := by decide +kernel
theorem d_T_revoke_29 : decode c_T_revoke 29 = .ok (.iload_n 1, 1) := by decide +kernel
theorem d_T_revoke_30 : decode c_T_revoke 30 = .ok (.iconst 4, 1) := by decide +kernel
theorem d_T_revoke_31 : decode c_T_revoke 31 = .ok (.iastore, 1) := by decide +kernel
theorem d_T_revoke_32 : decode c_T_revoke 32 = .ok (.aload_n 0, 1) := by decide +kernel
theorem d_T_revoke_33 : decode c_T_revoke 33 = .ok (.getfield 37, 3) := by decide +kernel
theorem d_T_revoke_36 : decode c_T_revoke 36 = .ok (.iload_n 1, 1) := by decide +kernel
theorem d_T_revoke_37 : decode c_T_revoke 37 = .ok (.iconst 0, 1) := by decide +kernel
theorem d_T_revoke_38 : decode c_T_revoke 38 = .ok (.iastore, 1) := by decide +kernel
theorem d_T_revoke_39 : decode c_T_revoke 39 = .ok (.iconst 1, 1) := by decide +kernel
theorem d_T_revoke_40 : decode c_T_revoke 40 = .ok (.ireturn, 1) := by decide +kernel
theorem d_T_pass_0 : decode c_T_pass 0 = .ok (.aload_n 0, 1) := by decide +kernel
theorem d_T_pass_1 : decode c_T_pass 1 = .ok (.getfield 31, 3) := by decide +kernel
theorem d_T_pass_4 : decode c_T_pass 4 = .ok (.iload_n 1, 1) := by decide +kernel
theorem d_T_pass_5 : decode c_T_pass 5 = .ok (.iaload, 1) := by decide +kernel
theorem d_T_pass_6 : decode c_T_pass 6 = .ok (.iconst 1, 1) := by decide +kernel
theorem d_T_pass_7 : decode c_T_pass 7 = .ok (.if_icmp .ne 32, 3) := by decide +kernel
theorem d_T_pass_10 : decode c_T_pass 10 = .ok (.aload_n 0, 1) := by decide +kernel
theorem d_T_pass_11 : decode c_T_pass 11 = .ok (.getfield 108, 3) := by decide +kernel
theorem d_T_pass_14 : decode c_T_pass 14 = .ok (.aload_n 0, 1) := by decide +kernel
theorem d_T_pass_15 : decode c_T_pass 15 = .ok (.getfield 40, 3) := by decide +kernel
theorem d_T_pass_18 : decode c_T_pass 18 = .ok (.iload_n 1, 1) := by decide +kernel
theorem d_T_pass_19 : decode c_T_pass 19 = .ok (.iaload, 1) := by decide +kernel
theorem d_T_pass_20 : decode c_T_pass 20 = .ok (.isub, 1) := by decide +kernel
theorem d_T_pass_21 : decode c_T_pass 21 = .ok (.aload_n 0, 1) := by decide +kernel
theorem d_T_pass_22 : decode c_T_pass 22 = .ok (.getfield 22, 3) := by decide +kernel
theorem d_T_pass_25 : decode c_T_pass 25 = .ok (.iconst 5, 1) := by decide +kernel
theorem d_T_pass_26 : decode c_T_pass 26 = .ok (.iload_n 1, 1) := by decide +kernel
theorem d_T_pass_27 : decode c_T_pass 27 = .ok (.imul, 1) := by decide +kernel
theorem d_T_pass_28 : decode c_T_pass 28 = .ok (.aload_n 0, 1) := by decide +kernel
theorem d_T_pass_29 : decode c_T_pass 29 = .ok (.getfield 34, 3) := by decide +kernel
theorem d_T_pass_32 : decode c_T_pass 32 = .ok (.iload_n 1, 1) := by decide +kernel
theorem d_T_pass_33 : decode c_T_pass 33 = .ok (.iaload, 1) := by decide +kernel
theorem d_T_pass_34 : decode c_T_pass 34 = .ok (.iadd, 1) := by decide +kernel
theorem d_T_pass_35 : decode c_T_pass 35 = .ok (.iaload, 1) := by decide +kernel
theorem d_T_pass_36 : decode c_T_pass 36 = .ok (.if_icmp .ge 4, 3) := by decide +kernel
theorem d_T_pass_39 : decode c_T_pass 39 = .ok (.return_, 1) := by decide +kernel
theorem d_T_pass_40 : decode c_T_pass 40 = .ok (.aload_n 0, 1) := by decide +kernel
theorem d_T_pass_41 : decode c_T_pass 41 = .ok (.getfield 43, 3) := by decide +kernel
theorem d_T_pass_44 : decode c_T_pass 44 = .ok (.iload_n 1, 1) := by decide +kernel
theorem d_T_pass_45 : decode c_T_pass 45 = .ok (.iaload, 1) := by decide +kernel
theorem d_T_pass_46 : decode c_T_pass 46 = .ok (.ifCond .ne 12, 3) := by decide +kernel
theorem d_T_pass_49 : decode c_T_pass 49 = .ok (.aload_n 0, 1) := by decide +kernel
theorem d_T_pass_50 : decode c_T_pass 50 = .ok (.iload_n 1, 1) := by decide +kernel
theorem d_T_pass_51 : decode c_T_pass 51 = .ok (.iconst 1, 1) := by decide +kernel
theorem d_T_pass_52 : decode c_T_pass 52 = .ok (.invokevirtual 115, 3) := by decide +kernel
theorem d_T_pass_55 : decode c_T_pass 55 = .ok (.goto 86, 3) := by decide +kernel
theorem d_T_pass_58 : decode c_T_pass 58 = .ok (.aload_n 0, 1) := by decide +kernel
theorem d_T_pass_59 : decode c_T_pass 59 = .ok (.getfield 46, 3) := by decide +kernel
theorem d_T_pass_62 : decode c_T_pass 62 = .ok (.iload_n 1, 1) := by decide +kernel
theorem d_T_pass_63 : decode c_T_pass 63 = .ok (.iaload, 1) := by decide +kernel
theorem d_T_pass_64 : decode c_T_pass 64 = .ok (.i2l, 1) := by decide +kernel
theorem d_T_pass_65 : decode c_T_pass 65 = .ok (.aload_n 0, 1) := by decide +kernel
theorem d_T_pass_66 : decode c_T_pass 66 = .ok (.getfield 28, 3) := by decide +kernel
theorem d_T_pass_69 : decode c_T_pass 69 = .ok (.iload_n 1, 1) := by decide +kernel
theorem d_T_pass_70 : decode c_T_pass 70 = .ok (.iaload, 1) := by decide +kernel
theorem d_T_pass_71 : decode c_T_pass 71 = .ok (.i2l, 1) := by decide +kernel
theorem d_T_pass_72 : decode c_T_pass 72 = .ok (.lmul, 1) := by decide +kernel
theorem d_T_pass_73 : decode c_T_pass 73 = .ok (.aload_n 0, 1) := by decide +kernel
theorem d_T_pass_74 : decode c_T_pass 74 = .ok (.getfield 25, 3) := by decide +kernel
theorem d_T_pass_77 : decode c_T_pass 77 = .ok (.iload_n 1, 1) := by decide +kernel
theorem d_T_pass_78 : decode c_T_pass 78 = .ok (.iaload, 1) := by decide +kernel
theorem d_T_pass_79 : decode c_T_pass 79 = .ok (.i2l, 1) := by decide +kernel
theorem d_T_pass_80 : decode c_T_pass 80 = .ok (.aload_n 0, 1) := by decide +kernel
theorem d_T_pass_81 : decode c_T_pass 81 = .ok (.getfield 43, 3) := by decide +kernel
theorem d_T_pass_84 : decode c_T_pass 84 = .ok (.iload_n 1, 1) := by decide +kernel
theorem d_T_pass_85 : decode c_T_pass 85 = .ok (.iaload, 1) := by decide +kernel
theorem d_T_pass_86 : decode c_T_pass 86 = .ok (.i2l, 1) := by decide +kernel
theorem d_T_pass_87 : decode c_T_pass 87 = .ok (.lmul, 1) := by decide +kernel
theorem d_T_pass_88 : decode c_T_pass 88 = .ok (.lcmp, 1) := by decide +kernel
theorem d_T_pass_89 : decode c_T_pass 89 = .ok (.ifCond .le 12, 3) := by decide +kernel
theorem d_T_pass_92 : decode c_T_pass 92 = .ok (.aload_n 0, 1) := by decide +kernel
theorem d_T_pass_93 : decode c_T_pass 93 = .ok (.iload_n 1, 1) := by decide +kernel
theorem d_T_pass_94 : decode c_T_pass 94 = .ok (.iconst 2, 1) := by decide +kernel
theorem d_T_pass_95 : decode c_T_pass 95 = .ok (.invokevirtual 115, 3) := by decide +kernel
theorem d_T_pass_98 : decode c_T_pass 98 = .ok (.goto 43, 3) := by decide +kernel
theorem d_T_pass_101 : decode c_T_pass 101 = .ok (.aload_n 0, 1) := by decide +kernel
theorem d_T_pass_102 : decode c_T_pass 102 = .ok (.getfield 34, 3) := by decide +kernel
theorem d_T_pass_105 : decode c_T_pass 105 = .ok (.iload_n 1, 1) := by decide +kernel
theorem d_T_pass_106 : decode c_T_pass 106 = .ok (.iaload, 1) := by decide +kernel
theorem d_T_pass_107 : decode c_T_pass 107 = .ok (.iconst 1, 1) := by decide +kernel
theorem d_T_pass_108 : decode c_T_pass 108 = .ok (.iadd, 1) := by decide +kernel
theorem d_T_pass_109 : decode c_T_pass 109 = .ok (.aload_n 0, 1) := by decide +kernel
theorem d_T_pass_110 : decode c_T_pass 110 = .ok (.getfield 16, 3) := by decide +kernel
theorem d_T_pass_113 : decode c_T_pass 113 = .ok (.iload_n 1, 1) := by decide +kernel
theorem d_T_pass_114 : decode c_T_pass 114 = .ok (.iaload, 1) := by decide +kernel
theorem d_T_pass_115 : decode c_T_pass 115 = .ok (.if_icmp .ge 19, 3) := by decide +kernel
theorem d_T_pass_118 : decode c_T_pass 118 = .ok (.aload_n 0, 1) := by decide +kernel
theorem d_T_pass_119 : decode c_T_pass 119 = .ok (.iload_n 1, 1) := by decide +kernel
theorem d_T_pass_120 : decode c_T_pass 120 = .ok (.aload_n 0, 1) := by decide +kernel
theorem d_T_pass_121 : decode c_T_pass 121 = .ok (.getfield 34, 3) := by decide +kernel
theorem d_T_pass_124 : decode c_T_pass 124 = .ok (.iload_n 1, 1) := by decide +kernel
theorem d_T_pass_125 : decode c_T_pass 125 = .ok (.iaload, 1) := by decide +kernel
theorem d_T_pass_126 : decode c_T_pass 126 = .ok (.iconst 1, 1) := by decide +kernel
theorem d_T_pass_127 : decode c_T_pass 127 = .ok (.iadd, 1) := by decide +kernel
theorem d_T_pass_128 : decode c_T_pass 128 = .ok (.invokevirtual 111, 3) := by decide +kernel
theorem d_T_pass_131 : decode c_T_pass 131 = .ok (.goto 10, 3) := by decide +kernel
theorem d_T_pass_134 : decode c_T_pass 134 = .ok (.aload_n 0, 1) := by decide +kernel
theorem d_T_pass_135 : decode c_T_pass 135 = .ok (.getfield 31, 3) := by decide +kernel
theorem d_T_pass_138 : decode c_T_pass 138 = .ok (.iload_n 1, 1) := by decide +kernel
theorem d_T_pass_139 : decode c_T_pass 139 = .ok (.iconst 3, 1) := by decide +kernel
theorem d_T_pass_140 : decode c_T_pass 140 = .ok (.iastore, 1) := by decide +kernel
theorem d_T_pass_141 : decode c_T_pass 141 = .ok (.return_, 1) := by decide +kernel
theorem d_T_tick_0 : decode c_T_tick 0 = .ok (.aload_n 0, 1) := by decide +kernel
theorem d_T_tick_1 : decode c_T_tick 1 = .ok (.iconst 0, 1) := by decide +kernel
theorem d_T_tick_2 : decode c_T_tick 2 = .ok (.putfield 89, 3) := by decide +kernel
theorem d_T_tick_5 : decode c_T_tick 5 = .ok (.iload_n 1, 1) := by decide +kernel
theorem d_T_tick_6 : decode c_T_tick 6 = .ok (.iconst 0, 1) := by decide +kernel
theorem d_T_tick_7 : decode c_T_tick 7 = .ok (.sipush 2000, 3) := by decide +kernel
theorem d_T_tick_10 : decode c_T_tick 10 = .ok (.invokestatic 99, 3) := by decide +kernel
theorem d_T_tick_13 : decode c_T_tick 13 = .ok (.ifCond .ne 5, 3) := by decide +kernel
theorem d_T_tick_16 : decode c_T_tick 16 = .ok (.iconst (-1), 1) := by decide +kernel
theorem d_T_tick_17 : decode c_T_tick 17 = .ok (.ireturn, 1) := by decide +kernel
theorem d_T_tick_18 : decode c_T_tick 18 = .ok (.iconst 0, 1) := by decide +kernel
theorem d_T_tick_19 : decode c_T_tick 19 = .ok (.istore_n 2, 1) := by decide +kernel
theorem d_T_tick_20 : decode c_T_tick 20 = .ok (.iload_n 2, 1) := by decide +kernel
theorem d_T_tick_21 : decode c_T_tick 21 = .ok (.iload_n 1, 1) := by decide +kernel
theorem d_T_tick_22 : decode c_T_tick 22 = .ok (.if_icmp .ge 40, 3) := by decide +kernel
theorem d_T_tick_25 : decode c_T_tick 25 = .ok (.aload_n 0, 1) := by decide +kernel
end
section
theorem d_T_tick_26 : decode c_T_tick 26 = .ok (.dup, 1) := by decide +kernel
theorem d_T_tick_27 : decode c_T_tick 27 = .ok (.getfield 108, 3) := by decide +kernel
theorem d_T_tick_30 : decode c_T_tick 30 = .ok (.iconst 1, 1) := by decide +kernel
theorem d_T_tick_31 : decode c_T_tick 31 = .ok (.iadd, 1) := by decide +kernel
theorem d_T_tick_32 : decode c_T_tick 32 = .ok (.putfield 108, 3) := by decide +kernel
theorem d_T_tick_35 : decode c_T_tick 35 = .ok (.iconst 0, 1) := by decide +kernel
theorem d_T_tick_36 : decode c_T_tick 36 = .ok (.istore_n 3, 1) := by decide +kernel
theorem d_T_tick_37 : decode c_T_tick 37 = .ok (.iload_n 3, 1) := by decide +kernel
theorem d_T_tick_38 : decode c_T_tick 38 = .ok (.aload_n 0, 1) := by decide +kernel
theorem d_T_tick_39 : decode c_T_tick 39 = .ok (.getfield 93, 3) := by decide +kernel
theorem d_T_tick_42 : decode c_T_tick 42 = .ok (.if_icmp .ge 14, 3) := by decide +kernel
theorem d_T_tick_45 : decode c_T_tick 45 = .ok (.aload_n 0, 1) := by decide +kernel
theorem d_T_tick_46 : decode c_T_tick 46 = .ok (.iload_n 3, 1) := by decide +kernel
theorem d_T_tick_47 : decode c_T_tick 47 = .ok (.invokevirtual 118, 3) := by decide +kernel
theorem d_T_tick_50 : decode c_T_tick 50 = .ok (.iinc 3 1, 3) := by decide +kernel
theorem d_T_tick_53 : decode c_T_tick 53 = .ok (.goto (-16), 3) := by decide +kernel
theorem d_T_tick_56 : decode c_T_tick 56 = .ok (.iinc 2 1, 3) := by decide +kernel
theorem d_T_tick_59 : decode c_T_tick 59 = .ok (.goto (-39), 3) := by decide +kernel
theorem d_T_tick_62 : decode c_T_tick 62 = .ok (.aload_n 0, 1) := by decide +kernel
theorem d_T_tick_63 : decode c_T_tick 63 = .ok (.getfield 108, 3) := by decide +kernel
theorem d_T_tick_66 : decode c_T_tick 66 = .ok (.ireturn, 1) := by decide +kernel
theorem d_T_shareOf_0 : decode c_T_shareOf 0 = .ok (.aload_n 0, 1) := by decide +kernel
theorem d_T_shareOf_1 : decode c_T_shareOf 1 = .ok (.getfield 31, 3) := by decide +kernel
theorem d_T_shareOf_4 : decode c_T_shareOf 4 = .ok (.iload_n 1, 1) := by decide +kernel
theorem d_T_shareOf_5 : decode c_T_shareOf 5 = .ok (.iaload, 1) := by decide +kernel
theorem d_T_shareOf_6 : decode c_T_shareOf 6 = .ok (.ifCond .eq 13, 3) := by decide +kernel
theorem d_T_shareOf_9 : decode c_T_shareOf 9 = .ok (.aload_n 0, 1) := by decide +kernel
theorem d_T_shareOf_10 : decode c_T_shareOf 10 = .ok (.getfield 31, 3) := by decide +kernel
theorem d_T_shareOf_13 : decode c_T_shareOf 13 = .ok (.iload_n 1, 1) := by decide +kernel
theorem d_T_shareOf_14 : decode c_T_shareOf 14 = .ok (.iaload, 1) := by decide +kernel
theorem d_T_shareOf_15 : decode c_T_shareOf 15 = .ok (.iconst 4, 1) := by decide +kernel
theorem d_T_shareOf_16 : decode c_T_shareOf 16 = .ok (.if_icmp .ne 7, 3) := by decide +kernel
theorem d_T_shareOf_19 : decode c_T_shareOf 19 = .ok (.iconst 0, 1) := by decide +kernel
theorem d_T_shareOf_20 : decode c_T_shareOf 20 = .ok (.goto 34, 3) := by decide +kernel
theorem d_T_shareOf_23 : decode c_T_shareOf 23 = .ok (.aload_n 0, 1) := by decide +kernel
theorem d_T_shareOf_24 : decode c_T_shareOf 24 = .ok (.getfield 31, 3) := by decide +kernel
theorem d_T_shareOf_27 : decode c_T_shareOf 27 = .ok (.iload_n 1, 1) := by decide +kernel
theorem d_T_shareOf_28 : decode c_T_shareOf 28 = .ok (.iaload, 1) := by decide +kernel
theorem d_T_shareOf_29 : decode c_T_shareOf 29 = .ok (.iconst 3, 1) := by decide +kernel
theorem d_T_shareOf_30 : decode c_T_shareOf 30 = .ok (.if_icmp .ne 9, 3) := by decide +kernel
theorem d_T_shareOf_33 : decode c_T_shareOf 33 = .ok (.sipush 1000, 3) := by decide +kernel
theorem d_T_shareOf_36 : decode c_T_shareOf 36 = .ok (.goto 18, 3) := by decide +kernel
theorem d_T_shareOf_39 : decode c_T_shareOf 39 = .ok (.aload_n 0, 1) := by decide +kernel
theorem d_T_shareOf_40 : decode c_T_shareOf 40 = .ok (.getfield 19, 3) := by decide +kernel
theorem d_T_shareOf_43 : decode c_T_shareOf 43 = .ok (.iconst 5, 1) := by decide +kernel
theorem d_T_shareOf_44 : decode c_T_shareOf 44 = .ok (.iload_n 1, 1) := by decide +kernel
theorem d_T_shareOf_45 : decode c_T_shareOf 45 = .ok (.imul, 1) := by decide +kernel
theorem d_T_shareOf_46 : decode c_T_shareOf 46 = .ok (.aload_n 0, 1) := by decide +kernel
theorem d_T_shareOf_47 : decode c_T_shareOf 47 = .ok (.getfield 34, 3) := by decide +kernel
theorem d_T_shareOf_50 : decode c_T_shareOf 50 = .ok (.iload_n 1, 1) := by decide +kernel
theorem d_T_shareOf_51 : decode c_T_shareOf 51 = .ok (.iaload, 1) := by decide +kernel
theorem d_T_shareOf_52 : decode c_T_shareOf 52 = .ok (.iadd, 1) := by decide +kernel
theorem d_T_shareOf_53 : decode c_T_shareOf 53 = .ok (.iaload, 1) := by decide +kernel
theorem d_T_shareOf_54 : decode c_T_shareOf 54 = .ok (.ireturn, 1) := by decide +kernel
theorem d_T_about_0 : decode c_T_about 0 = .ok (.aload_n 0, 1) := by decide +kernel
theorem d_T_about_1 : decode c_T_about 1 = .ok (.iconst 0, 1) := by decide +kernel
theorem d_T_about_2 : decode c_T_about 2 = .ok (.putfield 89, 3) := by decide +kernel
theorem d_T_about_5 : decode c_T_about 5 = .ok (.aload_n 0, 1) := by decide +kernel
theorem d_T_about_6 : decode c_T_about 6 = .ok (.iload_n 1, 1) := by decide +kernel
theorem d_T_about_7 : decode c_T_about 7 = .ok (.invokevirtual 104, 3) := by decide +kernel
theorem d_T_about_10 : decode c_T_about 10 = .ok (.ifCond .ne 5, 3) := by decide +kernel
theorem d_T_about_13 : decode c_T_about 13 = .ok (.iconst (-1), 1) := by decide +kernel
theorem d_T_about_14 : decode c_T_about 14 = .ok (.ireturn, 1) := by decide +kernel
theorem d_T_about_15 : decode c_T_about 15 = .ok (.iload_n 2, 1) := by decide +kernel
theorem d_T_about_16 : decode c_T_about 16 = .ok (.tableswitch 94 0 4 #[36, 43, 74, 81, 87], 36) := by decide +kernel
theorem d_T_about_52 : decode c_T_about 52 = .ok (.aload_n 0, 1) := by decide +kernel
theorem d_T_about_53 : decode c_T_about 53 = .ok (.getfield 31, 3) := by decide +kernel
theorem d_T_about_56 : decode c_T_about 56 = .ok (.iload_n 1, 1) := by decide +kernel
theorem d_T_about_57 : decode c_T_about 57 = .ok (.iaload, 1) := by decide +kernel
theorem d_T_about_58 : decode c_T_about 58 = .ok (.ireturn, 1) := by decide +kernel
theorem d_T_about_59 : decode c_T_about 59 = .ok (.aload_n 0, 1) := by decide +kernel
theorem d_T_about_60 : decode c_T_about 60 = .ok (.getfield 31, 3) := by decide +kernel
theorem d_T_about_63 : decode c_T_about 63 = .ok (.iload_n 1, 1) := by decide +kernel
theorem d_T_about_64 : decode c_T_about 64 = .ok (.iaload, 1) := by decide +kernel
theorem d_T_about_65 : decode c_T_about 65 = .ok (.iconst 1, 1) := by decide +kernel
theorem d_T_about_66 : decode c_T_about 66 = .ok (.if_icmp .eq 13, 3) := by decide +kernel
theorem d_T_about_69 : decode c_T_about 69 = .ok (.aload_n 0, 1) := by decide +kernel
theorem d_T_about_70 : decode c_T_about 70 = .ok (.getfield 31, 3) := by decide +kernel
theorem d_T_about_73 : decode c_T_about 73 = .ok (.iload_n 1, 1) := by decide +kernel
theorem d_T_about_74 : decode c_T_about 74 = .ok (.iaload, 1) := by decide +kernel
theorem d_T_about_75 : decode c_T_about 75 = .ok (.iconst 2, 1) := by decide +kernel
theorem d_T_about_76 : decode c_T_about 76 = .ok (.if_icmp .ne 12, 3) := by decide +kernel
theorem d_T_about_79 : decode c_T_about 79 = .ok (.aload_n 0, 1) := by decide +kernel
theorem d_T_about_80 : decode c_T_about 80 = .ok (.getfield 34, 3) := by decide +kernel
theorem d_T_about_83 : decode c_T_about 83 = .ok (.iload_n 1, 1) := by decide +kernel
theorem d_T_about_84 : decode c_T_about 84 = .ok (.iaload, 1) := by decide +kernel
theorem d_T_about_85 : decode c_T_about 85 = .ok (.goto 4, 3) := by decide +kernel
theorem d_T_about_88 : decode c_T_about 88 = .ok (.iconst (-1), 1) := by decide +kernel
theorem d_T_about_89 : decode c_T_about 89 = .ok (.ireturn, 1) := by decide +kernel
theorem d_T_about_90 : decode c_T_about 90 = .ok (.aload_n 0, 1) := by decide +kernel
theorem d_T_about_91 : decode c_T_about 91 = .ok (.getfield 37, 3) := by decide +kernel
theorem d_T_about_94 : decode c_T_about 94 = .ok (.iload_n 1, 1) := by decide +kernel
theorem d_T_about_95 : decode c_T_about 95 = .ok (.iaload, 1) := by decide +kernel
theorem d_T_about_96 : decode c_T_about 96 = .ok (.ireturn, 1) := by decide +kernel
theorem d_T_about_97 : decode c_T_about 97 = .ok (.aload_n 0, 1) := by decide +kernel
theorem d_T_about_98 : decode c_T_about 98 = .ok (.iload_n 1, 1) := by decide +kernel
theorem d_T_about_99 : decode c_T_about 99 = .ok (.invokevirtual 122, 3) := by decide +kernel
theorem d_T_about_102 : decode c_T_about 102 = .ok (.ireturn, 1) := by decide +kernel
theorem d_T_about_103 : decode c_T_about 103 = .ok (.aload_n 0, 1) := by decide +kernel
theorem d_T_about_104 : decode c_T_about 104 = .ok (.getfield 43, 3) := by decide +kernel
theorem d_T_about_107 : decode c_T_about 107 = .ok (.iload_n 1, 1) := by decide +kernel
theorem d_T_about_108 : decode c_T_about 108 = .ok (.iaload, 1) := by decide +kernel
theorem d_T_about_109 : decode c_T_about 109 = .ok (.ireturn, 1) := by decide +kernel
theorem d_T_about_110 : decode c_T_about 110 = .ok (.iconst (-1), 1) := by decide +kernel
theorem d_T_about_111 : decode c_T_about 111 = .ok (.ireturn, 1) := by decide +kernel
theorem d_T_back_0 : decode c_T_back 0 = .ok (.aload_n 0, 1) := by decide +kernel
theorem d_T_back_1 : decode c_T_back 1 = .ok (.iconst 0, 1) := by decide +kernel
theorem d_T_back_2 : decode c_T_back 2 = .ok (.putfield 89, 3) := by decide +kernel
theorem d_T_back_5 : decode c_T_back 5 = .ok (.iload_n 1, 1) := by decide +kernel
theorem d_T_back_6 : decode c_T_back 6 = .ok (.iconst 0, 1) := by decide +kernel
theorem d_T_back_7 : decode c_T_back 7 = .ok (.iconst 2, 1) := by decide +kernel
theorem d_T_back_8 : decode c_T_back 8 = .ok (.invokestatic 99, 3) := by decide +kernel
theorem d_T_back_11 : decode c_T_back 11 = .ok (.ifCond .eq 26, 3) := by decide +kernel
theorem d_T_back_14 : decode c_T_back 14 = .ok (.iload_n 2, 1) := by decide +kernel
theorem d_T_back_15 : decode c_T_back 15 = .ok (.iconst (-1), 1) := by decide +kernel
theorem d_T_back_16 : decode c_T_back 16 = .ok (.if_icmp .eq 23, 3) := by decide +kernel
theorem d_T_back_19 : decode c_T_back 19 = .ok (.aload_n 0, 1) := by decide +kernel
theorem d_T_back_20 : decode c_T_back 20 = .ok (.iload_n 2, 1) := by decide +kernel
theorem d_T_back_21 : decode c_T_back 21 = .ok (.invokevirtual 104, 3) := by decide +kernel
theorem d_T_back_24 : decode c_T_back 24 = .ok (.ifCond .eq 13, 3) := by decide +kernel
theorem d_T_back_27 : decode c_T_back 27 = .ok (.aload_n 0, 1) := by decide +kernel
theorem d_T_back_28 : decode c_T_back 28 = .ok (.getfield 7, 3) := by decide +kernel
theorem d_T_back_31 : decode c_T_back 31 = .ok (.iload_n 2, 1) := by decide +kernel
theorem d_T_back_32 : decode c_T_back 32 = .ok (.iaload, 1) := by decide +kernel
theorem d_T_back_33 : decode c_T_back 33 = .ok (.iload_n 1, 1) := by decide +kernel
theorem d_T_back_34 : decode c_T_back 34 = .ok (.if_icmp .eq 5, 3) := by decide +kernel
theorem d_T_back_37 : decode c_T_back 37 = .ok (.iconst 0, 1) := by decide +kernel
theorem d_T_back_38 : decode c_T_back 38 = .ok (.ireturn, 1) := by decide +kernel
theorem d_T_back_39 : decode c_T_back 39 = .ok (.aload_n 0, 1) := by decide +kernel
theorem d_T_back_40 : decode c_T_back 40 = .ok (.getfield 53, 3) := by decide +kernel
theorem d_T_back_43 : decode c_T_back 43 = .ok (.iload_n 1, 1) := by decide +kernel
theorem d_T_back_44 : decode c_T_back 44 = .ok (.iload_n 2, 1) := by decide +kernel
theorem d_T_back_45 : decode c_T_back 45 = .ok (.iastore, 1) := by decide +kernel
theorem d_T_back_46 : decode c_T_back 46 = .ok (.iconst 1, 1) := by decide +kernel
theorem d_T_back_47 : decode c_T_back 47 = .ok (.ireturn, 1) := by decide +kernel
theorem d_T_machine_0 : decode c_T_machine 0 = .ok (.aload_n 0, 1) := by decide +kernel
theorem d_T_machine_1 : decode c_T_machine 1 = .ok (.iconst 0, 1) := by decide +kernel
theorem d_T_machine_2 : decode c_T_machine 2 = .ok (.putfield 89, 3) := by decide +kernel
theorem d_T_machine_5 : decode c_T_machine 5 = .ok (.aload_n 0, 1) := by decide +kernel
theorem d_T_machine_6 : decode c_T_machine 6 = .ok (.getfield 96, 3) := by decide +kernel
theorem d_T_machine_9 : decode c_T_machine 9 = .ok (.bipush 30, 2) := by decide +kernel
theorem d_T_machine_11 : decode c_T_machine 11 = .ok (.if_icmp .eq 21, 3) := by decide +kernel
theorem d_T_machine_14 : decode c_T_machine 14 = .ok (.iload_n 1, 1) := by decide +kernel
theorem d_T_machine_15 : decode c_T_machine 15 = .ok (.iconst 0, 1) := by decide +kernel
theorem d_T_machine_16 : decode c_T_machine 16 = .ok (.iconst 2, 1) := by decide +kernel
theorem d_T_machine_17 : decode c_T_machine 17 = .ok (.invokestatic 99, 3) := by decide +kernel
theorem d_T_machine_20 : decode c_T_machine 20 = .ok (.ifCond .eq 12, 3) := by decide +kernel
theorem d_T_machine_23 : decode c_T_machine 23 = .ok (.iload_n 2, 1) := by decide +kernel
theorem d_T_machine_24 : decode c_T_machine 24 = .ok (.iconst 0, 1) := by decide +kernel
theorem d_T_machine_25 : decode c_T_machine 25 = .ok (.iconst 3, 1) := by decide +kernel
theorem d_T_machine_26 : decode c_T_machine 26 = .ok (.invokestatic 99, 3) := by decide +kernel
theorem d_T_machine_29 : decode c_T_machine 29 = .ok (.ifCond .ne 5, 3) := by decide +kernel
theorem d_T_machine_32 : decode c_T_machine 32 = .ok (.iconst (-1), 1) := by decide +kernel
theorem d_T_machine_33 : decode c_T_machine 33 = .ok (.ireturn, 1) := by decide +kernel
theorem d_T_machine_34 : decode c_T_machine 34 = .ok (.aload_n 0, 1) := by decide +kernel
theorem d_T_machine_35 : decode c_T_machine 35 = .ok (.getfield 56, 3) := by decide +kernel
theorem d_T_machine_38 : decode c_T_machine 38 = .ok (.aload_n 0, 1) := by decide +kernel
theorem d_T_machine_39 : decode c_T_machine 39 = .ok (.getfield 96, 3) := by decide +kernel
theorem d_T_machine_42 : decode c_T_machine 42 = .ok (.iload_n 1, 1) := by decide +kernel
theorem d_T_machine_43 : decode c_T_machine 43 = .ok (.iastore, 1) := by decide +kernel
theorem d_T_machine_44 : decode c_T_machine 44 = .ok (.aload_n 0, 1) := by decide +kernel
theorem d_T_machine_45 : decode c_T_machine 45 = .ok (.getfield 59, 3) := by decide +kernel
theorem d_T_machine_48 : decode c_T_machine 48 = .ok (.aload_n 0, 1) := by decide +kernel
theorem d_T_machine_49 : decode c_T_machine 49 = .ok (.getfield 96, 3) := by decide +kernel
theorem d_T_machine_52 : decode c_T_machine 52 = .ok (.iload_n 2, 1) := by decide +kernel
theorem d_T_machine_53 : decode c_T_machine 53 = .ok (.iastore, 1) := by decide +kernel
theorem d_T_machine_54 : decode c_T_machine 54 = .ok (.aload_n 0, 1) := by decide +kernel
theorem d_T_machine_55 : decode c_T_machine 55 = .ok (.getfield 62, 3) := by decide +kernel
theorem d_T_machine_58 : decode c_T_machine 58 = .ok (.aload_n 0, 1) := by decide +kernel
theorem d_T_machine_59 : decode c_T_machine 59 = .ok (.getfield 96, 3) := by decide +kernel
theorem d_T_machine_62 : decode c_T_machine 62 = .ok (.iconst (-1), 1) := by decide +kernel
theorem d_T_machine_63 : decode c_T_machine 63 = .ok (.iastore, 1) := by decide +kernel
theorem d_T_machine_64 : decode c_T_machine 64 = .ok (.aload_n 0, 1) := by decide +kernel
theorem d_T_machine_65 : decode c_T_machine 65 = .ok (.getfield 65, 3) := by decide +kernel
theorem d_T_machine_68 : decode c_T_machine 68 = .ok (.aload_n 0, 1) := by decide +kernel
theorem d_T_machine_69 : decode c_T_machine 69 = .ok (.getfield 96, 3) := by decide +kernel
theorem d_T_machine_72 : decode c_T_machine 72 = .ok (.iconst (-1), 1) := by decide +kernel
theorem d_T_machine_73 : decode c_T_machine 73 = .ok (.iastore, 1) := by decide +kernel
theorem d_T_machine_74 : decode c_T_machine 74 = .ok (.aload_n 0, 1) := by decide +kernel
theorem d_T_machine_75 : decode c_T_machine 75 = .ok (.dup, 1) := by decide +kernel
theorem d_T_machine_76 : decode c_T_machine 76 = .ok (.getfield 96, 3) := by decide +kernel
theorem d_T_machine_79 : decode c_T_machine 79 = .ok (.iconst 1, 1) := by decide +kernel
theorem d_T_machine_80 : decode c_T_machine 80 = .ok (.iadd, 1) := by decide +kernel
theorem d_T_machine_81 : decode c_T_machine 81 = .ok (.putfield 96, 3) := by decide +kernel
theorem d_T_machine_84 : decode c_T_machine 84 = .ok (.aload_n 0, 1) := by decide +kernel
theorem d_T_machine_85 : decode c_T_machine 85 = .ok (.getfield 96, 3) := by decide +kernel
theorem d_T_machine_88 : decode c_T_machine 88 = .ok (.iconst 1, 1) := by decide +kernel
theorem d_T_machine_89 : decode c_T_machine 89 = .ok (.isub, 1) := by decide +kernel
theorem d_T_machine_90 : decode c_T_machine 90 = .ok (.ireturn, 1) := by decide +kernel
theorem d_T_rowOf_0 : decode c_T_rowOf 0 = .ok (.iload_n 0, 1) := by decide +kernel
theorem d_T_rowOf_1 : decode c_T_rowOf 1 = .ok (.iconst 1, 1) := by decide +kernel
theorem d_T_rowOf_2 : decode c_T_rowOf 2 = .ok (.iadd, 1) := by decide +kernel
theorem d_T_rowOf_3 : decode c_T_rowOf 3 = .ok (.i2l, 1) := by decide +kernel
theorem d_T_rowOf_4 : decode c_T_rowOf 4 = .ok (.ldc2_w 126, 3) := by decide +kernel
theorem d_T_rowOf_7 : decode c_T_rowOf 7 = .ok (.lmul, 1) := by decide +kernel
theorem d_T_rowOf_8 : decode c_T_rowOf 8 = .ok (.ldc2_w 128, 3) := by decide +kernel
theorem d_T_rowOf_11 : decode c_T_rowOf 11 = .ok (.land, 1) := by decide +kernel
theorem d_T_rowOf_12 : decode c_T_rowOf 12 = .ok (.ldc2_w 130, 3) := by decide +kernel
theorem d_T_rowOf_15 : decode c_T_rowOf 15 = .ok (.ldiv, 1) := by decide +kernel
theorem d_T_rowOf_16 : decode c_T_rowOf 16 = .ok (.ldc2_w 132, 3) := by decide +kernel
theorem d_T_rowOf_19 : decode c_T_rowOf 19 = .ok (.lrem, 1) := by decide +kernel
theorem d_T_rowOf_20 : decode c_T_rowOf 20 = .ok (.l2i, 1) := by decide +kernel
theorem d_T_rowOf_21 : decode c_T_rowOf 21 = .ok (.ireturn, 1) := by decide +kernel
theorem d_T_row_0 : decode c_T_row 0 = .ok (.aload_n 0, 1) := by decide +kernel
theorem d_T_row_1 : decode c_T_row 1 = .ok (.iconst 0, 1) := by decide +kernel
theorem d_T_row_2 : decode c_T_row 2 = .ok (.putfield 89, 3) := by decide +kernel
theorem d_T_row_5 : decode c_T_row 5 = .ok (.aload_n 0, 1) := by decide +kernel
theorem d_T_row_6 : decode c_T_row 6 = .ok (.iload_n 1, 1) := by decide +kernel
theorem d_T_row_7 : decode c_T_row 7 = .ok (.invokevirtual 134, 3) := by decide +kernel
theorem d_T_row_10 : decode c_T_row 10 = .ok (.ifCond .eq 10, 3) := by decide +kernel
theorem d_T_row_13 : decode c_T_row 13 = .ok (.iload_n 1, 1) := by decide +kernel
theorem d_T_row_14 : decode c_T_row 14 = .ok (.invokestatic 137, 3) := by decide +kernel
theorem d_T_row_17 : decode c_T_row 17 = .ok (.goto 4, 3) := by decide +kernel
theorem d_T_row_20 : decode c_T_row 20 = .ok (.iconst (-1), 1) := by decide +kernel
theorem d_T_row_21 : decode c_T_row 21 = .ok (.ireturn, 1) := by decide +kernel
theorem d_T_pin_0 : decode c_T_pin 0 = .ok (.aload_n 0, 1) := by decide +kernel
theorem d_T_pin_1 : decode c_T_pin 1 = .ok (.iconst 0, 1) := by decide +kernel
theorem d_T_pin_2 : decode c_T_pin 2 = .ok (.putfield 89, 3) := by decide +kernel
theorem d_T_pin_5 : decode c_T_pin 5 = .ok (.aload_n 0, 1) := by decide +kernel
theorem d_T_pin_6 : decode c_T_pin 6 = .ok (.iload_n 1, 1) := by decide +kernel
theorem d_T_pin_7 : decode c_T_pin 7 = .ok (.invokevirtual 134, 3) := by decide +kernel
theorem d_T_pin_10 : decode c_T_pin 10 = .ok (.ifCond .eq 16, 3) := by decide +kernel
theorem d_T_pin_13 : decode c_T_pin 13 = .ok (.iload_n 2, 1) := by decide +kernel
theorem d_T_pin_14 : decode c_T_pin 14 = .ok (.iconst (-1), 1) := by decide +kernel
theorem d_T_pin_15 : decode c_T_pin 15 = .ok (.if_icmp .eq 13, 3) := by decide +kernel
theorem d_T_pin_18 : decode c_T_pin 18 = .ok (.aload_n 0, 1) := by decide +kernel
theorem d_T_pin_19 : decode c_T_pin 19 = .ok (.iload_n 2, 1) := by decide +kernel
theorem d_T_pin_20 : decode c_T_pin 20 = .ok (.invokevirtual 104, 3) := by decide +kernel
theorem d_T_pin_23 : decode c_T_pin 23 = .ok (.ifCond .ne 5, 3) := by decide +kernel
theorem d_T_pin_26 : decode c_T_pin 26 = .ok (.iconst 0, 1) := by decide +kernel
theorem d_T_pin_27 : decode c_T_pin 27 = .ok (.ireturn, 1) := by decide +kernel
theorem d_T_pin_28 : decode c_T_pin 28 = .ok (.aload_n 0, 1) := by decide +kernel
theorem d_T_pin_29 : decode c_T_pin 29 = .ok (.getfield 65, 3) := by decide +kernel
theorem d_T_pin_32 : decode c_T_pin 32 = .ok (.iload_n 1, 1) := by decide +kernel
theorem d_T_pin_33 : decode c_T_pin 33 = .ok (.iload_n 2, 1) := by decide +kernel
theorem d_T_pin_34 : decode c_T_pin 34 = .ok (.iastore, 1) := by decide +kernel
theorem d_T_pin_35 : decode c_T_pin 35 = .ok (.iconst 1, 1) := by decide +kernel
theorem d_T_pin_36 : decode c_T_pin 36 = .ok (.ireturn, 1) := by decide +kernel
theorem d_T_isBounded_0 : decode c_T_isBounded 0 = .ok (.aload_n 0, 1) := by decide +kernel
theorem d_T_isBounded_1 : decode c_T_isBounded 1 = .ok (.getfield 53, 3) := by decide +kernel
theorem d_T_isBounded_4 : decode c_T_isBounded 4 = .ok (.iload_n 1, 1) := by decide +kernel
theorem d_T_isBounded_5 : decode c_T_isBounded 5 = .ok (.iaload, 1) := by decide +kernel
theorem d_T_isBounded_6 : decode c_T_isBounded 6 = .ok (.iconst (-1), 1) := by decide +kernel
theorem d_T_isBounded_7 : decode c_T_isBounded 7 = .ok (.if_icmp .eq 17, 3) := by decide +kernel
theorem d_T_isBounded_10 : decode c_T_isBounded 10 = .ok (.iload_n 2, 1) := by decide +kernel
theorem d_T_isBounded_11 : decode c_T_isBounded 11 = .ok (.aload_n 0, 1) := by decide +kernel
theorem d_T_isBounded_12 : decode c_T_isBounded 12 = .ok (.getfield 53, 3) := by decide +kernel
theorem d_T_isBounded_15 : decode c_T_isBounded 15 = .ok (.iload_n 1, 1) := by decide +kernel
theorem d_T_isBounded_16 : decode c_T_isBounded 16 = .ok (.iaload, 1) := by decide +kernel
theorem d_T_isBounded_17 : decode c_T_isBounded 17 = .ok (.if_icmp .le 7, 3) := by decide +kernel
theorem d_T_isBounded_20 : decode c_T_isBounded 20 = .ok (.iconst 1, 1) := by decide +kernel
theorem d_T_isBounded_21 : decode c_T_isBounded 21 = .ok (.goto 4, 3) := by decide +kernel
theorem d_T_isBounded_24 : decode c_T_isBounded 24 = .ok (.iconst 0, 1) := by decide +kernel
theorem d_T_isBounded_25 : decode c_T_isBounded 25 = .ok (.ireturn, 1) := by decide +kernel
theorem d_T_mayGet_0 : decode c_T_mayGet 0 = .ok (.aload_n 0, 1) := by decide +kernel
theorem d_T_mayGet_1 : decode c_T_mayGet 1 = .ok (.getfield 7, 3) := by decide +kernel
theorem d_T_mayGet_4 : decode c_T_mayGet 4 = .ok (.iload_n 2, 1) := by decide +kernel
theorem d_T_mayGet_5 : decode c_T_mayGet 5 = .ok (.iaload, 1) := by decide +kernel
theorem d_T_mayGet_6 : decode c_T_mayGet 6 = .ok (.aload_n 0, 1) := by decide +kernel
theorem d_T_mayGet_7 : decode c_T_mayGet 7 = .ok (.getfield 56, 3) := by decide +kernel
theorem d_T_mayGet_10 : decode c_T_mayGet 10 = .ok (.iload_n 1, 1) := by decide +kernel
theorem d_T_mayGet_11 : decode c_T_mayGet 11 = .ok (.iaload, 1) := by decide +kernel
theorem d_T_mayGet_12 : decode c_T_mayGet 12 = .ok (.if_icmp .ne 17, 3) := by decide +kernel
theorem d_T_mayGet_15 : decode c_T_mayGet 15 = .ok (.aload_n 0, 1) := by decide +kernel
theorem d_T_mayGet_16 : decode c_T_mayGet 16 = .ok (.aload_n 0, 1) := by decide +kernel
theorem d_T_mayGet_17 : decode c_T_mayGet 17 = .ok (.getfield 7, 3) := by decide +kernel
theorem d_T_mayGet_20 : decode c_T_mayGet 20 = .ok (.iload_n 2, 1) := by decide +kernel
theorem d_T_mayGet_21 : decode c_T_mayGet 21 = .ok (.iaload, 1) := by decide +kernel
theorem d_T_mayGet_22 : decode c_T_mayGet 22 = .ok (.iload_n 2, 1) := by decide +kernel
theorem d_T_mayGet_23 : decode c_T_mayGet 23 = .ok (.invokevirtual 140, 3) := by decide +kernel
theorem d_T_mayGet_26 : decode c_T_mayGet 26 = .ok (.ifCond .eq 5, 3) := by decide +kernel
theorem d_T_mayGet_29 : decode c_T_mayGet 29 = .ok (.iconst 0, 1) := by decide +kernel
theorem d_T_mayGet_30 : decode c_T_mayGet 30 = .ok (.ireturn, 1) := by decide +kernel
theorem d_T_mayGet_31 : decode c_T_mayGet 31 = .ok (.aload_n 0, 1) := by decide +kernel
theorem d_T_mayGet_32 : decode c_T_mayGet 32 = .ok (.getfield 49, 3) := by decide +kernel
theorem d_T_mayGet_35 : decode c_T_mayGet 35 = .ok (.iload_n 2, 1) := by decide +kernel
theorem d_T_mayGet_36 : decode c_T_mayGet 36 = .ok (.baload, 1) := by decide +kernel
theorem d_T_mayGet_37 : decode c_T_mayGet 37 = .ok (.ifCond .eq 45, 3) := by decide +kernel
theorem d_T_mayGet_40 : decode c_T_mayGet 40 = .ok (.aload_n 0, 1) := by decide +kernel
theorem d_T_mayGet_41 : decode c_T_mayGet 41 = .ok (.getfield 31, 3) := by decide +kernel
theorem d_T_mayGet_44 : decode c_T_mayGet 44 = .ok (.iload_n 2, 1) := by decide +kernel
theorem d_T_mayGet_45 : decode c_T_mayGet 45 = .ok (.iaload, 1) := by decide +kernel
theorem d_T_mayGet_46 : decode c_T_mayGet 46 = .ok (.iconst 1, 1) := by decide +kernel
theorem d_T_mayGet_47 : decode c_T_mayGet 47 = .ok (.if_icmp .eq 33, 3) := by decide +kernel
theorem d_T_mayGet_50 : decode c_T_mayGet 50 = .ok (.aload_n 0, 1) := by decide +kernel
theorem d_T_mayGet_51 : decode c_T_mayGet 51 = .ok (.getfield 31, 3) := by decide +kernel
theorem d_T_mayGet_54 : decode c_T_mayGet 54 = .ok (.iload_n 2, 1) := by decide +kernel
theorem d_T_mayGet_55 : decode c_T_mayGet 55 = .ok (.iaload, 1) := by decide +kernel
theorem d_T_mayGet_56 : decode c_T_mayGet 56 = .ok (.iconst 3, 1) := by decide +kernel
theorem d_T_mayGet_57 : decode c_T_mayGet 57 = .ok (.if_icmp .eq 23, 3) := by decide +kernel
theorem d_T_mayGet_60 : decode c_T_mayGet 60 = .ok (.aload_n 0, 1) := by decide +kernel
theorem d_T_mayGet_61 : decode c_T_mayGet 61 = .ok (.getfield 31, 3) := by decide +kernel
theorem d_T_mayGet_64 : decode c_T_mayGet 64 = .ok (.iload_n 2, 1) := by decide +kernel
theorem d_T_mayGet_65 : decode c_T_mayGet 65 = .ok (.iaload, 1) := by decide +kernel
theorem d_T_mayGet_66 : decode c_T_mayGet 66 = .ok (.iconst 2, 1) := by decide +kernel
theorem d_T_mayGet_67 : decode c_T_mayGet 67 = .ok (.if_icmp .ne 15, 3) := by decide +kernel
theorem d_T_mayGet_70 : decode c_T_mayGet 70 = .ok (.aload_n 0, 1) := by decide +kernel
theorem d_T_mayGet_71 : decode c_T_mayGet 71 = .ok (.getfield 37, 3) := by decide +kernel
theorem d_T_mayGet_74 : decode c_T_mayGet 74 = .ok (.iload_n 2, 1) := by decide +kernel
theorem d_T_mayGet_75 : decode c_T_mayGet 75 = .ok (.iaload, 1) := by decide +kernel
theorem d_T_mayGet_76 : decode c_T_mayGet 76 = .ok (.iconst 3, 1) := by decide +kernel
theorem d_T_mayGet_77 : decode c_T_mayGet 77 = .ok (.if_icmp .ne 5, 3) := by decide +kernel
theorem d_T_mayGet_80 : decode c_T_mayGet 80 = .ok (.iconst 1, 1) := by decide +kernel
theorem d_T_mayGet_81 : decode c_T_mayGet 81 = .ok (.ireturn, 1) := by decide +kernel
theorem d_T_mayGet_82 : decode c_T_mayGet 82 = .ok (.iload_n 1, 1) := by decide +kernel
theorem d_T_mayGet_83 : decode c_T_mayGet 83 = .ok (.invokestatic 137, 3) := by decide +kernel
theorem d_T_mayGet_86 : decode c_T_mayGet 86 = .ok (.aload_n 0, 1) := by decide +kernel
theorem d_T_mayGet_87 : decode c_T_mayGet 87 = .ok (.iload_n 2, 1) := by decide +kernel
theorem d_T_mayGet_88 : decode c_T_mayGet 88 = .ok (.invokevirtual 122, 3) := by decide +kernel
theorem d_T_mayGet_91 : decode c_T_mayGet 91 = .ok (.if_icmp .ge 32, 3) := by decide +kernel
theorem d_T_mayGet_94 : decode c_T_mayGet 94 = .ok (.aload_n 0, 1) := by decide +kernel
theorem d_T_mayGet_95 : decode c_T_mayGet 95 = .ok (.getfield 31, 3) := by decide +kernel
theorem d_T_mayGet_98 : decode c_T_mayGet 98 = .ok (.iload_n 2, 1) := by decide +kernel
theorem d_T_mayGet_99 : decode c_T_mayGet 99 = .ok (.iaload, 1) := by decide +kernel
theorem d_T_mayGet_100 : decode c_T_mayGet 100 = .ok (.iconst 3, 1) := by decide +kernel
theorem d_T_mayGet_101 : decode c_T_mayGet 101 = .ok (.if_icmp .eq 18, 3) := by decide +kernel
theorem d_T_mayGet_104 : decode c_T_mayGet 104 = .ok (.aload_n 0, 1) := by decide +kernel
theorem d_T_mayGet_105 : decode c_T_mayGet 105 = .ok (.getfield 34, 3) := by decide +kernel
theorem d_T_mayGet_108 : decode c_T_mayGet 108 = .ok (.iload_n 2, 1) := by decide +kernel
theorem d_T_mayGet_109 : decode c_T_mayGet 109 = .ok (.iaload, 1) := by decide +kernel
theorem d_T_mayGet_110 : decode c_T_mayGet 110 = .ok (.aload_n 0, 1) := by decide +kernel
theorem d_T_mayGet_111 : decode c_T_mayGet 111 = .ok (.getfield 59, 3) := by decide +kernel
theorem d_T_mayGet_114 : decode c_T_mayGet 114 = .ok (.iload_n 1, 1) := by decide +kernel
theorem d_T_mayGet_115 : decode c_T_mayGet 115 = .ok (.iaload, 1) := by decide +kernel
theorem d_T_mayGet_116 : decode c_T_mayGet 116 = .ok (.if_icmp .lt 7, 3) := by decide +kernel
theorem d_T_mayGet_119 : decode c_T_mayGet 119 = .ok (.iconst 1, 1) := by decide +kernel
theorem d_T_mayGet_120 : decode c_T_mayGet 120 = .ok (.goto 4, 3) := by decide +kernel
theorem d_T_mayGet_123 : decode c_T_mayGet 123 = .ok (.iconst 0, 1) := by decide +kernel
theorem d_T_mayGet_124 : decode c_T_mayGet 124 = .ok (.ireturn, 1) := by decide +kernel
theorem d_T_offer_0 : decode c_T_offer 0 = .ok (.aload_n 0, 1) := by decide +kernel
theorem d_T_offer_1 : decode c_T_offer 1 = .ok (.getfield 65, 3) := by decide +kernel
theorem d_T_offer_4 : decode c_T_offer 4 = .ok (.iload_n 1, 1) := by decide +kernel
theorem d_T_offer_5 : decode c_T_offer 5 = .ok (.iaload, 1) := by decide +kernel
theorem d_T_offer_6 : decode c_T_offer 6 = .ok (.iconst (-1), 1) := by decide +kernel
theorem d_T_offer_7 : decode c_T_offer 7 = .ok (.if_icmp .eq 25, 3) := by decide +kernel
theorem d_T_offer_10 : decode c_T_offer 10 = .ok (.aload_n 0, 1) := by decide +kernel
theorem d_T_offer_11 : decode c_T_offer 11 = .ok (.getfield 31, 3) := by decide +kernel
theorem d_T_offer_14 : decode c_T_offer 14 = .ok (.aload_n 0, 1) := by decide +kernel
theorem d_T_offer_15 : decode c_T_offer 15 = .ok (.getfield 65, 3) := by decide +kernel
theorem d_T_offer_18 : decode c_T_offer 18 = .ok (.iload_n 1, 1) := by decide +kernel
theorem d_T_offer_19 : decode c_T_offer 19 = .ok (.iaload, 1) := by decide +kernel
theorem d_T_offer_20 : decode c_T_offer 20 = .ok (.iaload, 1) := by decide +kernel
theorem d_T_offer_21 : decode c_T_offer 21 = .ok (.iconst 4, 1) := by decide +kernel
theorem d_T_offer_22 : decode c_T_offer 22 = .ok (.if_icmp .eq 10, 3) := by decide +kernel
theorem d_T_offer_25 : decode c_T_offer 25 = .ok (.aload_n 0, 1) := by decide +kernel
theorem d_T_offer_26 : decode c_T_offer 26 = .ok (.getfield 65, 3) := by decide +kernel
theorem d_T_offer_29 : decode c_T_offer 29 = .ok (.iload_n 1, 1) := by decide +kernel
theorem d_T_offer_30 : decode c_T_offer 30 = .ok (.iaload, 1) := by decide +kernel
theorem d_T_offer_31 : decode c_T_offer 31 = .ok (.ireturn, 1) := by decide +kernel
theorem d_T_offer_32 : decode c_T_offer 32 = .ok (.iconst (-1), 1) := by decide +kernel
theorem d_T_offer_33 : decode c_T_offer 33 = .ok (.istore_n 2, 1) := by decide +kernel
theorem d_T_offer_34 : decode c_T_offer 34 = .ok (.iconst 0, 1) := by decide +kernel
theorem d_T_offer_35 : decode c_T_offer 35 = .ok (.istore_n 3, 1) := by decide +kernel
theorem d_T_offer_36 : decode c_T_offer 36 = .ok (.iload_n 3, 1) := by decide +kernel
theorem d_T_offer_37 : decode c_T_offer 37 = .ok (.aload_n 0, 1) := by decide +kernel
theorem d_T_offer_38 : decode c_T_offer 38 = .ok (.getfield 93, 3) := by decide +kernel
theorem d_T_offer_41 : decode c_T_offer 41 = .ok (.if_icmp .ge 24, 3) := by decide +kernel
theorem d_T_offer_44 : decode c_T_offer 44 = .ok (.aload_n 0, 1) := by decide +kernel
theorem d_T_offer_45 : decode c_T_offer 45 = .ok (.iload_n 1, 1) := by decide +kernel
theorem d_T_offer_46 : decode c_T_offer 46 = .ok (.iload_n 3, 1) := by decide +kernel
theorem d_T_offer_47 : decode c_T_offer 47 = .ok (.invokevirtual 144, 3) := by decide +kernel
theorem d_T_offer_50 : decode c_T_offer 50 = .ok (.ifCond .eq 7, 3) := by decide +kernel
theorem d_T_offer_53 : decode c_T_offer 53 = .ok (.iload_n 3, 1) := by decide +kernel
theorem d_T_offer_54 : decode c_T_offer 54 = .ok (.goto 4, 3) := by decide +kernel
theorem d_T_offer_57 : decode c_T_offer 57 = .ok (.iload_n 2, 1) := by decide +kernel
theorem d_T_offer_58 : decode c_T_offer 58 = .ok (.istore_n 2, 1) := by decide +kernel
theorem d_T_offer_59 : decode c_T_offer 59 = .ok (.iinc 3 1, 3) := by decide +kernel
theorem d_T_offer_62 : decode c_T_offer 62 = .ok (.goto (-26), 3) := by decide +kernel
theorem d_T_offer_65 : decode c_T_offer 65 = .ok (.aload_n 0, 1) := by decide +kernel
theorem d_T_offer_66 : decode c_T_offer 66 = .ok (.getfield 62, 3) := by decide +kernel
theorem d_T_offer_69 : decode c_T_offer 69 = .ok (.iload_n 1, 1) := by decide +kernel
theorem d_T_offer_70 : decode c_T_offer 70 = .ok (.iaload, 1) := by decide +kernel
theorem d_T_offer_71 : decode c_T_offer 71 = .ok (.istore_n 3, 1) := by decide +kernel
theorem d_T_offer_72 : decode c_T_offer 72 = .ok (.iload_n 3, 1) := by decide +kernel
theorem d_T_offer_73 : decode c_T_offer 73 = .ok (.iload_n 2, 1) := by decide +kernel
theorem d_T_offer_74 : decode c_T_offer 74 = .ok (.if_icmp .le 46, 3) := by decide +kernel
theorem d_T_offer_77 : decode c_T_offer 77 = .ok (.aload_n 0, 1) := by decide +kernel
theorem d_T_offer_78 : decode c_T_offer 78 = .ok (.getfield 7, 3) := by decide +kernel
theorem d_T_offer_81 : decode c_T_offer 81 = .ok (.iload_n 3, 1) := by decide +kernel
theorem d_T_offer_82 : decode c_T_offer 82 = .ok (.iaload, 1) := by decide +kernel
theorem d_T_offer_83 : decode c_T_offer 83 = .ok (.aload_n 0, 1) := by decide +kernel
theorem d_T_offer_84 : decode c_T_offer 84 = .ok (.getfield 56, 3) := by decide +kernel
theorem d_T_offer_87 : decode c_T_offer 87 = .ok (.iload_n 1, 1) := by decide +kernel
theorem d_T_offer_88 : decode c_T_offer 88 = .ok (.iaload, 1) := by decide +kernel
theorem d_T_offer_89 : decode c_T_offer 89 = .ok (.if_icmp .ne 31, 3) := by decide +kernel
theorem d_T_offer_92 : decode c_T_offer 92 = .ok (.aload_n 0, 1) := by decide +kernel
theorem d_T_offer_93 : decode c_T_offer 93 = .ok (.getfield 31, 3) := by decide +kernel
theorem d_T_offer_96 : decode c_T_offer 96 = .ok (.iload_n 3, 1) := by decide +kernel
theorem d_T_offer_97 : decode c_T_offer 97 = .ok (.iaload, 1) := by decide +kernel
theorem d_T_offer_98 : decode c_T_offer 98 = .ok (.iconst 4, 1) := by decide +kernel
theorem d_T_offer_99 : decode c_T_offer 99 = .ok (.if_icmp .eq 21, 3) := by decide +kernel
theorem d_T_offer_102 : decode c_T_offer 102 = .ok (.aload_n 0, 1) := by decide +kernel
theorem d_T_offer_103 : decode c_T_offer 103 = .ok (.aload_n 0, 1) := by decide +kernel
theorem d_T_offer_104 : decode c_T_offer 104 = .ok (.getfield 7, 3) := by decide +kernel
theorem d_T_offer_107 : decode c_T_offer 107 = .ok (.iload_n 3, 1) := by decide +kernel
theorem d_T_offer_108 : decode c_T_offer 108 = .ok (.iaload, 1) := by decide +kernel
theorem d_T_offer_109 : decode c_T_offer 109 = .ok (.iload_n 3, 1) := by decide +kernel
theorem d_T_offer_110 : decode c_T_offer 110 = .ok (.invokevirtual 140, 3) := by decide +kernel
theorem d_T_offer_113 : decode c_T_offer 113 = .ok (.ifCond .ne 7, 3) := by decide +kernel
theorem d_T_offer_116 : decode c_T_offer 116 = .ok (.iload_n 3, 1) := by decide +kernel
theorem d_T_offer_117 : decode c_T_offer 117 = .ok (.goto 4, 3) := by decide +kernel
theorem d_T_offer_120 : decode c_T_offer 120 = .ok (.iload_n 2, 1) := by decide +kernel
theorem d_T_offer_121 : decode c_T_offer 121 = .ok (.ireturn, 1) := by decide +kernel
theorem d_T_offered_0 : decode c_T_offered 0 = .ok (.aload_n 0, 1) := by decide +kernel
theorem d_T_offered_1 : decode c_T_offered 1 = .ok (.iconst 0, 1) := by decide +kernel
theorem d_T_offered_2 : decode c_T_offered 2 = .ok (.putfield 89, 3) := by decide +kernel
theorem d_T_offered_5 : decode c_T_offered 5 = .ok (.aload_n 0, 1) := by decide +kernel
theorem d_T_offered_6 : decode c_T_offered 6 = .ok (.iload_n 1, 1) := by decide +kernel
theorem d_T_offered_7 : decode c_T_offered 7 = .ok (.invokevirtual 134, 3) := by decide +kernel
theorem d_T_offered_10 : decode c_T_offered 10 = .ok (.ifCond .eq 11, 3) := by decide +kernel
theorem d_T_offered_13 : decode c_T_offered 13 = .ok (.aload_n 0, 1) := by decide +kernel
theorem d_T_offered_14 : decode c_T_offered 14 = .ok (.iload_n 1, 1) := by decide +kernel
theorem d_T_offered_15 : decode c_T_offered 15 = .ok (.invokevirtual 147, 3) := by decide +kernel
theorem d_T_offered_18 : decode c_T_offered 18 = .ok (.goto 4, 3) := by decide +kernel
theorem d_T_offered_21 : decode c_T_offered 21 = .ok (.iconst (-1), 1) := by decide +kernel
theorem d_T_offered_22 : decode c_T_offered 22 = .ok (.ireturn, 1) := by decide +kernel
theorem d_T_may_0 : decode c_T_may 0 = .ok (.aload_n 0, 1) := by decide +kernel
theorem d_T_may_1 : decode c_T_may 1 = .ok (.iconst 0, 1) := by decide +kernel
theorem d_T_may_2 : decode c_T_may 2 = .ok (.putfield 89, 3) := by decide +kernel
theorem d_T_may_5 : decode c_T_may 5 = .ok (.aload_n 0, 1) := by decide +kernel
end
section
theorem d_T_may_6 : decode c_T_may 6 = .ok (.iload_n 1, 1) := by decide +kernel
theorem d_T_may_7 : decode c_T_may 7 = .ok (.invokevirtual 134, 3) := by decide +kernel
theorem d_T_may_10 : decode c_T_may 10 = .ok (.ifCond .eq 24, 3) := by decide +kernel
theorem d_T_may_13 : decode c_T_may 13 = .ok (.aload_n 0, 1) := by decide +kernel
theorem d_T_may_14 : decode c_T_may 14 = .ok (.iload_n 2, 1) := by decide +kernel
theorem d_T_may_15 : decode c_T_may 15 = .ok (.invokevirtual 104, 3) := by decide +kernel
theorem d_T_may_18 : decode c_T_may 18 = .ok (.ifCond .eq 16, 3) := by decide +kernel
theorem d_T_may_21 : decode c_T_may 21 = .ok (.aload_n 0, 1) := by decide +kernel
theorem d_T_may_22 : decode c_T_may 22 = .ok (.iload_n 1, 1) := by decide +kernel
theorem d_T_may_23 : decode c_T_may 23 = .ok (.iload_n 2, 1) := by decide +kernel
theorem d_T_may_24 : decode c_T_may 24 = .ok (.invokevirtual 144, 3) := by decide +kernel
theorem d_T_may_27 : decode c_T_may 27 = .ok (.ifCond .eq 7, 3) := by decide +kernel
theorem d_T_may_30 : decode c_T_may 30 = .ok (.iconst 1, 1) := by decide +kernel
theorem d_T_may_31 : decode c_T_may 31 = .ok (.goto 4, 3) := by decide +kernel
theorem d_T_may_34 : decode c_T_may 34 = .ok (.iconst 0, 1) := by decide +kernel
theorem d_T_may_35 : decode c_T_may 35 = .ok (.ireturn, 1) := by decide +kernel
theorem d_T_delta_0 : decode c_T_delta 0 = .ok (.aload_n 0, 1) := by decide +kernel
theorem d_T_delta_1 : decode c_T_delta 1 = .ok (.iconst 0, 1) := by decide +kernel
theorem d_T_delta_2 : decode c_T_delta 2 = .ok (.putfield 89, 3) := by decide +kernel
theorem d_T_delta_5 : decode c_T_delta 5 = .ok (.aload_n 0, 1) := by decide +kernel
theorem d_T_delta_6 : decode c_T_delta 6 = .ok (.iload_n 1, 1) := by decide +kernel
theorem d_T_delta_7 : decode c_T_delta 7 = .ok (.invokevirtual 104, 3) := by decide +kernel
theorem d_T_delta_10 : decode c_T_delta 10 = .ok (.ifCond .eq 27, 3) := by decide +kernel
theorem d_T_delta_13 : decode c_T_delta 13 = .ok (.aload_n 0, 1) := by decide +kernel
theorem d_T_delta_14 : decode c_T_delta 14 = .ok (.iload_n 2, 1) := by decide +kernel
theorem d_T_delta_15 : decode c_T_delta 15 = .ok (.invokevirtual 104, 3) := by decide +kernel
theorem d_T_delta_18 : decode c_T_delta 18 = .ok (.ifCond .eq 19, 3) := by decide +kernel
theorem d_T_delta_21 : decode c_T_delta 21 = .ok (.iload_n 1, 1) := by decide +kernel
theorem d_T_delta_22 : decode c_T_delta 22 = .ok (.iload_n 2, 1) := by decide +kernel
theorem d_T_delta_23 : decode c_T_delta 23 = .ok (.if_icmp .eq 14, 3) := by decide +kernel
theorem d_T_delta_26 : decode c_T_delta 26 = .ok (.iload_n 3, 1) := by decide +kernel
theorem d_T_delta_27 : decode c_T_delta 27 = .ok (.iconst 1, 1) := by decide +kernel
theorem d_T_delta_28 : decode c_T_delta 28 = .ok (.sipush 1000, 3) := by decide +kernel
theorem d_T_delta_31 : decode c_T_delta 31 = .ok (.invokestatic 99, 3) := by decide +kernel
theorem d_T_delta_34 : decode c_T_delta 34 = .ok (.ifCond .ne 5, 3) := by decide +kernel
theorem d_T_delta_37 : decode c_T_delta 37 = .ok (.iconst 0, 1) := by decide +kernel
theorem d_T_delta_38 : decode c_T_delta 38 = .ok (.ireturn, 1) := by decide +kernel
theorem d_T_delta_39 : decode c_T_delta 39 = .ok (.iconst 0, 1) := by decide +kernel
theorem d_T_delta_40 : decode c_T_delta 40 = .ok (.istore 4, 2) := by decide +kernel
theorem d_T_delta_42 : decode c_T_delta 42 = .ok (.iload 4, 2) := by decide +kernel
theorem d_T_delta_44 : decode c_T_delta 44 = .ok (.aload_n 0, 1) := by decide +kernel
theorem d_T_delta_45 : decode c_T_delta 45 = .ok (.getfield 150, 3) := by decide +kernel
theorem d_T_delta_48 : decode c_T_delta 48 = .ok (.if_icmp .ge 31, 3) := by decide +kernel
theorem d_T_delta_51 : decode c_T_delta 51 = .ok (.aload_n 0, 1) := by decide +kernel
theorem d_T_delta_52 : decode c_T_delta 52 = .ok (.getfield 68, 3) := by decide +kernel
theorem d_T_delta_55 : decode c_T_delta 55 = .ok (.iload 4, 2) := by decide +kernel
theorem d_T_delta_57 : decode c_T_delta 57 = .ok (.iaload, 1) := by decide +kernel
theorem d_T_delta_58 : decode c_T_delta 58 = .ok (.iload_n 1, 1) := by decide +kernel
theorem d_T_delta_59 : decode c_T_delta 59 = .ok (.if_icmp .ne 14, 3) := by decide +kernel
theorem d_T_delta_62 : decode c_T_delta 62 = .ok (.aload_n 0, 1) := by decide +kernel
theorem d_T_delta_63 : decode c_T_delta 63 = .ok (.getfield 71, 3) := by decide +kernel
theorem d_T_delta_66 : decode c_T_delta 66 = .ok (.iload 4, 2) := by decide +kernel
theorem d_T_delta_68 : decode c_T_delta 68 = .ok (.iaload, 1) := by decide +kernel
theorem d_T_delta_69 : decode c_T_delta 69 = .ok (.iload_n 2, 1) := by decide +kernel
theorem d_T_delta_70 : decode c_T_delta 70 = .ok (.if_icmp .eq 9, 3) := by decide +kernel
theorem d_T_delta_73 : decode c_T_delta 73 = .ok (.iinc 4 1, 3) := by decide +kernel
theorem d_T_delta_76 : decode c_T_delta 76 = .ok (.goto (-34), 3) := by decide +kernel
theorem d_T_delta_79 : decode c_T_delta 79 = .ok (.iload 4, 2) := by decide +kernel
theorem d_T_delta_81 : decode c_T_delta 81 = .ok (.bipush 40, 2) := by decide +kernel
theorem d_T_delta_83 : decode c_T_delta 83 = .ok (.if_icmp .ne 5, 3) := by decide +kernel
theorem d_T_delta_86 : decode c_T_delta 86 = .ok (.iconst 0, 1) := by decide +kernel
theorem d_T_delta_87 : decode c_T_delta 87 = .ok (.ireturn, 1) := by decide +kernel
theorem d_T_delta_88 : decode c_T_delta 88 = .ok (.aload_n 0, 1) := by decide +kernel
theorem d_T_delta_89 : decode c_T_delta 89 = .ok (.getfield 68, 3) := by decide +kernel
theorem d_T_delta_92 : decode c_T_delta 92 = .ok (.iload 4, 2) := by decide +kernel
theorem d_T_delta_94 : decode c_T_delta 94 = .ok (.iload_n 1, 1) := by decide +kernel
theorem d_T_delta_95 : decode c_T_delta 95 = .ok (.iastore, 1) := by decide +kernel
theorem d_T_delta_96 : decode c_T_delta 96 = .ok (.aload_n 0, 1) := by decide +kernel
theorem d_T_delta_97 : decode c_T_delta 97 = .ok (.getfield 71, 3) := by decide +kernel
theorem d_T_delta_100 : decode c_T_delta 100 = .ok (.iload 4, 2) := by decide +kernel
theorem d_T_delta_102 : decode c_T_delta 102 = .ok (.iload_n 2, 1) := by decide +kernel
theorem d_T_delta_103 : decode c_T_delta 103 = .ok (.iastore, 1) := by decide +kernel
theorem d_T_delta_104 : decode c_T_delta 104 = .ok (.aload_n 0, 1) := by decide +kernel
theorem d_T_delta_105 : decode c_T_delta 105 = .ok (.getfield 74, 3) := by decide +kernel
theorem d_T_delta_108 : decode c_T_delta 108 = .ok (.iload 4, 2) := by decide +kernel
theorem d_T_delta_110 : decode c_T_delta 110 = .ok (.iload_n 3, 1) := by decide +kernel
theorem d_T_delta_111 : decode c_T_delta 111 = .ok (.iastore, 1) := by decide +kernel
theorem d_T_delta_112 : decode c_T_delta 112 = .ok (.aload_n 0, 1) := by decide +kernel
theorem d_T_delta_113 : decode c_T_delta 113 = .ok (.dup, 1) := by decide +kernel
theorem d_T_delta_114 : decode c_T_delta 114 = .ok (.getfield 150, 3) := by decide +kernel
theorem d_T_delta_117 : decode c_T_delta 117 = .ok (.iload 4, 2) := by decide +kernel
theorem d_T_delta_119 : decode c_T_delta 119 = .ok (.aload_n 0, 1) := by decide +kernel
theorem d_T_delta_120 : decode c_T_delta 120 = .ok (.getfield 150, 3) := by decide +kernel
theorem d_T_delta_123 : decode c_T_delta 123 = .ok (.if_icmp .ne 7, 3) := by decide +kernel
theorem d_T_delta_126 : decode c_T_delta 126 = .ok (.iconst 1, 1) := by decide +kernel
theorem d_T_delta_127 : decode c_T_delta 127 = .ok (.goto 4, 3) := by decide +kernel
theorem d_T_delta_130 : decode c_T_delta 130 = .ok (.iconst 0, 1) := by decide +kernel
theorem d_T_delta_131 : decode c_T_delta 131 = .ok (.iadd, 1) := by decide +kernel
theorem d_T_delta_132 : decode c_T_delta 132 = .ok (.putfield 150, 3) := by decide +kernel
theorem d_T_delta_135 : decode c_T_delta 135 = .ok (.iconst 1, 1) := by decide +kernel
theorem d_T_delta_136 : decode c_T_delta 136 = .ok (.ireturn, 1) := by decide +kernel
theorem d_T_findWays_0 : decode c_T_findWays 0 = .ok (.iconst 0, 1) := by decide +kernel
theorem d_T_findWays_1 : decode c_T_findWays 1 = .ok (.istore_n 2, 1) := by decide +kernel
theorem d_T_findWays_2 : decode c_T_findWays 2 = .ok (.iload_n 2, 1) := by decide +kernel
theorem d_T_findWays_3 : decode c_T_findWays 3 = .ok (.bipush 16, 2) := by decide +kernel
theorem d_T_findWays_5 : decode c_T_findWays 5 = .ok (.if_icmp .ge 33, 3) := by decide +kernel
theorem d_T_findWays_8 : decode c_T_findWays 8 = .ok (.aload_n 0, 1) := by decide +kernel
theorem d_T_findWays_9 : decode c_T_findWays 9 = .ok (.getfield 77, 3) := by decide +kernel
theorem d_T_findWays_12 : decode c_T_findWays 12 = .ok (.iload_n 2, 1) := by decide +kernel
theorem d_T_findWays_13 : decode c_T_findWays 13 = .ok (.iload_n 2, 1) := by decide +kernel
theorem d_T_findWays_14 : decode c_T_findWays 14 = .ok (.iload_n 1, 1) := by decide +kernel
theorem d_T_findWays_15 : decode c_T_findWays 15 = .ok (.if_icmp .ne 7, 3) := by decide +kernel
theorem d_T_findWays_18 : decode c_T_findWays 18 = .ok (.iconst 0, 1) := by decide +kernel
theorem d_T_findWays_19 : decode c_T_findWays 19 = .ok (.goto 5, 3) := by decide +kernel
theorem d_T_findWays_22 : decode c_T_findWays 22 = .ok (.ldc 153, 2) := by decide +kernel
theorem d_T_findWays_24 : decode c_T_findWays 24 = .ok (.iastore, 1) := by decide +kernel
theorem d_T_findWays_25 : decode c_T_findWays 25 = .ok (.aload_n 0, 1) := by decide +kernel
theorem d_T_findWays_26 : decode c_T_findWays 26 = .ok (.getfield 80, 3) := by decide +kernel
theorem d_T_findWays_29 : decode c_T_findWays 29 = .ok (.iload_n 2, 1) := by decide +kernel
theorem d_T_findWays_30 : decode c_T_findWays 30 = .ok (.iconst 0, 1) := by decide +kernel
theorem d_T_findWays_31 : decode c_T_findWays 31 = .ok (.iastore, 1) := by decide +kernel
theorem d_T_findWays_32 : decode c_T_findWays 32 = .ok (.iinc 2 1, 3) := by decide +kernel
theorem d_T_findWays_35 : decode c_T_findWays 35 = .ok (.goto (-33), 3) := by decide +kernel
theorem d_T_findWays_38 : decode c_T_findWays 38 = .ok (.iconst 1, 1) := by decide +kernel
theorem d_T_findWays_39 : decode c_T_findWays 39 = .ok (.istore_n 2, 1) := by decide +kernel
theorem d_T_findWays_40 : decode c_T_findWays 40 = .ok (.iload_n 2, 1) := by decide +kernel
theorem d_T_findWays_41 : decode c_T_findWays 41 = .ok (.iconst 4, 1) := by decide +kernel
theorem d_T_findWays_42 : decode c_T_findWays 42 = .ok (.if_icmp .gt 206, 3) := by decide +kernel
theorem d_T_findWays_45 : decode c_T_findWays 45 = .ok (.iconst 0, 1) := by decide +kernel
theorem d_T_findWays_46 : decode c_T_findWays 46 = .ok (.istore_n 3, 1) := by decide +kernel
theorem d_T_findWays_47 : decode c_T_findWays 47 = .ok (.iload_n 3, 1) := by decide +kernel
theorem d_T_findWays_48 : decode c_T_findWays 48 = .ok (.bipush 16, 2) := by decide +kernel
theorem d_T_findWays_50 : decode c_T_findWays 50 = .ok (.if_icmp .ge 33, 3) := by decide +kernel
theorem d_T_findWays_53 : decode c_T_findWays 53 = .ok (.aload_n 0, 1) := by decide +kernel
theorem d_T_findWays_54 : decode c_T_findWays 54 = .ok (.getfield 83, 3) := by decide +kernel
theorem d_T_findWays_57 : decode c_T_findWays 57 = .ok (.iload_n 3, 1) := by decide +kernel
theorem d_T_findWays_58 : decode c_T_findWays 58 = .ok (.aload_n 0, 1) := by decide +kernel
theorem d_T_findWays_59 : decode c_T_findWays 59 = .ok (.getfield 77, 3) := by decide +kernel
theorem d_T_findWays_62 : decode c_T_findWays 62 = .ok (.iload_n 3, 1) := by decide +kernel
theorem d_T_findWays_63 : decode c_T_findWays 63 = .ok (.iaload, 1) := by decide +kernel
theorem d_T_findWays_64 : decode c_T_findWays 64 = .ok (.iastore, 1) := by decide +kernel
theorem d_T_findWays_65 : decode c_T_findWays 65 = .ok (.aload_n 0, 1) := by decide +kernel
theorem d_T_findWays_66 : decode c_T_findWays 66 = .ok (.getfield 86, 3) := by decide +kernel
theorem d_T_findWays_69 : decode c_T_findWays 69 = .ok (.iload_n 3, 1) := by decide +kernel
theorem d_T_findWays_70 : decode c_T_findWays 70 = .ok (.aload_n 0, 1) := by decide +kernel
theorem d_T_findWays_71 : decode c_T_findWays 71 = .ok (.getfield 80, 3) := by decide +kernel
theorem d_T_findWays_74 : decode c_T_findWays 74 = .ok (.iload_n 3, 1) := by decide +kernel
theorem d_T_findWays_75 : decode c_T_findWays 75 = .ok (.iaload, 1) := by decide +kernel
theorem d_T_findWays_76 : decode c_T_findWays 76 = .ok (.iastore, 1) := by decide +kernel
theorem d_T_findWays_77 : decode c_T_findWays 77 = .ok (.iinc 3 1, 3) := by decide +kernel
theorem d_T_findWays_80 : decode c_T_findWays 80 = .ok (.goto (-33), 3) := by decide +kernel
theorem d_T_findWays_83 : decode c_T_findWays 83 = .ok (.iconst 0, 1) := by decide +kernel
theorem d_T_findWays_84 : decode c_T_findWays 84 = .ok (.istore_n 3, 1) := by decide +kernel
theorem d_T_findWays_85 : decode c_T_findWays 85 = .ok (.iload_n 3, 1) := by decide +kernel
theorem d_T_findWays_86 : decode c_T_findWays 86 = .ok (.aload_n 0, 1) := by decide +kernel
theorem d_T_findWays_87 : decode c_T_findWays 87 = .ok (.getfield 150, 3) := by decide +kernel
theorem d_T_findWays_90 : decode c_T_findWays 90 = .ok (.if_icmp .ge 114, 3) := by decide +kernel
theorem d_T_findWays_93 : decode c_T_findWays 93 = .ok (.aload_n 0, 1) := by decide +kernel
theorem d_T_findWays_94 : decode c_T_findWays 94 = .ok (.getfield 68, 3) := by decide +kernel
theorem d_T_findWays_97 : decode c_T_findWays 97 = .ok (.iload_n 3, 1) := by decide +kernel
theorem d_T_findWays_98 : decode c_T_findWays 98 = .ok (.iaload, 1) := by decide +kernel
theorem d_T_findWays_99 : decode c_T_findWays 99 = .ok (.istore 4, 2) := by decide +kernel
theorem d_T_findWays_101 : decode c_T_findWays 101 = .ok (.aload_n 0, 1) := by decide +kernel
theorem d_T_findWays_102 : decode c_T_findWays 102 = .ok (.getfield 77, 3) := by decide +kernel
theorem d_T_findWays_105 : decode c_T_findWays 105 = .ok (.iload 4, 2) := by decide +kernel
theorem d_T_findWays_107 : decode c_T_findWays 107 = .ok (.iaload, 1) := by decide +kernel
theorem d_T_findWays_108 : decode c_T_findWays 108 = .ok (.ldc 153, 2) := by decide +kernel
theorem d_T_findWays_110 : decode c_T_findWays 110 = .ok (.if_icmp .eq 88, 3) := by decide +kernel
theorem d_T_findWays_113 : decode c_T_findWays 113 = .ok (.iload 4, 2) := by decide +kernel
theorem d_T_findWays_115 : decode c_T_findWays 115 = .ok (.iload_n 1, 1) := by decide +kernel
theorem d_T_findWays_116 : decode c_T_findWays 116 = .ok (.if_icmp .eq 14, 3) := by decide +kernel
theorem d_T_findWays_119 : decode c_T_findWays 119 = .ok (.aload_n 0, 1) := by decide +kernel
theorem d_T_findWays_120 : decode c_T_findWays 120 = .ok (.getfield 31, 3) := by decide +kernel
theorem d_T_findWays_123 : decode c_T_findWays 123 = .ok (.iload 4, 2) := by decide +kernel
theorem d_T_findWays_125 : decode c_T_findWays 125 = .ok (.iaload, 1) := by decide +kernel
theorem d_T_findWays_126 : decode c_T_findWays 126 = .ok (.iconst 4, 1) := by decide +kernel
theorem d_T_findWays_127 : decode c_T_findWays 127 = .ok (.if_icmp .eq 71, 3) := by decide +kernel
theorem d_T_findWays_130 : decode c_T_findWays 130 = .ok (.aload_n 0, 1) := by decide +kernel
theorem d_T_findWays_131 : decode c_T_findWays 131 = .ok (.getfield 77, 3) := by decide +kernel
theorem d_T_findWays_134 : decode c_T_findWays 134 = .ok (.iload 4, 2) := by decide +kernel
theorem d_T_findWays_136 : decode c_T_findWays 136 = .ok (.iaload, 1) := by decide +kernel
theorem d_T_findWays_137 : decode c_T_findWays 137 = .ok (.aload_n 0, 1) := by decide +kernel
theorem d_T_findWays_138 : decode c_T_findWays 138 = .ok (.getfield 74, 3) := by decide +kernel
theorem d_T_findWays_141 : decode c_T_findWays 141 = .ok (.iload_n 3, 1) := by decide +kernel
theorem d_T_findWays_142 : decode c_T_findWays 142 = .ok (.iaload, 1) := by decide +kernel
theorem d_T_findWays_143 : decode c_T_findWays 143 = .ok (.iadd, 1) := by decide +kernel
theorem d_T_findWays_144 : decode c_T_findWays 144 = .ok (.aload_n 0, 1) := by decide +kernel
theorem d_T_findWays_145 : decode c_T_findWays 145 = .ok (.getfield 83, 3) := by decide +kernel
theorem d_T_findWays_148 : decode c_T_findWays 148 = .ok (.aload_n 0, 1) := by decide +kernel
theorem d_T_findWays_149 : decode c_T_findWays 149 = .ok (.getfield 71, 3) := by decide +kernel
theorem d_T_findWays_152 : decode c_T_findWays 152 = .ok (.iload_n 3, 1) := by decide +kernel
theorem d_T_findWays_153 : decode c_T_findWays 153 = .ok (.iaload, 1) := by decide +kernel
theorem d_T_findWays_154 : decode c_T_findWays 154 = .ok (.iaload, 1) := by decide +kernel
theorem d_T_findWays_155 : decode c_T_findWays 155 = .ok (.if_icmp .lt 6, 3) := by decide +kernel
theorem d_T_findWays_158 : decode c_T_findWays 158 = .ok (.goto 40, 3) := by decide +kernel
theorem d_T_findWays_161 : decode c_T_findWays 161 = .ok (.aload_n 0, 1) := by decide +kernel
theorem d_T_findWays_162 : decode c_T_findWays 162 = .ok (.getfield 83, 3) := by decide +kernel
theorem d_T_findWays_165 : decode c_T_findWays 165 = .ok (.aload_n 0, 1) := by decide +kernel
theorem d_T_findWays_166 : decode c_T_findWays 166 = .ok (.getfield 71, 3) := by decide +kernel
theorem d_T_findWays_169 : decode c_T_findWays 169 = .ok (.iload_n 3, 1) := by decide +kernel
theorem d_T_findWays_170 : decode c_T_findWays 170 = .ok (.iaload, 1) := by decide +kernel
theorem d_T_findWays_171 : decode c_T_findWays 171 = .ok (.aload_n 0, 1) := by decide +kernel
theorem d_T_findWays_172 : decode c_T_findWays 172 = .ok (.getfield 77, 3) := by decide +kernel
theorem d_T_findWays_175 : decode c_T_findWays 175 = .ok (.iload 4, 2) := by decide +kernel
theorem d_T_findWays_177 : decode c_T_findWays 177 = .ok (.iaload, 1) := by decide +kernel
theorem d_T_findWays_178 : decode c_T_findWays 178 = .ok (.aload_n 0, 1) := by decide +kernel
theorem d_T_findWays_179 : decode c_T_findWays 179 = .ok (.getfield 74, 3) := by decide +kernel
theorem d_T_findWays_182 : decode c_T_findWays 182 = .ok (.iload_n 3, 1) := by decide +kernel
theorem d_T_findWays_183 : decode c_T_findWays 183 = .ok (.iaload, 1) := by decide +kernel
theorem d_T_findWays_184 : decode c_T_findWays 184 = .ok (.iadd, 1) := by decide +kernel
theorem d_T_findWays_185 : decode c_T_findWays 185 = .ok (.iastore, 1) := by decide +kernel
theorem d_T_findWays_186 : decode c_T_findWays 186 = .ok (.aload_n 0, 1) := by decide +kernel
theorem d_T_findWays_187 : decode c_T_findWays 187 = .ok (.getfield 86, 3) := by decide +kernel
theorem d_T_findWays_190 : decode c_T_findWays 190 = .ok (.aload_n 0, 1) := by decide +kernel
theorem d_T_findWays_191 : decode c_T_findWays 191 = .ok (.getfield 71, 3) := by decide +kernel
theorem d_T_findWays_194 : decode c_T_findWays 194 = .ok (.iload_n 3, 1) := by decide +kernel
theorem d_T_findWays_195 : decode c_T_findWays 195 = .ok (.iaload, 1) := by decide +kernel
theorem d_T_findWays_196 : decode c_T_findWays 196 = .ok (.iload_n 2, 1) := by decide +kernel
theorem d_T_findWays_197 : decode c_T_findWays 197 = .ok (.iastore, 1) := by decide +kernel
theorem d_T_findWays_198 : decode c_T_findWays 198 = .ok (.iinc 3 1, 3) := by decide +kernel
theorem d_T_findWays_201 : decode c_T_findWays 201 = .ok (.goto (-116), 3) := by decide +kernel
theorem d_T_findWays_204 : decode c_T_findWays 204 = .ok (.iconst 0, 1) := by decide +kernel
theorem d_T_findWays_205 : decode c_T_findWays 205 = .ok (.istore_n 3, 1) := by decide +kernel
theorem d_T_findWays_206 : decode c_T_findWays 206 = .ok (.iload_n 3, 1) := by decide +kernel
theorem d_T_findWays_207 : decode c_T_findWays 207 = .ok (.bipush 16, 2) := by decide +kernel
theorem d_T_findWays_209 : decode c_T_findWays 209 = .ok (.if_icmp .ge 33, 3) := by decide +kernel
theorem d_T_findWays_212 : decode c_T_findWays 212 = .ok (.aload_n 0, 1) := by decide +kernel
theorem d_T_findWays_213 : decode c_T_findWays 213 = .ok (.getfield 77, 3) := by decide +kernel
theorem d_T_findWays_216 : decode c_T_findWays 216 = .ok (.iload_n 3, 1) := by decide +kernel
theorem d_T_findWays_217 : decode c_T_findWays 217 = .ok (.aload_n 0, 1) := by decide +kernel
theorem d_T_findWays_218 : decode c_T_findWays 218 = .ok (.getfield 83, 3) := by decide +kernel
theorem d_T_findWays_221 : decode c_T_findWays 221 = .ok (.iload_n 3, 1) := by decide +kernel
theorem d_T_findWays_222 : decode c_T_findWays 222 = .ok (.iaload, 1) := by decide +kernel
theorem d_T_findWays_223 : decode c_T_findWays 223 = .ok (.iastore, 1) := by decide +kernel
theorem d_T_findWays_224 : decode c_T_findWays 224 = .ok (.aload_n 0, 1) := by decide +kernel
theorem d_T_findWays_225 : decode c_T_findWays 225 = .ok (.getfield 80, 3) := by decide +kernel
theorem d_T_findWays_228 : decode c_T_findWays 228 = .ok (.iload_n 3, 1) := by decide +kernel
theorem d_T_findWays_229 : decode c_T_findWays 229 = .ok (.aload_n 0, 1) := by decide +kernel
theorem d_T_findWays_230 : decode c_T_findWays 230 = .ok (.getfield 86, 3) := by decide +kernel
theorem d_T_findWays_233 : decode c_T_findWays 233 = .ok (.iload_n 3, 1) := by decide +kernel
theorem d_T_findWays_234 : decode c_T_findWays 234 = .ok (.iaload, 1) := by decide +kernel
theorem d_T_findWays_235 : decode c_T_findWays 235 = .ok (.iastore, 1) := by decide +kernel
theorem d_T_findWays_236 : decode c_T_findWays 236 = .ok (.iinc 3 1, 3) := by decide +kernel
theorem d_T_findWays_239 : decode c_T_findWays 239 = .ok (.goto (-33), 3) := by decide +kernel
theorem d_T_findWays_242 : decode c_T_findWays 242 = .ok (.iinc 2 1, 3) := by decide +kernel
theorem d_T_findWays_245 : decode c_T_findWays 245 = .ok (.goto (-205), 3) := by decide +kernel
theorem d_T_findWays_248 : decode c_T_findWays 248 = .ok (.return_, 1) := by decide +kernel
theorem d_T_wanted_0 : decode c_T_wanted 0 = .ok (.aload_n 0, 1) := by decide +kernel
theorem d_T_wanted_1 : decode c_T_wanted 1 = .ok (.iload_n 1, 1) := by decide +kernel
theorem d_T_wanted_2 : decode c_T_wanted 2 = .ok (.invokevirtual 147, 3) := by decide +kernel
theorem d_T_wanted_5 : decode c_T_wanted 5 = .ok (.istore_n 2, 1) := by decide +kernel
theorem d_T_wanted_6 : decode c_T_wanted 6 = .ok (.iload_n 2, 1) := by decide +kernel
theorem d_T_wanted_7 : decode c_T_wanted 7 = .ok (.iconst (-1), 1) := by decide +kernel
theorem d_T_wanted_8 : decode c_T_wanted 8 = .ok (.if_icmp .eq 13, 3) := by decide +kernel
theorem d_T_wanted_11 : decode c_T_wanted 11 = .ok (.iload_n 2, 1) := by decide +kernel
theorem d_T_wanted_12 : decode c_T_wanted 12 = .ok (.aload_n 0, 1) := by decide +kernel
theorem d_T_wanted_13 : decode c_T_wanted 13 = .ok (.getfield 62, 3) := by decide +kernel
theorem d_T_wanted_16 : decode c_T_wanted 16 = .ok (.iload_n 1, 1) := by decide +kernel
theorem d_T_wanted_17 : decode c_T_wanted 17 = .ok (.iaload, 1) := by decide +kernel
theorem d_T_wanted_18 : decode c_T_wanted 18 = .ok (.if_icmp .ne 5, 3) := by decide +kernel
theorem d_T_wanted_21 : decode c_T_wanted 21 = .ok (.iconst (-1), 1) := by decide +kernel
theorem d_T_wanted_22 : decode c_T_wanted 22 = .ok (.ireturn, 1) := by decide +kernel
theorem d_T_wanted_23 : decode c_T_wanted 23 = .ok (.aload_n 0, 1) := by decide +kernel
theorem d_T_wanted_24 : decode c_T_wanted 24 = .ok (.getfield 62, 3) := by decide +kernel
theorem d_T_wanted_27 : decode c_T_wanted 27 = .ok (.iload_n 1, 1) := by decide +kernel
theorem d_T_wanted_28 : decode c_T_wanted 28 = .ok (.iaload, 1) := by decide +kernel
theorem d_T_wanted_29 : decode c_T_wanted 29 = .ok (.iconst (-1), 1) := by decide +kernel
theorem d_T_wanted_30 : decode c_T_wanted 30 = .ok (.if_icmp .eq 16, 3) := by decide +kernel
theorem d_T_wanted_33 : decode c_T_wanted 33 = .ok (.aload_n 0, 1) := by decide +kernel
theorem d_T_wanted_34 : decode c_T_wanted 34 = .ok (.aload_n 0, 1) := by decide +kernel
theorem d_T_wanted_35 : decode c_T_wanted 35 = .ok (.getfield 62, 3) := by decide +kernel
theorem d_T_wanted_38 : decode c_T_wanted 38 = .ok (.iload_n 1, 1) := by decide +kernel
theorem d_T_wanted_39 : decode c_T_wanted 39 = .ok (.iaload, 1) := by decide +kernel
theorem d_T_wanted_40 : decode c_T_wanted 40 = .ok (.invokevirtual 154, 3) := by decide +kernel
theorem d_T_wanted_43 : decode c_T_wanted 43 = .ok (.goto 11, 3) := by decide +kernel
theorem d_T_wanted_46 : decode c_T_wanted 46 = .ok (.aload_n 0, 1) := by decide +kernel
theorem d_T_wanted_47 : decode c_T_wanted 47 = .ok (.getfield 77, 3) := by decide +kernel
theorem d_T_wanted_50 : decode c_T_wanted 50 = .ok (.iload_n 2, 1) := by decide +kernel
theorem d_T_wanted_51 : decode c_T_wanted 51 = .ok (.ldc 153, 2) := by decide +kernel
theorem d_T_wanted_53 : decode c_T_wanted 53 = .ok (.iastore, 1) := by decide +kernel
theorem d_T_wanted_54 : decode c_T_wanted 54 = .ok (.iload_n 2, 1) := by decide +kernel
theorem d_T_wanted_55 : decode c_T_wanted 55 = .ok (.ireturn, 1) := by decide +kernel
theorem d_T_cost_0 : decode c_T_cost 0 = .ok (.aload_n 0, 1) := by decide +kernel
theorem d_T_cost_1 : decode c_T_cost 1 = .ok (.iconst 0, 1) := by decide +kernel
theorem d_T_cost_2 : decode c_T_cost 2 = .ok (.putfield 89, 3) := by decide +kernel
theorem d_T_cost_5 : decode c_T_cost 5 = .ok (.aload_n 0, 1) := by decide +kernel
theorem d_T_cost_6 : decode c_T_cost 6 = .ok (.iload_n 1, 1) := by decide +kernel
theorem d_T_cost_7 : decode c_T_cost 7 = .ok (.invokevirtual 134, 3) := by decide +kernel
theorem d_T_cost_10 : decode c_T_cost 10 = .ok (.ifCond .ne 5, 3) := by decide +kernel
theorem d_T_cost_13 : decode c_T_cost 13 = .ok (.iconst (-1), 1) := by decide +kernel
theorem d_T_cost_14 : decode c_T_cost 14 = .ok (.ireturn, 1) := by decide +kernel
theorem d_T_cost_15 : decode c_T_cost 15 = .ok (.aload_n 0, 1) := by decide +kernel
theorem d_T_cost_16 : decode c_T_cost 16 = .ok (.iload_n 1, 1) := by decide +kernel
theorem d_T_cost_17 : decode c_T_cost 17 = .ok (.invokevirtual 157, 3) := by decide +kernel
theorem d_T_cost_20 : decode c_T_cost 20 = .ok (.istore_n 2, 1) := by decide +kernel
theorem d_T_cost_21 : decode c_T_cost 21 = .ok (.iload_n 2, 1) := by decide +kernel
theorem d_T_cost_22 : decode c_T_cost 22 = .ok (.iconst (-1), 1) := by decide +kernel
theorem d_T_cost_23 : decode c_T_cost 23 = .ok (.if_icmp .ne 7, 3) := by decide +kernel
theorem d_T_cost_26 : decode c_T_cost 26 = .ok (.iconst 0, 1) := by decide +kernel
theorem d_T_cost_27 : decode c_T_cost 27 = .ok (.goto 33, 3) := by decide +kernel
theorem d_T_cost_30 : decode c_T_cost 30 = .ok (.aload_n 0, 1) := by decide +kernel
theorem d_T_cost_31 : decode c_T_cost 31 = .ok (.getfield 77, 3) := by decide +kernel
theorem d_T_cost_34 : decode c_T_cost 34 = .ok (.iload_n 2, 1) := by decide +kernel
theorem d_T_cost_35 : decode c_T_cost 35 = .ok (.iaload, 1) := by decide +kernel
theorem d_T_cost_36 : decode c_T_cost 36 = .ok (.aload_n 0, 1) := by decide +kernel
theorem d_T_cost_37 : decode c_T_cost 37 = .ok (.getfield 13, 3) := by decide +kernel
theorem d_T_cost_40 : decode c_T_cost 40 = .ok (.iload_n 2, 1) := by decide +kernel
theorem d_T_cost_41 : decode c_T_cost 41 = .ok (.iaload, 1) := by decide +kernel
theorem d_T_cost_42 : decode c_T_cost 42 = .ok (.if_icmp .ge 12, 3) := by decide +kernel
theorem d_T_cost_45 : decode c_T_cost 45 = .ok (.aload_n 0, 1) := by decide +kernel
theorem d_T_cost_46 : decode c_T_cost 46 = .ok (.getfield 77, 3) := by decide +kernel
theorem d_T_cost_49 : decode c_T_cost 49 = .ok (.iload_n 2, 1) := by decide +kernel
theorem d_T_cost_50 : decode c_T_cost 50 = .ok (.iaload, 1) := by decide +kernel
theorem d_T_cost_51 : decode c_T_cost 51 = .ok (.goto 9, 3) := by decide +kernel
theorem d_T_cost_54 : decode c_T_cost 54 = .ok (.aload_n 0, 1) := by decide +kernel
theorem d_T_cost_55 : decode c_T_cost 55 = .ok (.getfield 13, 3) := by decide +kernel
theorem d_T_cost_58 : decode c_T_cost 58 = .ok (.iload_n 2, 1) := by decide +kernel
theorem d_T_cost_59 : decode c_T_cost 59 = .ok (.iaload, 1) := by decide +kernel
theorem d_T_cost_60 : decode c_T_cost 60 = .ok (.ireturn, 1) := by decide +kernel
theorem d_T_steps_0 : decode c_T_steps 0 = .ok (.aload_n 0, 1) := by decide +kernel
theorem d_T_steps_1 : decode c_T_steps 1 = .ok (.iconst 0, 1) := by decide +kernel
theorem d_T_steps_2 : decode c_T_steps 2 = .ok (.putfield 89, 3) := by decide +kernel
theorem d_T_steps_5 : decode c_T_steps 5 = .ok (.aload_n 0, 1) := by decide +kernel
theorem d_T_steps_6 : decode c_T_steps 6 = .ok (.iload_n 1, 1) := by decide +kernel
theorem d_T_steps_7 : decode c_T_steps 7 = .ok (.invokevirtual 134, 3) := by decide +kernel
theorem d_T_steps_10 : decode c_T_steps 10 = .ok (.ifCond .ne 5, 3) := by decide +kernel
theorem d_T_steps_13 : decode c_T_steps 13 = .ok (.iconst (-1), 1) := by decide +kernel
theorem d_T_steps_14 : decode c_T_steps 14 = .ok (.ireturn, 1) := by decide +kernel
theorem d_T_steps_15 : decode c_T_steps 15 = .ok (.aload_n 0, 1) := by decide +kernel
theorem d_T_steps_16 : decode c_T_steps 16 = .ok (.iload_n 1, 1) := by decide +kernel
theorem d_T_steps_17 : decode c_T_steps 17 = .ok (.invokevirtual 157, 3) := by decide +kernel
theorem d_T_steps_20 : decode c_T_steps 20 = .ok (.istore_n 2, 1) := by decide +kernel
theorem d_T_steps_21 : decode c_T_steps 21 = .ok (.iload_n 2, 1) := by decide +kernel
theorem d_T_steps_22 : decode c_T_steps 22 = .ok (.iconst (-1), 1) := by decide +kernel
theorem d_T_steps_23 : decode c_T_steps 23 = .ok (.if_icmp .eq 27, 3) := by decide +kernel
theorem d_T_steps_26 : decode c_T_steps 26 = .ok (.aload_n 0, 1) := by decide +kernel
theorem d_T_steps_27 : decode c_T_steps 27 = .ok (.getfield 77, 3) := by decide +kernel
theorem d_T_steps_30 : decode c_T_steps 30 = .ok (.iload_n 2, 1) := by decide +kernel
theorem d_T_steps_31 : decode c_T_steps 31 = .ok (.iaload, 1) := by decide +kernel
theorem d_T_steps_32 : decode c_T_steps 32 = .ok (.aload_n 0, 1) := by decide +kernel
theorem d_T_steps_33 : decode c_T_steps 33 = .ok (.getfield 13, 3) := by decide +kernel
theorem d_T_steps_36 : decode c_T_steps 36 = .ok (.iload_n 2, 1) := by decide +kernel
theorem d_T_steps_37 : decode c_T_steps 37 = .ok (.iaload, 1) := by decide +kernel
theorem d_T_steps_38 : decode c_T_steps 38 = .ok (.if_icmp .ge 12, 3) := by decide +kernel
theorem d_T_steps_41 : decode c_T_steps 41 = .ok (.aload_n 0, 1) := by decide +kernel
theorem d_T_steps_42 : decode c_T_steps 42 = .ok (.getfield 80, 3) := by decide +kernel
theorem d_T_steps_45 : decode c_T_steps 45 = .ok (.iload_n 2, 1) := by decide +kernel
theorem d_T_steps_46 : decode c_T_steps 46 = .ok (.iaload, 1) := by decide +kernel
theorem d_T_steps_47 : decode c_T_steps 47 = .ok (.goto 4, 3) := by decide +kernel
theorem d_T_steps_50 : decode c_T_steps 50 = .ok (.iconst 0, 1) := by decide +kernel
theorem d_T_steps_51 : decode c_T_steps 51 = .ok (.ireturn, 1) := by decide +kernel
theorem d_T_update_0 : decode c_T_update 0 = .ok (.aload_n 0, 1) := by decide +kernel
theorem d_T_update_1 : decode c_T_update 1 = .ok (.iconst 0, 1) := by decide +kernel
theorem d_T_update_2 : decode c_T_update 2 = .ok (.putfield 89, 3) := by decide +kernel
theorem d_T_update_5 : decode c_T_update 5 = .ok (.aload_n 0, 1) := by decide +kernel
theorem d_T_update_6 : decode c_T_update 6 = .ok (.iload_n 1, 1) := by decide +kernel
theorem d_T_update_7 : decode c_T_update 7 = .ok (.invokevirtual 134, 3) := by decide +kernel
theorem d_T_update_10 : decode c_T_update 10 = .ok (.ifCond .eq 12, 3) := by decide +kernel
theorem d_T_update_13 : decode c_T_update 13 = .ok (.aload_n 0, 1) := by decide +kernel
theorem d_T_update_14 : decode c_T_update 14 = .ok (.iload_n 1, 1) := by decide +kernel
theorem d_T_update_15 : decode c_T_update 15 = .ok (.invokevirtual 147, 3) := by decide +kernel
theorem d_T_update_18 : decode c_T_update 18 = .ok (.iconst (-1), 1) := by decide +kernel
theorem d_T_update_19 : decode c_T_update 19 = .ok (.if_icmp .ne 5, 3) := by decide +kernel
theorem d_T_update_22 : decode c_T_update 22 = .ok (.iconst (-1), 1) := by decide +kernel
theorem d_T_update_23 : decode c_T_update 23 = .ok (.ireturn, 1) := by decide +kernel
theorem d_T_update_24 : decode c_T_update 24 = .ok (.aload_n 0, 1) := by decide +kernel
theorem d_T_update_25 : decode c_T_update 25 = .ok (.getfield 62, 3) := by decide +kernel
theorem d_T_update_28 : decode c_T_update 28 = .ok (.iload_n 1, 1) := by decide +kernel
theorem d_T_update_29 : decode c_T_update 29 = .ok (.aload_n 0, 1) := by decide +kernel
theorem d_T_update_30 : decode c_T_update 30 = .ok (.iload_n 1, 1) := by decide +kernel
theorem d_T_update_31 : decode c_T_update 31 = .ok (.invokevirtual 147, 3) := by decide +kernel
theorem d_T_update_34 : decode c_T_update 34 = .ok (.iastore, 1) := by decide +kernel
theorem d_T_update_35 : decode c_T_update 35 = .ok (.aload_n 0, 1) := by decide +kernel
theorem d_T_update_36 : decode c_T_update 36 = .ok (.getfield 62, 3) := by decide +kernel
theorem d_T_update_39 : decode c_T_update 39 = .ok (.iload_n 1, 1) := by decide +kernel
theorem d_T_update_40 : decode c_T_update 40 = .ok (.iaload, 1) := by decide +kernel
theorem d_T_update_41 : decode c_T_update 41 = .ok (.ireturn, 1) := by decide +kernel
theorem d_T_has_0 : decode c_T_has 0 = .ok (.aload_n 0, 1) := by decide +kernel
theorem d_T_has_1 : decode c_T_has 1 = .ok (.iconst 0, 1) := by decide +kernel
theorem d_T_has_2 : decode c_T_has 2 = .ok (.putfield 89, 3) := by decide +kernel
theorem d_T_has_5 : decode c_T_has 5 = .ok (.aload_n 0, 1) := by decide +kernel
theorem d_T_has_6 : decode c_T_has 6 = .ok (.iload_n 1, 1) := by decide +kernel
theorem d_T_has_7 : decode c_T_has 7 = .ok (.invokevirtual 134, 3) := by decide +kernel
theorem d_T_has_10 : decode c_T_has 10 = .ok (.ifCond .eq 12, 3) := by decide +kernel
theorem d_T_has_13 : decode c_T_has 13 = .ok (.aload_n 0, 1) := by decide +kernel
theorem d_T_has_14 : decode c_T_has 14 = .ok (.getfield 62, 3) := by decide +kernel
theorem d_T_has_17 : decode c_T_has 17 = .ok (.iload_n 1, 1) := by decide +kernel
theorem d_T_has_18 : decode c_T_has 18 = .ok (.iaload, 1) := by decide +kernel
theorem d_T_has_19 : decode c_T_has 19 = .ok (.goto 4, 3) := by decide +kernel
theorem d_T_has_22 : decode c_T_has 22 = .ok (.iconst (-1), 1) := by decide +kernel
theorem d_T_has_23 : decode c_T_has 23 = .ok (.ireturn, 1) := by decide +kernel
theorem d_D_init_0 : decode c_D_init 0 = .ok (.aload_n 0, 1) := by decide +kernel
theorem d_D_init_1 : decode c_D_init 1 = .ok (.invokespecial 3, 3) := by decide +kernel
theorem d_D_init_4 : decode c_D_init 4 = .ok (.aload_n 0, 1) := by decide +kernel
theorem d_D_init_5 : decode c_D_init 5 = .ok (.bipush 40, 2) := by decide +kernel
theorem d_D_init_7 : decode c_D_init 7 = .ok (.newarray .int, 2) := by decide +kernel
theorem d_D_init_9 : decode c_D_init 9 = .ok (.putfield 9, 3) := by decide +kernel
theorem d_D_init_12 : decode c_D_init 12 = .ok (.aload_n 0, 1) := by decide +kernel
theorem d_D_init_13 : decode c_D_init 13 = .ok (.bipush 40, 2) := by decide +kernel
theorem d_D_init_15 : decode c_D_init 15 = .ok (.newarray .int, 2) := by decide +kernel
theorem d_D_init_17 : decode c_D_init 17 = .ok (.putfield 15, 3) := by decide +kernel
theorem d_D_init_20 : decode c_D_init 20 = .ok (.aload_n 0, 1) := by decide +kernel
theorem d_D_init_21 : decode c_D_init 21 = .ok (.bipush 40, 2) := by decide +kernel
theorem d_D_init_23 : decode c_D_init 23 = .ok (.newarray .int, 2) := by decide +kernel
theorem d_D_init_25 : decode c_D_init 25 = .ok (.putfield 18, 3) := by decide +kernel
theorem d_D_init_28 : decode c_D_init 28 = .ok (.aload_n 0, 1) := by decide +kernel
theorem d_D_init_29 : decode c_D_init 29 = .ok (.bipush 16, 2) := by decide +kernel
theorem d_D_init_31 : decode c_D_init 31 = .ok (.newarray .int, 2) := by decide +kernel
theorem d_D_init_33 : decode c_D_init 33 = .ok (.putfield 21, 3) := by decide +kernel
theorem d_D_init_36 : decode c_D_init 36 = .ok (.aload_n 0, 1) := by decide +kernel
theorem d_D_init_37 : decode c_D_init 37 = .ok (.bipush 16, 2) := by decide +kernel
theorem d_D_init_39 : decode c_D_init 39 = .ok (.newarray .int, 2) := by decide +kernel
theorem d_D_init_41 : decode c_D_init 41 = .ok (.putfield 24, 3) := by decide +kernel
theorem d_D_init_44 : decode c_D_init 44 = .ok (.return_, 1) := by decide +kernel
theorem d_D_put_0 : decode c_D_put 0 = .ok (.aload_n 0, 1) := by decide +kernel
theorem d_D_put_1 : decode c_D_put 1 = .ok (.iload_n 1, 1) := by decide +kernel
theorem d_D_put_2 : decode c_D_put 2 = .ok (.iload_n 2, 1) := by decide +kernel
theorem d_D_put_3 : decode c_D_put 3 = .ok (.invokevirtual 27, 3) := by decide +kernel
theorem d_D_put_6 : decode c_D_put 6 = .ok (.istore 4, 2) := by decide +kernel
theorem d_D_put_8 : decode c_D_put 8 = .ok (.iload 4, 2) := by decide +kernel
theorem d_D_put_10 : decode c_D_put 10 = .ok (.iconst 0, 1) := by decide +kernel
theorem d_D_put_11 : decode c_D_put 11 = .ok (.bipush 39, 2) := by decide +kernel
theorem d_D_put_13 : decode c_D_put 13 = .ok (.invokestatic 31, 3) := by decide +kernel
theorem d_D_put_16 : decode c_D_put 16 = .ok (.ifCond .ne 5, 3) := by decide +kernel
theorem d_D_put_19 : decode c_D_put 19 = .ok (.iconst 0, 1) := by decide +kernel
theorem d_D_put_20 : decode c_D_put 20 = .ok (.ireturn, 1) := by decide +kernel
theorem d_D_put_21 : decode c_D_put 21 = .ok (.aload_n 0, 1) := by decide +kernel
theorem d_D_put_22 : decode c_D_put 22 = .ok (.getfield 9, 3) := by decide +kernel
theorem d_D_put_25 : decode c_D_put 25 = .ok (.iload 4, 2) := by decide +kernel
theorem d_D_put_27 : decode c_D_put 27 = .ok (.iload_n 1, 1) := by decide +kernel
end
section
theorem d_D_put_28 : decode c_D_put 28 = .ok (.iastore, 1) := by decide +kernel
theorem d_D_put_29 : decode c_D_put 29 = .ok (.aload_n 0, 1) := by decide +kernel
theorem d_D_put_30 : decode c_D_put 30 = .ok (.getfield 15, 3) := by decide +kernel
theorem d_D_put_33 : decode c_D_put 33 = .ok (.iload 4, 2) := by decide +kernel
theorem d_D_put_35 : decode c_D_put 35 = .ok (.iload_n 2, 1) := by decide +kernel
theorem d_D_put_36 : decode c_D_put 36 = .ok (.iastore, 1) := by decide +kernel
theorem d_D_put_37 : decode c_D_put 37 = .ok (.aload_n 0, 1) := by decide +kernel
theorem d_D_put_38 : decode c_D_put 38 = .ok (.getfield 18, 3) := by decide +kernel
theorem d_D_put_41 : decode c_D_put 41 = .ok (.iload 4, 2) := by decide +kernel
theorem d_D_put_43 : decode c_D_put 43 = .ok (.iload_n 3, 1) := by decide +kernel
theorem d_D_put_44 : decode c_D_put 44 = .ok (.iastore, 1) := by decide +kernel
theorem d_D_put_45 : decode c_D_put 45 = .ok (.aload_n 0, 1) := by decide +kernel
theorem d_D_put_46 : decode c_D_put 46 = .ok (.aload_n 0, 1) := by decide +kernel
theorem d_D_put_47 : decode c_D_put 47 = .ok (.getfield 35, 3) := by decide +kernel
theorem d_D_put_50 : decode c_D_put 50 = .ok (.iload 4, 2) := by decide +kernel
theorem d_D_put_52 : decode c_D_put 52 = .ok (.iconst 1, 1) := by decide +kernel
theorem d_D_put_53 : decode c_D_put 53 = .ok (.iadd, 1) := by decide +kernel
theorem d_D_put_54 : decode c_D_put 54 = .ok (.invokestatic 39, 3) := by decide +kernel
theorem d_D_put_57 : decode c_D_put 57 = .ok (.putfield 35, 3) := by decide +kernel
theorem d_D_put_60 : decode c_D_put 60 = .ok (.iconst 1, 1) := by decide +kernel
theorem d_D_put_61 : decode c_D_put 61 = .ok (.ireturn, 1) := by decide +kernel
theorem d_D_placeOf_0 : decode c_D_placeOf 0 = .ok (.iconst 0, 1) := by decide +kernel
theorem d_D_placeOf_1 : decode c_D_placeOf 1 = .ok (.istore_n 3, 1) := by decide +kernel
theorem d_D_placeOf_2 : decode c_D_placeOf 2 = .ok (.iload_n 3, 1) := by decide +kernel
theorem d_D_placeOf_3 : decode c_D_placeOf 3 = .ok (.aload_n 0, 1) := by decide +kernel
theorem d_D_placeOf_4 : decode c_D_placeOf 4 = .ok (.getfield 35, 3) := by decide +kernel
theorem d_D_placeOf_7 : decode c_D_placeOf 7 = .ok (.if_icmp .ge 31, 3) := by decide +kernel
theorem d_D_placeOf_10 : decode c_D_placeOf 10 = .ok (.aload_n 0, 1) := by decide +kernel
theorem d_D_placeOf_11 : decode c_D_placeOf 11 = .ok (.getfield 9, 3) := by decide +kernel
theorem d_D_placeOf_14 : decode c_D_placeOf 14 = .ok (.iload_n 3, 1) := by decide +kernel
theorem d_D_placeOf_15 : decode c_D_placeOf 15 = .ok (.iaload, 1) := by decide +kernel
theorem d_D_placeOf_16 : decode c_D_placeOf 16 = .ok (.iload_n 1, 1) := by decide +kernel
theorem d_D_placeOf_17 : decode c_D_placeOf 17 = .ok (.if_icmp .ne 15, 3) := by decide +kernel
theorem d_D_placeOf_20 : decode c_D_placeOf 20 = .ok (.aload_n 0, 1) := by decide +kernel
theorem d_D_placeOf_21 : decode c_D_placeOf 21 = .ok (.getfield 15, 3) := by decide +kernel
theorem d_D_placeOf_24 : decode c_D_placeOf 24 = .ok (.iload_n 3, 1) := by decide +kernel
theorem d_D_placeOf_25 : decode c_D_placeOf 25 = .ok (.iaload, 1) := by decide +kernel
theorem d_D_placeOf_26 : decode c_D_placeOf 26 = .ok (.iload_n 2, 1) := by decide +kernel
theorem d_D_placeOf_27 : decode c_D_placeOf 27 = .ok (.if_icmp .ne 5, 3) := by decide +kernel
theorem d_D_placeOf_30 : decode c_D_placeOf 30 = .ok (.iload_n 3, 1) := by decide +kernel
theorem d_D_placeOf_31 : decode c_D_placeOf 31 = .ok (.ireturn, 1) := by decide +kernel
theorem d_D_placeOf_32 : decode c_D_placeOf 32 = .ok (.iinc 3 1, 3) := by decide +kernel
theorem d_D_placeOf_35 : decode c_D_placeOf 35 = .ok (.goto (-33), 3) := by decide +kernel
theorem d_D_placeOf_38 : decode c_D_placeOf 38 = .ok (.aload_n 0, 1) := by decide +kernel
theorem d_D_placeOf_39 : decode c_D_placeOf 39 = .ok (.getfield 35, 3) := by decide +kernel
theorem d_D_placeOf_42 : decode c_D_placeOf 42 = .ok (.ireturn, 1) := by decide +kernel
theorem d_D_setWay_0 : decode c_D_setWay 0 = .ok (.aload_n 0, 1) := by decide +kernel
theorem d_D_setWay_1 : decode c_D_setWay 1 = .ok (.iload_n 1, 1) := by decide +kernel
theorem d_D_setWay_2 : decode c_D_setWay 2 = .ok (.putfield 44, 3) := by decide +kernel
theorem d_D_setWay_5 : decode c_D_setWay 5 = .ok (.aload_n 0, 1) := by decide +kernel
theorem d_D_setWay_6 : decode c_D_setWay 6 = .ok (.iload_n 2, 1) := by decide +kernel
theorem d_D_setWay_7 : decode c_D_setWay 7 = .ok (.putfield 47, 3) := by decide +kernel
theorem d_D_setWay_10 : decode c_D_setWay 10 = .ok (.return_, 1) := by decide +kernel
theorem d_D_searchCheaper_0 : decode c_D_searchCheaper 0 = .ok (.aload_n 0, 1) := by decide +kernel
theorem d_D_searchCheaper_1 : decode c_D_searchCheaper 1 = .ok (.getfield 21, 3) := by decide +kernel
theorem d_D_searchCheaper_4 : decode c_D_searchCheaper 4 = .ok (.ldc 50, 2) := by decide +kernel
theorem d_D_searchCheaper_6 : decode c_D_searchCheaper 6 = .ok (.invokestatic 51, 3) := by decide +kernel
theorem d_D_searchCheaper_9 : decode c_D_searchCheaper 9 = .ok (.aload_n 0, 1) := by decide +kernel
theorem d_D_searchCheaper_10 : decode c_D_searchCheaper 10 = .ok (.getfield 21, 3) := by decide +kernel
theorem d_D_searchCheaper_13 : decode c_D_searchCheaper 13 = .ok (.iload_n 1, 1) := by decide +kernel
theorem d_D_searchCheaper_14 : decode c_D_searchCheaper 14 = .ok (.iconst 0, 1) := by decide +kernel
theorem d_D_searchCheaper_15 : decode c_D_searchCheaper 15 = .ok (.invokestatic 57, 3) := by decide +kernel
theorem d_D_searchCheaper_18 : decode c_D_searchCheaper 18 = .ok (.iconst 1, 1) := by decide +kernel
theorem d_D_searchCheaper_19 : decode c_D_searchCheaper 19 = .ok (.istore 4, 2) := by decide +kernel
theorem d_D_searchCheaper_21 : decode c_D_searchCheaper 21 = .ok (.iload 4, 2) := by decide +kernel
theorem d_D_searchCheaper_23 : decode c_D_searchCheaper 23 = .ok (.iconst 4, 1) := by decide +kernel
theorem d_D_searchCheaper_24 : decode c_D_searchCheaper 24 = .ok (.if_icmp .gt 60, 3) := by decide +kernel
theorem d_D_searchCheaper_27 : decode c_D_searchCheaper 27 = .ok (.aload_n 0, 1) := by decide +kernel
theorem d_D_searchCheaper_28 : decode c_D_searchCheaper 28 = .ok (.invokevirtual 61, 3) := by decide +kernel
theorem d_D_searchCheaper_31 : decode c_D_searchCheaper 31 = .ok (.aload_n 0, 1) := by decide +kernel
theorem d_D_searchCheaper_32 : decode c_D_searchCheaper 32 = .ok (.getfield 24, 3) := by decide +kernel
theorem d_D_searchCheaper_35 : decode c_D_searchCheaper 35 = .ok (.iload_n 2, 1) := by decide +kernel
theorem d_D_searchCheaper_36 : decode c_D_searchCheaper 36 = .ok (.invokestatic 64, 3) := by decide +kernel
theorem d_D_searchCheaper_39 : decode c_D_searchCheaper 39 = .ok (.istore 5, 2) := by decide +kernel
theorem d_D_searchCheaper_41 : decode c_D_searchCheaper 41 = .ok (.iload 5, 2) := by decide +kernel
theorem d_D_searchCheaper_43 : decode c_D_searchCheaper 43 = .ok (.aload_n 0, 1) := by decide +kernel
theorem d_D_searchCheaper_44 : decode c_D_searchCheaper 44 = .ok (.getfield 44, 3) := by decide +kernel
theorem d_D_searchCheaper_47 : decode c_D_searchCheaper 47 = .ok (.if_icmp .ge 11, 3) := by decide +kernel
theorem d_D_searchCheaper_50 : decode c_D_searchCheaper 50 = .ok (.aload_n 0, 1) := by decide +kernel
theorem d_D_searchCheaper_51 : decode c_D_searchCheaper 51 = .ok (.iload 5, 2) := by decide +kernel
theorem d_D_searchCheaper_53 : decode c_D_searchCheaper 53 = .ok (.iload 4, 2) := by decide +kernel
theorem d_D_searchCheaper_55 : decode c_D_searchCheaper 55 = .ok (.invokevirtual 68, 3) := by decide +kernel
theorem d_D_searchCheaper_58 : decode c_D_searchCheaper 58 = .ok (.aload_n 0, 1) := by decide +kernel
theorem d_D_searchCheaper_59 : decode c_D_searchCheaper 59 = .ok (.getfield 24, 3) := by decide +kernel
theorem d_D_searchCheaper_62 : decode c_D_searchCheaper 62 = .ok (.iconst 0, 1) := by decide +kernel
theorem d_D_searchCheaper_63 : decode c_D_searchCheaper 63 = .ok (.aload_n 0, 1) := by decide +kernel
theorem d_D_searchCheaper_64 : decode c_D_searchCheaper 64 = .ok (.getfield 21, 3) := by decide +kernel
theorem d_D_searchCheaper_67 : decode c_D_searchCheaper 67 = .ok (.iconst 0, 1) := by decide +kernel
theorem d_D_searchCheaper_68 : decode c_D_searchCheaper 68 = .ok (.bipush 16, 2) := by decide +kernel
theorem d_D_searchCheaper_70 : decode c_D_searchCheaper 70 = .ok (.invokestatic 72, 3) := by decide +kernel
theorem d_D_searchCheaper_73 : decode c_D_searchCheaper 73 = .ok (.aload_n 0, 1) := by decide +kernel
theorem d_D_searchCheaper_74 : decode c_D_searchCheaper 74 = .ok (.aload_n 3, 1) := by decide +kernel
theorem d_D_searchCheaper_75 : decode c_D_searchCheaper 75 = .ok (.invokevirtual 78, 3) := by decide +kernel
theorem d_D_searchCheaper_78 : decode c_D_searchCheaper 78 = .ok (.iinc 4 1, 3) := by decide +kernel
theorem d_D_searchCheaper_81 : decode c_D_searchCheaper 81 = .ok (.goto (-60), 3) := by decide +kernel
theorem d_D_searchCheaper_84 : decode c_D_searchCheaper 84 = .ok (.return_, 1) := by decide +kernel
theorem d_D_takeOneMore_0 : decode c_D_takeOneMore 0 = .ok (.aload_n 0, 1) := by decide +kernel
theorem d_D_takeOneMore_1 : decode c_D_takeOneMore 1 = .ok (.getfield 24, 3) := by decide +kernel
theorem d_D_takeOneMore_4 : decode c_D_takeOneMore 4 = .ok (.ldc 50, 2) := by decide +kernel
theorem d_D_takeOneMore_6 : decode c_D_takeOneMore 6 = .ok (.invokestatic 51, 3) := by decide +kernel
theorem d_D_takeOneMore_9 : decode c_D_takeOneMore 9 = .ok (.iconst 0, 1) := by decide +kernel
theorem d_D_takeOneMore_10 : decode c_D_takeOneMore 10 = .ok (.istore_n 1, 1) := by decide +kernel
theorem d_D_takeOneMore_11 : decode c_D_takeOneMore 11 = .ok (.iload_n 1, 1) := by decide +kernel
theorem d_D_takeOneMore_12 : decode c_D_takeOneMore 12 = .ok (.aload_n 0, 1) := by decide +kernel
theorem d_D_takeOneMore_13 : decode c_D_takeOneMore 13 = .ok (.getfield 35, 3) := by decide +kernel
theorem d_D_takeOneMore_16 : decode c_D_takeOneMore 16 = .ok (.if_icmp .ge 50, 3) := by decide +kernel
theorem d_D_takeOneMore_19 : decode c_D_takeOneMore 19 = .ok (.aload_n 0, 1) := by decide +kernel
theorem d_D_takeOneMore_20 : decode c_D_takeOneMore 20 = .ok (.getfield 21, 3) := by decide +kernel
theorem d_D_takeOneMore_23 : decode c_D_takeOneMore 23 = .ok (.aload_n 0, 1) := by decide +kernel
theorem d_D_takeOneMore_24 : decode c_D_takeOneMore 24 = .ok (.getfield 9, 3) := by decide +kernel
theorem d_D_takeOneMore_27 : decode c_D_takeOneMore 27 = .ok (.iload_n 1, 1) := by decide +kernel
theorem d_D_takeOneMore_28 : decode c_D_takeOneMore 28 = .ok (.iaload, 1) := by decide +kernel
theorem d_D_takeOneMore_29 : decode c_D_takeOneMore 29 = .ok (.invokestatic 64, 3) := by decide +kernel
theorem d_D_takeOneMore_32 : decode c_D_takeOneMore 32 = .ok (.istore_n 2, 1) := by decide +kernel
theorem d_D_takeOneMore_33 : decode c_D_takeOneMore 33 = .ok (.iload_n 2, 1) := by decide +kernel
theorem d_D_takeOneMore_34 : decode c_D_takeOneMore 34 = .ok (.ldc 50, 2) := by decide +kernel
theorem d_D_takeOneMore_36 : decode c_D_takeOneMore 36 = .ok (.if_icmp .eq 24, 3) := by decide +kernel
theorem d_D_takeOneMore_39 : decode c_D_takeOneMore 39 = .ok (.aload_n 0, 1) := by decide +kernel
theorem d_D_takeOneMore_40 : decode c_D_takeOneMore 40 = .ok (.getfield 24, 3) := by decide +kernel
theorem d_D_takeOneMore_43 : decode c_D_takeOneMore 43 = .ok (.aload_n 0, 1) := by decide +kernel
theorem d_D_takeOneMore_44 : decode c_D_takeOneMore 44 = .ok (.getfield 15, 3) := by decide +kernel
theorem d_D_takeOneMore_47 : decode c_D_takeOneMore 47 = .ok (.iload_n 1, 1) := by decide +kernel
theorem d_D_takeOneMore_48 : decode c_D_takeOneMore 48 = .ok (.iaload, 1) := by decide +kernel
theorem d_D_takeOneMore_49 : decode c_D_takeOneMore 49 = .ok (.iload_n 2, 1) := by decide +kernel
theorem d_D_takeOneMore_50 : decode c_D_takeOneMore 50 = .ok (.aload_n 0, 1) := by decide +kernel
theorem d_D_takeOneMore_51 : decode c_D_takeOneMore 51 = .ok (.getfield 18, 3) := by decide +kernel
theorem d_D_takeOneMore_54 : decode c_D_takeOneMore 54 = .ok (.iload_n 1, 1) := by decide +kernel
theorem d_D_takeOneMore_55 : decode c_D_takeOneMore 55 = .ok (.iaload, 1) := by decide +kernel
theorem d_D_takeOneMore_56 : decode c_D_takeOneMore 56 = .ok (.iadd, 1) := by decide +kernel
theorem d_D_takeOneMore_57 : decode c_D_takeOneMore 57 = .ok (.invokestatic 57, 3) := by decide +kernel
theorem d_D_takeOneMore_60 : decode c_D_takeOneMore 60 = .ok (.iinc 1 1, 3) := by decide +kernel
theorem d_D_takeOneMore_63 : decode c_D_takeOneMore 63 = .ok (.goto (-52), 3) := by decide +kernel
theorem d_D_takeOneMore_66 : decode c_D_takeOneMore 66 = .ok (.return_, 1) := by decide +kernel
theorem d_D_dropRevoked_0 : decode c_D_dropRevoked 0 = .ok (.iconst 0, 1) := by decide +kernel
theorem d_D_dropRevoked_1 : decode c_D_dropRevoked 1 = .ok (.istore_n 2, 1) := by decide +kernel
theorem d_D_dropRevoked_2 : decode c_D_dropRevoked 2 = .ok (.iload_n 2, 1) := by decide +kernel
theorem d_D_dropRevoked_3 : decode c_D_dropRevoked 3 = .ok (.aload_n 1, 1) := by decide +kernel
theorem d_D_dropRevoked_4 : decode c_D_dropRevoked 4 = .ok (.arraylength, 1) := by decide +kernel
theorem d_D_dropRevoked_5 : decode c_D_dropRevoked 5 = .ok (.if_icmp .ge 39, 3) := by decide +kernel
theorem d_D_dropRevoked_8 : decode c_D_dropRevoked 8 = .ok (.iload_n 2, 1) := by decide +kernel
theorem d_D_dropRevoked_9 : decode c_D_dropRevoked 9 = .ok (.bipush 16, 2) := by decide +kernel
theorem d_D_dropRevoked_11 : decode c_D_dropRevoked 11 = .ok (.if_icmp .ge 33, 3) := by decide +kernel
theorem d_D_dropRevoked_14 : decode c_D_dropRevoked 14 = .ok (.aload_n 1, 1) := by decide +kernel
theorem d_D_dropRevoked_15 : decode c_D_dropRevoked 15 = .ok (.iload_n 2, 1) := by decide +kernel
theorem d_D_dropRevoked_16 : decode c_D_dropRevoked 16 = .ok (.aaload, 1) := by decide +kernel
theorem d_D_dropRevoked_17 : decode c_D_dropRevoked 17 = .ok (.astore_n 3, 1) := by decide +kernel
theorem d_D_dropRevoked_18 : decode c_D_dropRevoked 18 = .ok (.aload_n 3, 1) := by decide +kernel
theorem d_D_dropRevoked_19 : decode c_D_dropRevoked 19 = .ok (.ifnull 19, 3) := by decide +kernel
theorem d_D_dropRevoked_22 : decode c_D_dropRevoked 22 = .ok (.aload_n 3, 1) := by decide +kernel
theorem d_D_dropRevoked_23 : decode c_D_dropRevoked 23 = .ok (.getfield 82, 3) := by decide +kernel
theorem d_D_dropRevoked_26 : decode c_D_dropRevoked 26 = .ok (.iconst 4, 1) := by decide +kernel
theorem d_D_dropRevoked_27 : decode c_D_dropRevoked 27 = .ok (.if_icmp .ne 11, 3) := by decide +kernel
theorem d_D_dropRevoked_30 : decode c_D_dropRevoked 30 = .ok (.aload_n 0, 1) := by decide +kernel
theorem d_D_dropRevoked_31 : decode c_D_dropRevoked 31 = .ok (.getfield 21, 3) := by decide +kernel
theorem d_D_dropRevoked_34 : decode c_D_dropRevoked 34 = .ok (.iload_n 2, 1) := by decide +kernel
theorem d_D_dropRevoked_35 : decode c_D_dropRevoked 35 = .ok (.ldc 50, 2) := by decide +kernel
theorem d_D_dropRevoked_37 : decode c_D_dropRevoked 37 = .ok (.iastore, 1) := by decide +kernel
theorem d_D_dropRevoked_38 : decode c_D_dropRevoked 38 = .ok (.iinc 2 1, 3) := by decide +kernel
theorem d_D_dropRevoked_41 : decode c_D_dropRevoked 41 = .ok (.goto (-39), 3) := by decide +kernel
theorem d_D_dropRevoked_44 : decode c_D_dropRevoked 44 = .ok (.return_, 1) := by decide +kernel
theorem d_D_sizeAt_0 : decode c_D_sizeAt 0 = .ok (.iload_n 1, 1) := by decide +kernel
theorem d_D_sizeAt_1 : decode c_D_sizeAt 1 = .ok (.iconst 0, 1) := by decide +kernel
theorem d_D_sizeAt_2 : decode c_D_sizeAt 2 = .ok (.aload_n 0, 1) := by decide +kernel
theorem d_D_sizeAt_3 : decode c_D_sizeAt 3 = .ok (.arraylength, 1) := by decide +kernel
theorem d_D_sizeAt_4 : decode c_D_sizeAt 4 = .ok (.iconst 1, 1) := by decide +kernel
theorem d_D_sizeAt_5 : decode c_D_sizeAt 5 = .ok (.isub, 1) := by decide +kernel
theorem d_D_sizeAt_6 : decode c_D_sizeAt 6 = .ok (.invokestatic 31, 3) := by decide +kernel
theorem d_D_sizeAt_9 : decode c_D_sizeAt 9 = .ok (.ifCond .eq 9, 3) := by decide +kernel
theorem d_D_sizeAt_12 : decode c_D_sizeAt 12 = .ok (.aload_n 0, 1) := by decide +kernel
theorem d_D_sizeAt_13 : decode c_D_sizeAt 13 = .ok (.iload_n 1, 1) := by decide +kernel
theorem d_D_sizeAt_14 : decode c_D_sizeAt 14 = .ok (.iaload, 1) := by decide +kernel
theorem d_D_sizeAt_15 : decode c_D_sizeAt 15 = .ok (.goto 5, 3) := by decide +kernel
theorem d_D_sizeAt_18 : decode c_D_sizeAt 18 = .ok (.ldc 50, 2) := by decide +kernel
theorem d_D_sizeAt_20 : decode c_D_sizeAt 20 = .ok (.ireturn, 1) := by decide +kernel
theorem d_D_lower_0 : decode c_D_lower 0 = .ok (.iload_n 1, 1) := by decide +kernel
theorem d_D_lower_1 : decode c_D_lower 1 = .ok (.iconst 0, 1) := by decide +kernel
theorem d_D_lower_2 : decode c_D_lower 2 = .ok (.aload_n 0, 1) := by decide +kernel
theorem d_D_lower_3 : decode c_D_lower 3 = .ok (.arraylength, 1) := by decide +kernel
theorem d_D_lower_4 : decode c_D_lower 4 = .ok (.iconst 1, 1) := by decide +kernel
theorem d_D_lower_5 : decode c_D_lower 5 = .ok (.isub, 1) := by decide +kernel
theorem d_D_lower_6 : decode c_D_lower 6 = .ok (.invokestatic 31, 3) := by decide +kernel
theorem d_D_lower_9 : decode c_D_lower 9 = .ok (.ifCond .eq 14, 3) := by decide +kernel
theorem d_D_lower_12 : decode c_D_lower 12 = .ok (.iload_n 2, 1) := by decide +kernel
theorem d_D_lower_13 : decode c_D_lower 13 = .ok (.aload_n 0, 1) := by decide +kernel
theorem d_D_lower_14 : decode c_D_lower 14 = .ok (.iload_n 1, 1) := by decide +kernel
theorem d_D_lower_15 : decode c_D_lower 15 = .ok (.iaload, 1) := by decide +kernel
theorem d_D_lower_16 : decode c_D_lower 16 = .ok (.if_icmp .ge 7, 3) := by decide +kernel
theorem d_D_lower_19 : decode c_D_lower 19 = .ok (.aload_n 0, 1) := by decide +kernel
theorem d_D_lower_20 : decode c_D_lower 20 = .ok (.iload_n 1, 1) := by decide +kernel
theorem d_D_lower_21 : decode c_D_lower 21 = .ok (.iload_n 2, 1) := by decide +kernel
theorem d_D_lower_22 : decode c_D_lower 22 = .ok (.iastore, 1) := by decide +kernel
theorem d_D_lower_23 : decode c_D_lower 23 = .ok (.return_, 1) := by decide +kernel
theorem d_M_init_0 : decode c_M_init 0 = .ok (.aload_n 0, 1) := by decide +kernel
theorem d_M_init_1 : decode c_M_init 1 = .ok (.invokespecial 3, 3) := by decide +kernel
theorem d_M_init_4 : decode c_M_init 4 = .ok (.aload_n 0, 1) := by decide +kernel
theorem d_M_init_5 : decode c_M_init 5 = .ok (.iconst (-1), 1) := by decide +kernel
theorem d_M_init_6 : decode c_M_init 6 = .ok (.putfield 9, 3) := by decide +kernel
theorem d_M_init_9 : decode c_M_init 9 = .ok (.aload_n 0, 1) := by decide +kernel
theorem d_M_init_10 : decode c_M_init 10 = .ok (.iconst (-1), 1) := by decide +kernel
theorem d_M_init_11 : decode c_M_init 11 = .ok (.putfield 15, 3) := by decide +kernel
theorem d_M_init_14 : decode c_M_init 14 = .ok (.aload_n 0, 1) := by decide +kernel
theorem d_M_init_15 : decode c_M_init 15 = .ok (.iload_n 1, 1) := by decide +kernel
theorem d_M_init_16 : decode c_M_init 16 = .ok (.putfield 18, 3) := by decide +kernel
theorem d_M_init_19 : decode c_M_init 19 = .ok (.aload_n 0, 1) := by decide +kernel
theorem d_M_init_20 : decode c_M_init 20 = .ok (.iload_n 2, 1) := by decide +kernel
theorem d_M_init_21 : decode c_M_init 21 = .ok (.putfield 21, 3) := by decide +kernel
theorem d_M_init_24 : decode c_M_init 24 = .ok (.aload_n 0, 1) := by decide +kernel
theorem d_M_init_25 : decode c_M_init 25 = .ok (.iload_n 3, 1) := by decide +kernel
theorem d_M_init_26 : decode c_M_init 26 = .ok (.putfield 24, 3) := by decide +kernel
theorem d_M_init_29 : decode c_M_init 29 = .ok (.return_, 1) := by decide +kernel
theorem d_R_init_0 : decode c_R_init 0 = .ok (.aload_n 0, 1) := by decide +kernel
theorem d_R_init_1 : decode c_R_init 1 = .ok (.invokespecial 3, 3) := by decide +kernel
theorem d_R_init_4 : decode c_R_init 4 = .ok (.aload_n 0, 1) := by decide +kernel
theorem d_R_init_5 : decode c_R_init 5 = .ok (.iconst 5, 1) := by decide +kernel
theorem d_R_init_6 : decode c_R_init 6 = .ok (.newarray .int, 2) := by decide +kernel
theorem d_R_init_8 : decode c_R_init 8 = .ok (.putfield 9, 3) := by decide +kernel
theorem d_R_init_11 : decode c_R_init 11 = .ok (.aload_n 0, 1) := by decide +kernel
theorem d_R_init_12 : decode c_R_init 12 = .ok (.iconst 5, 1) := by decide +kernel
theorem d_R_init_13 : decode c_R_init 13 = .ok (.newarray .int, 2) := by decide +kernel
theorem d_R_init_15 : decode c_R_init 15 = .ok (.putfield 15, 3) := by decide +kernel
theorem d_R_init_18 : decode c_R_init 18 = .ok (.aload_n 0, 1) := by decide +kernel
theorem d_R_init_19 : decode c_R_init 19 = .ok (.iconst 1, 1) := by decide +kernel
theorem d_R_init_20 : decode c_R_init 20 = .ok (.putfield 18, 3) := by decide +kernel
theorem d_R_init_23 : decode c_R_init 23 = .ok (.aload_n 0, 1) := by decide +kernel
theorem d_R_init_24 : decode c_R_init 24 = .ok (.iconst 1, 1) := by decide +kernel
theorem d_R_init_25 : decode c_R_init 25 = .ok (.putfield 22, 3) := by decide +kernel
theorem d_R_init_28 : decode c_R_init 28 = .ok (.aload_n 0, 1) := by decide +kernel
theorem d_R_init_29 : decode c_R_init 29 = .ok (.iconst 0, 1) := by decide +kernel
theorem d_R_init_30 : decode c_R_init 30 = .ok (.putfield 25, 3) := by decide +kernel
theorem d_R_init_33 : decode c_R_init 33 = .ok (.aload_n 0, 1) := by decide +kernel
theorem d_R_init_34 : decode c_R_init 34 = .ok (.iconst 0, 1) := by decide +kernel
theorem d_R_init_35 : decode c_R_init 35 = .ok (.putfield 28, 3) := by decide +kernel
theorem d_R_init_38 : decode c_R_init 38 = .ok (.aload_n 0, 1) := by decide +kernel
theorem d_R_init_39 : decode c_R_init 39 = .ok (.iload_n 1, 1) := by decide +kernel
theorem d_R_init_40 : decode c_R_init 40 = .ok (.putfield 31, 3) := by decide +kernel
theorem d_R_init_43 : decode c_R_init 43 = .ok (.aload_n 0, 1) := by decide +kernel
theorem d_R_init_44 : decode c_R_init 44 = .ok (.iload_n 2, 1) := by decide +kernel
theorem d_R_init_45 : decode c_R_init 45 = .ok (.putfield 34, 3) := by decide +kernel
theorem d_R_init_48 : decode c_R_init 48 = .ok (.aload_n 0, 1) := by decide +kernel
theorem d_R_init_49 : decode c_R_init 49 = .ok (.iload_n 3, 1) := by decide +kernel
theorem d_R_init_50 : decode c_R_init 50 = .ok (.putfield 38, 3) := by decide +kernel
theorem d_R_init_53 : decode c_R_init 53 = .ok (.return_, 1) := by decide +kernel
theorem d_R_addStage_0 : decode c_R_addStage 0 = .ok (.aload_n 0, 1) := by decide +kernel
theorem d_R_addStage_1 : decode c_R_addStage 1 = .ok (.getfield 25, 3) := by decide +kernel
theorem d_R_addStage_4 : decode c_R_addStage 4 = .ok (.ifCond .ne 11, 3) := by decide +kernel
theorem d_R_addStage_7 : decode c_R_addStage 7 = .ok (.aload_n 0, 1) := by decide +kernel
theorem d_R_addStage_8 : decode c_R_addStage 8 = .ok (.getfield 41, 3) := by decide +kernel
theorem d_R_addStage_11 : decode c_R_addStage 11 = .ok (.iconst 5, 1) := by decide +kernel
theorem d_R_addStage_12 : decode c_R_addStage 12 = .ok (.if_icmp .lt 5, 3) := by decide +kernel
theorem d_R_addStage_15 : decode c_R_addStage 15 = .ok (.iconst 0, 1) := by decide +kernel
theorem d_R_addStage_16 : decode c_R_addStage 16 = .ok (.ireturn, 1) := by decide +kernel
theorem d_R_addStage_17 : decode c_R_addStage 17 = .ok (.aload_n 0, 1) := by decide +kernel
theorem d_R_addStage_18 : decode c_R_addStage 18 = .ok (.getfield 41, 3) := by decide +kernel
theorem d_R_addStage_21 : decode c_R_addStage 21 = .ok (.ifCond .ne 7, 3) := by decide +kernel
theorem d_R_addStage_24 : decode c_R_addStage 24 = .ok (.iconst 0, 1) := by decide +kernel
theorem d_R_addStage_25 : decode c_R_addStage 25 = .ok (.goto 14, 3) := by decide +kernel
theorem d_R_addStage_28 : decode c_R_addStage 28 = .ok (.aload_n 0, 1) := by decide +kernel
theorem d_R_addStage_29 : decode c_R_addStage 29 = .ok (.getfield 9, 3) := by decide +kernel
theorem d_R_addStage_32 : decode c_R_addStage 32 = .ok (.aload_n 0, 1) := by decide +kernel
theorem d_R_addStage_33 : decode c_R_addStage 33 = .ok (.getfield 41, 3) := by decide +kernel
theorem d_R_addStage_36 : decode c_R_addStage 36 = .ok (.iconst 1, 1) := by decide +kernel
theorem d_R_addStage_37 : decode c_R_addStage 37 = .ok (.isub, 1) := by decide +kernel
theorem d_R_addStage_38 : decode c_R_addStage 38 = .ok (.iaload, 1) := by decide +kernel
theorem d_R_addStage_39 : decode c_R_addStage 39 = .ok (.istore_n 3, 1) := by decide +kernel
theorem d_R_addStage_40 : decode c_R_addStage 40 = .ok (.iload_n 1, 1) := by decide +kernel
theorem d_R_addStage_41 : decode c_R_addStage 41 = .ok (.iload_n 3, 1) := by decide +kernel
theorem d_R_addStage_42 : decode c_R_addStage 42 = .ok (.sipush 1000, 3) := by decide +kernel
theorem d_R_addStage_45 : decode c_R_addStage 45 = .ok (.invokestatic 44, 3) := by decide +kernel
theorem d_R_addStage_48 : decode c_R_addStage 48 = .ok (.ifCond .eq 14, 3) := by decide +kernel
theorem d_R_addStage_51 : decode c_R_addStage 51 = .ok (.iload_n 2, 1) := by decide +kernel
theorem d_R_addStage_52 : decode c_R_addStage 52 = .ok (.iconst 0, 1) := by decide +kernel
theorem d_R_addStage_53 : decode c_R_addStage 53 = .ok (.sipush 1000, 3) := by decide +kernel
theorem d_R_addStage_56 : decode c_R_addStage 56 = .ok (.invokestatic 44, 3) := by decide +kernel
theorem d_R_addStage_59 : decode c_R_addStage 59 = .ok (.ifCond .ne 5, 3) := by decide +kernel
theorem d_R_addStage_62 : decode c_R_addStage 62 = .ok (.iconst 0, 1) := by decide +kernel
theorem d_R_addStage_63 : decode c_R_addStage 63 = .ok (.ireturn, 1) := by decide +kernel
theorem d_R_addStage_64 : decode c_R_addStage 64 = .ok (.aload_n 0, 1) := by decide +kernel
theorem d_R_addStage_65 : decode c_R_addStage 65 = .ok (.getfield 9, 3) := by decide +kernel
theorem d_R_addStage_68 : decode c_R_addStage 68 = .ok (.aload_n 0, 1) := by decide +kernel
theorem d_R_addStage_69 : decode c_R_addStage 69 = .ok (.getfield 41, 3) := by decide +kernel
theorem d_R_addStage_72 : decode c_R_addStage 72 = .ok (.iload_n 1, 1) := by decide +kernel
theorem d_R_addStage_73 : decode c_R_addStage 73 = .ok (.iastore, 1) := by decide +kernel
theorem d_R_addStage_74 : decode c_R_addStage 74 = .ok (.aload_n 0, 1) := by decide +kernel
theorem d_R_addStage_75 : decode c_R_addStage 75 = .ok (.getfield 15, 3) := by decide +kernel
theorem d_R_addStage_78 : decode c_R_addStage 78 = .ok (.aload_n 0, 1) := by decide +kernel
theorem d_R_addStage_79 : decode c_R_addStage 79 = .ok (.getfield 41, 3) := by decide +kernel
theorem d_R_addStage_82 : decode c_R_addStage 82 = .ok (.iload_n 2, 1) := by decide +kernel
theorem d_R_addStage_83 : decode c_R_addStage 83 = .ok (.iastore, 1) := by decide +kernel
theorem d_R_addStage_84 : decode c_R_addStage 84 = .ok (.aload_n 0, 1) := by decide +kernel
theorem d_R_addStage_85 : decode c_R_addStage 85 = .ok (.dup, 1) := by decide +kernel
theorem d_R_addStage_86 : decode c_R_addStage 86 = .ok (.getfield 41, 3) := by decide +kernel
theorem d_R_addStage_89 : decode c_R_addStage 89 = .ok (.iconst 1, 1) := by decide +kernel
theorem d_R_addStage_90 : decode c_R_addStage 90 = .ok (.iadd, 1) := by decide +kernel
theorem d_R_addStage_91 : decode c_R_addStage 91 = .ok (.putfield 41, 3) := by decide +kernel
theorem d_R_addStage_94 : decode c_R_addStage 94 = .ok (.iconst 1, 1) := by decide +kernel
theorem d_R_addStage_95 : decode c_R_addStage 95 = .ok (.ireturn, 1) := by decide +kernel
theorem d_R_setHealth_0 : decode c_R_setHealth 0 = .ok (.iload_n 2, 1) := by decide +kernel
theorem d_R_setHealth_1 : decode c_R_setHealth 1 = .ok (.iconst 1, 1) := by decide +kernel
theorem d_R_setHealth_2 : decode c_R_setHealth 2 = .ok (.sipush 1000, 3) := by decide +kernel
theorem d_R_setHealth_5 : decode c_R_setHealth 5 = .ok (.invokestatic 44, 3) := by decide +kernel
theorem d_R_setHealth_8 : decode c_R_setHealth 8 = .ok (.ifCond .eq 12, 3) := by decide +kernel
theorem d_R_setHealth_11 : decode c_R_setHealth 11 = .ok (.iload_n 1, 1) := by decide +kernel
theorem d_R_setHealth_12 : decode c_R_setHealth 12 = .ok (.iconst 0, 1) := by decide +kernel
theorem d_R_setHealth_13 : decode c_R_setHealth 13 = .ok (.iload_n 2, 1) := by decide +kernel
theorem d_R_setHealth_14 : decode c_R_setHealth 14 = .ok (.invokestatic 44, 3) := by decide +kernel
theorem d_R_setHealth_17 : decode c_R_setHealth 17 = .ok (.ifCond .ne 5, 3) := by decide +kernel
theorem d_R_setHealth_20 : decode c_R_setHealth 20 = .ok (.iconst 0, 1) := by decide +kernel
theorem d_R_setHealth_21 : decode c_R_setHealth 21 = .ok (.ireturn, 1) := by decide +kernel
theorem d_R_setHealth_22 : decode c_R_setHealth 22 = .ok (.aload_n 0, 1) := by decide +kernel
theorem d_R_setHealth_23 : decode c_R_setHealth 23 = .ok (.iload_n 1, 1) := by decide +kernel
theorem d_R_setHealth_24 : decode c_R_setHealth 24 = .ok (.putfield 18, 3) := by decide +kernel
theorem d_R_setHealth_27 : decode c_R_setHealth 27 = .ok (.aload_n 0, 1) := by decide +kernel
theorem d_R_setHealth_28 : decode c_R_setHealth 28 = .ok (.iload_n 2, 1) := by decide +kernel
theorem d_R_setHealth_29 : decode c_R_setHealth 29 = .ok (.putfield 22, 3) := by decide +kernel
theorem d_R_setHealth_32 : decode c_R_setHealth 32 = .ok (.iconst 1, 1) := by decide +kernel
theorem d_R_setHealth_33 : decode c_R_setHealth 33 = .ok (.ireturn, 1) := by decide +kernel
theorem d_R_begin_0 : decode c_R_begin 0 = .ok (.aload_n 0, 1) := by decide +kernel
theorem d_R_begin_1 : decode c_R_begin 1 = .ok (.getfield 25, 3) := by decide +kernel
theorem d_R_begin_4 : decode c_R_begin 4 = .ok (.ifCond .ne 10, 3) := by decide +kernel
theorem d_R_begin_7 : decode c_R_begin 7 = .ok (.aload_n 0, 1) := by decide +kernel
theorem d_R_begin_8 : decode c_R_begin 8 = .ok (.getfield 41, 3) := by decide +kernel
theorem d_R_begin_11 : decode c_R_begin 11 = .ok (.ifCond .ne 5, 3) := by decide +kernel
theorem d_R_begin_14 : decode c_R_begin 14 = .ok (.iconst 0, 1) := by decide +kernel
theorem d_R_begin_15 : decode c_R_begin 15 = .ok (.ireturn, 1) := by decide +kernel
theorem d_R_begin_16 : decode c_R_begin 16 = .ok (.aload_n 0, 1) := by decide +kernel
theorem d_R_begin_17 : decode c_R_begin 17 = .ok (.iconst 0, 1) := by decide +kernel
theorem d_R_begin_18 : decode c_R_begin 18 = .ok (.iload_n 1, 1) := by decide +kernel
theorem d_R_begin_19 : decode c_R_begin 19 = .ok (.invokevirtual 48, 3) := by decide +kernel
theorem d_R_begin_22 : decode c_R_begin 22 = .ok (.iconst 1, 1) := by decide +kernel
theorem d_R_begin_23 : decode c_R_begin 23 = .ok (.ireturn, 1) := by decide +kernel
theorem d_R_addReports_0 : decode c_R_addReports 0 = .ok (.aload_n 0, 1) := by decide +kernel
theorem d_R_addReports_1 : decode c_R_addReports 1 = .ok (.getfield 25, 3) := by decide +kernel
theorem d_R_addReports_4 : decode c_R_addReports 4 = .ok (.iconst 1, 1) := by decide +kernel
theorem d_R_addReports_5 : decode c_R_addReports 5 = .ok (.if_icmp .ne 25, 3) := by decide +kernel
theorem d_R_addReports_8 : decode c_R_addReports 8 = .ok (.iload_n 1, 1) := by decide +kernel
theorem d_R_addReports_9 : decode c_R_addReports 9 = .ok (.iconst 0, 1) := by decide +kernel
theorem d_R_addReports_10 : decode c_R_addReports 10 = .ok (.sipush 10000, 3) := by decide +kernel
theorem d_R_addReports_13 : decode c_R_addReports 13 = .ok (.invokestatic 44, 3) := by decide +kernel
theorem d_R_addReports_16 : decode c_R_addReports 16 = .ok (.ifCond .eq 14, 3) := by decide +kernel
theorem d_R_addReports_19 : decode c_R_addReports 19 = .ok (.iload_n 2, 1) := by decide +kernel
theorem d_R_addReports_20 : decode c_R_addReports 20 = .ok (.iconst 0, 1) := by decide +kernel
theorem d_R_addReports_21 : decode c_R_addReports 21 = .ok (.sipush 10000, 3) := by decide +kernel
theorem d_R_addReports_24 : decode c_R_addReports 24 = .ok (.invokestatic 44, 3) := by decide +kernel
theorem d_R_addReports_27 : decode c_R_addReports 27 = .ok (.ifCond .ne 5, 3) := by decide +kernel
theorem d_R_addReports_30 : decode c_R_addReports 30 = .ok (.iconst 0, 1) := by decide +kernel
theorem d_R_addReports_31 : decode c_R_addReports 31 = .ok (.ireturn, 1) := by decide +kernel
theorem d_R_addReports_32 : decode c_R_addReports 32 = .ok (.aload_n 0, 1) := by decide +kernel
theorem d_R_addReports_33 : decode c_R_addReports 33 = .ok (.dup, 1) := by decide +kernel
theorem d_R_addReports_34 : decode c_R_addReports 34 = .ok (.getfield 52, 3) := by decide +kernel
theorem d_R_addReports_37 : decode c_R_addReports 37 = .ok (.iload_n 1, 1) := by decide +kernel
theorem d_R_addReports_38 : decode c_R_addReports 38 = .ok (.iadd, 1) := by decide +kernel
theorem d_R_addReports_39 : decode c_R_addReports 39 = .ok (.putfield 52, 3) := by decide +kernel
theorem d_R_addReports_42 : decode c_R_addReports 42 = .ok (.aload_n 0, 1) := by decide +kernel
theorem d_R_addReports_43 : decode c_R_addReports 43 = .ok (.dup, 1) := by decide +kernel
theorem d_R_addReports_44 : decode c_R_addReports 44 = .ok (.getfield 55, 3) := by decide +kernel
theorem d_R_addReports_47 : decode c_R_addReports 47 = .ok (.iload_n 2, 1) := by decide +kernel
theorem d_R_addReports_48 : decode c_R_addReports 48 = .ok (.iadd, 1) := by decide +kernel
theorem d_R_addReports_49 : decode c_R_addReports 49 = .ok (.putfield 55, 3) := by decide +kernel
theorem d_R_addReports_52 : decode c_R_addReports 52 = .ok (.iconst 1, 1) := by decide +kernel
theorem d_R_addReports_53 : decode c_R_addReports 53 = .ok (.ireturn, 1) := by decide +kernel
theorem d_R_holdByHand_0 : decode c_R_holdByHand 0 = .ok (.aload_n 0, 1) := by decide +kernel
theorem d_R_holdByHand_1 : decode c_R_holdByHand 1 = .ok (.getfield 25, 3) := by decide +kernel
theorem d_R_holdByHand_4 : decode c_R_holdByHand 4 = .ok (.iconst 1, 1) := by decide +kernel
theorem d_R_holdByHand_5 : decode c_R_holdByHand 5 = .ok (.if_icmp .eq 5, 3) := by decide +kernel
theorem d_R_holdByHand_8 : decode c_R_holdByHand 8 = .ok (.iconst 0, 1) := by decide +kernel
theorem d_R_holdByHand_9 : decode c_R_holdByHand 9 = .ok (.ireturn, 1) := by decide +kernel
theorem d_R_holdByHand_10 : decode c_R_holdByHand 10 = .ok (.aload_n 0, 1) := by decide +kernel
theorem d_R_holdByHand_11 : decode c_R_holdByHand 11 = .ok (.iconst 3, 1) := by decide +kernel
theorem d_R_holdByHand_12 : decode c_R_holdByHand 12 = .ok (.invokevirtual 58, 3) := by decide +kernel
theorem d_R_holdByHand_15 : decode c_R_holdByHand 15 = .ok (.iconst 1, 1) := by decide +kernel
theorem d_R_holdByHand_16 : decode c_R_holdByHand 16 = .ok (.ireturn, 1) := by decide +kernel
theorem d_R_goOn_0 : decode c_R_goOn 0 = .ok (.aload_n 0, 1) := by decide +kernel
theorem d_R_goOn_1 : decode c_R_goOn 1 = .ok (.getfield 25, 3) := by decide +kernel
theorem d_R_goOn_4 : decode c_R_goOn 4 = .ok (.iconst 2, 1) := by decide +kernel
theorem d_R_goOn_5 : decode c_R_goOn 5 = .ok (.if_icmp .eq 5, 3) := by decide +kernel
theorem d_R_goOn_8 : decode c_R_goOn 8 = .ok (.iconst 0, 1) := by decide +kernel
theorem d_R_goOn_9 : decode c_R_goOn 9 = .ok (.ireturn, 1) := by decide +kernel
theorem d_R_goOn_10 : decode c_R_goOn 10 = .ok (.aload_n 0, 1) := by decide +kernel
theorem d_R_goOn_11 : decode c_R_goOn 11 = .ok (.aload_n 0, 1) := by decide +kernel
theorem d_R_goOn_12 : decode c_R_goOn 12 = .ok (.getfield 62, 3) := by decide +kernel
theorem d_R_goOn_15 : decode c_R_goOn 15 = .ok (.iload_n 1, 1) := by decide +kernel
theorem d_R_goOn_16 : decode c_R_goOn 16 = .ok (.invokevirtual 48, 3) := by decide +kernel
theorem d_R_goOn_19 : decode c_R_goOn 19 = .ok (.iconst 1, 1) := by decide +kernel
theorem d_R_goOn_20 : decode c_R_goOn 20 = .ok (.ireturn, 1) := by decide +kernel
theorem d_R_bar_0 : decode c_R_bar 0 = .ok (.aload_n 0, 1) := by decide +kernel
theorem d_R_bar_1 : decode c_R_bar 1 = .ok (.getfield 25, 3) := by decide +kernel
theorem d_R_bar_4 : decode c_R_bar 4 = .ok (.iconst 4, 1) := by decide +kernel
theorem d_R_bar_5 : decode c_R_bar 5 = .ok (.if_icmp .ne 5, 3) := by decide +kernel
theorem d_R_bar_8 : decode c_R_bar 8 = .ok (.iconst 0, 1) := by decide +kernel
theorem d_R_bar_9 : decode c_R_bar 9 = .ok (.ireturn, 1) := by decide +kernel
theorem d_R_bar_10 : decode c_R_bar 10 = .ok (.aload_n 0, 1) := by decide +kernel
theorem d_R_bar_11 : decode c_R_bar 11 = .ok (.iconst 4, 1) := by decide +kernel
theorem d_R_bar_12 : decode c_R_bar 12 = .ok (.putfield 25, 3) := by decide +kernel
theorem d_R_bar_15 : decode c_R_bar 15 = .ok (.aload_n 0, 1) := by decide +kernel
theorem d_R_bar_16 : decode c_R_bar 16 = .ok (.iconst 0, 1) := by decide +kernel
theorem d_R_bar_17 : decode c_R_bar 17 = .ok (.putfield 28, 3) := by decide +kernel
theorem d_R_bar_20 : decode c_R_bar 20 = .ok (.iconst 1, 1) := by decide +kernel
theorem d_R_bar_21 : decode c_R_bar 21 = .ok (.ireturn, 1) := by decide +kernel
theorem d_R_passTicks_0 : decode c_R_passTicks 0 = .ok (.iload_n 1, 1) := by decide +kernel
theorem d_R_passTicks_1 : decode c_R_passTicks 1 = .ok (.istore_n 3, 1) := by decide +kernel
theorem d_R_passTicks_2 : decode c_R_passTicks 2 = .ok (.iconst 0, 1) := by decide +kernel
theorem d_R_passTicks_3 : decode c_R_passTicks 3 = .ok (.istore 4, 2) := by decide +kernel
theorem d_R_passTicks_5 : decode c_R_passTicks 5 = .ok (.iload 4, 2) := by decide +kernel
theorem d_R_passTicks_7 : decode c_R_passTicks 7 = .ok (.iconst 5, 1) := by decide +kernel
theorem d_R_passTicks_8 : decode c_R_passTicks 8 = .ok (.if_icmp .ge 48, 3) := by decide +kernel
theorem d_R_passTicks_11 : decode c_R_passTicks 11 = .ok (.aload_n 0, 1) := by decide +kernel
theorem d_R_passTicks_12 : decode c_R_passTicks 12 = .ok (.getfield 25, 3) := by decide +kernel
theorem d_R_passTicks_15 : decode c_R_passTicks 15 = .ok (.iconst 1, 1) := by decide +kernel
theorem d_R_passTicks_16 : decode c_R_passTicks 16 = .ok (.if_icmp .ne 40, 3) := by decide +kernel
theorem d_R_passTicks_19 : decode c_R_passTicks 19 = .ok (.iload_n 3, 1) := by decide +kernel
theorem d_R_passTicks_20 : decode c_R_passTicks 20 = .ok (.iconst 1, 1) := by decide +kernel
theorem d_R_passTicks_21 : decode c_R_passTicks 21 = .ok (.iadd, 1) := by decide +kernel
theorem d_R_passTicks_22 : decode c_R_passTicks 22 = .ok (.aload_n 0, 1) := by decide +kernel
theorem d_R_passTicks_23 : decode c_R_passTicks 23 = .ok (.getfield 65, 3) := by decide +kernel
theorem d_R_passTicks_26 : decode c_R_passTicks 26 = .ok (.aload_n 0, 1) := by decide +kernel
theorem d_R_passTicks_27 : decode c_R_passTicks 27 = .ok (.aload_n 0, 1) := by decide +kernel
theorem d_R_passTicks_28 : decode c_R_passTicks 28 = .ok (.getfield 15, 3) := by decide +kernel
theorem d_R_passTicks_31 : decode c_R_passTicks 31 = .ok (.invokevirtual 68, 3) := by decide +kernel
theorem d_R_passTicks_34 : decode c_R_passTicks 34 = .ok (.iadd, 1) := by decide +kernel
theorem d_R_passTicks_35 : decode c_R_passTicks 35 = .ok (.invokestatic 72, 3) := by decide +kernel
end
section
theorem d_R_passTicks_38 : decode c_R_passTicks 38 = .ok (.istore_n 3, 1) := by decide +kernel
theorem d_R_passTicks_39 : decode c_R_passTicks 39 = .ok (.iload_n 3, 1) := by decide +kernel
theorem d_R_passTicks_40 : decode c_R_passTicks 40 = .ok (.iload_n 2, 1) := by decide +kernel
theorem d_R_passTicks_41 : decode c_R_passTicks 41 = .ok (.if_icmp .le 4, 3) := by decide +kernel
theorem d_R_passTicks_44 : decode c_R_passTicks 44 = .ok (.return_, 1) := by decide +kernel
theorem d_R_passTicks_45 : decode c_R_passTicks 45 = .ok (.aload_n 0, 1) := by decide +kernel
theorem d_R_passTicks_46 : decode c_R_passTicks 46 = .ok (.iload_n 3, 1) := by decide +kernel
theorem d_R_passTicks_47 : decode c_R_passTicks 47 = .ok (.invokevirtual 78, 3) := by decide +kernel
theorem d_R_passTicks_50 : decode c_R_passTicks 50 = .ok (.iinc 4 1, 3) := by decide +kernel
theorem d_R_passTicks_53 : decode c_R_passTicks 53 = .ok (.goto (-48), 3) := by decide +kernel
theorem d_R_passTicks_56 : decode c_R_passTicks 56 = .ok (.return_, 1) := by decide +kernel
theorem d_R_judge_0 : decode c_R_judge 0 = .ok (.aload_n 0, 1) := by decide +kernel
theorem d_R_judge_1 : decode c_R_judge 1 = .ok (.invokevirtual 81, 3) := by decide +kernel
theorem d_R_judge_4 : decode c_R_judge 4 = .ok (.ifCond .ne 11, 3) := by decide +kernel
theorem d_R_judge_7 : decode c_R_judge 7 = .ok (.aload_n 0, 1) := by decide +kernel
theorem d_R_judge_8 : decode c_R_judge 8 = .ok (.iconst 1, 1) := by decide +kernel
theorem d_R_judge_9 : decode c_R_judge 9 = .ok (.invokevirtual 58, 3) := by decide +kernel
theorem d_R_judge_12 : decode c_R_judge 12 = .ok (.goto 50, 3) := by decide +kernel
theorem d_R_judge_15 : decode c_R_judge 15 = .ok (.aload_n 0, 1) := by decide +kernel
theorem d_R_judge_16 : decode c_R_judge 16 = .ok (.invokevirtual 85, 3) := by decide +kernel
theorem d_R_judge_19 : decode c_R_judge 19 = .ok (.ifCond .eq 11, 3) := by decide +kernel
theorem d_R_judge_22 : decode c_R_judge 22 = .ok (.aload_n 0, 1) := by decide +kernel
theorem d_R_judge_23 : decode c_R_judge 23 = .ok (.iconst 2, 1) := by decide +kernel
theorem d_R_judge_24 : decode c_R_judge 24 = .ok (.invokevirtual 58, 3) := by decide +kernel
theorem d_R_judge_27 : decode c_R_judge 27 = .ok (.goto 35, 3) := by decide +kernel
theorem d_R_judge_30 : decode c_R_judge 30 = .ok (.aload_n 0, 1) := by decide +kernel
theorem d_R_judge_31 : decode c_R_judge 31 = .ok (.getfield 62, 3) := by decide +kernel
theorem d_R_judge_34 : decode c_R_judge 34 = .ok (.iconst 1, 1) := by decide +kernel
theorem d_R_judge_35 : decode c_R_judge 35 = .ok (.iadd, 1) := by decide +kernel
theorem d_R_judge_36 : decode c_R_judge 36 = .ok (.aload_n 0, 1) := by decide +kernel
theorem d_R_judge_37 : decode c_R_judge 37 = .ok (.getfield 41, 3) := by decide +kernel
theorem d_R_judge_40 : decode c_R_judge 40 = .ok (.if_icmp .ge 17, 3) := by decide +kernel
theorem d_R_judge_43 : decode c_R_judge 43 = .ok (.aload_n 0, 1) := by decide +kernel
theorem d_R_judge_44 : decode c_R_judge 44 = .ok (.aload_n 0, 1) := by decide +kernel
theorem d_R_judge_45 : decode c_R_judge 45 = .ok (.getfield 62, 3) := by decide +kernel
theorem d_R_judge_48 : decode c_R_judge 48 = .ok (.iconst 1, 1) := by decide +kernel
theorem d_R_judge_49 : decode c_R_judge 49 = .ok (.iadd, 1) := by decide +kernel
theorem d_R_judge_50 : decode c_R_judge 50 = .ok (.iload_n 1, 1) := by decide +kernel
theorem d_R_judge_51 : decode c_R_judge 51 = .ok (.invokevirtual 48, 3) := by decide +kernel
theorem d_R_judge_54 : decode c_R_judge 54 = .ok (.goto 8, 3) := by decide +kernel
theorem d_R_judge_57 : decode c_R_judge 57 = .ok (.aload_n 0, 1) := by decide +kernel
theorem d_R_judge_58 : decode c_R_judge 58 = .ok (.iconst 3, 1) := by decide +kernel
theorem d_R_judge_59 : decode c_R_judge 59 = .ok (.putfield 25, 3) := by decide +kernel
theorem d_R_judge_62 : decode c_R_judge 62 = .ok (.return_, 1) := by decide +kernel
theorem d_R_isTooBad_0 : decode c_R_isTooBad 0 = .ok (.aload_n 0, 1) := by decide +kernel
theorem d_R_isTooBad_1 : decode c_R_isTooBad 1 = .ok (.getfield 55, 3) := by decide +kernel
theorem d_R_isTooBad_4 : decode c_R_isTooBad 4 = .ok (.i2l, 1) := by decide +kernel
theorem d_R_isTooBad_5 : decode c_R_isTooBad 5 = .ok (.aload_n 0, 1) := by decide +kernel
theorem d_R_isTooBad_6 : decode c_R_isTooBad 6 = .ok (.getfield 22, 3) := by decide +kernel
theorem d_R_isTooBad_9 : decode c_R_isTooBad 9 = .ok (.i2l, 1) := by decide +kernel
theorem d_R_isTooBad_10 : decode c_R_isTooBad 10 = .ok (.lmul, 1) := by decide +kernel
theorem d_R_isTooBad_11 : decode c_R_isTooBad 11 = .ok (.aload_n 0, 1) := by decide +kernel
theorem d_R_isTooBad_12 : decode c_R_isTooBad 12 = .ok (.getfield 18, 3) := by decide +kernel
theorem d_R_isTooBad_15 : decode c_R_isTooBad 15 = .ok (.i2l, 1) := by decide +kernel
theorem d_R_isTooBad_16 : decode c_R_isTooBad 16 = .ok (.aload_n 0, 1) := by decide +kernel
theorem d_R_isTooBad_17 : decode c_R_isTooBad 17 = .ok (.invokevirtual 81, 3) := by decide +kernel
theorem d_R_isTooBad_20 : decode c_R_isTooBad 20 = .ok (.i2l, 1) := by decide +kernel
theorem d_R_isTooBad_21 : decode c_R_isTooBad 21 = .ok (.lmul, 1) := by decide +kernel
theorem d_R_isTooBad_22 : decode c_R_isTooBad 22 = .ok (.lcmp, 1) := by decide +kernel
theorem d_R_isTooBad_23 : decode c_R_isTooBad 23 = .ok (.ifCond .le 7, 3) := by decide +kernel
theorem d_R_isTooBad_26 : decode c_R_isTooBad 26 = .ok (.iconst 1, 1) := by decide +kernel
theorem d_R_isTooBad_27 : decode c_R_isTooBad 27 = .ok (.goto 4, 3) := by decide +kernel
theorem d_R_isTooBad_30 : decode c_R_isTooBad 30 = .ok (.iconst 0, 1) := by decide +kernel
theorem d_R_isTooBad_31 : decode c_R_isTooBad 31 = .ok (.ireturn, 1) := by decide +kernel
theorem d_R_rollAt_0 : decode c_R_rollAt 0 = .ok (.aload_n 0, 1) := by decide +kernel
theorem d_R_rollAt_1 : decode c_R_rollAt 1 = .ok (.iconst 1, 1) := by decide +kernel
theorem d_R_rollAt_2 : decode c_R_rollAt 2 = .ok (.putfield 25, 3) := by decide +kernel
theorem d_R_rollAt_5 : decode c_R_rollAt 5 = .ok (.aload_n 0, 1) := by decide +kernel
theorem d_R_rollAt_6 : decode c_R_rollAt 6 = .ok (.iconst 0, 1) := by decide +kernel
theorem d_R_rollAt_7 : decode c_R_rollAt 7 = .ok (.putfield 28, 3) := by decide +kernel
theorem d_R_rollAt_10 : decode c_R_rollAt 10 = .ok (.aload_n 0, 1) := by decide +kernel
theorem d_R_rollAt_11 : decode c_R_rollAt 11 = .ok (.iload_n 1, 1) := by decide +kernel
theorem d_R_rollAt_12 : decode c_R_rollAt 12 = .ok (.putfield 62, 3) := by decide +kernel
theorem d_R_rollAt_15 : decode c_R_rollAt 15 = .ok (.aload_n 0, 1) := by decide +kernel
theorem d_R_rollAt_16 : decode c_R_rollAt 16 = .ok (.iload_n 2, 1) := by decide +kernel
theorem d_R_rollAt_17 : decode c_R_rollAt 17 = .ok (.putfield 65, 3) := by decide +kernel
theorem d_R_rollAt_20 : decode c_R_rollAt 20 = .ok (.aload_n 0, 1) := by decide +kernel
theorem d_R_rollAt_21 : decode c_R_rollAt 21 = .ok (.iconst 0, 1) := by decide +kernel
theorem d_R_rollAt_22 : decode c_R_rollAt 22 = .ok (.putfield 52, 3) := by decide +kernel
theorem d_R_rollAt_25 : decode c_R_rollAt 25 = .ok (.aload_n 0, 1) := by decide +kernel
theorem d_R_rollAt_26 : decode c_R_rollAt 26 = .ok (.iconst 0, 1) := by decide +kernel
theorem d_R_rollAt_27 : decode c_R_rollAt 27 = .ok (.putfield 55, 3) := by decide +kernel
theorem d_R_rollAt_30 : decode c_R_rollAt 30 = .ok (.return_, 1) := by decide +kernel
theorem d_R_holdFor_0 : decode c_R_holdFor 0 = .ok (.aload_n 0, 1) := by decide +kernel
theorem d_R_holdFor_1 : decode c_R_holdFor 1 = .ok (.iconst 2, 1) := by decide +kernel
theorem d_R_holdFor_2 : decode c_R_holdFor 2 = .ok (.putfield 25, 3) := by decide +kernel
theorem d_R_holdFor_5 : decode c_R_holdFor 5 = .ok (.aload_n 0, 1) := by decide +kernel
theorem d_R_holdFor_6 : decode c_R_holdFor 6 = .ok (.iload_n 1, 1) := by decide +kernel
theorem d_R_holdFor_7 : decode c_R_holdFor 7 = .ok (.putfield 28, 3) := by decide +kernel
theorem d_R_holdFor_10 : decode c_R_holdFor 10 = .ok (.return_, 1) := by decide +kernel
theorem d_R_isAtStage_0 : decode c_R_isAtStage 0 = .ok (.aload_n 0, 1) := by decide +kernel
theorem d_R_isAtStage_1 : decode c_R_isAtStage 1 = .ok (.getfield 25, 3) := by decide +kernel
theorem d_R_isAtStage_4 : decode c_R_isAtStage 4 = .ok (.iconst 1, 1) := by decide +kernel
theorem d_R_isAtStage_5 : decode c_R_isAtStage 5 = .ok (.if_icmp .eq 11, 3) := by decide +kernel
theorem d_R_isAtStage_8 : decode c_R_isAtStage 8 = .ok (.aload_n 0, 1) := by decide +kernel
theorem d_R_isAtStage_9 : decode c_R_isAtStage 9 = .ok (.getfield 25, 3) := by decide +kernel
theorem d_R_isAtStage_12 : decode c_R_isAtStage 12 = .ok (.iconst 2, 1) := by decide +kernel
theorem d_R_isAtStage_13 : decode c_R_isAtStage 13 = .ok (.if_icmp .ne 7, 3) := by decide +kernel
theorem d_R_isAtStage_16 : decode c_R_isAtStage 16 = .ok (.iconst 1, 1) := by decide +kernel
theorem d_R_isAtStage_17 : decode c_R_isAtStage 17 = .ok (.goto 4, 3) := by decide +kernel
theorem d_R_isAtStage_20 : decode c_R_isAtStage 20 = .ok (.iconst 0, 1) := by decide +kernel
theorem d_R_isAtStage_21 : decode c_R_isAtStage 21 = .ok (.ireturn, 1) := by decide +kernel
theorem d_R_stageNow_0 : decode c_R_stageNow 0 = .ok (.aload_n 0, 1) := by decide +kernel
theorem d_R_stageNow_1 : decode c_R_stageNow 1 = .ok (.invokevirtual 89, 3) := by decide +kernel
theorem d_R_stageNow_4 : decode c_R_stageNow 4 = .ok (.ifCond .eq 10, 3) := by decide +kernel
theorem d_R_stageNow_7 : decode c_R_stageNow 7 = .ok (.aload_n 0, 1) := by decide +kernel
theorem d_R_stageNow_8 : decode c_R_stageNow 8 = .ok (.getfield 62, 3) := by decide +kernel
theorem d_R_stageNow_11 : decode c_R_stageNow 11 = .ok (.goto 4, 3) := by decide +kernel
theorem d_R_stageNow_14 : decode c_R_stageNow 14 = .ok (.iconst (-1), 1) := by decide +kernel
theorem d_R_stageNow_15 : decode c_R_stageNow 15 = .ok (.ireturn, 1) := by decide +kernel
theorem d_R_shareNow_0 : decode c_R_shareNow 0 = .ok (.aload_n 0, 1) := by decide +kernel
theorem d_R_shareNow_1 : decode c_R_shareNow 1 = .ok (.getfield 25, 3) := by decide +kernel
theorem d_R_shareNow_4 : decode c_R_shareNow 4 = .ok (.iconst 3, 1) := by decide +kernel
theorem d_R_shareNow_5 : decode c_R_shareNow 5 = .ok (.if_icmp .ne 7, 3) := by decide +kernel
theorem d_R_shareNow_8 : decode c_R_shareNow 8 = .ok (.sipush 1000, 3) := by decide +kernel
theorem d_R_shareNow_11 : decode c_R_shareNow 11 = .ok (.ireturn, 1) := by decide +kernel
theorem d_R_shareNow_12 : decode c_R_shareNow 12 = .ok (.aload_n 0, 1) := by decide +kernel
theorem d_R_shareNow_13 : decode c_R_shareNow 13 = .ok (.invokevirtual 89, 3) := by decide +kernel
theorem d_R_shareNow_16 : decode c_R_shareNow 16 = .ok (.ifCond .eq 14, 3) := by decide +kernel
theorem d_R_shareNow_19 : decode c_R_shareNow 19 = .ok (.aload_n 0, 1) := by decide +kernel
theorem d_R_shareNow_20 : decode c_R_shareNow 20 = .ok (.aload_n 0, 1) := by decide +kernel
theorem d_R_shareNow_21 : decode c_R_shareNow 21 = .ok (.getfield 9, 3) := by decide +kernel
theorem d_R_shareNow_24 : decode c_R_shareNow 24 = .ok (.invokevirtual 68, 3) := by decide +kernel
theorem d_R_shareNow_27 : decode c_R_shareNow 27 = .ok (.goto 4, 3) := by decide +kernel
theorem d_R_shareNow_30 : decode c_R_shareNow 30 = .ok (.iconst 0, 1) := by decide +kernel
theorem d_R_shareNow_31 : decode c_R_shareNow 31 = .ok (.ireturn, 1) := by decide +kernel
theorem d_R_valueOfStage_0 : decode c_R_valueOfStage 0 = .ok (.aload_n 0, 1) := by decide +kernel
theorem d_R_valueOfStage_1 : decode c_R_valueOfStage 1 = .ok (.getfield 62, 3) := by decide +kernel
theorem d_R_valueOfStage_4 : decode c_R_valueOfStage 4 = .ok (.iconst 0, 1) := by decide +kernel
theorem d_R_valueOfStage_5 : decode c_R_valueOfStage 5 = .ok (.aload_n 1, 1) := by decide +kernel
theorem d_R_valueOfStage_6 : decode c_R_valueOfStage 6 = .ok (.arraylength, 1) := by decide +kernel
theorem d_R_valueOfStage_7 : decode c_R_valueOfStage 7 = .ok (.iconst 1, 1) := by decide +kernel
theorem d_R_valueOfStage_8 : decode c_R_valueOfStage 8 = .ok (.isub, 1) := by decide +kernel
theorem d_R_valueOfStage_9 : decode c_R_valueOfStage 9 = .ok (.invokestatic 44, 3) := by decide +kernel
theorem d_R_valueOfStage_12 : decode c_R_valueOfStage 12 = .ok (.ifCond .eq 12, 3) := by decide +kernel
theorem d_R_valueOfStage_15 : decode c_R_valueOfStage 15 = .ok (.aload_n 1, 1) := by decide +kernel
theorem d_R_valueOfStage_16 : decode c_R_valueOfStage 16 = .ok (.aload_n 0, 1) := by decide +kernel
theorem d_R_valueOfStage_17 : decode c_R_valueOfStage 17 = .ok (.getfield 62, 3) := by decide +kernel
theorem d_R_valueOfStage_20 : decode c_R_valueOfStage 20 = .ok (.iaload, 1) := by decide +kernel
theorem d_R_valueOfStage_21 : decode c_R_valueOfStage 21 = .ok (.goto 4, 3) := by decide +kernel
theorem d_R_valueOfStage_24 : decode c_R_valueOfStage 24 = .ok (.iconst 0, 1) := by decide +kernel
theorem d_R_valueOfStage_25 : decode c_R_valueOfStage 25 = .ok (.ireturn, 1) := by decide +kernel
theorem d_R_allReports_0 : decode c_R_allReports 0 = .ok (.aload_n 0, 1) := by decide +kernel
theorem d_R_allReports_1 : decode c_R_allReports 1 = .ok (.getfield 52, 3) := by decide +kernel
theorem d_R_allReports_4 : decode c_R_allReports 4 = .ok (.aload_n 0, 1) := by decide +kernel
theorem d_R_allReports_5 : decode c_R_allReports 5 = .ok (.getfield 55, 3) := by decide +kernel
theorem d_R_allReports_8 : decode c_R_allReports 8 = .ok (.iadd, 1) := by decide +kernel
theorem d_R_allReports_9 : decode c_R_allReports 9 = .ok (.ireturn, 1) := by decide +kernel
theorem d_R_isForced_0 : decode c_R_isForced 0 = .ok (.aload_n 0, 1) := by decide +kernel
theorem d_R_isForced_1 : decode c_R_isForced 1 = .ok (.getfield 34, 3) := by decide +kernel
theorem d_R_isForced_4 : decode c_R_isForced 4 = .ok (.ifCond .eq 31, 3) := by decide +kernel
theorem d_R_isForced_7 : decode c_R_isForced 7 = .ok (.aload_n 0, 1) := by decide +kernel
theorem d_R_isForced_8 : decode c_R_isForced 8 = .ok (.getfield 25, 3) := by decide +kernel
theorem d_R_isForced_11 : decode c_R_isForced 11 = .ok (.iconst 1, 1) := by decide +kernel
theorem d_R_isForced_12 : decode c_R_isForced 12 = .ok (.if_icmp .eq 19, 3) := by decide +kernel
theorem d_R_isForced_15 : decode c_R_isForced 15 = .ok (.aload_n 0, 1) := by decide +kernel
theorem d_R_isForced_16 : decode c_R_isForced 16 = .ok (.getfield 25, 3) := by decide +kernel
theorem d_R_isForced_19 : decode c_R_isForced 19 = .ok (.iconst 3, 1) := by decide +kernel
theorem d_R_isForced_20 : decode c_R_isForced 20 = .ok (.if_icmp .eq 11, 3) := by decide +kernel
theorem d_R_isForced_23 : decode c_R_isForced 23 = .ok (.aload_n 0, 1) := by decide +kernel
theorem d_R_isForced_24 : decode c_R_isForced 24 = .ok (.getfield 28, 3) := by decide +kernel
theorem d_R_isForced_27 : decode c_R_isForced 27 = .ok (.iconst 3, 1) := by decide +kernel
theorem d_R_isForced_28 : decode c_R_isForced 28 = .ok (.if_icmp .ne 7, 3) := by decide +kernel
theorem d_R_isForced_31 : decode c_R_isForced 31 = .ok (.iconst 1, 1) := by decide +kernel
theorem d_R_isForced_32 : decode c_R_isForced 32 = .ok (.goto 4, 3) := by decide +kernel
theorem d_R_isForced_35 : decode c_R_isForced 35 = .ok (.iconst 0, 1) := by decide +kernel
theorem d_R_isForced_36 : decode c_R_isForced 36 = .ok (.ireturn, 1) := by decide +kernel
theorem d_R_reachesRing_0 : decode c_R_reachesRing 0 = .ok (.aload_n 0, 1) := by decide +kernel
theorem d_R_reachesRing_1 : decode c_R_reachesRing 1 = .ok (.getfield 25, 3) := by decide +kernel
theorem d_R_reachesRing_4 : decode c_R_reachesRing 4 = .ok (.iconst 3, 1) := by decide +kernel
theorem d_R_reachesRing_5 : decode c_R_reachesRing 5 = .ok (.if_icmp .eq 18, 3) := by decide +kernel
theorem d_R_reachesRing_8 : decode c_R_reachesRing 8 = .ok (.aload_n 0, 1) := by decide +kernel
theorem d_R_reachesRing_9 : decode c_R_reachesRing 9 = .ok (.invokevirtual 89, 3) := by decide +kernel
theorem d_R_reachesRing_12 : decode c_R_reachesRing 12 = .ok (.ifCond .eq 15, 3) := by decide +kernel
theorem d_R_reachesRing_15 : decode c_R_reachesRing 15 = .ok (.aload_n 0, 1) := by decide +kernel
theorem d_R_reachesRing_16 : decode c_R_reachesRing 16 = .ok (.getfield 62, 3) := by decide +kernel
theorem d_R_reachesRing_19 : decode c_R_reachesRing 19 = .ok (.iload_n 1, 1) := by decide +kernel
theorem d_R_reachesRing_20 : decode c_R_reachesRing 20 = .ok (.if_icmp .lt 7, 3) := by decide +kernel
theorem d_R_reachesRing_23 : decode c_R_reachesRing 23 = .ok (.iconst 1, 1) := by decide +kernel
theorem d_R_reachesRing_24 : decode c_R_reachesRing 24 = .ok (.goto 4, 3) := by decide +kernel
theorem d_R_reachesRing_27 : decode c_R_reachesRing 27 = .ok (.iconst 0, 1) := by decide +kernel
theorem d_R_reachesRing_28 : decode c_R_reachesRing 28 = .ok (.ireturn, 1) := by decide +kernel
theorem d_L_law_0 : decode c_L_law 0 = .ok (.new 7, 3) := by decide +kernel
theorem d_L_law_3 : decode c_L_law 3 = .ok (.dup, 1) := by decide +kernel
theorem d_L_law_4 : decode c_L_law 4 = .ok (.invokespecial 9, 3) := by decide +kernel
theorem d_L_law_7 : decode c_L_law 7 = .ok (.astore_n 1, 1) := by decide +kernel
theorem d_L_law_8 : decode c_L_law 8 = .ok (.new 10, 3) := by decide +kernel
theorem d_L_law_11 : decode c_L_law 11 = .ok (.dup, 1) := by decide +kernel
theorem d_L_law_12 : decode c_L_law 12 = .ok (.invokespecial 12, 3) := by decide +kernel
theorem d_L_law_15 : decode c_L_law 15 = .ok (.astore_n 2, 1) := by decide +kernel
theorem d_L_law_16 : decode c_L_law 16 = .ok (.iconst 0, 1) := by decide +kernel
theorem d_L_law_17 : decode c_L_law 17 = .ok (.istore_n 3, 1) := by decide +kernel
theorem d_L_law_18 : decode c_L_law 18 = .ok (.iload_n 3, 1) := by decide +kernel
theorem d_L_law_19 : decode c_L_law 19 = .ok (.aload_n 0, 1) := by decide +kernel
theorem d_L_law_20 : decode c_L_law 20 = .ok (.arraylength, 1) := by decide +kernel
theorem d_L_law_21 : decode c_L_law 21 = .ok (.iconst 4, 1) := by decide +kernel
theorem d_L_law_22 : decode c_L_law 22 = .ok (.isub, 1) := by decide +kernel
theorem d_L_law_23 : decode c_L_law 23 = .ok (.if_icmp .gt 763, 3) := by decide +kernel
theorem d_L_law_26 : decode c_L_law 26 = .ok (.aload_n 0, 1) := by decide +kernel
theorem d_L_law_27 : decode c_L_law 27 = .ok (.iload_n 3, 1) := by decide +kernel
theorem d_L_law_28 : decode c_L_law 28 = .ok (.iaload, 1) := by decide +kernel
theorem d_L_law_29 : decode c_L_law 29 = .ok (.bipush 31, 2) := by decide +kernel
theorem d_L_law_31 : decode c_L_law 31 = .ok (.iand, 1) := by decide +kernel
theorem d_L_law_32 : decode c_L_law 32 = .ok (.tableswitch 748 0 19 #[96, 155, 198, 241, 264, 307, 356, 379, 402, 435, 468, 501, 524, 557, 580, 613, 656, 679, 702, 725], 96) := by decide +kernel
theorem d_L_law_128 : decode c_L_law 128 = .ok (.aload_n 1, 1) := by decide +kernel
theorem d_L_law_129 : decode c_L_law 129 = .ok (.aload_n 0, 1) := by decide +kernel
theorem d_L_law_130 : decode c_L_law 130 = .ok (.iload_n 3, 1) := by decide +kernel
theorem d_L_law_131 : decode c_L_law 131 = .ok (.iconst 1, 1) := by decide +kernel
theorem d_L_law_132 : decode c_L_law 132 = .ok (.iadd, 1) := by decide +kernel
theorem d_L_law_133 : decode c_L_law 133 = .ok (.iaload, 1) := by decide +kernel
theorem d_L_law_134 : decode c_L_law 134 = .ok (.aload_n 0, 1) := by decide +kernel
theorem d_L_law_135 : decode c_L_law 135 = .ok (.iload_n 3, 1) := by decide +kernel
theorem d_L_law_136 : decode c_L_law 136 = .ok (.iconst 2, 1) := by decide +kernel
theorem d_L_law_137 : decode c_L_law 137 = .ok (.iadd, 1) := by decide +kernel
theorem d_L_law_138 : decode c_L_law 138 = .ok (.iaload, 1) := by decide +kernel
theorem d_L_law_139 : decode c_L_law 139 = .ok (.ifCond .eq 7, 3) := by decide +kernel
theorem d_L_law_142 : decode c_L_law 142 = .ok (.iconst 1, 1) := by decide +kernel
theorem d_L_law_143 : decode c_L_law 143 = .ok (.goto 4, 3) := by decide +kernel
theorem d_L_law_146 : decode c_L_law 146 = .ok (.iconst 0, 1) := by decide +kernel
theorem d_L_law_147 : decode c_L_law 147 = .ok (.aload_n 0, 1) := by decide +kernel
theorem d_L_law_148 : decode c_L_law 148 = .ok (.iload_n 3, 1) := by decide +kernel
theorem d_L_law_149 : decode c_L_law 149 = .ok (.iconst 3, 1) := by decide +kernel
theorem d_L_law_150 : decode c_L_law 150 = .ok (.iadd, 1) := by decide +kernel
theorem d_L_law_151 : decode c_L_law 151 = .ok (.iaload, 1) := by decide +kernel
theorem d_L_law_152 : decode c_L_law 152 = .ok (.invokevirtual 13, 3) := by decide +kernel
theorem d_L_law_155 : decode c_L_law 155 = .ok (.aload_n 2, 1) := by decide +kernel
theorem d_L_law_156 : decode c_L_law 156 = .ok (.aload_n 0, 1) := by decide +kernel
theorem d_L_law_157 : decode c_L_law 157 = .ok (.iload_n 3, 1) := by decide +kernel
theorem d_L_law_158 : decode c_L_law 158 = .ok (.iconst 1, 1) := by decide +kernel
theorem d_L_law_159 : decode c_L_law 159 = .ok (.iadd, 1) := by decide +kernel
theorem d_L_law_160 : decode c_L_law 160 = .ok (.iaload, 1) := by decide +kernel
theorem d_L_law_161 : decode c_L_law 161 = .ok (.aload_n 0, 1) := by decide +kernel
theorem d_L_law_162 : decode c_L_law 162 = .ok (.iload_n 3, 1) := by decide +kernel
theorem d_L_law_163 : decode c_L_law 163 = .ok (.iconst 2, 1) := by decide +kernel
theorem d_L_law_164 : decode c_L_law 164 = .ok (.iadd, 1) := by decide +kernel
theorem d_L_law_165 : decode c_L_law 165 = .ok (.iaload, 1) := by decide +kernel
theorem d_L_law_166 : decode c_L_law 166 = .ok (.ifCond .eq 7, 3) := by decide +kernel
theorem d_L_law_169 : decode c_L_law 169 = .ok (.iconst 1, 1) := by decide +kernel
theorem d_L_law_170 : decode c_L_law 170 = .ok (.goto 4, 3) := by decide +kernel
theorem d_L_law_173 : decode c_L_law 173 = .ok (.iconst 0, 1) := by decide +kernel
theorem d_L_law_174 : decode c_L_law 174 = .ok (.aload_n 0, 1) := by decide +kernel
theorem d_L_law_175 : decode c_L_law 175 = .ok (.iload_n 3, 1) := by decide +kernel
theorem d_L_law_176 : decode c_L_law 176 = .ok (.iconst 3, 1) := by decide +kernel
theorem d_L_law_177 : decode c_L_law 177 = .ok (.iadd, 1) := by decide +kernel
theorem d_L_law_178 : decode c_L_law 178 = .ok (.iaload, 1) := by decide +kernel
theorem d_L_law_179 : decode c_L_law 179 = .ok (.invokevirtual 17, 3) := by decide +kernel
theorem d_L_law_182 : decode c_L_law 182 = .ok (.if_icmp .eq 598, 3) := by decide +kernel
theorem d_L_law_185 : decode c_L_law 185 = .ok (.iconst 0, 1) := by decide +kernel
theorem d_L_law_186 : decode c_L_law 186 = .ok (.ireturn, 1) := by decide +kernel
theorem d_L_law_187 : decode c_L_law 187 = .ok (.aload_n 1, 1) := by decide +kernel
theorem d_L_law_188 : decode c_L_law 188 = .ok (.aload_n 0, 1) := by decide +kernel
theorem d_L_law_189 : decode c_L_law 189 = .ok (.iload_n 3, 1) := by decide +kernel
theorem d_L_law_190 : decode c_L_law 190 = .ok (.iconst 1, 1) := by decide +kernel
theorem d_L_law_191 : decode c_L_law 191 = .ok (.iadd, 1) := by decide +kernel
theorem d_L_law_192 : decode c_L_law 192 = .ok (.iaload, 1) := by decide +kernel
theorem d_L_law_193 : decode c_L_law 193 = .ok (.aload_n 0, 1) := by decide +kernel
theorem d_L_law_194 : decode c_L_law 194 = .ok (.iload_n 3, 1) := by decide +kernel
theorem d_L_law_195 : decode c_L_law 195 = .ok (.iconst 2, 1) := by decide +kernel
theorem d_L_law_196 : decode c_L_law 196 = .ok (.iadd, 1) := by decide +kernel
theorem d_L_law_197 : decode c_L_law 197 = .ok (.iaload, 1) := by decide +kernel
theorem d_L_law_198 : decode c_L_law 198 = .ok (.aload_n 0, 1) := by decide +kernel
theorem d_L_law_199 : decode c_L_law 199 = .ok (.iload_n 3, 1) := by decide +kernel
theorem d_L_law_200 : decode c_L_law 200 = .ok (.iconst 3, 1) := by decide +kernel
theorem d_L_law_201 : decode c_L_law 201 = .ok (.iadd, 1) := by decide +kernel
theorem d_L_law_202 : decode c_L_law 202 = .ok (.iaload, 1) := by decide +kernel
theorem d_L_law_203 : decode c_L_law 203 = .ok (.invokevirtual 18, 3) := by decide +kernel
theorem d_L_law_206 : decode c_L_law 206 = .ok (.aload_n 2, 1) := by decide +kernel
theorem d_L_law_207 : decode c_L_law 207 = .ok (.aload_n 0, 1) := by decide +kernel
theorem d_L_law_208 : decode c_L_law 208 = .ok (.iload_n 3, 1) := by decide +kernel
theorem d_L_law_209 : decode c_L_law 209 = .ok (.iconst 1, 1) := by decide +kernel
theorem d_L_law_210 : decode c_L_law 210 = .ok (.iadd, 1) := by decide +kernel
theorem d_L_law_211 : decode c_L_law 211 = .ok (.iaload, 1) := by decide +kernel
theorem d_L_law_212 : decode c_L_law 212 = .ok (.aload_n 0, 1) := by decide +kernel
theorem d_L_law_213 : decode c_L_law 213 = .ok (.iload_n 3, 1) := by decide +kernel
theorem d_L_law_214 : decode c_L_law 214 = .ok (.iconst 2, 1) := by decide +kernel
theorem d_L_law_215 : decode c_L_law 215 = .ok (.iadd, 1) := by decide +kernel
theorem d_L_law_216 : decode c_L_law 216 = .ok (.iaload, 1) := by decide +kernel
theorem d_L_law_217 : decode c_L_law 217 = .ok (.aload_n 0, 1) := by decide +kernel
theorem d_L_law_218 : decode c_L_law 218 = .ok (.iload_n 3, 1) := by decide +kernel
theorem d_L_law_219 : decode c_L_law 219 = .ok (.iconst 3, 1) := by decide +kernel
theorem d_L_law_220 : decode c_L_law 220 = .ok (.iadd, 1) := by decide +kernel
theorem d_L_law_221 : decode c_L_law 221 = .ok (.iaload, 1) := by decide +kernel
theorem d_L_law_222 : decode c_L_law 222 = .ok (.invokevirtual 22, 3) := by decide +kernel
theorem d_L_law_225 : decode c_L_law 225 = .ok (.if_icmp .eq 555, 3) := by decide +kernel
theorem d_L_law_228 : decode c_L_law 228 = .ok (.iconst 0, 1) := by decide +kernel
theorem d_L_law_229 : decode c_L_law 229 = .ok (.ireturn, 1) := by decide +kernel
theorem d_L_law_230 : decode c_L_law 230 = .ok (.aload_n 1, 1) := by decide +kernel
theorem d_L_law_231 : decode c_L_law 231 = .ok (.aload_n 0, 1) := by decide +kernel
theorem d_L_law_232 : decode c_L_law 232 = .ok (.iload_n 3, 1) := by decide +kernel
theorem d_L_law_233 : decode c_L_law 233 = .ok (.iconst 1, 1) := by decide +kernel
theorem d_L_law_234 : decode c_L_law 234 = .ok (.iadd, 1) := by decide +kernel
theorem d_L_law_235 : decode c_L_law 235 = .ok (.iaload, 1) := by decide +kernel
theorem d_L_law_236 : decode c_L_law 236 = .ok (.aload_n 0, 1) := by decide +kernel
theorem d_L_law_237 : decode c_L_law 237 = .ok (.iload_n 3, 1) := by decide +kernel
theorem d_L_law_238 : decode c_L_law 238 = .ok (.iconst 2, 1) := by decide +kernel
theorem d_L_law_239 : decode c_L_law 239 = .ok (.iadd, 1) := by decide +kernel
theorem d_L_law_240 : decode c_L_law 240 = .ok (.iaload, 1) := by decide +kernel
theorem d_L_law_241 : decode c_L_law 241 = .ok (.aload_n 0, 1) := by decide +kernel
theorem d_L_law_242 : decode c_L_law 242 = .ok (.iload_n 3, 1) := by decide +kernel
theorem d_L_law_243 : decode c_L_law 243 = .ok (.iconst 3, 1) := by decide +kernel
theorem d_L_law_244 : decode c_L_law 244 = .ok (.iadd, 1) := by decide +kernel
theorem d_L_law_245 : decode c_L_law 245 = .ok (.iaload, 1) := by decide +kernel
theorem d_L_law_246 : decode c_L_law 246 = .ok (.invokevirtual 23, 3) := by decide +kernel
theorem d_L_law_249 : decode c_L_law 249 = .ok (.aload_n 2, 1) := by decide +kernel
theorem d_L_law_250 : decode c_L_law 250 = .ok (.aload_n 0, 1) := by decide +kernel
theorem d_L_law_251 : decode c_L_law 251 = .ok (.iload_n 3, 1) := by decide +kernel
theorem d_L_law_252 : decode c_L_law 252 = .ok (.iconst 1, 1) := by decide +kernel
theorem d_L_law_253 : decode c_L_law 253 = .ok (.iadd, 1) := by decide +kernel
theorem d_L_law_254 : decode c_L_law 254 = .ok (.iaload, 1) := by decide +kernel
theorem d_L_law_255 : decode c_L_law 255 = .ok (.aload_n 0, 1) := by decide +kernel
theorem d_L_law_256 : decode c_L_law 256 = .ok (.iload_n 3, 1) := by decide +kernel
theorem d_L_law_257 : decode c_L_law 257 = .ok (.iconst 2, 1) := by decide +kernel
theorem d_L_law_258 : decode c_L_law 258 = .ok (.iadd, 1) := by decide +kernel
theorem d_L_law_259 : decode c_L_law 259 = .ok (.iaload, 1) := by decide +kernel
theorem d_L_law_260 : decode c_L_law 260 = .ok (.aload_n 0, 1) := by decide +kernel
theorem d_L_law_261 : decode c_L_law 261 = .ok (.iload_n 3, 1) := by decide +kernel
theorem d_L_law_262 : decode c_L_law 262 = .ok (.iconst 3, 1) := by decide +kernel
theorem d_L_law_263 : decode c_L_law 263 = .ok (.iadd, 1) := by decide +kernel
theorem d_L_law_264 : decode c_L_law 264 = .ok (.iaload, 1) := by decide +kernel
theorem d_L_law_265 : decode c_L_law 265 = .ok (.invokevirtual 26, 3) := by decide +kernel
theorem d_L_law_268 : decode c_L_law 268 = .ok (.if_icmp .eq 512, 3) := by decide +kernel
theorem d_L_law_271 : decode c_L_law 271 = .ok (.iconst 0, 1) := by decide +kernel
theorem d_L_law_272 : decode c_L_law 272 = .ok (.ireturn, 1) := by decide +kernel
theorem d_L_law_273 : decode c_L_law 273 = .ok (.aload_n 1, 1) := by decide +kernel
theorem d_L_law_274 : decode c_L_law 274 = .ok (.aload_n 0, 1) := by decide +kernel
theorem d_L_law_275 : decode c_L_law 275 = .ok (.iload_n 3, 1) := by decide +kernel
theorem d_L_law_276 : decode c_L_law 276 = .ok (.iconst 1, 1) := by decide +kernel
theorem d_L_law_277 : decode c_L_law 277 = .ok (.iadd, 1) := by decide +kernel
theorem d_L_law_278 : decode c_L_law 278 = .ok (.iaload, 1) := by decide +kernel
theorem d_L_law_279 : decode c_L_law 279 = .ok (.invokevirtual 27, 3) := by decide +kernel
theorem d_L_law_282 : decode c_L_law 282 = .ok (.aload_n 2, 1) := by decide +kernel
theorem d_L_law_283 : decode c_L_law 283 = .ok (.aload_n 0, 1) := by decide +kernel
theorem d_L_law_284 : decode c_L_law 284 = .ok (.iload_n 3, 1) := by decide +kernel
theorem d_L_law_285 : decode c_L_law 285 = .ok (.iconst 1, 1) := by decide +kernel
theorem d_L_law_286 : decode c_L_law 286 = .ok (.iadd, 1) := by decide +kernel
theorem d_L_law_287 : decode c_L_law 287 = .ok (.iaload, 1) := by decide +kernel
theorem d_L_law_288 : decode c_L_law 288 = .ok (.invokevirtual 31, 3) := by decide +kernel
theorem d_L_law_291 : decode c_L_law 291 = .ok (.if_icmp .eq 489, 3) := by decide +kernel
theorem d_L_law_294 : decode c_L_law 294 = .ok (.iconst 0, 1) := by decide +kernel
theorem d_L_law_295 : decode c_L_law 295 = .ok (.ireturn, 1) := by decide +kernel
theorem d_L_law_296 : decode c_L_law 296 = .ok (.aload_n 1, 1) := by decide +kernel
theorem d_L_law_297 : decode c_L_law 297 = .ok (.aload_n 0, 1) := by decide +kernel
theorem d_L_law_298 : decode c_L_law 298 = .ok (.iload_n 3, 1) := by decide +kernel
theorem d_L_law_299 : decode c_L_law 299 = .ok (.iconst 1, 1) := by decide +kernel
theorem d_L_law_300 : decode c_L_law 300 = .ok (.iadd, 1) := by decide +kernel
theorem d_L_law_301 : decode c_L_law 301 = .ok (.iaload, 1) := by decide +kernel
theorem d_L_law_302 : decode c_L_law 302 = .ok (.aload_n 0, 1) := by decide +kernel
theorem d_L_law_303 : decode c_L_law 303 = .ok (.iload_n 3, 1) := by decide +kernel
theorem d_L_law_304 : decode c_L_law 304 = .ok (.iconst 2, 1) := by decide +kernel
theorem d_L_law_305 : decode c_L_law 305 = .ok (.iadd, 1) := by decide +kernel
theorem d_L_law_306 : decode c_L_law 306 = .ok (.iaload, 1) := by decide +kernel
theorem d_L_law_307 : decode c_L_law 307 = .ok (.aload_n 0, 1) := by decide +kernel
theorem d_L_law_308 : decode c_L_law 308 = .ok (.iload_n 3, 1) := by decide +kernel
theorem d_L_law_309 : decode c_L_law 309 = .ok (.iconst 3, 1) := by decide +kernel
theorem d_L_law_310 : decode c_L_law 310 = .ok (.iadd, 1) := by decide +kernel
theorem d_L_law_311 : decode c_L_law 311 = .ok (.iaload, 1) := by decide +kernel
theorem d_L_law_312 : decode c_L_law 312 = .ok (.invokevirtual 32, 3) := by decide +kernel
theorem d_L_law_315 : decode c_L_law 315 = .ok (.aload_n 2, 1) := by decide +kernel
theorem d_L_law_316 : decode c_L_law 316 = .ok (.aload_n 0, 1) := by decide +kernel
theorem d_L_law_317 : decode c_L_law 317 = .ok (.iload_n 3, 1) := by decide +kernel
theorem d_L_law_318 : decode c_L_law 318 = .ok (.iconst 1, 1) := by decide +kernel
theorem d_L_law_319 : decode c_L_law 319 = .ok (.iadd, 1) := by decide +kernel
theorem d_L_law_320 : decode c_L_law 320 = .ok (.iaload, 1) := by decide +kernel
theorem d_L_law_321 : decode c_L_law 321 = .ok (.aload_n 0, 1) := by decide +kernel
theorem d_L_law_322 : decode c_L_law 322 = .ok (.iload_n 3, 1) := by decide +kernel
theorem d_L_law_323 : decode c_L_law 323 = .ok (.iconst 2, 1) := by decide +kernel
theorem d_L_law_324 : decode c_L_law 324 = .ok (.iadd, 1) := by decide +kernel
theorem d_L_law_325 : decode c_L_law 325 = .ok (.iaload, 1) := by decide +kernel
theorem d_L_law_326 : decode c_L_law 326 = .ok (.aload_n 0, 1) := by decide +kernel
theorem d_L_law_327 : decode c_L_law 327 = .ok (.iload_n 3, 1) := by decide +kernel
theorem d_L_law_328 : decode c_L_law 328 = .ok (.iconst 3, 1) := by decide +kernel
theorem d_L_law_329 : decode c_L_law 329 = .ok (.iadd, 1) := by decide +kernel
theorem d_L_law_330 : decode c_L_law 330 = .ok (.iaload, 1) := by decide +kernel
theorem d_L_law_331 : decode c_L_law 331 = .ok (.invokevirtual 35, 3) := by decide +kernel
theorem d_L_law_334 : decode c_L_law 334 = .ok (.if_icmp .eq 446, 3) := by decide +kernel
theorem d_L_law_337 : decode c_L_law 337 = .ok (.iconst 0, 1) := by decide +kernel
theorem d_L_law_338 : decode c_L_law 338 = .ok (.ireturn, 1) := by decide +kernel
theorem d_L_law_339 : decode c_L_law 339 = .ok (.aload_n 1, 1) := by decide +kernel
theorem d_L_law_340 : decode c_L_law 340 = .ok (.aload_n 0, 1) := by decide +kernel
theorem d_L_law_341 : decode c_L_law 341 = .ok (.iload_n 3, 1) := by decide +kernel
theorem d_L_law_342 : decode c_L_law 342 = .ok (.iconst 1, 1) := by decide +kernel
theorem d_L_law_343 : decode c_L_law 343 = .ok (.iadd, 1) := by decide +kernel
theorem d_L_law_344 : decode c_L_law 344 = .ok (.iaload, 1) := by decide +kernel
theorem d_L_law_345 : decode c_L_law 345 = .ok (.aload_n 0, 1) := by decide +kernel
theorem d_L_law_346 : decode c_L_law 346 = .ok (.iload_n 3, 1) := by decide +kernel
theorem d_L_law_347 : decode c_L_law 347 = .ok (.iconst 2, 1) := by decide +kernel
theorem d_L_law_348 : decode c_L_law 348 = .ok (.iadd, 1) := by decide +kernel
theorem d_L_law_349 : decode c_L_law 349 = .ok (.iaload, 1) := by decide +kernel
theorem d_L_law_350 : decode c_L_law 350 = .ok (.ifCond .eq 7, 3) := by decide +kernel
theorem d_L_law_353 : decode c_L_law 353 = .ok (.iconst 1, 1) := by decide +kernel
theorem d_L_law_354 : decode c_L_law 354 = .ok (.goto 4, 3) := by decide +kernel
theorem d_L_law_357 : decode c_L_law 357 = .ok (.iconst 0, 1) := by decide +kernel
theorem d_L_law_358 : decode c_L_law 358 = .ok (.invokevirtual 36, 3) := by decide +kernel
theorem d_L_law_361 : decode c_L_law 361 = .ok (.aload_n 2, 1) := by decide +kernel
theorem d_L_law_362 : decode c_L_law 362 = .ok (.aload_n 0, 1) := by decide +kernel
theorem d_L_law_363 : decode c_L_law 363 = .ok (.iload_n 3, 1) := by decide +kernel
theorem d_L_law_364 : decode c_L_law 364 = .ok (.iconst 1, 1) := by decide +kernel
theorem d_L_law_365 : decode c_L_law 365 = .ok (.iadd, 1) := by decide +kernel
theorem d_L_law_366 : decode c_L_law 366 = .ok (.iaload, 1) := by decide +kernel
theorem d_L_law_367 : decode c_L_law 367 = .ok (.aload_n 0, 1) := by decide +kernel
theorem d_L_law_368 : decode c_L_law 368 = .ok (.iload_n 3, 1) := by decide +kernel
theorem d_L_law_369 : decode c_L_law 369 = .ok (.iconst 2, 1) := by decide +kernel
theorem d_L_law_370 : decode c_L_law 370 = .ok (.iadd, 1) := by decide +kernel
theorem d_L_law_371 : decode c_L_law 371 = .ok (.iaload, 1) := by decide +kernel
theorem d_L_law_372 : decode c_L_law 372 = .ok (.ifCond .eq 7, 3) := by decide +kernel
theorem d_L_law_375 : decode c_L_law 375 = .ok (.iconst 1, 1) := by decide +kernel
theorem d_L_law_376 : decode c_L_law 376 = .ok (.goto 4, 3) := by decide +kernel
theorem d_L_law_379 : decode c_L_law 379 = .ok (.iconst 0, 1) := by decide +kernel
theorem d_L_law_380 : decode c_L_law 380 = .ok (.invokevirtual 40, 3) := by decide +kernel
theorem d_L_law_383 : decode c_L_law 383 = .ok (.if_icmp .eq 397, 3) := by decide +kernel
theorem d_L_law_386 : decode c_L_law 386 = .ok (.iconst 0, 1) := by decide +kernel
theorem d_L_law_387 : decode c_L_law 387 = .ok (.ireturn, 1) := by decide +kernel
theorem d_L_law_388 : decode c_L_law 388 = .ok (.aload_n 1, 1) := by decide +kernel
theorem d_L_law_389 : decode c_L_law 389 = .ok (.aload_n 0, 1) := by decide +kernel
theorem d_L_law_390 : decode c_L_law 390 = .ok (.iload_n 3, 1) := by decide +kernel
theorem d_L_law_391 : decode c_L_law 391 = .ok (.iconst 1, 1) := by decide +kernel
theorem d_L_law_392 : decode c_L_law 392 = .ok (.iadd, 1) := by decide +kernel
theorem d_L_law_393 : decode c_L_law 393 = .ok (.iaload, 1) := by decide +kernel
theorem d_L_law_394 : decode c_L_law 394 = .ok (.invokevirtual 41, 3) := by decide +kernel
theorem d_L_law_397 : decode c_L_law 397 = .ok (.aload_n 2, 1) := by decide +kernel
end
section
theorem d_L_law_398 : decode c_L_law 398 = .ok (.aload_n 0, 1) := by decide +kernel
theorem d_L_law_399 : decode c_L_law 399 = .ok (.iload_n 3, 1) := by decide +kernel
theorem d_L_law_400 : decode c_L_law 400 = .ok (.iconst 1, 1) := by decide +kernel
theorem d_L_law_401 : decode c_L_law 401 = .ok (.iadd, 1) := by decide +kernel
theorem d_L_law_402 : decode c_L_law 402 = .ok (.iaload, 1) := by decide +kernel
theorem d_L_law_403 : decode c_L_law 403 = .ok (.invokevirtual 44, 3) := by decide +kernel
theorem d_L_law_406 : decode c_L_law 406 = .ok (.if_icmp .eq 374, 3) := by decide +kernel
theorem d_L_law_409 : decode c_L_law 409 = .ok (.iconst 0, 1) := by decide +kernel
theorem d_L_law_410 : decode c_L_law 410 = .ok (.ireturn, 1) := by decide +kernel
theorem d_L_law_411 : decode c_L_law 411 = .ok (.aload_n 1, 1) := by decide +kernel
theorem d_L_law_412 : decode c_L_law 412 = .ok (.aload_n 0, 1) := by decide +kernel
theorem d_L_law_413 : decode c_L_law 413 = .ok (.iload_n 3, 1) := by decide +kernel
theorem d_L_law_414 : decode c_L_law 414 = .ok (.iconst 1, 1) := by decide +kernel
theorem d_L_law_415 : decode c_L_law 415 = .ok (.iadd, 1) := by decide +kernel
theorem d_L_law_416 : decode c_L_law 416 = .ok (.iaload, 1) := by decide +kernel
theorem d_L_law_417 : decode c_L_law 417 = .ok (.invokevirtual 45, 3) := by decide +kernel
theorem d_L_law_420 : decode c_L_law 420 = .ok (.aload_n 2, 1) := by decide +kernel
theorem d_L_law_421 : decode c_L_law 421 = .ok (.aload_n 0, 1) := by decide +kernel
theorem d_L_law_422 : decode c_L_law 422 = .ok (.iload_n 3, 1) := by decide +kernel
theorem d_L_law_423 : decode c_L_law 423 = .ok (.iconst 1, 1) := by decide +kernel
theorem d_L_law_424 : decode c_L_law 424 = .ok (.iadd, 1) := by decide +kernel
theorem d_L_law_425 : decode c_L_law 425 = .ok (.iaload, 1) := by decide +kernel
theorem d_L_law_426 : decode c_L_law 426 = .ok (.invokevirtual 49, 3) := by decide +kernel
theorem d_L_law_429 : decode c_L_law 429 = .ok (.if_icmp .eq 351, 3) := by decide +kernel
theorem d_L_law_432 : decode c_L_law 432 = .ok (.iconst 0, 1) := by decide +kernel
theorem d_L_law_433 : decode c_L_law 433 = .ok (.ireturn, 1) := by decide +kernel
theorem d_L_law_434 : decode c_L_law 434 = .ok (.aload_n 1, 1) := by decide +kernel
theorem d_L_law_435 : decode c_L_law 435 = .ok (.aload_n 0, 1) := by decide +kernel
theorem d_L_law_436 : decode c_L_law 436 = .ok (.iload_n 3, 1) := by decide +kernel
theorem d_L_law_437 : decode c_L_law 437 = .ok (.iconst 1, 1) := by decide +kernel
theorem d_L_law_438 : decode c_L_law 438 = .ok (.iadd, 1) := by decide +kernel
theorem d_L_law_439 : decode c_L_law 439 = .ok (.iaload, 1) := by decide +kernel
theorem d_L_law_440 : decode c_L_law 440 = .ok (.aload_n 0, 1) := by decide +kernel
theorem d_L_law_441 : decode c_L_law 441 = .ok (.iload_n 3, 1) := by decide +kernel
theorem d_L_law_442 : decode c_L_law 442 = .ok (.iconst 2, 1) := by decide +kernel
theorem d_L_law_443 : decode c_L_law 443 = .ok (.iadd, 1) := by decide +kernel
theorem d_L_law_444 : decode c_L_law 444 = .ok (.iaload, 1) := by decide +kernel
theorem d_L_law_445 : decode c_L_law 445 = .ok (.invokevirtual 50, 3) := by decide +kernel
theorem d_L_law_448 : decode c_L_law 448 = .ok (.aload_n 2, 1) := by decide +kernel
theorem d_L_law_449 : decode c_L_law 449 = .ok (.aload_n 0, 1) := by decide +kernel
theorem d_L_law_450 : decode c_L_law 450 = .ok (.iload_n 3, 1) := by decide +kernel
theorem d_L_law_451 : decode c_L_law 451 = .ok (.iconst 1, 1) := by decide +kernel
theorem d_L_law_452 : decode c_L_law 452 = .ok (.iadd, 1) := by decide +kernel
theorem d_L_law_453 : decode c_L_law 453 = .ok (.iaload, 1) := by decide +kernel
theorem d_L_law_454 : decode c_L_law 454 = .ok (.aload_n 0, 1) := by decide +kernel
theorem d_L_law_455 : decode c_L_law 455 = .ok (.iload_n 3, 1) := by decide +kernel
theorem d_L_law_456 : decode c_L_law 456 = .ok (.iconst 2, 1) := by decide +kernel
theorem d_L_law_457 : decode c_L_law 457 = .ok (.iadd, 1) := by decide +kernel
theorem d_L_law_458 : decode c_L_law 458 = .ok (.iaload, 1) := by decide +kernel
theorem d_L_law_459 : decode c_L_law 459 = .ok (.invokevirtual 54, 3) := by decide +kernel
theorem d_L_law_462 : decode c_L_law 462 = .ok (.if_icmp .eq 318, 3) := by decide +kernel
theorem d_L_law_465 : decode c_L_law 465 = .ok (.iconst 0, 1) := by decide +kernel
theorem d_L_law_466 : decode c_L_law 466 = .ok (.ireturn, 1) := by decide +kernel
theorem d_L_law_467 : decode c_L_law 467 = .ok (.aload_n 1, 1) := by decide +kernel
theorem d_L_law_468 : decode c_L_law 468 = .ok (.aload_n 0, 1) := by decide +kernel
theorem d_L_law_469 : decode c_L_law 469 = .ok (.iload_n 3, 1) := by decide +kernel
theorem d_L_law_470 : decode c_L_law 470 = .ok (.iconst 1, 1) := by decide +kernel
theorem d_L_law_471 : decode c_L_law 471 = .ok (.iadd, 1) := by decide +kernel
theorem d_L_law_472 : decode c_L_law 472 = .ok (.iaload, 1) := by decide +kernel
theorem d_L_law_473 : decode c_L_law 473 = .ok (.aload_n 0, 1) := by decide +kernel
theorem d_L_law_474 : decode c_L_law 474 = .ok (.iload_n 3, 1) := by decide +kernel
theorem d_L_law_475 : decode c_L_law 475 = .ok (.iconst 2, 1) := by decide +kernel
theorem d_L_law_476 : decode c_L_law 476 = .ok (.iadd, 1) := by decide +kernel
theorem d_L_law_477 : decode c_L_law 477 = .ok (.iaload, 1) := by decide +kernel
theorem d_L_law_478 : decode c_L_law 478 = .ok (.invokevirtual 55, 3) := by decide +kernel
theorem d_L_law_481 : decode c_L_law 481 = .ok (.aload_n 2, 1) := by decide +kernel
theorem d_L_law_482 : decode c_L_law 482 = .ok (.aload_n 0, 1) := by decide +kernel
theorem d_L_law_483 : decode c_L_law 483 = .ok (.iload_n 3, 1) := by decide +kernel
theorem d_L_law_484 : decode c_L_law 484 = .ok (.iconst 1, 1) := by decide +kernel
theorem d_L_law_485 : decode c_L_law 485 = .ok (.iadd, 1) := by decide +kernel
theorem d_L_law_486 : decode c_L_law 486 = .ok (.iaload, 1) := by decide +kernel
theorem d_L_law_487 : decode c_L_law 487 = .ok (.aload_n 0, 1) := by decide +kernel
theorem d_L_law_488 : decode c_L_law 488 = .ok (.iload_n 3, 1) := by decide +kernel
theorem d_L_law_489 : decode c_L_law 489 = .ok (.iconst 2, 1) := by decide +kernel
theorem d_L_law_490 : decode c_L_law 490 = .ok (.iadd, 1) := by decide +kernel
theorem d_L_law_491 : decode c_L_law 491 = .ok (.iaload, 1) := by decide +kernel
theorem d_L_law_492 : decode c_L_law 492 = .ok (.invokevirtual 59, 3) := by decide +kernel
theorem d_L_law_495 : decode c_L_law 495 = .ok (.if_icmp .eq 285, 3) := by decide +kernel
theorem d_L_law_498 : decode c_L_law 498 = .ok (.iconst 0, 1) := by decide +kernel
theorem d_L_law_499 : decode c_L_law 499 = .ok (.ireturn, 1) := by decide +kernel
theorem d_L_law_500 : decode c_L_law 500 = .ok (.aload_n 1, 1) := by decide +kernel
theorem d_L_law_501 : decode c_L_law 501 = .ok (.aload_n 0, 1) := by decide +kernel
theorem d_L_law_502 : decode c_L_law 502 = .ok (.iload_n 3, 1) := by decide +kernel
theorem d_L_law_503 : decode c_L_law 503 = .ok (.iconst 1, 1) := by decide +kernel
theorem d_L_law_504 : decode c_L_law 504 = .ok (.iadd, 1) := by decide +kernel
theorem d_L_law_505 : decode c_L_law 505 = .ok (.iaload, 1) := by decide +kernel
theorem d_L_law_506 : decode c_L_law 506 = .ok (.aload_n 0, 1) := by decide +kernel
theorem d_L_law_507 : decode c_L_law 507 = .ok (.iload_n 3, 1) := by decide +kernel
theorem d_L_law_508 : decode c_L_law 508 = .ok (.iconst 2, 1) := by decide +kernel
theorem d_L_law_509 : decode c_L_law 509 = .ok (.iadd, 1) := by decide +kernel
theorem d_L_law_510 : decode c_L_law 510 = .ok (.iaload, 1) := by decide +kernel
theorem d_L_law_511 : decode c_L_law 511 = .ok (.invokevirtual 60, 3) := by decide +kernel
theorem d_L_law_514 : decode c_L_law 514 = .ok (.aload_n 2, 1) := by decide +kernel
theorem d_L_law_515 : decode c_L_law 515 = .ok (.aload_n 0, 1) := by decide +kernel
theorem d_L_law_516 : decode c_L_law 516 = .ok (.iload_n 3, 1) := by decide +kernel
theorem d_L_law_517 : decode c_L_law 517 = .ok (.iconst 1, 1) := by decide +kernel
theorem d_L_law_518 : decode c_L_law 518 = .ok (.iadd, 1) := by decide +kernel
theorem d_L_law_519 : decode c_L_law 519 = .ok (.iaload, 1) := by decide +kernel
theorem d_L_law_520 : decode c_L_law 520 = .ok (.aload_n 0, 1) := by decide +kernel
theorem d_L_law_521 : decode c_L_law 521 = .ok (.iload_n 3, 1) := by decide +kernel
theorem d_L_law_522 : decode c_L_law 522 = .ok (.iconst 2, 1) := by decide +kernel
theorem d_L_law_523 : decode c_L_law 523 = .ok (.iadd, 1) := by decide +kernel
theorem d_L_law_524 : decode c_L_law 524 = .ok (.iaload, 1) := by decide +kernel
theorem d_L_law_525 : decode c_L_law 525 = .ok (.invokevirtual 63, 3) := by decide +kernel
theorem d_L_law_528 : decode c_L_law 528 = .ok (.if_icmp .eq 252, 3) := by decide +kernel
theorem d_L_law_531 : decode c_L_law 531 = .ok (.iconst 0, 1) := by decide +kernel
theorem d_L_law_532 : decode c_L_law 532 = .ok (.ireturn, 1) := by decide +kernel
theorem d_L_law_533 : decode c_L_law 533 = .ok (.aload_n 1, 1) := by decide +kernel
theorem d_L_law_534 : decode c_L_law 534 = .ok (.aload_n 0, 1) := by decide +kernel
theorem d_L_law_535 : decode c_L_law 535 = .ok (.iload_n 3, 1) := by decide +kernel
theorem d_L_law_536 : decode c_L_law 536 = .ok (.iconst 1, 1) := by decide +kernel
theorem d_L_law_537 : decode c_L_law 537 = .ok (.iadd, 1) := by decide +kernel
theorem d_L_law_538 : decode c_L_law 538 = .ok (.iaload, 1) := by decide +kernel
theorem d_L_law_539 : decode c_L_law 539 = .ok (.invokevirtual 64, 3) := by decide +kernel
theorem d_L_law_542 : decode c_L_law 542 = .ok (.aload_n 2, 1) := by decide +kernel
theorem d_L_law_543 : decode c_L_law 543 = .ok (.aload_n 0, 1) := by decide +kernel
theorem d_L_law_544 : decode c_L_law 544 = .ok (.iload_n 3, 1) := by decide +kernel
theorem d_L_law_545 : decode c_L_law 545 = .ok (.iconst 1, 1) := by decide +kernel
theorem d_L_law_546 : decode c_L_law 546 = .ok (.iadd, 1) := by decide +kernel
theorem d_L_law_547 : decode c_L_law 547 = .ok (.iaload, 1) := by decide +kernel
theorem d_L_law_548 : decode c_L_law 548 = .ok (.invokevirtual 67, 3) := by decide +kernel
theorem d_L_law_551 : decode c_L_law 551 = .ok (.if_icmp .eq 229, 3) := by decide +kernel
theorem d_L_law_554 : decode c_L_law 554 = .ok (.iconst 0, 1) := by decide +kernel
theorem d_L_law_555 : decode c_L_law 555 = .ok (.ireturn, 1) := by decide +kernel
theorem d_L_law_556 : decode c_L_law 556 = .ok (.aload_n 1, 1) := by decide +kernel
theorem d_L_law_557 : decode c_L_law 557 = .ok (.aload_n 0, 1) := by decide +kernel
theorem d_L_law_558 : decode c_L_law 558 = .ok (.iload_n 3, 1) := by decide +kernel
theorem d_L_law_559 : decode c_L_law 559 = .ok (.iconst 1, 1) := by decide +kernel
theorem d_L_law_560 : decode c_L_law 560 = .ok (.iadd, 1) := by decide +kernel
theorem d_L_law_561 : decode c_L_law 561 = .ok (.iaload, 1) := by decide +kernel
theorem d_L_law_562 : decode c_L_law 562 = .ok (.aload_n 0, 1) := by decide +kernel
theorem d_L_law_563 : decode c_L_law 563 = .ok (.iload_n 3, 1) := by decide +kernel
theorem d_L_law_564 : decode c_L_law 564 = .ok (.iconst 2, 1) := by decide +kernel
theorem d_L_law_565 : decode c_L_law 565 = .ok (.iadd, 1) := by decide +kernel
theorem d_L_law_566 : decode c_L_law 566 = .ok (.iaload, 1) := by decide +kernel
theorem d_L_law_567 : decode c_L_law 567 = .ok (.invokevirtual 68, 3) := by decide +kernel
theorem d_L_law_570 : decode c_L_law 570 = .ok (.aload_n 2, 1) := by decide +kernel
theorem d_L_law_571 : decode c_L_law 571 = .ok (.aload_n 0, 1) := by decide +kernel
theorem d_L_law_572 : decode c_L_law 572 = .ok (.iload_n 3, 1) := by decide +kernel
theorem d_L_law_573 : decode c_L_law 573 = .ok (.iconst 1, 1) := by decide +kernel
theorem d_L_law_574 : decode c_L_law 574 = .ok (.iadd, 1) := by decide +kernel
theorem d_L_law_575 : decode c_L_law 575 = .ok (.iaload, 1) := by decide +kernel
theorem d_L_law_576 : decode c_L_law 576 = .ok (.aload_n 0, 1) := by decide +kernel
theorem d_L_law_577 : decode c_L_law 577 = .ok (.iload_n 3, 1) := by decide +kernel
theorem d_L_law_578 : decode c_L_law 578 = .ok (.iconst 2, 1) := by decide +kernel
theorem d_L_law_579 : decode c_L_law 579 = .ok (.iadd, 1) := by decide +kernel
theorem d_L_law_580 : decode c_L_law 580 = .ok (.iaload, 1) := by decide +kernel
theorem d_L_law_581 : decode c_L_law 581 = .ok (.invokevirtual 71, 3) := by decide +kernel
theorem d_L_law_584 : decode c_L_law 584 = .ok (.if_icmp .eq 196, 3) := by decide +kernel
theorem d_L_law_587 : decode c_L_law 587 = .ok (.iconst 0, 1) := by decide +kernel
theorem d_L_law_588 : decode c_L_law 588 = .ok (.ireturn, 1) := by decide +kernel
theorem d_L_law_589 : decode c_L_law 589 = .ok (.aload_n 1, 1) := by decide +kernel
theorem d_L_law_590 : decode c_L_law 590 = .ok (.aload_n 0, 1) := by decide +kernel
theorem d_L_law_591 : decode c_L_law 591 = .ok (.iload_n 3, 1) := by decide +kernel
theorem d_L_law_592 : decode c_L_law 592 = .ok (.iconst 1, 1) := by decide +kernel
theorem d_L_law_593 : decode c_L_law 593 = .ok (.iadd, 1) := by decide +kernel
theorem d_L_law_594 : decode c_L_law 594 = .ok (.iaload, 1) := by decide +kernel
theorem d_L_law_595 : decode c_L_law 595 = .ok (.invokevirtual 72, 3) := by decide +kernel
theorem d_L_law_598 : decode c_L_law 598 = .ok (.aload_n 2, 1) := by decide +kernel
theorem d_L_law_599 : decode c_L_law 599 = .ok (.aload_n 0, 1) := by decide +kernel
theorem d_L_law_600 : decode c_L_law 600 = .ok (.iload_n 3, 1) := by decide +kernel
theorem d_L_law_601 : decode c_L_law 601 = .ok (.iconst 1, 1) := by decide +kernel
theorem d_L_law_602 : decode c_L_law 602 = .ok (.iadd, 1) := by decide +kernel
theorem d_L_law_603 : decode c_L_law 603 = .ok (.iaload, 1) := by decide +kernel
theorem d_L_law_604 : decode c_L_law 604 = .ok (.invokevirtual 75, 3) := by decide +kernel
theorem d_L_law_607 : decode c_L_law 607 = .ok (.if_icmp .eq 173, 3) := by decide +kernel
theorem d_L_law_610 : decode c_L_law 610 = .ok (.iconst 0, 1) := by decide +kernel
theorem d_L_law_611 : decode c_L_law 611 = .ok (.ireturn, 1) := by decide +kernel
theorem d_L_law_612 : decode c_L_law 612 = .ok (.aload_n 1, 1) := by decide +kernel
theorem d_L_law_613 : decode c_L_law 613 = .ok (.aload_n 0, 1) := by decide +kernel
theorem d_L_law_614 : decode c_L_law 614 = .ok (.iload_n 3, 1) := by decide +kernel
theorem d_L_law_615 : decode c_L_law 615 = .ok (.iconst 1, 1) := by decide +kernel
theorem d_L_law_616 : decode c_L_law 616 = .ok (.iadd, 1) := by decide +kernel
theorem d_L_law_617 : decode c_L_law 617 = .ok (.iaload, 1) := by decide +kernel
theorem d_L_law_618 : decode c_L_law 618 = .ok (.aload_n 0, 1) := by decide +kernel
theorem d_L_law_619 : decode c_L_law 619 = .ok (.iload_n 3, 1) := by decide +kernel
theorem d_L_law_620 : decode c_L_law 620 = .ok (.iconst 2, 1) := by decide +kernel
theorem d_L_law_621 : decode c_L_law 621 = .ok (.iadd, 1) := by decide +kernel
theorem d_L_law_622 : decode c_L_law 622 = .ok (.iaload, 1) := by decide +kernel
theorem d_L_law_623 : decode c_L_law 623 = .ok (.invokevirtual 76, 3) := by decide +kernel
theorem d_L_law_626 : decode c_L_law 626 = .ok (.aload_n 2, 1) := by decide +kernel
theorem d_L_law_627 : decode c_L_law 627 = .ok (.aload_n 0, 1) := by decide +kernel
theorem d_L_law_628 : decode c_L_law 628 = .ok (.iload_n 3, 1) := by decide +kernel
theorem d_L_law_629 : decode c_L_law 629 = .ok (.iconst 1, 1) := by decide +kernel
theorem d_L_law_630 : decode c_L_law 630 = .ok (.iadd, 1) := by decide +kernel
theorem d_L_law_631 : decode c_L_law 631 = .ok (.iaload, 1) := by decide +kernel
theorem d_L_law_632 : decode c_L_law 632 = .ok (.aload_n 0, 1) := by decide +kernel
theorem d_L_law_633 : decode c_L_law 633 = .ok (.iload_n 3, 1) := by decide +kernel
theorem d_L_law_634 : decode c_L_law 634 = .ok (.iconst 2, 1) := by decide +kernel
theorem d_L_law_635 : decode c_L_law 635 = .ok (.iadd, 1) := by decide +kernel
theorem d_L_law_636 : decode c_L_law 636 = .ok (.iaload, 1) := by decide +kernel
theorem d_L_law_637 : decode c_L_law 637 = .ok (.invokevirtual 79, 3) := by decide +kernel
theorem d_L_law_640 : decode c_L_law 640 = .ok (.if_icmp .eq 140, 3) := by decide +kernel
theorem d_L_law_643 : decode c_L_law 643 = .ok (.iconst 0, 1) := by decide +kernel
theorem d_L_law_644 : decode c_L_law 644 = .ok (.ireturn, 1) := by decide +kernel
theorem d_L_law_645 : decode c_L_law 645 = .ok (.aload_n 1, 1) := by decide +kernel
theorem d_L_law_646 : decode c_L_law 646 = .ok (.aload_n 0, 1) := by decide +kernel
theorem d_L_law_647 : decode c_L_law 647 = .ok (.iload_n 3, 1) := by decide +kernel
theorem d_L_law_648 : decode c_L_law 648 = .ok (.iconst 1, 1) := by decide +kernel
theorem d_L_law_649 : decode c_L_law 649 = .ok (.iadd, 1) := by decide +kernel
theorem d_L_law_650 : decode c_L_law 650 = .ok (.iaload, 1) := by decide +kernel
theorem d_L_law_651 : decode c_L_law 651 = .ok (.aload_n 0, 1) := by decide +kernel
theorem d_L_law_652 : decode c_L_law 652 = .ok (.iload_n 3, 1) := by decide +kernel
theorem d_L_law_653 : decode c_L_law 653 = .ok (.iconst 2, 1) := by decide +kernel
theorem d_L_law_654 : decode c_L_law 654 = .ok (.iadd, 1) := by decide +kernel
theorem d_L_law_655 : decode c_L_law 655 = .ok (.iaload, 1) := by decide +kernel
theorem d_L_law_656 : decode c_L_law 656 = .ok (.aload_n 0, 1) := by decide +kernel
theorem d_L_law_657 : decode c_L_law 657 = .ok (.iload_n 3, 1) := by decide +kernel
theorem d_L_law_658 : decode c_L_law 658 = .ok (.iconst 3, 1) := by decide +kernel
theorem d_L_law_659 : decode c_L_law 659 = .ok (.iadd, 1) := by decide +kernel
theorem d_L_law_660 : decode c_L_law 660 = .ok (.iaload, 1) := by decide +kernel
theorem d_L_law_661 : decode c_L_law 661 = .ok (.invokevirtual 80, 3) := by decide +kernel
theorem d_L_law_664 : decode c_L_law 664 = .ok (.aload_n 2, 1) := by decide +kernel
theorem d_L_law_665 : decode c_L_law 665 = .ok (.aload_n 0, 1) := by decide +kernel
theorem d_L_law_666 : decode c_L_law 666 = .ok (.iload_n 3, 1) := by decide +kernel
theorem d_L_law_667 : decode c_L_law 667 = .ok (.iconst 1, 1) := by decide +kernel
theorem d_L_law_668 : decode c_L_law 668 = .ok (.iadd, 1) := by decide +kernel
theorem d_L_law_669 : decode c_L_law 669 = .ok (.iaload, 1) := by decide +kernel
theorem d_L_law_670 : decode c_L_law 670 = .ok (.aload_n 0, 1) := by decide +kernel
theorem d_L_law_671 : decode c_L_law 671 = .ok (.iload_n 3, 1) := by decide +kernel
theorem d_L_law_672 : decode c_L_law 672 = .ok (.iconst 2, 1) := by decide +kernel
theorem d_L_law_673 : decode c_L_law 673 = .ok (.iadd, 1) := by decide +kernel
theorem d_L_law_674 : decode c_L_law 674 = .ok (.iaload, 1) := by decide +kernel
theorem d_L_law_675 : decode c_L_law 675 = .ok (.aload_n 0, 1) := by decide +kernel
theorem d_L_law_676 : decode c_L_law 676 = .ok (.iload_n 3, 1) := by decide +kernel
theorem d_L_law_677 : decode c_L_law 677 = .ok (.iconst 3, 1) := by decide +kernel
theorem d_L_law_678 : decode c_L_law 678 = .ok (.iadd, 1) := by decide +kernel
theorem d_L_law_679 : decode c_L_law 679 = .ok (.iaload, 1) := by decide +kernel
theorem d_L_law_680 : decode c_L_law 680 = .ok (.invokevirtual 83, 3) := by decide +kernel
theorem d_L_law_683 : decode c_L_law 683 = .ok (.if_icmp .eq 97, 3) := by decide +kernel
theorem d_L_law_686 : decode c_L_law 686 = .ok (.iconst 0, 1) := by decide +kernel
theorem d_L_law_687 : decode c_L_law 687 = .ok (.ireturn, 1) := by decide +kernel
theorem d_L_law_688 : decode c_L_law 688 = .ok (.aload_n 1, 1) := by decide +kernel
theorem d_L_law_689 : decode c_L_law 689 = .ok (.aload_n 0, 1) := by decide +kernel
theorem d_L_law_690 : decode c_L_law 690 = .ok (.iload_n 3, 1) := by decide +kernel
theorem d_L_law_691 : decode c_L_law 691 = .ok (.iconst 1, 1) := by decide +kernel
theorem d_L_law_692 : decode c_L_law 692 = .ok (.iadd, 1) := by decide +kernel
theorem d_L_law_693 : decode c_L_law 693 = .ok (.iaload, 1) := by decide +kernel
theorem d_L_law_694 : decode c_L_law 694 = .ok (.invokevirtual 84, 3) := by decide +kernel
theorem d_L_law_697 : decode c_L_law 697 = .ok (.aload_n 2, 1) := by decide +kernel
theorem d_L_law_698 : decode c_L_law 698 = .ok (.aload_n 0, 1) := by decide +kernel
theorem d_L_law_699 : decode c_L_law 699 = .ok (.iload_n 3, 1) := by decide +kernel
theorem d_L_law_700 : decode c_L_law 700 = .ok (.iconst 1, 1) := by decide +kernel
theorem d_L_law_701 : decode c_L_law 701 = .ok (.iadd, 1) := by decide +kernel
theorem d_L_law_702 : decode c_L_law 702 = .ok (.iaload, 1) := by decide +kernel
theorem d_L_law_703 : decode c_L_law 703 = .ok (.invokevirtual 87, 3) := by decide +kernel
theorem d_L_law_706 : decode c_L_law 706 = .ok (.if_icmp .eq 74, 3) := by decide +kernel
theorem d_L_law_709 : decode c_L_law 709 = .ok (.iconst 0, 1) := by decide +kernel
theorem d_L_law_710 : decode c_L_law 710 = .ok (.ireturn, 1) := by decide +kernel
theorem d_L_law_711 : decode c_L_law 711 = .ok (.aload_n 1, 1) := by decide +kernel
theorem d_L_law_712 : decode c_L_law 712 = .ok (.aload_n 0, 1) := by decide +kernel
theorem d_L_law_713 : decode c_L_law 713 = .ok (.iload_n 3, 1) := by decide +kernel
theorem d_L_law_714 : decode c_L_law 714 = .ok (.iconst 1, 1) := by decide +kernel
theorem d_L_law_715 : decode c_L_law 715 = .ok (.iadd, 1) := by decide +kernel
theorem d_L_law_716 : decode c_L_law 716 = .ok (.iaload, 1) := by decide +kernel
theorem d_L_law_717 : decode c_L_law 717 = .ok (.invokevirtual 88, 3) := by decide +kernel
theorem d_L_law_720 : decode c_L_law 720 = .ok (.aload_n 2, 1) := by decide +kernel
theorem d_L_law_721 : decode c_L_law 721 = .ok (.aload_n 0, 1) := by decide +kernel
theorem d_L_law_722 : decode c_L_law 722 = .ok (.iload_n 3, 1) := by decide +kernel
theorem d_L_law_723 : decode c_L_law 723 = .ok (.iconst 1, 1) := by decide +kernel
theorem d_L_law_724 : decode c_L_law 724 = .ok (.iadd, 1) := by decide +kernel
theorem d_L_law_725 : decode c_L_law 725 = .ok (.iaload, 1) := by decide +kernel
theorem d_L_law_726 : decode c_L_law 726 = .ok (.invokevirtual 91, 3) := by decide +kernel
theorem d_L_law_729 : decode c_L_law 729 = .ok (.if_icmp .eq 51, 3) := by decide +kernel
theorem d_L_law_732 : decode c_L_law 732 = .ok (.iconst 0, 1) := by decide +kernel
theorem d_L_law_733 : decode c_L_law 733 = .ok (.ireturn, 1) := by decide +kernel
theorem d_L_law_734 : decode c_L_law 734 = .ok (.aload_n 1, 1) := by decide +kernel
theorem d_L_law_735 : decode c_L_law 735 = .ok (.aload_n 0, 1) := by decide +kernel
theorem d_L_law_736 : decode c_L_law 736 = .ok (.iload_n 3, 1) := by decide +kernel
theorem d_L_law_737 : decode c_L_law 737 = .ok (.iconst 1, 1) := by decide +kernel
theorem d_L_law_738 : decode c_L_law 738 = .ok (.iadd, 1) := by decide +kernel
theorem d_L_law_739 : decode c_L_law 739 = .ok (.iaload, 1) := by decide +kernel
theorem d_L_law_740 : decode c_L_law 740 = .ok (.invokevirtual 92, 3) := by decide +kernel
theorem d_L_law_743 : decode c_L_law 743 = .ok (.aload_n 2, 1) := by decide +kernel
theorem d_L_law_744 : decode c_L_law 744 = .ok (.aload_n 0, 1) := by decide +kernel
theorem d_L_law_745 : decode c_L_law 745 = .ok (.iload_n 3, 1) := by decide +kernel
theorem d_L_law_746 : decode c_L_law 746 = .ok (.iconst 1, 1) := by decide +kernel
theorem d_L_law_747 : decode c_L_law 747 = .ok (.iadd, 1) := by decide +kernel
theorem d_L_law_748 : decode c_L_law 748 = .ok (.iaload, 1) := by decide +kernel
theorem d_L_law_749 : decode c_L_law 749 = .ok (.invokevirtual 95, 3) := by decide +kernel
theorem d_L_law_752 : decode c_L_law 752 = .ok (.if_icmp .eq 28, 3) := by decide +kernel
theorem d_L_law_755 : decode c_L_law 755 = .ok (.iconst 0, 1) := by decide +kernel
theorem d_L_law_756 : decode c_L_law 756 = .ok (.ireturn, 1) := by decide +kernel
theorem d_L_law_757 : decode c_L_law 757 = .ok (.aload_n 1, 1) := by decide +kernel
theorem d_L_law_758 : decode c_L_law 758 = .ok (.aload_n 0, 1) := by decide +kernel
theorem d_L_law_759 : decode c_L_law 759 = .ok (.iload_n 3, 1) := by decide +kernel
theorem d_L_law_760 : decode c_L_law 760 = .ok (.iconst 1, 1) := by decide +kernel
theorem d_L_law_761 : decode c_L_law 761 = .ok (.iadd, 1) := by decide +kernel
theorem d_L_law_762 : decode c_L_law 762 = .ok (.iaload, 1) := by decide +kernel
theorem d_L_law_763 : decode c_L_law 763 = .ok (.invokevirtual 96, 3) := by decide +kernel
theorem d_L_law_766 : decode c_L_law 766 = .ok (.aload_n 2, 1) := by decide +kernel
theorem d_L_law_767 : decode c_L_law 767 = .ok (.aload_n 0, 1) := by decide +kernel
theorem d_L_law_768 : decode c_L_law 768 = .ok (.iload_n 3, 1) := by decide +kernel
theorem d_L_law_769 : decode c_L_law 769 = .ok (.iconst 1, 1) := by decide +kernel
theorem d_L_law_770 : decode c_L_law 770 = .ok (.iadd, 1) := by decide +kernel
theorem d_L_law_771 : decode c_L_law 771 = .ok (.iaload, 1) := by decide +kernel
theorem d_L_law_772 : decode c_L_law 772 = .ok (.invokevirtual 99, 3) := by decide +kernel
theorem d_L_law_775 : decode c_L_law 775 = .ok (.if_icmp .eq 5, 3) := by decide +kernel
theorem d_L_law_778 : decode c_L_law 778 = .ok (.iconst 0, 1) := by decide +kernel
theorem d_L_law_779 : decode c_L_law 779 = .ok (.ireturn, 1) := by decide +kernel
theorem d_L_law_780 : decode c_L_law 780 = .ok (.iinc 3 4, 3) := by decide +kernel
theorem d_L_law_783 : decode c_L_law 783 = .ok (.goto (-765), 3) := by decide +kernel
theorem d_L_law_786 : decode c_L_law 786 = .ok (.iconst 1, 1) := by decide +kernel
theorem d_L_law_787 : decode c_L_law 787 = .ok (.ireturn, 1) := by decide +kernel
theorem d_A_fill_0 : decode c_A_fill 0 = .ok (.iconst 0, 1) := by decide +kernel
theorem d_A_fill_1 : decode c_A_fill 1 = .ok (.istore_n 2, 1) := by decide +kernel
theorem d_A_fill_2 : decode c_A_fill 2 = .ok (.aload_n 0, 1) := by decide +kernel
theorem d_A_fill_3 : decode c_A_fill 3 = .ok (.arraylength, 1) := by decide +kernel
theorem d_A_fill_4 : decode c_A_fill 4 = .ok (.istore_n 3, 1) := by decide +kernel
theorem d_A_fill_5 : decode c_A_fill 5 = .ok (.iload_n 2, 1) := by decide +kernel
theorem d_A_fill_6 : decode c_A_fill 6 = .ok (.iload_n 3, 1) := by decide +kernel
theorem d_A_fill_7 : decode c_A_fill 7 = .ok (.if_icmp .ge 13, 3) := by decide +kernel
theorem d_A_fill_10 : decode c_A_fill 10 = .ok (.aload_n 0, 1) := by decide +kernel
theorem d_A_fill_11 : decode c_A_fill 11 = .ok (.iload_n 2, 1) := by decide +kernel
theorem d_A_fill_12 : decode c_A_fill 12 = .ok (.iload_n 1, 1) := by decide +kernel
theorem d_A_fill_13 : decode c_A_fill 13 = .ok (.iastore, 1) := by decide +kernel
theorem d_A_fill_14 : decode c_A_fill 14 = .ok (.iinc 2 1, 3) := by decide +kernel
theorem d_A_fill_17 : decode c_A_fill 17 = .ok (.goto (-12), 3) := by decide +kernel
theorem d_A_fill_20 : decode c_A_fill 20 = .ok (.return_, 1) := by decide +kernel
end
section
/-! THE WORLD BY PLACES: a place k has an address ad k and, where it stands, a cell E k; every cell lies in A; A holds all that is new -/
def mw (A : Nat → Prop) (D : va_G) (cl : List vw_C) (ad : Nat → Nat) (E : Nat → Option va_E) (H : Heap) : Prop :=
  (∀ (k : Nat) (e : va_E), E k = some e → va_at D cl (ad k, e) H ∧ A (ad k)) ∧ (∀ (j k : Nat) (e f : va_E), E j = some e → E k = some f → ad j = ad k → j = k) ∧ ∀ q : Nat, H.size ≤ q → A q
theorem mw.P {A : Nat → Prop} {D : va_G} {cl : List vw_C} {ad : Nat → Nat} {E : Nat → Option va_E} {H : Heap} (h : mw A D cl ad E H) {k : Nat} {e : va_E} (he : E k = some e) : va_P D cl [(ad k, e)] H := by
  intro i q hq
  cases i with
  | zero =>
    have hq' : (ad k, e) = q := Option.some.inj hq
    subst hq'
    exact (h.1 k e he).1
  | succ i => simp at hq
theorem mw.lt {A : Nat → Prop} {D : va_G} {cl : List vw_C} {ad : Nat → Nat} {E : Nat → Option va_E} {H : Heap} (h : mw A D cl ad E H) {k : Nat} {e : va_E} (he : E k = some e) : ad k < H.size := (h.1 k e he).1.lt
theorem mw.set {A : Nat → Prop} {D : va_G} {cl : List vw_C} {ad : Nat → Nat} {E : Nat → Option va_E} {H H1 : Heap} (h : mw A D cl ad E H) {k : Nat} {e0 e : va_E} (hk : E k = some e0) (he : va_at D cl (ad k, e) H1) (z : H1.size = H.size) (oq : ∀ q : Nat, q ≠ ad k → H1[q]? = H[q]?) : mw A D cl ad (va_up E k (some e)) H1 := by
  have key : ∀ (j : Nat) (f : va_E), va_up E k (some e) j = some f → ∃ f0, E j = some f0 := by
    intro j f hj
    by_cases hjk : j = k
    · subst hjk
      exact ⟨e0, hk⟩
    · rw [va_up_ne _ _ hjk] at hj
      exact ⟨f, hj⟩
  refine ⟨fun j f hj => ?_, fun i j f g hi hj hij => ?_, fun q hq => h.2.2 q (by omega)⟩
  · by_cases hjk : j = k
    · subst hjk
      rw [va_up_self] at hj
      cases hj
      exact ⟨he, (h.1 _ _ hk).2⟩
    · rw [va_up_ne _ _ hjk] at hj
      obtain ⟨h1, h2⟩ := h.1 j f hj
      exact ⟨h1.kept (oq _ (fun z => hjk (h.2.1 j k f e0 hj hk z))), h2⟩
  · obtain ⟨f0, h1⟩ := key i f hi
    obtain ⟨g0, h2⟩ := key j g hj
    exact h.2.1 i j f0 g0 h1 h2 hij
theorem mw.push {A : Nat → Prop} {D : va_G} {cl : List vw_C} {ad : Nat → Nat} {E : Nat → Option va_E} {H H1 : Heap} (h : mw A D cl ad E H) {k : Nat} {e : va_E} (hk : E k = none) (he : va_at D cl (H.size, e) H1) (z : H1.size = H.size + 1) (oq : ∀ q : Nat, q < H.size → H1[q]? = H[q]?) : mw A D cl (va_up ad k H.size) (va_up E k (some e)) H1 := by
  have key : ∀ (j : Nat) (f : va_E), va_up E k (some e) j = some f → (j = k ∧ f = e) ∨ (j ≠ k ∧ E j = some f ∧ va_up ad k H.size j = ad j ∧ ad j < H.size) := by
    intro j f hj
    by_cases hjk : j = k
    · subst hjk
      rw [va_up_self] at hj
      exact Or.inl ⟨rfl, (Option.some.inj hj).symm⟩
    · rw [va_up_ne _ _ hjk] at hj
      exact Or.inr ⟨hjk, hj, va_up_ne _ _ hjk, h.lt hj⟩
  refine ⟨fun j f hj => ?_, fun i j f g hi hj hij => ?_, fun q hq => h.2.2 q (by omega)⟩
  · rcases key j f hj with ⟨rfl, rfl⟩ | ⟨h1, h2, h3, h4⟩
    · rw [va_up_self]
      exact ⟨he, h.2.2 _ (Nat.le_refl _)⟩
    · rw [h3]
      exact ⟨(h.1 j f h2).1.kept (oq _ h4), (h.1 j f h2).2⟩
  · rcases key i f hi with ⟨rfl, rfl⟩ | ⟨h1, h2, h3, h4⟩ <;> rcases key j g hj with ⟨r1, r2⟩ | ⟨g1, g2, g3, g4⟩
    · exact r1.symm
    · rw [va_up_self, g3] at hij
      omega
    · subst r1
      rw [va_up_self, h3] at hij
      omega
    · rw [h3, g3] at hij
      exact h.2.1 i j f g h2 g2 hij
/-- what a world is, is its cells and its addresses where they stand -/
theorem mw.to {A : Nat → Prop} {D : va_G} {cl : List vw_C} {ad ad' : Nat → Nat} {E E' : Nat → Option va_E} {H : Heap} (h : mw A D cl ad E H) (hE : ∀ k, E k = E' k) (ha : ∀ k, E k ≠ none → ad' k = ad k) : mw A D cl ad' E' H := by
  obtain rfl : E = E' := funext hE
  refine ⟨fun k e he => ?_, fun i j f g hi hj hij => ?_, h.2.2⟩
  · rw [ha k (by rw [he]; exact fun z => by cases z)]
    exact h.1 k e he
  · rw [ha i (by rw [hi]; exact fun z => by cases z), ha j (by rw [hj]; exact fun z => by cases z)] at hij
    exact h.2.1 i j f g hi hj hij
/-- another's calls leave it alone: what lies outside B stays, and no cell of ours is in B -/
theorem mw.frame {A B : Nat → Prop} {D : va_G} {cl : List vw_C} {ad : Nat → Nat} {E : Nat → Option va_E} {H H1 : Heap} (h : mw A D cl ad E H) (hs : H.size ≤ H1.size) (hk : ∀ q : Nat, q < H.size → ¬ B q → H1[q]? = H[q]?) (hB : ∀ (k : Nat) (e : va_E), E k = some e → ¬ B (ad k)) : mw A D cl ad E H1 :=
  ⟨fun k e he => ⟨(h.1 k e he).1.kept (hk _ (h.lt he) (hB k e he)), (h.1 k e he).2⟩, h.2.1, fun q hq => h.2.2 q (Nat.le_trans hs hq)⟩
theorem mw.A {A B : Nat → Prop} {D : va_G} {cl : List vw_C} {ad : Nat → Nat} {E : Nat → Option va_E} {H : Heap} (h : mw A D cl ad E H) (h1 : ∀ (k : Nat) (e : va_E), E k = some e → B (ad k)) (h2 : ∀ q : Nat, H.size ≤ q → B q) : mw B D cl ad E H := ⟨fun k e he => ⟨(h.1 k e he).1, h1 k e he⟩, h.2.1, h2⟩
section MW
variable {p : Program} {l : Launch} {e : Env} {R : Room} {s : State} {m : MethodId} {args : Array Value} {below : List Frame} {meth : Method} {c : Code} {H : Heap} {locs : List Loc} {cells slots : Nat} {Q : State → Prop}
variable {cc : ByteArray} {pc : Nat} {ls : Array Slot} {rest : List Value} {D : va_G} {cl : List vw_C} {A : Nat → Prop} {ad : Nat → Nat} {E : Nat → Option va_E} {tys : List (ClassId × FieldType)} {H0 : Heap}
theorem mw_get (hexec : p.tables.exec = Jvm.exec) (hb : c.code = cc) {own C : String} {T : u_T} {N ci index : Nat} {Ts : List Cond} (hts : ∀ w ∈ Ts, w.before args s = true) (hin : ∀ w ∈ u_ws C T N, w ∈ Ts) (hown : s.vm.findClass own = some m.cls) (hK : va_K D cl tys s) (hw : mw A D cl ad E H) (k : Nat) {fs : List Value} (he : E k = some (.inr (ci, fs))) (hc : cl[ci]? = some (C, T, N)) (j : Nat) (hj : j < N) (hlink : (Cond.fieldLink own index (T j).1 (T j).2.1 (T j).2.2.1).before args s = true) {v : Value} (hv : fs[j]? = some v) (hdg : decode cc pc = .ok (.getfield index, 3))
    (kk : W p l e R s m args below meth c H locs cells slots Q (F0 m (pc + 3) ls (v :: rest))) : W p l e R s m args below meth c H locs cells slots Q (F0 m pc ls (.ref (ad k) :: rest)) :=
  va_get hexec hb hts hin hown hK (hw.P he) 0 rfl hc j hj hlink (fun _ h => h) hv hdg kk
theorem mw_getN (hexec : p.tables.exec = Jvm.exec) (hb : c.code = cc) {own C host : String} {T : u_T} {N ci index : Nat} {Ts : List Cond} (hts : ∀ w ∈ Ts, w.before args s = true) (hin : ∀ w ∈ u_ws C T N, w ∈ Ts) (hown : s.vm.findClass own = some m.cls) (hK : va_K D cl tys s) (hw : mw A D cl ad E H) (k : Nat) {fs : List Value} (he : E k = some (.inr (ci, fs))) (hc : cl[ci]? = some (C, T, N)) (j : Nat) (hj : j < N) (hlink : va_Nw (.fieldLinkNest own index (T j).1 (T j).2.1 (T j).2.2.1 host) s) {v : Value} (hv : fs[j]? = some v) (hdg : decode cc pc = .ok (.getfield index, 3))
    (kk : W p l e R s m args below meth c H locs cells slots Q (F0 m (pc + 3) ls (v :: rest))) : W p l e R s m args below meth c H locs cells slots Q (F0 m pc ls (.ref (ad k) :: rest)) :=
  va_getN hexec hb hts hin hown hK (hw.P he) 0 rfl hc j hj (va_Nw.use rfl hlink) (fun _ h => h) hv hdg kk
theorem mw_put (hexec : p.tables.exec = Jvm.exec) (hb : c.code = cc) {own C : String} {T : u_T} {N ci index : Nat} {Ts : List Cond} (hts : ∀ w ∈ Ts, w.before args s = true) (hin : ∀ w ∈ u_ws C T N, w ∈ Ts) (ty0 : Nat → FieldType) (hty : ∀ k, k < N → parseFieldDescriptor (T k).2.2.1 = some (ty0 k)) (hnm : ∀ a, a < N → ∀ b, b < N → a ≠ b → (T a).2.1 ≠ (T b).2.1) (hown : s.vm.findClass own = some m.cls) (hK : va_K D cl tys s) (hw : mw A D cl ad E H) (hS0 : va_S A H0 H locs) (k : Nat) {fs : List Value} (he : E k = some (.inr (ci, fs))) (hc : cl[ci]? = some (C, T, N)) (j : Nat) (hj : j < N) (hlink : (Cond.fieldLink own index (T j).1 (T j).2.1 (T j).2.2.1).before args s = true) (hfin : (T j).2.2.2 = false) {v : Value} (hn : narrow (ty0 j) v = v) (hfit : fits (ty0 j) v = true) (hl : j < fs.length)
    (hdg : decode cc pc = .ok (.putfield index, 3)) (kk : ∀ (H1 : Heap) (locs1 : List Loc), mw A D cl ad (va_up E k (some (.inr (ci, fs.set j v)))) H1 → va_S A H0 H1 locs1 → W p l e R s m args below meth c H1 locs1 cells slots Q (F0 m (pc + 3) ls rest)) : W p l e R s m args below meth c H locs cells slots Q (F0 m pc ls (v :: .ref (ad k) :: rest)) := by
  have hap := va_apart (own := own) hts hin ty0 hty hnm hK hc
  obtain ⟨⟨r, h1, cell, q1, q2, q3, q4⟩, hAk⟩ := hw.1 k _ he
  have hr : r = (C, T, N) := Option.some.inj (h1.symm.trans hc)
  subst hr
  obtain ⟨hS, hfc, kC, hkC, hkind⟩ := hK.1 ci _ hc
  obtain ⟨cf, kf, fi, f, hi, hsl⟩ := hS j hj
  have hlay := hts _ (hin _ (u_in_lay hj))
  unfold u_lay at hlay
  rw [if_neg (by rw [hfin]; decide)] at hlay
  have hst := (u_facts hfc hkC (u_lays hts hin hj) hi).1
  have h6 := u_store hfc hkC hkind hlay hi (hty j hj) hn hfit
  refine W.putK hexec hb (f := f) ⟨hown, hlink, ⟨_, _, _, hi⟩, hst⟩ (by rw [q2]; exact h6) q1 q3 (by rw [hsl]; exact k2_hasslot (q4 j hj)) rfl rfl hdg fun H' e1 e2 e3 => ?_
  rw [hsl] at e1 ⊢
  exact kk H' _ (hw.set he ⟨_, hc, t_OB.to (V := updV (vp_V fs) j v) ⟨_, e1, q2, q3, t_set q4 hap hj v⟩ (fun i _ => vp_updV_set hl v i)⟩ e2 e3) (hS0.put e2 e3 hAk)
theorem mw_putN (hexec : p.tables.exec = Jvm.exec) (hb : c.code = cc) {own C host : String} {T : u_T} {N ci index : Nat} {Ts : List Cond} (hts : ∀ w ∈ Ts, w.before args s = true) (hin : ∀ w ∈ u_ws C T N, w ∈ Ts) (ty0 : Nat → FieldType) (hty : ∀ k, k < N → parseFieldDescriptor (T k).2.2.1 = some (ty0 k)) (hnm : ∀ a, a < N → ∀ b, b < N → a ≠ b → (T a).2.1 ≠ (T b).2.1) (hown : s.vm.findClass own = some m.cls) (hK : va_K D cl tys s) (hw : mw A D cl ad E H) (hS0 : va_S A H0 H locs) (k : Nat) {fs : List Value} (he : E k = some (.inr (ci, fs))) (hc : cl[ci]? = some (C, T, N)) (j : Nat) (hj : j < N) (hlink : va_Nw (.fieldLinkNest own index (T j).1 (T j).2.1 (T j).2.2.1 host) s) (hfin : (T j).2.2.2 = false) {v : Value} (hn : narrow (ty0 j) v = v) (hfit : fits (ty0 j) v = true) (hl : j < fs.length)
    (hdg : decode cc pc = .ok (.putfield index, 3)) (kk : ∀ (H1 : Heap) (locs1 : List Loc), mw A D cl ad (va_up E k (some (.inr (ci, fs.set j v)))) H1 → va_S A H0 H1 locs1 → W p l e R s m args below meth c H1 locs1 cells slots Q (F0 m (pc + 3) ls rest)) : W p l e R s m args below meth c H locs cells slots Q (F0 m pc ls (v :: .ref (ad k) :: rest)) := by
  have hap := va_apart (own := own) hts hin ty0 hty hnm hK hc
  obtain ⟨⟨r, h1, cell, q1, q2, q3, q4⟩, hAk⟩ := hw.1 k _ he
  have hr : r = (C, T, N) := Option.some.inj (h1.symm.trans hc)
  subst hr
  obtain ⟨hS, hfc, kC, hkC, hkind⟩ := hK.1 ci _ hc
  obtain ⟨cf, kf, fi, f, hi, hsl⟩ := hS j hj
  have hlay := hts _ (hin _ (u_in_lay hj))
  unfold u_lay at hlay
  rw [if_neg (by rw [hfin]; decide)] at hlay
  have hst := (u_facts hfc hkC (u_lays hts hin hj) hi).1
  have h6 := u_store hfc hkC hkind hlay hi (hty j hj) hn hfit
  refine va_WputK hexec hb (f := f) hown (va_Nw.use rfl hlink) hi hst (by rw [q2]; exact h6) q1 q3 (by rw [hsl]; exact k2_hasslot (q4 j hj)) rfl rfl hdg fun H' e1 e2 e3 => ?_
  rw [hsl] at e1 ⊢
  exact kk H' _ (hw.set he ⟨_, hc, t_OB.to (V := updV (vp_V fs) j v) ⟨_, e1, q2, q3, t_set q4 hap hj v⟩ (fun i _ => vp_updV_set hl v i)⟩ e2 e3) (hS0.put e2 e3 hAk)
theorem mw_putF (hexec : p.tables.exec = Jvm.exec) (hb : c.code = cc) {own C : String} {T : u_T} {N ci index : Nat} {Ts : List Cond} (hts : ∀ w ∈ Ts, w.before args s = true) (hin : ∀ w ∈ u_ws C T N, w ∈ Ts) (ty0 : Nat → FieldType) (hty : ∀ k, k < N → parseFieldDescriptor (T k).2.2.1 = some (ty0 k)) (hnm : ∀ a, a < N → ∀ b, b < N → a ≠ b → (T a).2.1 ≠ (T b).2.1) (hown : s.vm.findClass own = some m.cls) (hK : va_K D cl tys s) (hw : mw A D cl ad E H) (hS0 : va_S A H0 H locs) (k : Nat) {fs : List Value} (he : E k = some (.inr (ci, fs))) (hc : cl[ci]? = some (C, T, N)) (j : Nat) (hj : j < N) (hlink : (Cond.fieldLink own index (T j).1 (T j).2.1 (T j).2.2.1).before args s = true) (hfin : (T j).2.2.2 = true) (hin2 : meth.name = "<init>") (hdecl : (T j).1 = own) {v : Value} (hn : narrow (ty0 j) v = v) (hfit : fits (ty0 j) v = true) (hl : j < fs.length)
    (hdg : decode cc pc = .ok (.putfield index, 3)) (kk : ∀ (H1 : Heap) (locs1 : List Loc), mw A D cl ad (va_up E k (some (.inr (ci, fs.set j v)))) H1 → va_S A H0 H1 locs1 → W p l e R s m args below meth c H1 locs1 cells slots Q (F0 m (pc + 3) ls rest)) : W p l e R s m args below meth c H locs cells slots Q (F0 m pc ls (v :: .ref (ad k) :: rest)) := by
  have hap := va_apart (own := own) hts hin ty0 hty hnm hK hc
  obtain ⟨⟨r, h1, cell, q1, q2, q3, q4⟩, hAk⟩ := hw.1 k _ he
  have hr : r = (C, T, N) := Option.some.inj (h1.symm.trans hc)
  subst hr
  obtain ⟨hS, hfc, kC, hkC, hkind⟩ := hK.1 ci _ hc
  obtain ⟨cf, kf, fi, f, hi, hsl⟩ := hS j hj
  have hlay := hts _ (hin _ (u_in_lay hj))
  unfold u_lay at hlay
  rw [if_pos hfin] at hlay
  have hst := (u_facts hfc hkC (u_lays hts hin hj) hi).1
  have hcf : m.cls = cf := by
    obtain ⟨_, _, c', _, _, _, -, -, hf', -, -, -, hown2, -⟩ := Cond.laysFinal_spec hlay
    have e1 : c' = cf := by have := hi.symm.trans hf'; simp at this; exact this.1.symm
    rw [hdecl] at hown2
    rw [← e1]; exact Option.some.inj (hown.symm.trans hown2)
  have h6 := u_fits hfc hkC hkind (Or.inr hlay) hi (hty j hj) hn hfit
  refine W.putFinK hexec hb hown hlink hi hst hcf hin2 (by rw [q2]; exact h6) q1 q3 (by rw [hsl]; exact k2_hasslot (q4 j hj)) rfl rfl hdg fun H' e1 e2 e3 => ?_
  rw [hsl] at e1 ⊢
  exact kk H' _ (hw.set he ⟨_, hc, t_OB.to (V := updV (vp_V fs) j v) ⟨_, e1, q2, q3, t_set q4 hap hj v⟩ (fun i _ => vp_updV_set hl v i)⟩ e2 e3) (hS0.put e2 e3 hAk)
theorem mw_iald (hexec : p.tables.exec = Jvm.exec) (hb : c.code = cc) (hK : va_K D cl tys s) (hw : mw A D cl ad E H) (k t0 : Nat) {cA : ClassId} {n : Nat} {f : Nat → Int32} (he : E k = some (.inl (cA, n, .inl f))) (ht : tys[t0]? = some (cA, .int)) {i : Int32} (hin : vp_in i n) (hdg : decode cc pc = .ok (.iaload, 1))
    (kk : W p l e R s m args below meth c H locs cells slots Q (F0 m (pc + 1) ls (.int (f i.toNatClampNeg) :: rest))) : W p l e R s m args below meth c H locs cells slots Q (F0 m pc ls (.int i :: .ref (ad k) :: rest)) :=
  va_iald hexec hb hK (hw.P he) 0 t0 rfl ht hin hdg kk
theorem mw_aldq (hexec : p.tables.exec = Jvm.exec) (hb : c.code = cc) (hK : va_K D cl tys s) (hw : mw A D cl ad E H) (k t0 : Nat) {cA : ClassId} {C : String} {n : Nat} {f : Nat → Option Nat} (he : E k = some (.inl (cA, n, .inr (.inr (.inr (.inr f)))))) (ht : tys[t0]? = some (cA, .object C)) {i : Int32} (hin : vp_in i n) (hdg : decode cc pc = .ok (.aaload, 1))
    (kk : W p l e R s m args below meth c H locs cells slots Q (F0 m (pc + 1) ls (va_rf (f i.toNatClampNeg) :: rest))) : W p l e R s m args below meth c H locs cells slots Q (F0 m pc ls (.int i :: .ref (ad k) :: rest)) :=
  va_aldq hexec hb hK (hw.P he) 0 t0 rfl ht hin hdg kk
theorem mw_alen (hexec : p.tables.exec = Jvm.exec) (hb : c.code = cc) (hK : va_K D cl tys s) (hw : mw A D cl ad E H) (k t0 : Nat) {cA : ClassId} {x : vp_A} (he : E k = some (.inl (cA, x))) {ty : FieldType} (ht : tys[t0]? = some (cA, ty)) {v : Int32} (hv : Int32.ofNat x.1 = v) (hdg : decode cc pc = .ok (.arraylength, 1))
    (kk : W p l e R s m args below meth c H locs cells slots Q (F0 m (pc + 1) ls (.int v :: rest))) : W p l e R s m args below meth c H locs cells slots Q (F0 m pc ls (.ref (ad k) :: rest)) :=
  va_alen hexec hb hK (hw.P he) 0 t0 rfl ht hv hdg kk
theorem mw_iast (hexec : p.tables.exec = Jvm.exec) (hb : c.code = cc) (hK : va_K D cl tys s) (hw : mw A D cl ad E H) (hS : va_S A H0 H locs) (k t0 : Nat) {cA : ClassId} {n : Nat} {f : Nat → Int32} (he : E k = some (.inl (cA, n, .inl f))) (ht : tys[t0]? = some (cA, .int)) {i : Int32} {x : Int32} (hin : vp_in i n) (hdg : decode cc pc = .ok (.iastore, 1))
    (kk : ∀ (H1 : Heap) (locs1 : List Loc), mw A D cl ad (va_up E k (some (.inl (cA, n, .inl (upd f i.toNatClampNeg x))))) H1 → va_S A H0 H1 locs1 → W p l e R s m args below meth c H1 locs1 cells slots Q (F0 m (pc + 1) ls rest)) : W p l e R s m args below meth c H locs cells slots Q (F0 m pc ls (.int x :: .int i :: .ref (ad k) :: rest)) := by
  refine W.iast hexec hb (hw.1 k _ he).1 ((hK.2 t0 _ ht).1 n (fun j => .int (f j))) (fun q => by cases q) (by show ¬ (i < 0 ∨ (arrV _ _ _).slots.size ≤ _); rw [arrV_size]; exact hin) rfl rfl hdg fun H1 e z oq => ?_
  refine kk H1 _ (hw.set he ?_ z oq) (hS.put z oq (hw.1 k _ he).2)
  show H1[ad k]? = some (vp_cell _ _)
  rw [e]
  rw [vp_cell_i, vp_cell_i, arrV_store]
  congr 2
  funext q
  by_cases hq : q = i.toNatClampNeg
  · subst hq
    simp [updV, upd]
  · simp [updV, upd, hq]
theorem mw_astq (hexec : p.tables.exec = Jvm.exec) (hb : c.code = cc) (hK : va_K D cl tys s) (hw : mw A D cl ad E H) (hS : va_S A H0 H locs) (k t0 kv ci : Nat) {cA : ClassId} {r : vw_C} {n : Nat} {vs : List Value} {f : Nat → Option Nat} (he : E k = some (.inl (cA, n, .inr (.inr (.inr (.inr f)))))) (ht : tys[t0]? = some (cA, .object r.1)) (hv : E kv = some (.inr (ci, vs))) (hc : cl[ci]? = some r) {i : Int32} (hin : vp_in i n) (hdg : decode cc pc = .ok (.aastore, 1))
    (kk : ∀ (H1 : Heap) (locs1 : List Loc), mw A D cl ad (va_up E k (some (.inl (cA, n, .inr (.inr (.inr (.inr (va_up f i.toNatClampNeg (some (ad kv)))))))))) H1 → va_S A H0 H1 locs1 → W p l e R s m args below meth c H1 locs1 cells slots Q (F0 m (pc + 1) ls rest)) : W p l e R s m args below meth c H locs cells slots Q (F0 m pc ls (.ref (ad kv) :: .int i :: .ref (ad k) :: rest)) := by
  have hlt : i.toNatClampNeg < n := Nat.not_le.mp fun q => hin (Or.inr q)
  have h0 : ¬ i < 0 := fun q => hin (Or.inl q)
  obtain ⟨⟨r', hr', cellV, g1, g2, g3, -⟩, -⟩ := hw.1 kv _ hv
  have hcls := (hK.1 ci r hc).2
  obtain ⟨kA, comp, k1, k2, k3, -⟩ := (hK.2 t0 _ ht).2
  have hcomp : comp = D.1 ci := Option.some.inj (k3.symm.trans hcls.1)
  subst hcomp
  obtain ⟨kC, hkC, -⟩ := hcls.2
  refine W.aast hexec hb (hw.1 k _ he).1 (fun q h => by cases h) (fun h => by cases h) k1 k2 rfl hkC ⟨h0, by show _ < (arrV _ _ _).slots.size; rw [arrV_size]; exact hlt⟩ g1 (fun q h => by rw [g3] at h; cases h) (by rw [g2]; exact hkC) (by rw [g2]; exact va_assign hcls) rfl rfl hdg fun H1 e z oq => ?_
  refine kk H1 _ (hw.set he ?_ z oq) (hS.put z oq (hw.1 k _ he).2)
  show H1[ad k]? = some (vp_cell _ _)
  rw [e]
  rw [vp_cell_q, vp_cell_q, arrV_store]
  congr 2
  funext q
  by_cases hq : q = i.toNatClampNeg
  · subst hq
    simp [updV, va_up, va_rf]
  · simp [updV, va_up, hq]
theorem mw_new {c0 : Code} (hexec : p.tables.exec = Jvm.exec) (hb : c0.code = cc) {own C : String} {T : u_T} {N ci index : Nat} {Ts : List Cond} (hts : ∀ w ∈ Ts, w.before args s = true) (hin : ∀ w ∈ u_ws C T N, w ∈ Ts) (ty : Nat → FieldType) (hty : ∀ k, k < N → parseFieldDescriptor (T k).2.2.1 = some (ty k)) (hown : s.vm.findClass own = some m.cls) (hcl : (Cond.classLink own index C).before args s = true) (hinst : (Cond.instantiable C N).before args s = true) (hini : (Cond.initialized C).before args s = true)
    (hK : va_K D cl tys s) (hw : mw A D cl ad E H) (hS : va_S A H0 H locs) (k : Nat) (hk : E k = none) (hc : cl[ci]? = some (C, T, N)) {fs : List Value} (hfs : ∀ j, j < N → defaultValue (ty j) = vp_V fs j) (hcells : cells + 1 ≤ R.cells) (hslots : slots + N ≤ R.slots) (hdg : decode cc pc = .ok (.new index, 3))
    (kk : ∀ (ad1 : Nat → Nat) (H1 : Heap), (∀ j, j ≠ k → ad1 j = ad j) → mw A D cl ad1 (va_up E k (some (.inr (ci, fs)))) H1 → va_S A H0 H1 locs →
      W p l e R s m args below meth c0 H1 locs (cells + 1) (slots + N) Q (F0 m (pc + 3) ls (.ref (ad1 k) :: rest))) : W p l e R s m args below meth c0 H locs cells slots Q (F0 m pc ls rest) := by
  have hKn := hK.1 ci _ hc
  refine W.newcK hexec hb hown hcl hinst hini rfl hdg hcells hslots hKn.2.1 rfl fun H1 kC hkC e1 z1 o1 => ?_
  have h1 : mw A D cl (va_up ad k H.size) (va_up E k (some (.inr (ci, fs)))) H1 := hw.push hk ⟨_, hc, (u_born ty hts hin hKn hkC e1 hty).to hfs⟩ z1 o1
  have h2 := kk (va_up ad k H.size) H1 (fun j hj => va_up_ne _ _ hj) h1 ⟨Nat.le_trans hS.1 (by omega), fun x g1 g2 => (o1 x (Nat.lt_of_lt_of_le g1 hS.1)).trans (hS.2.1 x g1 g2), hS.2.2⟩
  rw [va_up_self] at h2
  exact h2
theorem mw_newa (hexec : p.tables.exec = Jvm.exec) (hb : c.code = cc) (harr : (Cond.arrayClass .int).before args s = true) (hK : va_K D cl tys s) (hw : mw A D cl ad E H) (hS : va_S A H0 H locs) (k : Nat) (hk : E k = none) (t0 : Nat) {cA : ClassId} (ht : tys[t0]? = some (cA, .int))
    {n : Int32} {N' : Nat} (hn : ¬ n < 0) (hN : n.toNatClampNeg = N') (hbytes : N' * 4 ≤ 536870912) (hcells : cells + 1 ≤ R.cells) (hslots : slots + N' ≤ R.slots) (hdg : decode cc pc = .ok (.newarray .int, 2))
    (kk : ∀ (ad1 : Nat → Nat) (H1 : Heap), (∀ j, j ≠ k → ad1 j = ad j) → mw A D cl ad1 (va_up E k (some (.inl (cA, N', .inl (fun _ => 0))))) H1 → va_S A H0 H1 locs →
      W p l e R s m args below meth c H1 locs (cells + 1) (slots + N') Q (F0 m (pc + 2) ls (.ref (ad1 k) :: rest))) : W p l e R s m args below meth c H locs cells slots Q (F0 m pc ls (.int n :: rest)) := by
  refine va_newaK hexec hb (atype := .int) harr rfl hdg rfl hn hN hbytes hcells hslots rfl fun H1 cA1 e1 z1 o1 hAr hNm => ?_
  have hcA : cA1 = cA := Option.some.inj (hNm.symm.trans (hK.2 t0 _ ht).2)
  subst hcA
  have h1 : mw A D cl (va_up ad k H.size) (va_up E k (some (.inl (cA1, N', .inl (fun _ => 0))))) H1 := hw.push hk e1 z1 o1
  have h2 := kk (va_up ad k H.size) H1 (fun j hj => va_up_ne _ _ hj) h1 ⟨Nat.le_trans hS.1 (by omega), fun x g1 g2 => (o1 x (Nat.lt_of_lt_of_le g1 hS.1)).trans (hS.2.1 x g1 g2), hS.2.2⟩
  rw [va_up_self] at h2
  exact h2
theorem mw_newq (hexec : p.tables.exec = Jvm.exec) (hb : c.code = cc) {own C : String} {index : Nat} (hown : s.vm.findClass own = some m.cls) (hclink : (Cond.classLink own index C).before args s = true) (hover : va_AO C s) (hK : va_K D cl tys s) (hw : mw A D cl ad E H) (hS : va_S A H0 H locs) (k : Nat) (hk : E k = none) (t0 : Nat) {cA : ClassId} (ht : tys[t0]? = some (cA, .object C))
    {n : Int32} {N' : Nat} (hn : ¬ n < 0) (hN : n.toNatClampNeg = N') (hbytes : N' * 4 ≤ 536870912) (hcells : cells + 1 ≤ R.cells) (hslots : slots + N' ≤ R.slots) (hdg : decode cc pc = .ok (.anewarray index, 3))
    (kk : ∀ (ad1 : Nat → Nat) (H1 : Heap), (∀ j, j ≠ k → ad1 j = ad j) → mw A D cl ad1 (va_up E k (some (.inl (cA, N', .inr (.inr (.inr (.inr (fun _ => none)))))))) H1 → va_S A H0 H1 locs →
      W p l e R s m args below meth c H1 locs (cells + 1) (slots + N') Q (F0 m (pc + 3) ls (.ref (ad1 k) :: rest))) : W p l e R s m args below meth c H locs cells slots Q (F0 m pc ls (.int n :: rest)) := by
  subst hN
  refine W.anew hexec hb hown hclink (va_AO.use hover) rfl hdg rfl hn hbytes hcells hslots fun cA1 kA comp f1 f2 f3 f4 => ?_
  have hcA : cA1 = cA := by
    obtain ⟨_, _, -, -, -, g4⟩ := (hK.2 t0 _ ht).2
    exact Option.some.inj (f1.symm.trans g4)
  subst hcA
  generalize hH1 : H.push ({ cls := cA1, slots := Array.replicate n.toNatClampNeg .null, vm := .none } : Cell) = H1
  have z1 : H1.size = H.size + 1 := by rw [← hH1, Array.size_push]
  have e1 : H1[H.size]? = some (arrV cA1 n.toNatClampNeg (fun _ => .null)) := by rw [← hH1, Array.getElem?_push_size, ← arrV_new]
  have o1 : ∀ q, q < H.size → H1[q]? = H[q]? := fun q hq => by rw [← hH1, Array.getElem?_push, if_neg (Nat.ne_of_lt hq)]
  have h1 : mw A D cl (va_up ad k H.size) (va_up E k (some (.inl (cA1, n.toNatClampNeg, .inr (.inr (.inr (.inr (fun _ => none)))))))) H1 := hw.push hk e1 z1 o1
  have h2 := kk (va_up ad k H.size) H1 (fun j hj => va_up_ne _ _ hj) h1 ⟨Nat.le_trans hS.1 (by omega), fun x g1 g2 => (o1 x (Nat.lt_of_lt_of_le g1 hS.1)).trans (hS.2.1 x g1 g2), hS.2.2⟩
  rw [va_up_self] at h2
  exact h2
/-- a contract's start and end: the world before, the answer, the world behind, what else stays -/
def mP (av : List Value) (A : Nat → Prop) (D : va_G) (cl : List vw_C) (ad : Nat → Nat) (E : Nat → Option va_E) (K : State → Prop) : Array Value → State → Prop := va_Pc av (fun U => mw A D cl ad E U.heap ∧ K U)
def mE (A : Nat → Prop) (D : va_G) (cl : List vw_C) (r : Option Value) (X : (Nat → Nat) → (Nat → Option va_E) → Prop) : Array Value → State → Outcome → State → Prop := fun _ st oc t => oc = .returned r ∧ (∃ ad1 E1, X ad1 E1 ∧ mw A D cl ad1 E1 t.heap) ∧ va_F A st t
/-- the end of a method that makes nothing -/
def mX (ad : Nat → Nat) (E : Nat → Option va_E) : (Nat → Nat) → (Nat → Option va_E) → Prop := fun ad1 E1 => ad1 = ad ∧ E1 = E
theorem mw_call {r : Option Value} {X : (Nat → Nat) → (Nat → Option va_E) → Prop} {st0 : List Value} {mc ms : Nat} {a : Array Value} (hr : va_Run p l e R s m args below meth c H locs cells slots mc ms (F0 m pc ls st0) rest (mE A D cl r X a) A) (hS : va_S A H0 H locs)
    (kk : ∀ (ad1 : Nat → Nat) (E1 : Nat → Option va_E) (H1 : Heap) (locs1 : List Loc), X ad1 E1 → mw A D cl ad1 E1 H1 → va_S A H0 H1 locs1 → W p l e R s m args below meth c H1 locs1 (cells + mc) (slots + ms) Q (F0 m (pc + 3) ls (r.toList ++ rest))) : W p l e R s m args below meth c H locs cells slots Q (F0 m pc ls st0) := by
  intro T hT X
  obtain ⟨v, st₀, t, T', L, h0, X', hL, e1, e2, ⟨hv, ⟨ad1, E1, hx, hw⟩, hz, hk⟩, st⟩ := hr T hT X
  cases hv
  rw [h0] at hz hk
  obtain ⟨t2, a1, b1⟩ := kk ad1 E1 T'.heap (locs ++ L) hx (by rw [e1]; exact hw)
    ⟨Nat.le_trans hS.1 (by rw [e1]; exact hz), fun q h1 h2 => by rw [e1, hk q (Nat.lt_of_lt_of_le h1 hS.1) h2]; exact hS.2.1 q h1 h2, fun q hq => by
      rcases List.mem_append.mp hq with h | h
      · exact hS.2.2 q h
      · exact hL q h⟩ T' rfl X'
  exact ⟨t2, st t2 a1, b1⟩
/-- .. where it makes nothing -/
theorem mw_call0 {r : Option Value} {ad' : Nat → Nat} {E' : Nat → Option va_E} {st0 : List Value} {a : Array Value} (hr : va_Run p l e R s m args below meth c H locs cells slots 0 0 (F0 m pc ls st0) rest (mE A D cl r (mX ad' E') a) A) (hS : va_S A H0 H locs)
    (kk : ∀ (H1 : Heap) (locs1 : List Loc), mw A D cl ad' E' H1 → va_S A H0 H1 locs1 → W p l e R s m args below meth c H1 locs1 cells slots Q (F0 m (pc + 3) ls (r.toList ++ rest))) : W p l e R s m args below meth c H locs cells slots Q (F0 m pc ls st0) := by
  refine mw_call hr hS fun ad1 E1 H1 locs1 hx hw hS1 => ?_
  obtain ⟨rfl, rfl⟩ := hx
  exact kk H1 locs1 hw hS1
theorem mw_iret {X : (Nat → Nat) → (Nat → Option va_E) → Prop} {v : Int32} {ty : FieldType} {r : Option Value} (hexec : p.tables.exec = Jvm.exec) (hb : c.code = cc) (hr : meth.sig.returnType = some ty) (hn : narrow ty (.int v) = .int v) (hw : mw A D cl ad E H) (hS : va_S A s.heap H locs) (hv : some (Value.int v) = r) (hX : X ad E) (hlocks : meth.locks = false) (hdg : decode cc pc = .ok (.ireturn, 1)) :
    W p l e R s m args below meth c H locs cells slots (MQ below (mE A D cl r X) args s cells slots A) (F0 m pc ls [.int v]) := by
  subst hv
  exact W.zret hexec hb hr hn (fun t ht _ => ⟨rfl, ⟨ad, E, hX, by rw [ht]; exact hw⟩, hS.F ht⟩) hS.2.2 hdg hlocks
theorem mw_vret {X : (Nat → Nat) → (Nat → Option va_E) → Prop} (hexec : p.tables.exec = Jvm.exec) (hb : c.code = cc) (hr : meth.sig.returnType = none) (hw : mw A D cl ad E H) (hS : va_S A s.heap H locs) (hX : X ad E) (hlocks : meth.locks = false) (hdg : decode cc pc = .ok (.return_, 1)) :
    W p l e R s m args below meth c H locs cells slots (MQ below (mE A D cl none X) args s cells slots A) (F0 m pc ls []) :=
  W.vret hexec hb hr (fun t ht _ => ⟨rfl, ⟨ad, E, hX, by rw [ht]; exact hw⟩, hS.F ht⟩) hS.2.2 hdg hlocks
theorem mw_aret {X : (Nat → Nat) → (Nat → Option va_E) → Prop} {v : Value} {rt : FieldType} {r : Option Value} (hexec : p.tables.exec = Jvm.exec) (hb : c.code = cc) (hr : meth.sig.returnType = some rt) (hrt : (∃ n, rt = .object n) ∨ ∃ t, rt = .array t) (hv0 : v = .null ∨ ∃ a, v = .ref a) (hw : mw A D cl ad E H) (hS : va_S A s.heap H locs) (hv : some v = r) (hX : X ad E) (hlocks : meth.locks = false) (hdg : decode cc pc = .ok (.areturn, 1)) :
    W p l e R s m args below meth c H locs cells slots (MQ below (mE A D cl r X) args s cells slots A) (F0 m pc ls [v]) := by
  subst hv
  exact W.aret hexec hb hr hrt hv0 (fun t ht _ => ⟨rfl, ⟨ad, E, hX, by rw [ht]; exact hw⟩, hS.F ht⟩) hS.2.2 hdg hlocks
end MW
end
section
section MW2
variable {p : Program} {l : Launch} {e : Env} {R : Room} {s : State} {m : MethodId} {args : Array Value} {below : List Frame} {meth : Method} {c : Code} {H : Heap} {locs : List Loc} {cells slots : Nat} {Q : State → Prop}
variable {cc : ByteArray} {pc : Nat} {ls : Array Slot} {rest : List Value} {D : va_G} {cl : List vw_C} {A : Nat → Prop} {ad : Nat → Nat} {E : Nat → Option va_E} {tys : List (ClassId × FieldType)} {H0 : Heap}
theorem mw_zald (hexec : p.tables.exec = Jvm.exec) (hb : c.code = cc) (hK : va_K D cl tys s) (hw : mw A D cl ad E H) (k t0 : Nat) {cA : ClassId} {n : Nat} {f : Nat → Int32} (he : E k = some (.inl (cA, n, .inl f))) (ht : tys[t0]? = some (cA, .boolean)) {i : Int32} (hin : vp_in i n) (hdg : decode cc pc = .ok (.baload, 1))
    (kk : W p l e R s m args below meth c H locs cells slots Q (F0 m (pc + 1) ls (.int (f i.toNatClampNeg) :: rest))) : W p l e R s m args below meth c H locs cells slots Q (F0 m pc ls (.int i :: .ref (ad k) :: rest)) :=
  va_zald hexec hb hK (hw.P he) 0 t0 rfl ht hin hdg kk
theorem mw_zast (hexec : p.tables.exec = Jvm.exec) (hb : c.code = cc) (hK : va_K D cl tys s) (hw : mw A D cl ad E H) (hS : va_S A H0 H locs) (k t0 : Nat) {cA : ClassId} {n : Nat} {f : Nat → Int32} (he : E k = some (.inl (cA, n, .inl f))) (ht : tys[t0]? = some (cA, .boolean)) {i : Int32} {x : Int32} (hin : vp_in i n) (hz : narrow .boolean (.int x) = .int x) (hdg : decode cc pc = .ok (.bastore, 1))
    (kk : ∀ (H1 : Heap) (locs1 : List Loc), mw A D cl ad (va_up E k (some (.inl (cA, n, .inl (upd f i.toNatClampNeg x))))) H1 → va_S A H0 H1 locs1 → W p l e R s m args below meth c H1 locs1 cells slots Q (F0 m (pc + 1) ls rest)) : W p l e R s m args below meth c H locs cells slots Q (F0 m pc ls (.int x :: .int i :: .ref (ad k) :: rest)) := by
  refine W.zast hexec hb (hw.1 k _ he).1 ((hK.2 t0 _ ht).1 n (fun j => .int (f j))) (fun q => by cases q) (by show ¬ (i < 0 ∨ (arrV _ _ _).slots.size ≤ _); rw [arrV_size]; exact hin) rfl rfl hdg fun H1 e z oq => ?_
  refine kk H1 _ (hw.set he ?_ z oq) (hS.put z oq (hw.1 k _ he).2)
  show H1[ad k]? = some (vp_cell _ _)
  rw [e, hz]
  rw [vp_cell_i, vp_cell_i, arrV_store]
  congr 2
  funext q
  by_cases hq : q = i.toNatClampNeg
  · subst hq
    simp [updV, upd]
  · simp [updV, upd, hq]
theorem mw_copyi (hexec : p.tables.exec = Jvm.exec) (hb : c.code = cc) (hml : c.maxLocals = ls.size) {own : String} {index : Nat} (hown : s.vm.findClass own = some m.cls) (hlink : (Cond.methodLink own index arraycopyName).before args s = true) (hnat : (Cond.native arraycopyName).before args s = true) (hstat : (Cond.static arraycopyName).before args s = true) (hini : (Cond.initialized "java/lang/System").before args s = true)
    (hK : va_K D cl tys s) (hw : mw A D cl ad E H) (hS : va_S A H0 H locs) (k0 k1 t0 t1 : Nat) {c0 c1 : ClassId} {n0 n1 : Nat} {f g : Nat → Int32} {ty : FieldType} (ha0 : E k0 = some (.inl (c0, n0, .inl f))) (ha1 : E k1 = some (.inl (c1, n1, .inl g))) (ht0 : tys[t0]? = some (c0, ty)) (ht1 : tys[t1]? = some (c1, ty)) (hprim : refKind ty = false)
    {sp dp n : Int32} (h1 : ¬ sp < 0) (h2 : ¬ dp < 0) (h3 : ¬ n < 0) (h4 : sp.toNatClampNeg + n.toNatClampNeg ≤ n0) (h5 : dp.toNatClampNeg + n.toNatClampNeg ≤ n1) (hfit : ∀ i, i < n.toNatClampNeg → fits ty (.int (f (sp.toNatClampNeg + i))) = true)
    (hframes : 1 ≤ R.frames) (hlocals : (rest.map fun v => v.category).sum + (nativeFrameWords "java/lang/System" "arraycopy" 5 + 11) ≤ R.locals) (hdg : decode cc pc = .ok (.invokestatic index, 3))
    (kk : ∀ (H1 : Heap) (locs1 : List Loc), mw A D cl ad (va_up E k1 (some (.inl (c1, n1, .inl (va_cpy f g sp.toNatClampNeg dp.toNatClampNeg n.toNatClampNeg))))) H1 → va_S A H0 H1 locs1 → W p l e R s m args below meth c H1 locs1 cells slots Q (F0 m (pc + 3) ls rest)) : W p l e R s m args below meth c H locs cells slots Q (F0 m pc ls (.int n :: .int dp :: .ref (ad k1) :: .int sp :: .ref (ad k0) :: rest)) := by
  have nn : ∀ z : Int32, ¬ z < 0 → z.toInt = (z.toNatClampNeg : Int) := by
    intro z hz
    have hz0 : (0 : Int) ≤ z.toInt := by
      have := Int32.not_lt.mp hz
      simpa using Int32.le_iff_toInt_le.mp this
    show z.toInt = ((z.toInt.toNat : Nat) : Int)
    omega
  intro T hT X
  have hc0 : H[ad k0]? = some (vp_cell c0 (n0, .inl f)) := (hw.1 k0 _ ha0).1
  have hc1 : H[ad k1]? = some (vp_cell c1 (n1, .inl g)) := (hw.1 k1 _ ha1).1
  have hA1 : A (ad k1) := (hw.1 k1 _ ha1).2
  obtain ⟨-, q0, hk0, cm0, hkk0⟩ := (hK.2 t0 _ ht0).1 n0 (fun j => .int (f j))
  obtain ⟨-, q1, hk1, cm1, hkk1⟩ := (hK.2 t1 _ ht1).1 n1 (fun j => .int (g j))
  obtain ⟨vm', X', step⟩ := X.arraycopy hexec hown hlink hnat hstat hini (src := ad k0) (dst := ad k1) (cs := vp_cell c0 (n0, .inl f)) (cd := vp_cell c1 (n1, .inl g)) (srcPos := sp) (destPos := dp) (n := n) (by rw [hT]; exact hc0) (by rw [hT]; exact hc1)
    (fun _ h => by cases h) (fun _ h => by cases h) (fun h => by cases h) (fun h => by cases h) hk0 hk1 hkk0 hkk1 (by simp [hprim]) h1 h2 h3
    (by rw [nn sp h1, nn n h3]; show ¬ _ > ((arrV c0 n0 (fun j => .int (f j))).slots.size : Int); rw [arrV_size]; omega)
    (by rw [nn dp h2, nn n h3]; show ¬ _ > ((arrV c1 n1 (fun j => .int (g j))).slots.size : Int); rw [arrV_size]; omega)
    (fun vm₁ _ i hi => by
      have e : (vp_cell c0 (n0, .inl f)).slots.getD (sp.toNatClampNeg + i) .null = .int (f (sp.toNatClampNeg + i)) := by
        show (arrV c0 n0 (fun j => .int (f j))).slots.getD _ _ = _
        rw [Array.getD_eq_getD_getElem?, arrV_read _ _ (by omega)]
        rfl
      refine ⟨?_, ?_⟩
      · rw [e]
        exact hfit i hi
      · rw [e]
        exact trivial)
    (g := F0 m pc ls (.int n :: .int dp :: .ref (ad k1) :: .int sp :: .ref (ad k0) :: rest)) rfl (by rw [hml]) (rest := rest) rfl (by rw [hb]; exact hdg) hframes (by show 2 * 0 + _ + _ ≤ _; omega)
  have e1 : copied (vp_cell c0 (n0, .inl f)) (vp_cell c1 (n1, .inl g)) sp dp n = vp_cell c1 (n1, .inl (va_cpy f g sp.toNatClampNeg dp.toNatClampNeg n.toNatClampNeg)) := va_copied (fun z => .int z) c0 c1 f g h4
  rw [e1] at X' step
  have hl : ad k1 < H.size := (Array.getElem?_eq_some_iff.mp hc1).1
  have hheap : ((T.setVm vm').setCell (ad k1) (vp_cell c1 (n1, .inl (va_cpy f g sp.toNatClampNeg dp.toNatClampNeg n.toNatClampNeg)))).heap = H.setIfInBounds (ad k1) (vp_cell c1 (n1, .inl (va_cpy f g sp.toNatClampNeg dp.toNatClampNeg n.toNatClampNeg))) := by rw [← hT]; rfl
  have oq : ∀ q : Nat, q ≠ ad k1 → (H.setIfInBounds (ad k1) (vp_cell c1 (n1, .inl (va_cpy f g sp.toNatClampNeg dp.toNatClampNeg n.toNatClampNeg))))[q]? = H[q]? := fun q hq => by simp [Array.getElem?_setIfInBounds, Ne.symm hq]
  obtain ⟨t, a1, b1⟩ := kk _ _ (hw.set ha1 (show (H.setIfInBounds (ad k1) _)[ad k1]? = some _ by simp [Array.getElem?_setIfInBounds, hl]) (by simp) oq) ⟨by simp; exact hS.1, fun q g1 g2 => by
      rw [oq q (fun e => g2 (by rw [e]; exact hA1))]
      exact hS.2.1 q g1 g2, fun q hq => by
      rcases List.mem_append.mp hq with h | h
      · exact hS.2.2 q h
      · obtain ⟨z, -, hz⟩ := List.mem_map.mp h
        rw [← hz]
        exact hA1⟩ _ hheap X'
  exact ⟨t, step t a1, b1⟩
end MW2
end
section
/-! what stays through the whole run: the classes' numbers, the arrays' classes, the links among nest mates -/
abbrev Gx : Type := va_G × (Nat → ClassId)
def nsF : List (String × Nat × String × String × String × String) := [("RollStages", 142, "RollStages$Deltas", "waySize", "I", "RollStages"), ("RollStages", 145, "RollStages$Deltas", "waySteps", "I", "RollStages"), ("RollStages", 104, "RollStages$Release", "channel", "I", "RollStages"), ("RollStages", 181, "RollStages$Release", "whole", "I", "RollStages"), ("RollStages$Deltas", 82, "RollStages$Release", "state", "I", "RollStages"), ("RollStages", 88, "RollStages$Release", "state", "I", "RollStages"), ("RollStages", 95, "RollStages$Release", "why", "I", "RollStages"), ("RollStages", 177, "RollStages$Machine", "channel", "I", "RollStages"), ("RollStages", 171, "RollStages$Machine", "ring", "I", "RollStages"), ("RollStages", 121, "RollStages$Machine", "row", "I", "RollStages"), ("RollStages", 148, "RollStages$Machine", "has", "I", "RollStages"), ("RollStages", 124, "RollStages$Machine", "pin", "I", "RollStages")]
def nsM : List (String × Nat × MethodName × String) := [("RollStages", 27, ⟨"RollStages$Deltas", "<init>", "()V"⟩, "RollStages"), ("RollStages", 51, ⟨"RollStages$Release", "<init>", "(IZI)V"⟩, "RollStages"), ("RollStages", 58, ⟨"RollStages$Release", "addStage", "(II)Z"⟩, "RollStages"), ("RollStages$Release", 44, ⟨"RollStages", "within", "(III)Z"⟩, "RollStages"), ("RollStages", 62, ⟨"RollStages$Release", "setHealth", "(II)Z"⟩, "RollStages"), ("RollStages", 68, ⟨"RollStages$Release", "begin", "(I)Z"⟩, "RollStages"), ("RollStages", 71, ⟨"RollStages$Release", "addReports", "(II)Z"⟩, "RollStages"), ("RollStages", 74, ⟨"RollStages$Release", "holdByHand", "()Z"⟩, "RollStages"), ("RollStages", 78, ⟨"RollStages$Release", "goOn", "(I)Z"⟩, "RollStages"), ("RollStages", 81, ⟨"RollStages$Release", "bar", "()Z"⟩, "RollStages"), ("RollStages", 84, ⟨"RollStages$Release", "passTicks", "(II)V"⟩, "RollStages"), ("RollStages", 91, ⟨"RollStages$Release", "stageNow", "()I"⟩, "RollStages"), ("RollStages", 98, ⟨"RollStages$Release", "shareNow", "()I"⟩, "RollStages"), ("RollStages", 101, ⟨"RollStages$Release", "allReports", "()I"⟩, "RollStages"), ("RollStages", 114, ⟨"RollStages$Machine", "<init>", "(III)V"⟩, "RollStages"), ("RollStages", 168, ⟨"RollStages$Release", "isForced", "()Z"⟩, "RollStages"), ("RollStages", 174, ⟨"RollStages$Release", "reachesRing", "(I)Z"⟩, "RollStages"), ("RollStages", 135, ⟨"RollStages$Deltas", "put", "(III)Z"⟩, "RollStages"), ("RollStages$Deltas", 31, ⟨"RollStages", "within", "(III)Z"⟩, "RollStages"), ("RollStages", 178, ⟨"RollStages$Deltas", "setWay", "(II)V"⟩, "RollStages"), ("RollStages", 184, ⟨"RollStages$Deltas", "searchCheaper", "(II[LRollStages$Release;)V"⟩, "RollStages")]
abbrev gTys (G : Gx) : List (ClassId × FieldType) := [(G.2 0, .int), (G.2 1, .object "RollStages$Release"), (G.2 2, .object "RollStages$Machine"), (G.2 3, .boolean)]
def KK (G : Gx) (U : State) : Prop := va_K G.1 vcl (gTys G) U ∧ (∀ q ∈ nsF, va_Nw (.fieldLinkNest q.1 q.2.1 q.2.2.1 q.2.2.2.1 q.2.2.2.2.1 q.2.2.2.2.2) U) ∧ (∀ q ∈ nsM, va_Nw (.methodLinkNest q.1 q.2.1 q.2.2.1 q.2.2.2) U) ∧ va_AO "RollStages$Release" U ∧ va_AO "RollStages$Machine" U
theorem KK.warm {G : Gx} {s U : State} (h : KK G s) (hW : s.WarmedH U.vm) : KK G U := ⟨va_K.moved hW.alike h.1, fun q hq => va_Nw.warmF hW (h.2.1 q hq), fun q hq => va_Nw.warmM hW (h.2.2.1 q hq), h.2.2.2.1.moved hW.alike, h.2.2.2.2.moved hW.alike⟩
theorem KK.blind {G : Gx} (U : State) (g : JFrame) (mk : MethodId) (a : Array Value) (h : KK G U) : KK G (U.calling g mk a) := ⟨va_K.moved (u := U) (U := U.calling g mk a) (Vm.Alike.refl U.vm) h.1, fun q hq => va_Nw.same rfl rfl (h.2.1 q hq), fun q hq => va_Nw.same rfl rfl (h.2.2.1 q hq), h.2.2.2.1.moved (u := U) (U := U.calling g mk a) (Vm.Alike.refl U.vm), h.2.2.2.2.moved (u := U) (U := U.calling g mk a) (Vm.Alike.refl U.vm)⟩
abbrev mwG (G : Gx) (A : Nat → Prop) (ad : Nat → Nat) (E : Nat → Option va_E) (H : Heap) : Prop := mw A G.1 vcl ad E H
abbrev PG (G : Gx) (av : List Value) (A : Nat → Prop) (ad : Nat → Nat) (E : Nat → Option va_E) : Array Value → State → Prop := mP av A G.1 vcl ad E (KK G)
abbrev EG (G : Gx) (A : Nat → Prop) (r : Option Value) (ad : Nat → Nat) (E : Nat → Option va_E) : Array Value → State → Outcome → State → Prop := mE A G.1 vcl r (mX ad E)
theorem tb_in {y : Cond} (hy : y ∈ tbG) : GoodIn tbG (y :: tbG) := fun w h => (List.mem_cons.mp h).elim (fun e => by subst e; exact ⟨hy, good_of_word (tbG_good _ hy)⟩) (fun h => ⟨h, good_of_word (tbG_good _ h)⟩)
theorem preG {G : Gx} {s : State} {H : Heap} {A : Nat → Prop} {ad : Nat → Nat} {E : Nat → Option va_E} {av : List Value} (hK : KK G s) (hw : mwG G A ad E H) : PreS s H (PG G av A ad E) av := ⟨fun a U g mk q => ⟨q.1, q.2.1, KK.blind U g mk a q.2.2⟩, fun U hU hW => ⟨rfl, by rw [hU]; exact hw, hK.warm hW⟩⟩
theorem preGV {G : Gx} {s : State} {H : Heap} {A : Nat → Prop} {ad : Nat → Nat} {E : Nat → Option va_E} {As : List Value} {k ci : Nat} {q : vw_C} {fs : List Value} (hK : KK G s) (hw : mwG G A ad E H) (he : E k = some (.inr (ci, fs))) (hc : vcl[ci]? = some q) : PreV s H q.1 (ad k) (PG G (.ref (ad k) :: As) A ad E) As := ⟨fun a U g mk q => ⟨q.1, q.2.1, KK.blind U g mk a q.2.2⟩, va_recv hK.1 (hw.P he) hc (q0 := 0) rfl, fun U hU hW => ⟨rfl, by rw [hU]; exact hw, hK.warm hW⟩⟩
section GC
variable {p : Program} {l : Launch} {e : Env} {R : Room} {s : State} {m : MethodId} {args : Array Value} {below : List Frame} {meth : Method} {c : Code} {H : Heap} {locs : List Loc} {cells slots : Nat} {Q : State → Prop}
variable {cc bytes : ByteArray} {pc : Nat} {ls : Array Slot} {rest As st1 : List Value} {G : Gx} {A : Nat → Prop} {ad ad' : Nat → Nat} {E E' : Nat → Option va_E} {H0 : Heap} {y : MethodName} {maxL nL index : Nat} {ret : Option FieldType} {rm : Room} {own : String} {r : Option Value} {st0 : List Value}
/-- a static method of the own class -/
theorem gS (S : CallFix p m c cc nL s args tbG own) (hM : Met l y (.code y bytes maxL ret :: tbG) rm (PG G As A ad E) (EG G A r ad' E') 0 0 A) (hcode : Cond.code y bytes maxL ret ∈ tbG) (hl : Cond.methodLink own index y ∈ tbG) (hst : Cond.static y ∈ tbG) (hini : Cond.initialized y.cls ∈ tbG) (hd : y.cls ≠ "java/lang/invoke/MethodHandle" ∧ y.cls ≠ "java/lang/invoke/VarHandle" ∧ (parseMethodDescriptor y.desc).map (fun d => d.parameters.length) = some As.length) (hrc : rm.cells = 0) (hrs : rm.slots = 0) (hR : rm.frames + 1 ≤ R.frames ∧ 8 + (maxL + 11) + rm.locals ≤ R.locals) (hK : KK G s) (hw : mwG G A ad E H) (hS : va_S A H0 H locs) (hsize : ls.size = nL) (hstack : st0 = As.reverse ++ rest) (hroom : (rest.map fun v => v.category).sum ≤ 8) (hc : cells ≤ R.cells ∧ slots ≤ R.slots) (hdg : decode cc pc = .ok (.invokestatic index, 3)) (hst1 : r.toList ++ rest = st1)
    (kk : ∀ (H1 : Heap) (locs1 : List Loc), mwG G A ad' E' H1 → va_S A H0 H1 locs1 → W p l e R s m args below meth c H1 locs1 cells slots Q (F0 m (pc + 3) ls st1)) : W p l e R s m args below meth c H locs cells slots Q (F0 m pc ls st0) := by
  subst hst1
  exact mw_call0 (va_runS S hM ⟨callB_of As.length S.2.2.2.2 (tb_in hcode) rfl hrc hrs (S.2.2.2.2 _ hini) (S.2.2.2.2 _ hl) hd hR, S.2.2.2.2 _ hst⟩ (preG hK hw) rfl rfl hsize hstack (lv_room hroom) hdg hc) hS kk
/-- a static method of a nest mate -/
theorem gSN {host : String} (S : CallFix p m c cc nL s args tbG own) (hM : Met l y (.code y bytes maxL ret :: tbG) rm (PG G As A ad E) (EG G A r ad' E') 0 0 A) (hcode : Cond.code y bytes maxL ret ∈ tbG) (hl : (own, index, y, host) ∈ nsM) (hst : Cond.static y ∈ tbG) (hini : Cond.initialized y.cls ∈ tbG) (hd : y.cls ≠ "java/lang/invoke/MethodHandle" ∧ y.cls ≠ "java/lang/invoke/VarHandle" ∧ (parseMethodDescriptor y.desc).map (fun d => d.parameters.length) = some As.length) (hrc : rm.cells = 0) (hrs : rm.slots = 0) (hR : rm.frames + 1 ≤ R.frames ∧ 8 + (maxL + 11) + rm.locals ≤ R.locals) (hK : KK G s) (hw : mwG G A ad E H) (hS : va_S A H0 H locs) (hsize : ls.size = nL) (hstack : st0 = As.reverse ++ rest) (hroom : (rest.map fun v => v.category).sum ≤ 8) (hc : cells ≤ R.cells ∧ slots ≤ R.slots) (hdg : decode cc pc = .ok (.invokestatic index, 3)) (hst1 : r.toList ++ rest = st1)
    (kk : ∀ (H1 : Heap) (locs1 : List Loc), mwG G A ad' E' H1 → va_S A H0 H1 locs1 → W p l e R s m args below meth c H1 locs1 cells slots Q (F0 m (pc + 3) ls st1)) : W p l e R s m args below meth c H locs cells slots Q (F0 m pc ls st0) := by
  subst hst1
  exact mw_call0 (va_runSN S hM ⟨va_cnB As.length S.2.2.2.2 (tb_in hcode) rfl hrc hrs (hK.2.2.1 _ hl) (S.2.2.2.2 _ hini) hd hR, S.2.2.2.2 _ hst, trivial⟩ (preG hK hw) rfl rfl hsize hstack (lv_room hroom) hdg hc) hS kk
/-- a method of the own class, on an object of the world -/
theorem gV {k ci : Nat} {q : vw_C} {fs : List Value} (S : CallFix p m c cc nL s args tbG own) (hM : Met l y (.code y bytes maxL ret :: tbG) rm (PG G (.ref (ad k) :: As) A ad E) (EG G A r ad' E') 0 0 A) (he : E k = some (.inr (ci, fs))) (hq : vcl[ci]? = some q) (hcode : Cond.code y bytes maxL ret ∈ tbG) (hl : Cond.methodLink own index y ∈ tbG) (hin : Cond.instanceMethod y ∈ tbG) (hse : Cond.selects q.1 y y ∈ tbG) (hini : Cond.initialized y.cls ∈ tbG) (hd : y.cls ≠ "java/lang/invoke/MethodHandle" ∧ y.cls ≠ "java/lang/invoke/VarHandle" ∧ (parseMethodDescriptor y.desc).map (fun d => d.parameters.length) = some As.length) (hrc : rm.cells = 0) (hrs : rm.slots = 0) (hR : rm.frames + 1 ≤ R.frames ∧ 8 + (maxL + 11) + rm.locals ≤ R.locals) (hK : KK G s) (hw : mwG G A ad E H) (hS : va_S A H0 H locs) (hsize : ls.size = nL) (hstack : st0 = As.reverse ++ .ref (ad k) :: rest) (hroom : (rest.map fun v => v.category).sum ≤ 8) (hc : cells ≤ R.cells ∧ slots ≤ R.slots) (hdg : decode cc pc = .ok (.invokevirtual index, 3)) (hst1 : r.toList ++ rest = st1)
    (kk : ∀ (H1 : Heap) (locs1 : List Loc), mwG G A ad' E' H1 → va_S A H0 H1 locs1 → W p l e R s m args below meth c H1 locs1 cells slots Q (F0 m (pc + 3) ls st1)) : W p l e R s m args below meth c H locs cells slots Q (F0 m pc ls st0) := by
  subst hst1
  exact mw_call0 (va_runV S hM ⟨callB_of As.length S.2.2.2.2 (tb_in hcode) rfl hrc hrs (S.2.2.2.2 _ hini) (S.2.2.2.2 _ hl) hd hR, S.2.2.2.2 _ hin, S.2.2.2.2 _ hse⟩ (preGV hK hw he hq) rfl rfl hsize hstack (lv_room hroom) hdg hc) hS kk
/-- .. of a nest mate -/
theorem gVN {k ci : Nat} {q : vw_C} {fs : List Value} {host : String} (S : CallFix p m c cc nL s args tbG own) (hM : Met l y (.code y bytes maxL ret :: tbG) rm (PG G (.ref (ad k) :: As) A ad E) (EG G A r ad' E') 0 0 A) (he : E k = some (.inr (ci, fs))) (hq : vcl[ci]? = some q) (hcode : Cond.code y bytes maxL ret ∈ tbG) (hl : (own, index, y, host) ∈ nsM) (hin : Cond.instanceMethod y ∈ tbG) (hse : Cond.selects q.1 y y ∈ tbG) (hini : Cond.initialized y.cls ∈ tbG) (hd : y.cls ≠ "java/lang/invoke/MethodHandle" ∧ y.cls ≠ "java/lang/invoke/VarHandle" ∧ (parseMethodDescriptor y.desc).map (fun d => d.parameters.length) = some As.length) (hrc : rm.cells = 0) (hrs : rm.slots = 0) (hR : rm.frames + 1 ≤ R.frames ∧ 8 + (maxL + 11) + rm.locals ≤ R.locals) (hK : KK G s) (hw : mwG G A ad E H) (hS : va_S A H0 H locs) (hsize : ls.size = nL) (hstack : st0 = As.reverse ++ .ref (ad k) :: rest) (hroom : (rest.map fun v => v.category).sum ≤ 8) (hc : cells ≤ R.cells ∧ slots ≤ R.slots) (hdg : decode cc pc = .ok (.invokevirtual index, 3)) (hst1 : r.toList ++ rest = st1)
    (kk : ∀ (H1 : Heap) (locs1 : List Loc), mwG G A ad' E' H1 → va_S A H0 H1 locs1 → W p l e R s m args below meth c H1 locs1 cells slots Q (F0 m (pc + 3) ls st1)) : W p l e R s m args below meth c H locs cells slots Q (F0 m pc ls st0) := by
  subst hst1
  exact mw_call0 (va_runVN S hM ⟨va_cnB As.length S.2.2.2.2 (tb_in hcode) rfl hrc hrs (hK.2.2.1 _ hl) (S.2.2.2.2 _ hini) hd hR, S.2.2.2.2 _ hin, S.2.2.2.2 _ hse⟩ (preGV hK hw he hq) rfl rfl hsize hstack (lv_room hroom) hdg hc) hS kk
end GC
theorem nf_0 : ("RollStages", 142, "RollStages$Deltas", "waySize", "I", "RollStages") ∈ nsF := List.mem_of_getElem? (i := 0) rfl
theorem nf_1 : ("RollStages", 145, "RollStages$Deltas", "waySteps", "I", "RollStages") ∈ nsF := List.mem_of_getElem? (i := 1) rfl
theorem nf_2 : ("RollStages", 104, "RollStages$Release", "channel", "I", "RollStages") ∈ nsF := List.mem_of_getElem? (i := 2) rfl
theorem nf_3 : ("RollStages", 181, "RollStages$Release", "whole", "I", "RollStages") ∈ nsF := List.mem_of_getElem? (i := 3) rfl
theorem nf_4 : ("RollStages$Deltas", 82, "RollStages$Release", "state", "I", "RollStages") ∈ nsF := List.mem_of_getElem? (i := 4) rfl
theorem nf_5 : ("RollStages", 88, "RollStages$Release", "state", "I", "RollStages") ∈ nsF := List.mem_of_getElem? (i := 5) rfl
theorem nf_6 : ("RollStages", 95, "RollStages$Release", "why", "I", "RollStages") ∈ nsF := List.mem_of_getElem? (i := 6) rfl
theorem nf_7 : ("RollStages", 177, "RollStages$Machine", "channel", "I", "RollStages") ∈ nsF := List.mem_of_getElem? (i := 7) rfl
theorem nf_8 : ("RollStages", 171, "RollStages$Machine", "ring", "I", "RollStages") ∈ nsF := List.mem_of_getElem? (i := 8) rfl
theorem nf_9 : ("RollStages", 121, "RollStages$Machine", "row", "I", "RollStages") ∈ nsF := List.mem_of_getElem? (i := 9) rfl
theorem nf_10 : ("RollStages", 148, "RollStages$Machine", "has", "I", "RollStages") ∈ nsF := List.mem_of_getElem? (i := 10) rfl
theorem nf_11 : ("RollStages", 124, "RollStages$Machine", "pin", "I", "RollStages") ∈ nsF := List.mem_of_getElem? (i := 11) rfl
theorem nw_0 : ("RollStages", 27, (⟨"RollStages$Deltas", "<init>", "()V"⟩ : MethodName), "RollStages") ∈ nsM := List.mem_of_getElem? (i := 0) rfl
theorem nw_1 : ("RollStages", 51, (⟨"RollStages$Release", "<init>", "(IZI)V"⟩ : MethodName), "RollStages") ∈ nsM := List.mem_of_getElem? (i := 1) rfl
theorem nw_2 : ("RollStages", 58, (⟨"RollStages$Release", "addStage", "(II)Z"⟩ : MethodName), "RollStages") ∈ nsM := List.mem_of_getElem? (i := 2) rfl
theorem nw_3 : ("RollStages$Release", 44, (⟨"RollStages", "within", "(III)Z"⟩ : MethodName), "RollStages") ∈ nsM := List.mem_of_getElem? (i := 3) rfl
theorem nw_4 : ("RollStages", 62, (⟨"RollStages$Release", "setHealth", "(II)Z"⟩ : MethodName), "RollStages") ∈ nsM := List.mem_of_getElem? (i := 4) rfl
theorem nw_5 : ("RollStages", 68, (⟨"RollStages$Release", "begin", "(I)Z"⟩ : MethodName), "RollStages") ∈ nsM := List.mem_of_getElem? (i := 5) rfl
theorem nw_6 : ("RollStages", 71, (⟨"RollStages$Release", "addReports", "(II)Z"⟩ : MethodName), "RollStages") ∈ nsM := List.mem_of_getElem? (i := 6) rfl
theorem nw_7 : ("RollStages", 74, (⟨"RollStages$Release", "holdByHand", "()Z"⟩ : MethodName), "RollStages") ∈ nsM := List.mem_of_getElem? (i := 7) rfl
theorem nw_8 : ("RollStages", 78, (⟨"RollStages$Release", "goOn", "(I)Z"⟩ : MethodName), "RollStages") ∈ nsM := List.mem_of_getElem? (i := 8) rfl
theorem nw_9 : ("RollStages", 81, (⟨"RollStages$Release", "bar", "()Z"⟩ : MethodName), "RollStages") ∈ nsM := List.mem_of_getElem? (i := 9) rfl
theorem nw_10 : ("RollStages", 84, (⟨"RollStages$Release", "passTicks", "(II)V"⟩ : MethodName), "RollStages") ∈ nsM := List.mem_of_getElem? (i := 10) rfl
theorem nw_11 : ("RollStages", 91, (⟨"RollStages$Release", "stageNow", "()I"⟩ : MethodName), "RollStages") ∈ nsM := List.mem_of_getElem? (i := 11) rfl
theorem nw_12 : ("RollStages", 98, (⟨"RollStages$Release", "shareNow", "()I"⟩ : MethodName), "RollStages") ∈ nsM := List.mem_of_getElem? (i := 12) rfl
theorem nw_13 : ("RollStages", 101, (⟨"RollStages$Release", "allReports", "()I"⟩ : MethodName), "RollStages") ∈ nsM := List.mem_of_getElem? (i := 13) rfl
theorem nw_14 : ("RollStages", 114, (⟨"RollStages$Machine", "<init>", "(III)V"⟩ : MethodName), "RollStages") ∈ nsM := List.mem_of_getElem? (i := 14) rfl
theorem nw_15 : ("RollStages", 168, (⟨"RollStages$Release", "isForced", "()Z"⟩ : MethodName), "RollStages") ∈ nsM := List.mem_of_getElem? (i := 15) rfl
theorem nw_16 : ("RollStages", 174, (⟨"RollStages$Release", "reachesRing", "(I)Z"⟩ : MethodName), "RollStages") ∈ nsM := List.mem_of_getElem? (i := 16) rfl
theorem nw_17 : ("RollStages", 135, (⟨"RollStages$Deltas", "put", "(III)Z"⟩ : MethodName), "RollStages") ∈ nsM := List.mem_of_getElem? (i := 17) rfl
theorem nw_18 : ("RollStages$Deltas", 31, (⟨"RollStages", "within", "(III)Z"⟩ : MethodName), "RollStages") ∈ nsM := List.mem_of_getElem? (i := 18) rfl
theorem nw_19 : ("RollStages", 178, (⟨"RollStages$Deltas", "setWay", "(II)V"⟩ : MethodName), "RollStages") ∈ nsM := List.mem_of_getElem? (i := 19) rfl
theorem nw_20 : ("RollStages", 184, (⟨"RollStages$Deltas", "searchCheaper", "(II[LRollStages$Release;)V"⟩ : MethodName), "RollStages") ∈ nsM := List.mem_of_getElem? (i := 20) rfl
theorem hd_C_init : y_C_init.cls ≠ "java/lang/invoke/MethodHandle" ∧ y_C_init.cls ≠ "java/lang/invoke/VarHandle" ∧ (parseMethodDescriptor y_C_init.desc).map (fun d => d.parameters.length) = some 0 := by decide +kernel
theorem hd_D_init : y_D_init.cls ≠ "java/lang/invoke/MethodHandle" ∧ y_D_init.cls ≠ "java/lang/invoke/VarHandle" ∧ (parseMethodDescriptor y_D_init.desc).map (fun d => d.parameters.length) = some 0 := by decide +kernel
theorem hd_A_fill : y_A_fill.cls ≠ "java/lang/invoke/MethodHandle" ∧ y_A_fill.cls ≠ "java/lang/invoke/VarHandle" ∧ (parseMethodDescriptor y_A_fill.desc).map (fun d => d.parameters.length) = some 2 := by decide +kernel
theorem hd_C_release : y_C_release.cls ≠ "java/lang/invoke/MethodHandle" ∧ y_C_release.cls ≠ "java/lang/invoke/VarHandle" ∧ (parseMethodDescriptor y_C_release.desc).map (fun d => d.parameters.length) = some 3 := by decide +kernel
theorem hd_C_isChannel : y_C_isChannel.cls ≠ "java/lang/invoke/MethodHandle" ∧ y_C_isChannel.cls ≠ "java/lang/invoke/VarHandle" ∧ (parseMethodDescriptor y_C_isChannel.desc).map (fun d => d.parameters.length) = some 1 := by decide +kernel
theorem hd_C_within : y_C_within.cls ≠ "java/lang/invoke/MethodHandle" ∧ y_C_within.cls ≠ "java/lang/invoke/VarHandle" ∧ (parseMethodDescriptor y_C_within.desc).map (fun d => d.parameters.length) = some 3 := by decide +kernel
theorem hd_R_init : y_R_init.cls ≠ "java/lang/invoke/MethodHandle" ∧ y_R_init.cls ≠ "java/lang/invoke/VarHandle" ∧ (parseMethodDescriptor y_R_init.desc).map (fun d => d.parameters.length) = some 3 := by decide +kernel
theorem hd_C_stage : y_C_stage.cls ≠ "java/lang/invoke/MethodHandle" ∧ y_C_stage.cls ≠ "java/lang/invoke/VarHandle" ∧ (parseMethodDescriptor y_C_stage.desc).map (fun d => d.parameters.length) = some 3 := by decide +kernel
theorem hd_C_releaseAt : y_C_releaseAt.cls ≠ "java/lang/invoke/MethodHandle" ∧ y_C_releaseAt.cls ≠ "java/lang/invoke/VarHandle" ∧ (parseMethodDescriptor y_C_releaseAt.desc).map (fun d => d.parameters.length) = some 1 := by decide +kernel
theorem hd_R_addStage : y_R_addStage.cls ≠ "java/lang/invoke/MethodHandle" ∧ y_R_addStage.cls ≠ "java/lang/invoke/VarHandle" ∧ (parseMethodDescriptor y_R_addStage.desc).map (fun d => d.parameters.length) = some 2 := by decide +kernel
theorem hd_C_health : y_C_health.cls ≠ "java/lang/invoke/MethodHandle" ∧ y_C_health.cls ≠ "java/lang/invoke/VarHandle" ∧ (parseMethodDescriptor y_C_health.desc).map (fun d => d.parameters.length) = some 3 := by decide +kernel
theorem hd_R_setHealth : y_R_setHealth.cls ≠ "java/lang/invoke/MethodHandle" ∧ y_R_setHealth.cls ≠ "java/lang/invoke/VarHandle" ∧ (parseMethodDescriptor y_R_setHealth.desc).map (fun d => d.parameters.length) = some 2 := by decide +kernel
theorem hd_C_start : y_C_start.cls ≠ "java/lang/invoke/MethodHandle" ∧ y_C_start.cls ≠ "java/lang/invoke/VarHandle" ∧ (parseMethodDescriptor y_C_start.desc).map (fun d => d.parameters.length) = some 1 := by decide +kernel
theorem hd_R_begin : y_R_begin.cls ≠ "java/lang/invoke/MethodHandle" ∧ y_R_begin.cls ≠ "java/lang/invoke/VarHandle" ∧ (parseMethodDescriptor y_R_begin.desc).map (fun d => d.parameters.length) = some 1 := by decide +kernel
theorem hd_R_rollAt : y_R_rollAt.cls ≠ "java/lang/invoke/MethodHandle" ∧ y_R_rollAt.cls ≠ "java/lang/invoke/VarHandle" ∧ (parseMethodDescriptor y_R_rollAt.desc).map (fun d => d.parameters.length) = some 2 := by decide +kernel
theorem hd_C_report : y_C_report.cls ≠ "java/lang/invoke/MethodHandle" ∧ y_C_report.cls ≠ "java/lang/invoke/VarHandle" ∧ (parseMethodDescriptor y_C_report.desc).map (fun d => d.parameters.length) = some 3 := by decide +kernel
theorem hd_R_addReports : y_R_addReports.cls ≠ "java/lang/invoke/MethodHandle" ∧ y_R_addReports.cls ≠ "java/lang/invoke/VarHandle" ∧ (parseMethodDescriptor y_R_addReports.desc).map (fun d => d.parameters.length) = some 2 := by decide +kernel
theorem hd_C_hold : y_C_hold.cls ≠ "java/lang/invoke/MethodHandle" ∧ y_C_hold.cls ≠ "java/lang/invoke/VarHandle" ∧ (parseMethodDescriptor y_C_hold.desc).map (fun d => d.parameters.length) = some 2 := by decide +kernel
theorem hd_R_holdByHand : y_R_holdByHand.cls ≠ "java/lang/invoke/MethodHandle" ∧ y_R_holdByHand.cls ≠ "java/lang/invoke/VarHandle" ∧ (parseMethodDescriptor y_R_holdByHand.desc).map (fun d => d.parameters.length) = some 0 := by decide +kernel
theorem hd_R_holdFor : y_R_holdFor.cls ≠ "java/lang/invoke/MethodHandle" ∧ y_R_holdFor.cls ≠ "java/lang/invoke/VarHandle" ∧ (parseMethodDescriptor y_R_holdFor.desc).map (fun d => d.parameters.length) = some 1 := by decide +kernel
theorem hd_R_goOn : y_R_goOn.cls ≠ "java/lang/invoke/MethodHandle" ∧ y_R_goOn.cls ≠ "java/lang/invoke/VarHandle" ∧ (parseMethodDescriptor y_R_goOn.desc).map (fun d => d.parameters.length) = some 1 := by decide +kernel
theorem hd_C_revoke : y_C_revoke.cls ≠ "java/lang/invoke/MethodHandle" ∧ y_C_revoke.cls ≠ "java/lang/invoke/VarHandle" ∧ (parseMethodDescriptor y_C_revoke.desc).map (fun d => d.parameters.length) = some 1 := by decide +kernel
theorem hd_R_bar : y_R_bar.cls ≠ "java/lang/invoke/MethodHandle" ∧ y_R_bar.cls ≠ "java/lang/invoke/VarHandle" ∧ (parseMethodDescriptor y_R_bar.desc).map (fun d => d.parameters.length) = some 0 := by decide +kernel
theorem hd_C_tick : y_C_tick.cls ≠ "java/lang/invoke/MethodHandle" ∧ y_C_tick.cls ≠ "java/lang/invoke/VarHandle" ∧ (parseMethodDescriptor y_C_tick.desc).map (fun d => d.parameters.length) = some 1 := by decide +kernel
theorem hd_R_passTicks : y_R_passTicks.cls ≠ "java/lang/invoke/MethodHandle" ∧ y_R_passTicks.cls ≠ "java/lang/invoke/VarHandle" ∧ (parseMethodDescriptor y_R_passTicks.desc).map (fun d => d.parameters.length) = some 2 := by decide +kernel
theorem hd_R_valueOfStage : y_R_valueOfStage.cls ≠ "java/lang/invoke/MethodHandle" ∧ y_R_valueOfStage.cls ≠ "java/lang/invoke/VarHandle" ∧ (parseMethodDescriptor y_R_valueOfStage.desc).map (fun d => d.parameters.length) = some 1 := by decide +kernel
theorem hd_H_max : y_H_max.cls ≠ "java/lang/invoke/MethodHandle" ∧ y_H_max.cls ≠ "java/lang/invoke/VarHandle" ∧ (parseMethodDescriptor y_H_max.desc).map (fun d => d.parameters.length) = some 2 := by decide +kernel
theorem hd_R_judge : y_R_judge.cls ≠ "java/lang/invoke/MethodHandle" ∧ y_R_judge.cls ≠ "java/lang/invoke/VarHandle" ∧ (parseMethodDescriptor y_R_judge.desc).map (fun d => d.parameters.length) = some 1 := by decide +kernel
theorem hd_R_allReports : y_R_allReports.cls ≠ "java/lang/invoke/MethodHandle" ∧ y_R_allReports.cls ≠ "java/lang/invoke/VarHandle" ∧ (parseMethodDescriptor y_R_allReports.desc).map (fun d => d.parameters.length) = some 0 := by decide +kernel
theorem hd_R_isTooBad : y_R_isTooBad.cls ≠ "java/lang/invoke/MethodHandle" ∧ y_R_isTooBad.cls ≠ "java/lang/invoke/VarHandle" ∧ (parseMethodDescriptor y_R_isTooBad.desc).map (fun d => d.parameters.length) = some 0 := by decide +kernel
theorem hd_C_about : y_C_about.cls ≠ "java/lang/invoke/MethodHandle" ∧ y_C_about.cls ≠ "java/lang/invoke/VarHandle" ∧ (parseMethodDescriptor y_C_about.desc).map (fun d => d.parameters.length) = some 2 := by decide +kernel
theorem hd_R_stageNow : y_R_stageNow.cls ≠ "java/lang/invoke/MethodHandle" ∧ y_R_stageNow.cls ≠ "java/lang/invoke/VarHandle" ∧ (parseMethodDescriptor y_R_stageNow.desc).map (fun d => d.parameters.length) = some 0 := by decide +kernel
theorem hd_R_isAtStage : y_R_isAtStage.cls ≠ "java/lang/invoke/MethodHandle" ∧ y_R_isAtStage.cls ≠ "java/lang/invoke/VarHandle" ∧ (parseMethodDescriptor y_R_isAtStage.desc).map (fun d => d.parameters.length) = some 0 := by decide +kernel
theorem hd_R_shareNow : y_R_shareNow.cls ≠ "java/lang/invoke/MethodHandle" ∧ y_R_shareNow.cls ≠ "java/lang/invoke/VarHandle" ∧ (parseMethodDescriptor y_R_shareNow.desc).map (fun d => d.parameters.length) = some 0 := by decide +kernel
theorem hd_C_back : y_C_back.cls ≠ "java/lang/invoke/MethodHandle" ∧ y_C_back.cls ≠ "java/lang/invoke/VarHandle" ∧ (parseMethodDescriptor y_C_back.desc).map (fun d => d.parameters.length) = some 2 := by decide +kernel
theorem hd_C_machine : y_C_machine.cls ≠ "java/lang/invoke/MethodHandle" ∧ y_C_machine.cls ≠ "java/lang/invoke/VarHandle" ∧ (parseMethodDescriptor y_C_machine.desc).map (fun d => d.parameters.length) = some 2 := by decide +kernel
theorem hd_C_rowOf : y_C_rowOf.cls ≠ "java/lang/invoke/MethodHandle" ∧ y_C_rowOf.cls ≠ "java/lang/invoke/VarHandle" ∧ (parseMethodDescriptor y_C_rowOf.desc).map (fun d => d.parameters.length) = some 1 := by decide +kernel
theorem hd_M_init : y_M_init.cls ≠ "java/lang/invoke/MethodHandle" ∧ y_M_init.cls ≠ "java/lang/invoke/VarHandle" ∧ (parseMethodDescriptor y_M_init.desc).map (fun d => d.parameters.length) = some 3 := by decide +kernel
theorem hd_C_row : y_C_row.cls ≠ "java/lang/invoke/MethodHandle" ∧ y_C_row.cls ≠ "java/lang/invoke/VarHandle" ∧ (parseMethodDescriptor y_C_row.desc).map (fun d => d.parameters.length) = some 1 := by decide +kernel
theorem hd_C_machineAt : y_C_machineAt.cls ≠ "java/lang/invoke/MethodHandle" ∧ y_C_machineAt.cls ≠ "java/lang/invoke/VarHandle" ∧ (parseMethodDescriptor y_C_machineAt.desc).map (fun d => d.parameters.length) = some 1 := by decide +kernel
theorem hd_C_pin : y_C_pin.cls ≠ "java/lang/invoke/MethodHandle" ∧ y_C_pin.cls ≠ "java/lang/invoke/VarHandle" ∧ (parseMethodDescriptor y_C_pin.desc).map (fun d => d.parameters.length) = some 2 := by decide +kernel
theorem hd_C_offered : y_C_offered.cls ≠ "java/lang/invoke/MethodHandle" ∧ y_C_offered.cls ≠ "java/lang/invoke/VarHandle" ∧ (parseMethodDescriptor y_C_offered.desc).map (fun d => d.parameters.length) = some 1 := by decide +kernel
theorem hd_C_offerTo : y_C_offerTo.cls ≠ "java/lang/invoke/MethodHandle" ∧ y_C_offerTo.cls ≠ "java/lang/invoke/VarHandle" ∧ (parseMethodDescriptor y_C_offerTo.desc).map (fun d => d.parameters.length) = some 1 := by decide +kernel
theorem hd_C_newestFor : y_C_newestFor.cls ≠ "java/lang/invoke/MethodHandle" ∧ y_C_newestFor.cls ≠ "java/lang/invoke/VarHandle" ∧ (parseMethodDescriptor y_C_newestFor.desc).map (fun d => d.parameters.length) = some 1 := by decide +kernel
theorem hd_C_mayGet : y_C_mayGet.cls ≠ "java/lang/invoke/MethodHandle" ∧ y_C_mayGet.cls ≠ "java/lang/invoke/VarHandle" ∧ (parseMethodDescriptor y_C_mayGet.desc).map (fun d => d.parameters.length) = some 2 := by decide +kernel
theorem hd_C_isOpenTo : y_C_isOpenTo.cls ≠ "java/lang/invoke/MethodHandle" ∧ y_C_isOpenTo.cls ≠ "java/lang/invoke/VarHandle" ∧ (parseMethodDescriptor y_C_isOpenTo.desc).map (fun d => d.parameters.length) = some 3 := by decide +kernel
theorem hd_R_isForced : y_R_isForced.cls ≠ "java/lang/invoke/MethodHandle" ∧ y_R_isForced.cls ≠ "java/lang/invoke/VarHandle" ∧ (parseMethodDescriptor y_R_isForced.desc).map (fun d => d.parameters.length) = some 0 := by decide +kernel
theorem hd_R_reachesRing : y_R_reachesRing.cls ≠ "java/lang/invoke/MethodHandle" ∧ y_R_reachesRing.cls ≠ "java/lang/invoke/VarHandle" ∧ (parseMethodDescriptor y_R_reachesRing.desc).map (fun d => d.parameters.length) = some 1 := by decide +kernel
theorem hd_C_mayKeep : y_C_mayKeep.cls ≠ "java/lang/invoke/MethodHandle" ∧ y_C_mayKeep.cls ≠ "java/lang/invoke/VarHandle" ∧ (parseMethodDescriptor y_C_mayKeep.desc).map (fun d => d.parameters.length) = some 1 := by decide +kernel
theorem hd_C_may : y_C_may.cls ≠ "java/lang/invoke/MethodHandle" ∧ y_C_may.cls ≠ "java/lang/invoke/VarHandle" ∧ (parseMethodDescriptor y_C_may.desc).map (fun d => d.parameters.length) = some 2 := by decide +kernel
theorem hd_C_delta : y_C_delta.cls ≠ "java/lang/invoke/MethodHandle" ∧ y_C_delta.cls ≠ "java/lang/invoke/VarHandle" ∧ (parseMethodDescriptor y_C_delta.desc).map (fun d => d.parameters.length) = some 3 := by decide +kernel
theorem hd_D_put : y_D_put.cls ≠ "java/lang/invoke/MethodHandle" ∧ y_D_put.cls ≠ "java/lang/invoke/VarHandle" ∧ (parseMethodDescriptor y_D_put.desc).map (fun d => d.parameters.length) = some 3 := by decide +kernel
theorem hd_D_placeOf : y_D_placeOf.cls ≠ "java/lang/invoke/MethodHandle" ∧ y_D_placeOf.cls ≠ "java/lang/invoke/VarHandle" ∧ (parseMethodDescriptor y_D_placeOf.desc).map (fun d => d.parameters.length) = some 2 := by decide +kernel
theorem hd_C_cost : y_C_cost.cls ≠ "java/lang/invoke/MethodHandle" ∧ y_C_cost.cls ≠ "java/lang/invoke/VarHandle" ∧ (parseMethodDescriptor y_C_cost.desc).map (fun d => d.parameters.length) = some 1 := by decide +kernel
theorem hd_C_findWay : y_C_findWay.cls ≠ "java/lang/invoke/MethodHandle" ∧ y_C_findWay.cls ≠ "java/lang/invoke/VarHandle" ∧ (parseMethodDescriptor y_C_findWay.desc).map (fun d => d.parameters.length) = some 1 := by decide +kernel
theorem hd_D_setWay : y_D_setWay.cls ≠ "java/lang/invoke/MethodHandle" ∧ y_D_setWay.cls ≠ "java/lang/invoke/VarHandle" ∧ (parseMethodDescriptor y_D_setWay.desc).map (fun d => d.parameters.length) = some 2 := by decide +kernel
theorem hd_D_searchCheaper : y_D_searchCheaper.cls ≠ "java/lang/invoke/MethodHandle" ∧ y_D_searchCheaper.cls ≠ "java/lang/invoke/VarHandle" ∧ (parseMethodDescriptor y_D_searchCheaper.desc).map (fun d => d.parameters.length) = some 3 := by decide +kernel
theorem hd_D_lower : y_D_lower.cls ≠ "java/lang/invoke/MethodHandle" ∧ y_D_lower.cls ≠ "java/lang/invoke/VarHandle" ∧ (parseMethodDescriptor y_D_lower.desc).map (fun d => d.parameters.length) = some 3 := by decide +kernel
theorem hd_D_takeOneMore : y_D_takeOneMore.cls ≠ "java/lang/invoke/MethodHandle" ∧ y_D_takeOneMore.cls ≠ "java/lang/invoke/VarHandle" ∧ (parseMethodDescriptor y_D_takeOneMore.desc).map (fun d => d.parameters.length) = some 0 := by decide +kernel
theorem hd_D_sizeAt : y_D_sizeAt.cls ≠ "java/lang/invoke/MethodHandle" ∧ y_D_sizeAt.cls ≠ "java/lang/invoke/VarHandle" ∧ (parseMethodDescriptor y_D_sizeAt.desc).map (fun d => d.parameters.length) = some 2 := by decide +kernel
theorem hd_D_dropRevoked : y_D_dropRevoked.cls ≠ "java/lang/invoke/MethodHandle" ∧ y_D_dropRevoked.cls ≠ "java/lang/invoke/VarHandle" ∧ (parseMethodDescriptor y_D_dropRevoked.desc).map (fun d => d.parameters.length) = some 1 := by decide +kernel
theorem hd_C_steps : y_C_steps.cls ≠ "java/lang/invoke/MethodHandle" ∧ y_C_steps.cls ≠ "java/lang/invoke/VarHandle" ∧ (parseMethodDescriptor y_C_steps.desc).map (fun d => d.parameters.length) = some 1 := by decide +kernel
theorem hd_C_update : y_C_update.cls ≠ "java/lang/invoke/MethodHandle" ∧ y_C_update.cls ≠ "java/lang/invoke/VarHandle" ∧ (parseMethodDescriptor y_C_update.desc).map (fun d => d.parameters.length) = some 1 := by decide +kernel
theorem hd_C_has : y_C_has.cls ≠ "java/lang/invoke/MethodHandle" ∧ y_C_has.cls ≠ "java/lang/invoke/VarHandle" ∧ (parseMethodDescriptor y_C_has.desc).map (fun d => d.parameters.length) = some 1 := by decide +kernel
theorem hd_T_init : y_T_init.cls ≠ "java/lang/invoke/MethodHandle" ∧ y_T_init.cls ≠ "java/lang/invoke/VarHandle" ∧ (parseMethodDescriptor y_T_init.desc).map (fun d => d.parameters.length) = some 0 := by decide +kernel
theorem hd_T_release : y_T_release.cls ≠ "java/lang/invoke/MethodHandle" ∧ y_T_release.cls ≠ "java/lang/invoke/VarHandle" ∧ (parseMethodDescriptor y_T_release.desc).map (fun d => d.parameters.length) = some 3 := by decide +kernel
theorem hd_T_isWithin : y_T_isWithin.cls ≠ "java/lang/invoke/MethodHandle" ∧ y_T_isWithin.cls ≠ "java/lang/invoke/VarHandle" ∧ (parseMethodDescriptor y_T_isWithin.desc).map (fun d => d.parameters.length) = some 3 := by decide +kernel
theorem hd_T_stage : y_T_stage.cls ≠ "java/lang/invoke/MethodHandle" ∧ y_T_stage.cls ≠ "java/lang/invoke/VarHandle" ∧ (parseMethodDescriptor y_T_stage.desc).map (fun d => d.parameters.length) = some 3 := by decide +kernel
theorem hd_T_isRelease : y_T_isRelease.cls ≠ "java/lang/invoke/MethodHandle" ∧ y_T_isRelease.cls ≠ "java/lang/invoke/VarHandle" ∧ (parseMethodDescriptor y_T_isRelease.desc).map (fun d => d.parameters.length) = some 1 := by decide +kernel
theorem hd_T_health : y_T_health.cls ≠ "java/lang/invoke/MethodHandle" ∧ y_T_health.cls ≠ "java/lang/invoke/VarHandle" ∧ (parseMethodDescriptor y_T_health.desc).map (fun d => d.parameters.length) = some 3 := by decide +kernel
theorem hd_T_start : y_T_start.cls ≠ "java/lang/invoke/MethodHandle" ∧ y_T_start.cls ≠ "java/lang/invoke/VarHandle" ∧ (parseMethodDescriptor y_T_start.desc).map (fun d => d.parameters.length) = some 1 := by decide +kernel
theorem hd_T_begin : y_T_begin.cls ≠ "java/lang/invoke/MethodHandle" ∧ y_T_begin.cls ≠ "java/lang/invoke/VarHandle" ∧ (parseMethodDescriptor y_T_begin.desc).map (fun d => d.parameters.length) = some 2 := by decide +kernel
theorem hd_T_report : y_T_report.cls ≠ "java/lang/invoke/MethodHandle" ∧ y_T_report.cls ≠ "java/lang/invoke/VarHandle" ∧ (parseMethodDescriptor y_T_report.desc).map (fun d => d.parameters.length) = some 3 := by decide +kernel
theorem hd_T_hold : y_T_hold.cls ≠ "java/lang/invoke/MethodHandle" ∧ y_T_hold.cls ≠ "java/lang/invoke/VarHandle" ∧ (parseMethodDescriptor y_T_hold.desc).map (fun d => d.parameters.length) = some 2 := by decide +kernel
theorem hd_T_halt : y_T_halt.cls ≠ "java/lang/invoke/MethodHandle" ∧ y_T_halt.cls ≠ "java/lang/invoke/VarHandle" ∧ (parseMethodDescriptor y_T_halt.desc).map (fun d => d.parameters.length) = some 2 := by decide +kernel
theorem hd_T_revoke : y_T_revoke.cls ≠ "java/lang/invoke/MethodHandle" ∧ y_T_revoke.cls ≠ "java/lang/invoke/VarHandle" ∧ (parseMethodDescriptor y_T_revoke.desc).map (fun d => d.parameters.length) = some 1 := by decide +kernel
theorem hd_T_tick : y_T_tick.cls ≠ "java/lang/invoke/MethodHandle" ∧ y_T_tick.cls ≠ "java/lang/invoke/VarHandle" ∧ (parseMethodDescriptor y_T_tick.desc).map (fun d => d.parameters.length) = some 1 := by decide +kernel
theorem hd_T_pass : y_T_pass.cls ≠ "java/lang/invoke/MethodHandle" ∧ y_T_pass.cls ≠ "java/lang/invoke/VarHandle" ∧ (parseMethodDescriptor y_T_pass.desc).map (fun d => d.parameters.length) = some 1 := by decide +kernel
theorem hd_T_about : y_T_about.cls ≠ "java/lang/invoke/MethodHandle" ∧ y_T_about.cls ≠ "java/lang/invoke/VarHandle" ∧ (parseMethodDescriptor y_T_about.desc).map (fun d => d.parameters.length) = some 2 := by decide +kernel
theorem hd_T_shareOf : y_T_shareOf.cls ≠ "java/lang/invoke/MethodHandle" ∧ y_T_shareOf.cls ≠ "java/lang/invoke/VarHandle" ∧ (parseMethodDescriptor y_T_shareOf.desc).map (fun d => d.parameters.length) = some 1 := by decide +kernel
theorem hd_T_back : y_T_back.cls ≠ "java/lang/invoke/MethodHandle" ∧ y_T_back.cls ≠ "java/lang/invoke/VarHandle" ∧ (parseMethodDescriptor y_T_back.desc).map (fun d => d.parameters.length) = some 2 := by decide +kernel
theorem hd_T_machine : y_T_machine.cls ≠ "java/lang/invoke/MethodHandle" ∧ y_T_machine.cls ≠ "java/lang/invoke/VarHandle" ∧ (parseMethodDescriptor y_T_machine.desc).map (fun d => d.parameters.length) = some 2 := by decide +kernel
theorem hd_T_row : y_T_row.cls ≠ "java/lang/invoke/MethodHandle" ∧ y_T_row.cls ≠ "java/lang/invoke/VarHandle" ∧ (parseMethodDescriptor y_T_row.desc).map (fun d => d.parameters.length) = some 1 := by decide +kernel
theorem hd_T_isMachine : y_T_isMachine.cls ≠ "java/lang/invoke/MethodHandle" ∧ y_T_isMachine.cls ≠ "java/lang/invoke/VarHandle" ∧ (parseMethodDescriptor y_T_isMachine.desc).map (fun d => d.parameters.length) = some 1 := by decide +kernel
theorem hd_T_rowOf : y_T_rowOf.cls ≠ "java/lang/invoke/MethodHandle" ∧ y_T_rowOf.cls ≠ "java/lang/invoke/VarHandle" ∧ (parseMethodDescriptor y_T_rowOf.desc).map (fun d => d.parameters.length) = some 1 := by decide +kernel
theorem hd_T_pin : y_T_pin.cls ≠ "java/lang/invoke/MethodHandle" ∧ y_T_pin.cls ≠ "java/lang/invoke/VarHandle" ∧ (parseMethodDescriptor y_T_pin.desc).map (fun d => d.parameters.length) = some 2 := by decide +kernel
theorem hd_T_offered : y_T_offered.cls ≠ "java/lang/invoke/MethodHandle" ∧ y_T_offered.cls ≠ "java/lang/invoke/VarHandle" ∧ (parseMethodDescriptor y_T_offered.desc).map (fun d => d.parameters.length) = some 1 := by decide +kernel
theorem hd_T_offer : y_T_offer.cls ≠ "java/lang/invoke/MethodHandle" ∧ y_T_offer.cls ≠ "java/lang/invoke/VarHandle" ∧ (parseMethodDescriptor y_T_offer.desc).map (fun d => d.parameters.length) = some 1 := by decide +kernel
theorem hd_T_mayGet : y_T_mayGet.cls ≠ "java/lang/invoke/MethodHandle" ∧ y_T_mayGet.cls ≠ "java/lang/invoke/VarHandle" ∧ (parseMethodDescriptor y_T_mayGet.desc).map (fun d => d.parameters.length) = some 2 := by decide +kernel
theorem hd_T_isBounded : y_T_isBounded.cls ≠ "java/lang/invoke/MethodHandle" ∧ y_T_isBounded.cls ≠ "java/lang/invoke/VarHandle" ∧ (parseMethodDescriptor y_T_isBounded.desc).map (fun d => d.parameters.length) = some 2 := by decide +kernel
theorem hd_T_may : y_T_may.cls ≠ "java/lang/invoke/MethodHandle" ∧ y_T_may.cls ≠ "java/lang/invoke/VarHandle" ∧ (parseMethodDescriptor y_T_may.desc).map (fun d => d.parameters.length) = some 2 := by decide +kernel
theorem hd_T_delta : y_T_delta.cls ≠ "java/lang/invoke/MethodHandle" ∧ y_T_delta.cls ≠ "java/lang/invoke/VarHandle" ∧ (parseMethodDescriptor y_T_delta.desc).map (fun d => d.parameters.length) = some 3 := by decide +kernel
theorem hd_T_cost : y_T_cost.cls ≠ "java/lang/invoke/MethodHandle" ∧ y_T_cost.cls ≠ "java/lang/invoke/VarHandle" ∧ (parseMethodDescriptor y_T_cost.desc).map (fun d => d.parameters.length) = some 1 := by decide +kernel
theorem hd_T_wanted : y_T_wanted.cls ≠ "java/lang/invoke/MethodHandle" ∧ y_T_wanted.cls ≠ "java/lang/invoke/VarHandle" ∧ (parseMethodDescriptor y_T_wanted.desc).map (fun d => d.parameters.length) = some 1 := by decide +kernel
theorem hd_T_findWays : y_T_findWays.cls ≠ "java/lang/invoke/MethodHandle" ∧ y_T_findWays.cls ≠ "java/lang/invoke/VarHandle" ∧ (parseMethodDescriptor y_T_findWays.desc).map (fun d => d.parameters.length) = some 1 := by decide +kernel
theorem hd_T_steps : y_T_steps.cls ≠ "java/lang/invoke/MethodHandle" ∧ y_T_steps.cls ≠ "java/lang/invoke/VarHandle" ∧ (parseMethodDescriptor y_T_steps.desc).map (fun d => d.parameters.length) = some 1 := by decide +kernel
theorem hd_T_update : y_T_update.cls ≠ "java/lang/invoke/MethodHandle" ∧ y_T_update.cls ≠ "java/lang/invoke/VarHandle" ∧ (parseMethodDescriptor y_T_update.desc).map (fun d => d.parameters.length) = some 1 := by decide +kernel
theorem hd_T_has : y_T_has.cls ≠ "java/lang/invoke/MethodHandle" ∧ y_T_has.cls ≠ "java/lang/invoke/VarHandle" ∧ (parseMethodDescriptor y_T_has.desc).map (fun d => d.parameters.length) = some 1 := by decide +kernel
end
section
/-! THE CLASS'S STATE: places 0 the object, 1 releases, 2 machines, 3 bounds, 4 deltas, 5 froms, 6 tos, 7 sizes, 8 reached, 9 next, 10+3i release i, its shares, its waits, 58+j machine j; s k j: the int in slot (or element) j of place k -/
abbrev S2 : Type := Nat → Nat → Int32
def up2 (s : S2) (k j : Nat) (v : Int32) : S2 := va_up s k (upd (s k) j v)
theorem up2_k (s : S2) (k j : Nat) (v : Int32) : up2 s k j v k = upd (s k) j v := va_up_self _ _ _
theorem up2_ne {s : S2} {k k' j : Nat} {v : Int32} (h : k' ≠ k) : up2 s k j v k' = s k' := va_up_ne _ _ h
theorem up2_at (s : S2) (k j : Nat) (v : Int32) (k' j' : Nat) : up2 s k j v k' j' = if k' = k ∧ j' = j then v else s k' j' := by
  unfold up2 va_up upd
  by_cases h : k' = k
  · subst h
    by_cases h2 : j' = j <;> simp [h2]
  · simp [h]
def fsMain (ad : Nat → Nat) (r : Nat → Int32) : List Value := [.ref (ad 1), .ref (ad 2), .ref (ad 3), .ref (ad 4), .int (r 4), .int (r 5), .int (r 6)]
def fsDel (ad : Nat → Nat) (r : Nat → Int32) : List Value := [.ref (ad 5), .ref (ad 6), .ref (ad 7), .int (r 3), .ref (ad 8), .ref (ad 9), .int (r 6), .int (r 7)]
def fsRel (ad : Nat → Nat) (k : Nat) (r : Nat → Int32) : List Value := [.int (r 0), .int (r 1), .int (r 2), .ref (ad (k + 1)), .ref (ad (k + 2)), .int (r 5), .int (r 6), .int (r 7), .int (r 8), .int (r 9), .int (r 10), .int (r 11), .int (r 12), .int (r 13)]
def fsMac (r : Nat → Int32) : List Value := [.int (r 0), .int (r 1), .int (r 2), .int (r 3), .int (r 4)]
def rfRel (ad : Nat → Nat) (nr : Nat) : Nat → Option Nat := fun i => if i < nr then some (ad (10 + 3 * i)) else none
def rfMac (ad : Nat → Nat) (nm : Nat) : Nat → Option Nat := fun i => if i < nm then some (ad (58 + i)) else none
def cellC (g : Nat → ClassId) (ad : Nat → Nat) (nr nm k : Nat) (r : Nat → Int32) : Option va_E :=
  if k = 0 then some (.inr (0, fsMain ad r)) else if k = 1 then some (.inl (g 1, 16, .inr (.inr (.inr (.inr (rfRel ad nr)))))) else if k = 2 then some (.inl (g 2, 30, .inr (.inr (.inr (.inr (rfMac ad nm)))))) else if k = 3 then some (.inl (g 0, 3, .inl r)) else if k = 4 then some (.inr (3, fsDel ad r))
  else if k < 8 then some (.inl (g 0, 40, .inl r)) else if k < 10 then some (.inl (g 0, 16, .inl r))
  else if k < 58 then (if (k - 10) / 3 < nr then (if (k - 10) % 3 = 0 then some (.inr (1, fsRel ad k r)) else some (.inl (g 0, 5, .inl r))) else none)
  else if k - 58 < nm then some (.inr (2, fsMac r)) else none
def encC (g : Nat → ClassId) (ad : Nat → Nat) (nr nm : Nat) (s : S2) : Nat → Option va_E := fun k => cellC g ad nr nm k (s k)
theorem encC_up {g : Nat → ClassId} {ad : Nat → Nat} {nr nm : Nat} {s : S2} {k : Nat} {r : Nat → Int32} {e : va_E} (h : cellC g ad nr nm k r = some e) : va_up (encC g ad nr nm s) k (some e) = encC g ad nr nm (va_up s k r) := by
  funext q
  by_cases hq : q = k
  · subst hq
    rw [va_up_self]
    show _ = cellC g ad nr nm q (va_up s q r q)
    rw [va_up_self, h]
  · rw [va_up_ne _ _ hq]
    show cellC g ad nr nm q (s q) = cellC g ad nr nm q (va_up s k r q)
    rw [va_up_ne _ _ hq]
theorem mw_encC {A : Nat → Prop} {D : va_G} {cl : List vw_C} {g : Nat → ClassId} {ad ad0 : Nat → Nat} {nr nm : Nat} {s : S2} {k : Nat} {r : Nat → Int32} {e : va_E} {H : Heap} (hw : mw A D cl ad0 (va_up (encC g ad nr nm s) k (some e)) H) (h : cellC g ad nr nm k r = some e) : mw A D cl ad0 (encC g ad nr nm (va_up s k r)) H := by
  rw [encC_up h] at hw
  exact hw
section CC
variable {g : Nat → ClassId} {ad : Nat → Nat} {nr nm : Nat} {r : Nat → Int32}
theorem cC_0 : cellC g ad nr nm 0 r = some (.inr (0, fsMain ad r)) := rfl
theorem cC_1 : cellC g ad nr nm 1 r = some (.inl (g 1, 16, .inr (.inr (.inr (.inr (rfRel ad nr)))))) := rfl
theorem cC_2 : cellC g ad nr nm 2 r = some (.inl (g 2, 30, .inr (.inr (.inr (.inr (rfMac ad nm)))))) := rfl
theorem cC_3 : cellC g ad nr nm 3 r = some (.inl (g 0, 3, .inl r)) := rfl
theorem cC_4 : cellC g ad nr nm 4 r = some (.inr (3, fsDel ad r)) := rfl
theorem cC_5 : cellC g ad nr nm 5 r = some (.inl (g 0, 40, .inl r)) := rfl
theorem cC_6 : cellC g ad nr nm 6 r = some (.inl (g 0, 40, .inl r)) := rfl
theorem cC_7 : cellC g ad nr nm 7 r = some (.inl (g 0, 40, .inl r)) := rfl
theorem cC_8 : cellC g ad nr nm 8 r = some (.inl (g 0, 16, .inl r)) := rfl
theorem cC_9 : cellC g ad nr nm 9 r = some (.inl (g 0, 16, .inl r)) := rfl
theorem cC_rel {i : Nat} (hn : nr ≤ 16) (hi : i < nr) : cellC g ad nr nm (10 + 3 * i) r = some (.inr (1, fsRel ad (10 + 3 * i) r)) := by
  unfold cellC
  rw [if_neg (by omega), if_neg (by omega), if_neg (by omega), if_neg (by omega), if_neg (by omega), if_neg (by omega), if_neg (by omega), if_pos (by omega), if_pos (by omega), if_pos (by omega)]
theorem cC_sh {i : Nat} (hn : nr ≤ 16) (hi : i < nr) : cellC g ad nr nm (10 + 3 * i + 1) r = some (.inl (g 0, 5, .inl r)) := by
  unfold cellC
  rw [if_neg (by omega), if_neg (by omega), if_neg (by omega), if_neg (by omega), if_neg (by omega), if_neg (by omega), if_neg (by omega), if_pos (by omega), if_pos (by omega), if_neg (by omega)]
theorem cC_wa {i : Nat} (hn : nr ≤ 16) (hi : i < nr) : cellC g ad nr nm (10 + 3 * i + 2) r = some (.inl (g 0, 5, .inl r)) := by
  unfold cellC
  rw [if_neg (by omega), if_neg (by omega), if_neg (by omega), if_neg (by omega), if_neg (by omega), if_neg (by omega), if_neg (by omega), if_pos (by omega), if_pos (by omega), if_neg (by omega)]
theorem cC_mac {j : Nat} (hj : j < nm) : cellC g ad nr nm (58 + j) r = some (.inr (2, fsMac r)) := by
  unfold cellC
  rw [if_neg (by omega), if_neg (by omega), if_neg (by omega), if_neg (by omega), if_neg (by omega), if_neg (by omega), if_neg (by omega), if_neg (by omega), if_pos (by omega)]
end CC
end
section
def f_C_within (a1 : Int32) (a2 : Int32) (a3 : Int32) : Int32 :=
  if a1 < a2 then
    0
  else
    if a3 < a1 then
      0
    else
      1
theorem fb_C_within (a1 : Int32) (a2 : Int32) (a3 : Int32) : narrow .boolean (.int (f_C_within a1 a2 a3)) = .int (f_C_within a1 a2 a3) := by
  unfold f_C_within
  repeat' split
  all_goals first | rfl | exact narrow_b0 | exact narrow_b1
set_option maxHeartbeats 4000000 in
set_option maxRecDepth 100000 in
theorem cc_C_within (l : Launch) (G : Gx) (A : Nat → Prop) (ad : Nat → Nat) (nr nm : Nat) (hnr : nr ≤ 16) (hnm : nm ≤ 30) (s0 : S2) (a1 : Int32) (a2 : Int32) (a3 : Int32) : Met l y_C_within ws_C_within { frames := 0, cells := 0, slots := 0, locals := 0 } (PG G [.int (a1), .int (a2), .int (a3)] A ad (encC G.2 ad nr nm s0)) (EG G A (some (.int (f_C_within a1 a2 a3))) ad (encC G.2 ad nr nm s0)) 0 0 A := by
  refine Met.ofW (cc := c_C_within) (maxL := 3) (ret := (some .boolean)) (by decide) rfl ?_
  intro p e s m args below meth c s₁ B hml hv
  obtain ⟨rfl, hw, hK⟩ := hv
  have hx := B.exec
  have hb := B.bytes
  have hr := B.returns
  have hts : ∀ w ∈ tbG, w.before [.int (a1), .int (a2), .int (a3)].toArray s = true := fun w h => atoms_spec (ws := ws_C_within) B.pre w (List.mem_cons_of_mem _ h)
  have hown : s.vm.findClass "RollStages" = some m.cls := findClass_of_methodNamed B.named
  have hlocks := B.notSynchronized
  have hS : va_S A s.heap s.heap [] := va_S.rf
  have hw : mwG G A ad (encC G.2 ad nr nm s0) s.heap := hw
  have hl := lv_entry ([.int (a1), .int (a2), .int (a3)]) (n := 3) (Nat.le_of_ble_eq_true rfl)
  rw [lg_entry_eq]
  generalize (lg_sl ([.int (a1), .int (a2), .int (a3)]) ++ List.replicate (3 - (lg_sl ([.int (a1), .int (a2), .int (a3)])).length) Slot.unset).toArray = ls at hl ⊢
  have hl : lv_has ls 3 [(0, .int (a1)), (1, .int (a2)), (2, .int (a3))] := hl
  refine lv_iload_n hx hb d_C_within_0 rfl (lv_at hl 0 rfl) ?_
  refine lv_iload_n hx hb d_C_within_1 rfl (lv_at hl 1 rfl) ?_
  refine lv_icmp_lt (tgt := 14) hx hb d_C_within_2 (by decide) (fun h1 => ?_) (fun h1 => ?_)
  · skip
    refine lv_iconst (v := 0) hx hb d_C_within_14 (by decide) ?_
    have e9 : f_C_within a1 a2 a3 = 0 := by unfold f_C_within; exact if_pos h1
    exact mw_iret hx hb hr rfl hw hS (congrArg (fun z => some (Value.int z)) e9.symm) ⟨rfl, rfl⟩ hlocks d_C_within_15
  · skip
    refine lv_iload_n hx hb d_C_within_5 rfl (lv_at hl 0 rfl) ?_
    refine lv_iload_n hx hb d_C_within_6 rfl (lv_at hl 2 rfl) ?_
    refine lv_icmp_gt (tgt := 14) hx hb d_C_within_7 (by decide) (fun h2 => ?_) (fun h2 => ?_)
    · skip
      refine lv_iconst (v := 0) hx hb d_C_within_14 (by decide) ?_
      have e9 : f_C_within a1 a2 a3 = 0 := by unfold f_C_within; exact (if_neg h1).trans (if_pos h2)
      exact mw_iret hx hb hr rfl hw hS (congrArg (fun z => some (Value.int z)) e9.symm) ⟨rfl, rfl⟩ hlocks d_C_within_15
    · skip
      refine lv_iconst (v := 1) hx hb d_C_within_10 (by decide) ?_
      refine lv_goto (tgt := 15) hx hb d_C_within_11 (by decide) ?_
      have e9 : f_C_within a1 a2 a3 = 1 := by unfold f_C_within; exact (if_neg h1).trans (if_neg h2)
      exact mw_iret hx hb hr rfl hw hS (congrArg (fun z => some (Value.int z)) e9.symm) ⟨rfl, rfl⟩ hlocks d_C_within_15

theorem within_ne {a b c : Int32} : ¬ f_C_within a b c = 0 ↔ b ≤ a ∧ a ≤ c := by
  unfold f_C_within
  simp only [Int32.lt_iff_toInt_lt, Int32.le_iff_toInt_le]
  by_cases h1 : a.toInt < b.toInt
  · simp [h1]; try omega
  · by_cases h2 : c.toInt < a.toInt
    · simp [h1, h2]; try omega
    · simp [h1, h2]; try omega
theorem within_e {a b c : Int32} : f_C_within a b c = 0 ↔ ¬ (b ≤ a ∧ a ≤ c) := by
  rw [← within_ne]
  exact Decidable.not_not.symm
theorem nI_m1 {n : Nat} (h : n < 2 ^ 31) : (nI n - 1).toInt = (n : Int) - 1 := by
  rw [Int32.toInt_sub, nI_toInt h]
  show ((n : Int) - 1).bmod (2 ^ 32) = _
  rw [Int.bmod_def]
  omega
theorem within_inN {n : Int32} {nA : Nat} (h : ¬ f_C_within n 0 ((nI nA) - 1) = 0) (hA : nA < 2 ^ 31) : vp_in n nA := by
  rw [within_ne, Int32.le_iff_toInt_le, Int32.le_iff_toInt_le, nI_m1 hA, Int32.toInt_zero] at h
  rw [vp_in_iff]
  omega
theorem within_inC {n m : Int32} {N : Nat} (h : ¬ f_C_within n 0 m = 0) (hm : m.toInt + 1 = N) : vp_in n N := by
  rw [within_ne, Int32.le_iff_toInt_le, Int32.le_iff_toInt_le, Int32.toInt_zero] at h
  rw [vp_in_iff]
  omega
theorem stc_i {x : Int32} (h : 0 ≤ x.toInt ∧ x.toInt ≤ 5) (h2 : x < 5) : vp_in x 5 := by
  rw [Int32.lt_iff_toInt_lt, show (5 : Int32).toInt = 5 from rfl] at h2
  rw [vp_in_iff]
  omega
theorem stc_p {x : Int32} (h : 0 ≤ x.toInt ∧ x.toInt ≤ 5) (h3 : ¬ x = 0) : vp_in (x - 1) 5 := by
  have h4 : x.toInt ≠ 0 := fun q => h3 (Int32.toInt_inj.mp (by rw [q, Int32.toInt_zero]))
  rw [vp_in_iff, Int32.toInt_sub, show (1 : Int32).toInt = 1 from rfl, Int.bmod_def]
  omega

def f_C_isChannel (a1 : Int32) : Int32 :=
  f_C_within a1 0 2
theorem fb_C_isChannel (a1 : Int32) : narrow .boolean (.int (f_C_isChannel a1)) = .int (f_C_isChannel a1) := by
  unfold f_C_isChannel
  repeat' split
  all_goals first | rfl | exact fb_C_within _ _ _
set_option maxHeartbeats 4000000 in
set_option maxRecDepth 100000 in
theorem cc_C_isChannel (l : Launch) (G : Gx) (A : Nat → Prop) (ad : Nat → Nat) (nr nm : Nat) (hnr : nr ≤ 16) (hnm : nm ≤ 30) (s0 : S2) (a1 : Int32) : Met l y_C_isChannel ws_C_isChannel { frames := 1, cells := 0, slots := 0, locals := 22 } (PG G [.int (a1)] A ad (encC G.2 ad nr nm s0)) (EG G A (some (.int (f_C_isChannel a1))) ad (encC G.2 ad nr nm s0)) 0 0 A := by
  refine Met.ofW (cc := c_C_isChannel) (maxL := 1) (ret := (some .boolean)) (by decide) rfl ?_
  intro p e s m args below meth c s₁ B hml hv
  obtain ⟨rfl, hw, hK⟩ := hv
  have hx := B.exec
  have hb := B.bytes
  have hr := B.returns
  have hts : ∀ w ∈ tbG, w.before [.int (a1)].toArray s = true := fun w h => atoms_spec (ws := ws_C_isChannel) B.pre w (List.mem_cons_of_mem _ h)
  have hown : s.vm.findClass "RollStages" = some m.cls := findClass_of_methodNamed B.named
  have hlocks := B.notSynchronized
  have hS : va_S A s.heap s.heap [] := va_S.rf
  have hw : mwG G A ad (encC G.2 ad nr nm s0) s.heap := hw
  have hl := lv_entry ([.int (a1)]) (n := 1) (Nat.le_of_ble_eq_true rfl)
  rw [lg_entry_eq]
  generalize (lg_sl ([.int (a1)]) ++ List.replicate (1 - (lg_sl ([.int (a1)])).length) Slot.unset).toArray = ls at hl ⊢
  have hl : lv_has ls 1 [(0, .int (a1))] := hl
  refine lv_iload_n hx hb d_C_isChannel_0 rfl (lv_at hl 0 rfl) ?_
  refine lv_iconst (v := 0) hx hb d_C_isChannel_1 (by decide) ?_
  refine lv_iconst (v := 2) hx hb d_C_isChannel_2 (by decide) ?_
  refine gS (As := [.int (a1), .int (0), .int (2)]) (rest := []) (st1 := [.int (f_C_within a1 0 2)]) ⟨hx, hb, hml, hown, hts⟩ (cc_C_within l G A ad nr nm hnr hnm s0 a1 0 2) tw_89 tw_87 tw_88 tw_1 hd_C_within rfl rfl ⟨Nat.le_of_ble_eq_true rfl, Nat.le_of_ble_eq_true rfl⟩ hK hw hS hl.1 rfl (Nat.le_of_ble_eq_true rfl) ⟨Nat.zero_le _, Nat.zero_le _⟩ d_C_isChannel_3 rfl (fun H locs hw hS => ?_)
  have e9 : f_C_isChannel a1 = f_C_within a1 0 2 := by unfold f_C_isChannel; exact rfl
  exact mw_iret hx hb hr (fb_C_within _ _ _) hw hS (congrArg (fun z => some (Value.int z)) e9.symm) ⟨rfl, rfl⟩ hlocks d_C_isChannel_6

def f_C_rowOf (a1 : Int32) : Int32 :=
  Int64.toInt32 (((((Int32.toInt64 (a1 + 1)) * 2654435761) &&& 4294967295) >>> (Int32.toInt64 7 &&& 63)) - ((((Int32.toInt64 (a1 + 1)) * 2654435761) &&& 4294967295) >>> (Int32.toInt64 7 &&& 63)) / 1000 * 1000)
set_option maxHeartbeats 4000000 in
set_option maxRecDepth 100000 in
theorem cc_C_rowOf (l : Launch) (G : Gx) (A : Nat → Prop) (ad : Nat → Nat) (nr nm : Nat) (hnr : nr ≤ 16) (hnm : nm ≤ 30) (s0 : S2) (a1 : Int32) : Met l y_C_rowOf ws_C_rowOf { frames := 0, cells := 0, slots := 0, locals := 0 } (PG G [.int (a1)] A ad (encC G.2 ad nr nm s0)) (EG G A (some (.int (f_C_rowOf a1))) ad (encC G.2 ad nr nm s0)) 0 0 A := by
  refine Met.ofW (cc := c_C_rowOf) (maxL := 3) (ret := (some .int)) (by decide) rfl ?_
  intro p e s m args below meth c s₁ B hml hv
  obtain ⟨rfl, hw, hK⟩ := hv
  have hx := B.exec
  have hb := B.bytes
  have hr := B.returns
  have hts : ∀ w ∈ tbG, w.before [.int (a1)].toArray s = true := fun w h => atoms_spec (ws := ws_C_rowOf) B.pre w (List.mem_cons_of_mem _ h)
  have hown : s.vm.findClass "RollStages" = some m.cls := findClass_of_methodNamed B.named
  have hlocks := B.notSynchronized
  have hS : va_S A s.heap s.heap [] := va_S.rf
  have hw : mwG G A ad (encC G.2 ad nr nm s0) s.heap := hw
  have hl := lv_entry ([.int (a1)]) (n := 3) (Nat.le_of_ble_eq_true rfl)
  rw [lg_entry_eq]
  generalize (lg_sl ([.int (a1)]) ++ List.replicate (3 - (lg_sl ([.int (a1)])).length) Slot.unset).toArray = ls at hl ⊢
  have hl : lv_has ls 3 [(0, .int (a1))] := hl
  refine lv_iload_n hx hb d_C_rowOf_0 rfl (lv_at hl 0 rfl) ?_
  refine lv_iconst (v := 1) hx hb d_C_rowOf_1 (by decide) ?_
  refine lv_iadd hx hb d_C_rowOf_2 ?_
  refine lv_i2l (v := Int32.toInt64 (a1 + 1)) hx hb d_C_rowOf_3 rfl ?_
  refine lv_ldc2 (v := 2654435761) hx hb hown (hts _ tw_265) d_C_rowOf_4 ?_
  refine lv_lmul hx hb d_C_rowOf_7 ?_
  refine lv_ldc2 (v := 4294967295) hx hb hown (hts _ tw_266) d_C_rowOf_8 ?_
  refine lv_land hx hb d_C_rowOf_11 ?_
  refine lv_lstore_n (lv' := [(1, .long (((Int32.toInt64 (a1 + 1)) * 2654435761) &&& 4294967295)), (0, .int (a1))]) hx hb d_C_rowOf_12 rfl hl (by decide) rfl (fun ls hl => ?_)
  refine lv_lload_n hx hb d_C_rowOf_13 rfl (lv_at hl 0 rfl) ?_
  refine lv_bipush (v := 7) hx hb d_C_rowOf_14 (by decide) ?_
  refine lv_lshr (v := (((Int32.toInt64 (a1 + 1)) * 2654435761) &&& 4294967295) >>> (Int32.toInt64 7 &&& 63)) hx hb d_C_rowOf_16 rfl ?_
  refine lv_ldc2 (v := 1000) hx hb hown (hts _ tw_267) d_C_rowOf_17 ?_
  refine lv_lrem hx hb d_C_rowOf_20 (by decide) ?_
  refine lv_l2i (v := Int64.toInt32 (((((Int32.toInt64 (a1 + 1)) * 2654435761) &&& 4294967295) >>> (Int32.toInt64 7 &&& 63)) - ((((Int32.toInt64 (a1 + 1)) * 2654435761) &&& 4294967295) >>> (Int32.toInt64 7 &&& 63)) / 1000 * 1000)) hx hb d_C_rowOf_21 rfl ?_
  have e9 : f_C_rowOf a1 = Int64.toInt32 (((((Int32.toInt64 (a1 + 1)) * 2654435761) &&& 4294967295) >>> (Int32.toInt64 7 &&& 63)) - ((((Int32.toInt64 (a1 + 1)) * 2654435761) &&& 4294967295) >>> (Int32.toInt64 7 &&& 63)) / 1000 * 1000) := by unfold f_C_rowOf; exact rfl
  exact mw_iret hx hb hr rfl hw hS (congrArg (fun z => some (Value.int z)) e9.symm) ⟨rfl, rfl⟩ hlocks d_C_rowOf_22

def f_R_allReports (s0 : S2) (i : Nat) : Int32 :=
  (s0 (10 + 3 * i) 12) + (s0 (10 + 3 * i) 13)
set_option maxHeartbeats 4000000 in
set_option maxRecDepth 100000 in
theorem cc_R_allReports (l : Launch) (G : Gx) (A : Nat → Prop) (ad : Nat → Nat) (nr nm : Nat) (hnr : nr ≤ 16) (hnm : nm ≤ 30) (s0 : S2) (i : Nat) (hi : i < nr) : Met l y_R_allReports ws_R_allReports { frames := 0, cells := 0, slots := 0, locals := 0 } (PG G [.ref (ad (10 + 3 * i))] A ad (encC G.2 ad nr nm s0)) (EG G A (some (.int (f_R_allReports s0 i))) ad (encC G.2 ad nr nm s0)) 0 0 A := by
  refine Met.ofW (cc := c_R_allReports) (maxL := 1) (ret := (some .int)) (by decide) rfl ?_
  intro p e s m args below meth c s₁ B hml hv
  obtain ⟨rfl, hw, hK⟩ := hv
  have hx := B.exec
  have hb := B.bytes
  have hr := B.returns
  have hts : ∀ w ∈ tbG, w.before [.ref (ad (10 + 3 * i))].toArray s = true := fun w h => atoms_spec (ws := ws_R_allReports) B.pre w (List.mem_cons_of_mem _ h)
  have hown : s.vm.findClass "RollStages$Release" = some m.cls := findClass_of_methodNamed B.named
  have hlocks := B.notSynchronized
  have hS : va_S A s.heap s.heap [] := va_S.rf
  have hw : mwG G A ad (encC G.2 ad nr nm s0) s.heap := hw
  have hl := lv_entry ([.ref (ad (10 + 3 * i))]) (n := 1) (Nat.le_of_ble_eq_true rfl)
  rw [lg_entry_eq]
  generalize (lg_sl ([.ref (ad (10 + 3 * i))]) ++ List.replicate (1 - (lg_sl ([.ref (ad (10 + 3 * i))])).length) Slot.unset).toArray = ls at hl ⊢
  have hl : lv_has ls 1 [(0, .ref (ad (10 + 3 * i)))] := hl
  refine lv_aload_n hx hb d_R_allReports_0 rfl (lv_at hl 0 rfl) ?_
  refine mw_get (v := .int (s0 (10 + 3 * i) 12)) hx hb hts in_R hown hK.1 hw (10 + 3 * i) (cC_rel hnr hi) rfl 12 (by decide) (hts _ tw_113) rfl d_R_allReports_1 ?_
  refine lv_aload_n hx hb d_R_allReports_4 rfl (lv_at hl 0 rfl) ?_
  refine mw_get (v := .int (s0 (10 + 3 * i) 13)) hx hb hts in_R hown hK.1 hw (10 + 3 * i) (cC_rel hnr hi) rfl 13 (by decide) (hts _ tw_114) rfl d_R_allReports_5 ?_
  refine lv_iadd hx hb d_R_allReports_8 ?_
  have e9 : f_R_allReports s0 i = (s0 (10 + 3 * i) 12) + (s0 (10 + 3 * i) 13) := by unfold f_R_allReports; exact rfl
  exact mw_iret hx hb hr rfl hw hS (congrArg (fun z => some (Value.int z)) e9.symm) ⟨rfl, rfl⟩ hlocks d_R_allReports_9

def f_R_isAtStage (s0 : S2) (i : Nat) : Int32 :=
  if (s0 (10 + 3 * i) 8) = 1 then
    1
  else
    if (s0 (10 + 3 * i) 8) = 2 then
      1
    else
      0
theorem fb_R_isAtStage (s0 : S2) (i : Nat) : narrow .boolean (.int (f_R_isAtStage s0 i)) = .int (f_R_isAtStage s0 i) := by
  unfold f_R_isAtStage
  repeat' split
  all_goals first | rfl | exact narrow_b0 | exact narrow_b1
set_option maxHeartbeats 4000000 in
set_option maxRecDepth 100000 in
theorem cc_R_isAtStage (l : Launch) (G : Gx) (A : Nat → Prop) (ad : Nat → Nat) (nr nm : Nat) (hnr : nr ≤ 16) (hnm : nm ≤ 30) (s0 : S2) (i : Nat) (hi : i < nr) : Met l y_R_isAtStage ws_R_isAtStage { frames := 0, cells := 0, slots := 0, locals := 0 } (PG G [.ref (ad (10 + 3 * i))] A ad (encC G.2 ad nr nm s0)) (EG G A (some (.int (f_R_isAtStage s0 i))) ad (encC G.2 ad nr nm s0)) 0 0 A := by
  refine Met.ofW (cc := c_R_isAtStage) (maxL := 1) (ret := (some .boolean)) (by decide) rfl ?_
  intro p e s m args below meth c s₁ B hml hv
  obtain ⟨rfl, hw, hK⟩ := hv
  have hx := B.exec
  have hb := B.bytes
  have hr := B.returns
  have hts : ∀ w ∈ tbG, w.before [.ref (ad (10 + 3 * i))].toArray s = true := fun w h => atoms_spec (ws := ws_R_isAtStage) B.pre w (List.mem_cons_of_mem _ h)
  have hown : s.vm.findClass "RollStages$Release" = some m.cls := findClass_of_methodNamed B.named
  have hlocks := B.notSynchronized
  have hS : va_S A s.heap s.heap [] := va_S.rf
  have hw : mwG G A ad (encC G.2 ad nr nm s0) s.heap := hw
  have hl := lv_entry ([.ref (ad (10 + 3 * i))]) (n := 1) (Nat.le_of_ble_eq_true rfl)
  rw [lg_entry_eq]
  generalize (lg_sl ([.ref (ad (10 + 3 * i))]) ++ List.replicate (1 - (lg_sl ([.ref (ad (10 + 3 * i))])).length) Slot.unset).toArray = ls at hl ⊢
  have hl : lv_has ls 1 [(0, .ref (ad (10 + 3 * i)))] := hl
  refine lv_aload_n hx hb d_R_isAtStage_0 rfl (lv_at hl 0 rfl) ?_
  refine mw_get (v := .int (s0 (10 + 3 * i) 8)) hx hb hts in_R hown hK.1 hw (10 + 3 * i) (cC_rel hnr hi) rfl 8 (by decide) (hts _ tw_106) rfl d_R_isAtStage_1 ?_
  refine lv_iconst (v := 1) hx hb d_R_isAtStage_4 (by decide) ?_
  refine lv_icmp_eq (tgt := 16) hx hb d_R_isAtStage_5 (by decide) (fun h1 => ?_) (fun h1 => ?_)
  · skip
    refine lv_iconst (v := 1) hx hb d_R_isAtStage_16 (by decide) ?_
    refine lv_goto (tgt := 21) hx hb d_R_isAtStage_17 (by decide) ?_
    have e9 : f_R_isAtStage s0 i = 1 := by unfold f_R_isAtStage; exact if_pos h1
    exact mw_iret hx hb hr rfl hw hS (congrArg (fun z => some (Value.int z)) e9.symm) ⟨rfl, rfl⟩ hlocks d_R_isAtStage_21
  · skip
    refine lv_aload_n hx hb d_R_isAtStage_8 rfl (lv_at hl 0 rfl) ?_
    refine mw_get (v := .int (s0 (10 + 3 * i) 8)) hx hb hts in_R hown hK.1 hw (10 + 3 * i) (cC_rel hnr hi) rfl 8 (by decide) (hts _ tw_106) rfl d_R_isAtStage_9 ?_
    refine lv_iconst (v := 2) hx hb d_R_isAtStage_12 (by decide) ?_
    refine lv_icmp_ne (tgt := 20) hx hb d_R_isAtStage_13 (by decide) (fun h2 => ?_) (fun h2 => ?_)
    · skip
      refine lv_iconst (v := 0) hx hb d_R_isAtStage_20 (by decide) ?_
      have e9 : f_R_isAtStage s0 i = 0 := by unfold f_R_isAtStage; exact (if_neg h1).trans (if_neg h2)
      exact mw_iret hx hb hr rfl hw hS (congrArg (fun z => some (Value.int z)) e9.symm) ⟨rfl, rfl⟩ hlocks d_R_isAtStage_21
    · skip
      refine lv_iconst (v := 1) hx hb d_R_isAtStage_16 (by decide) ?_
      refine lv_goto (tgt := 21) hx hb d_R_isAtStage_17 (by decide) ?_
      have e9 : f_R_isAtStage s0 i = 1 := by unfold f_R_isAtStage; exact (if_neg h1).trans (if_pos h2)
      exact mw_iret hx hb hr rfl hw hS (congrArg (fun z => some (Value.int z)) e9.symm) ⟨rfl, rfl⟩ hlocks d_R_isAtStage_21

def f_R_stageNow (s0 : S2) (i : Nat) : Int32 :=
  if (f_R_isAtStage s0 i) = 0 then
    -1
  else
    s0 (10 + 3 * i) 10
set_option maxHeartbeats 4000000 in
set_option maxRecDepth 100000 in
theorem cc_R_stageNow (l : Launch) (G : Gx) (A : Nat → Prop) (ad : Nat → Nat) (nr nm : Nat) (hnr : nr ≤ 16) (hnm : nm ≤ 30) (s0 : S2) (i : Nat) (hi : i < nr) : Met l y_R_stageNow ws_R_stageNow { frames := 1, cells := 0, slots := 0, locals := 20 } (PG G [.ref (ad (10 + 3 * i))] A ad (encC G.2 ad nr nm s0)) (EG G A (some (.int (f_R_stageNow s0 i))) ad (encC G.2 ad nr nm s0)) 0 0 A := by
  refine Met.ofW (cc := c_R_stageNow) (maxL := 1) (ret := (some .int)) (by decide) rfl ?_
  intro p e s m args below meth c s₁ B hml hv
  obtain ⟨rfl, hw, hK⟩ := hv
  have hx := B.exec
  have hb := B.bytes
  have hr := B.returns
  have hts : ∀ w ∈ tbG, w.before [.ref (ad (10 + 3 * i))].toArray s = true := fun w h => atoms_spec (ws := ws_R_stageNow) B.pre w (List.mem_cons_of_mem _ h)
  have hown : s.vm.findClass "RollStages$Release" = some m.cls := findClass_of_methodNamed B.named
  have hlocks := B.notSynchronized
  have hS : va_S A s.heap s.heap [] := va_S.rf
  have hw : mwG G A ad (encC G.2 ad nr nm s0) s.heap := hw
  have hl := lv_entry ([.ref (ad (10 + 3 * i))]) (n := 1) (Nat.le_of_ble_eq_true rfl)
  rw [lg_entry_eq]
  generalize (lg_sl ([.ref (ad (10 + 3 * i))]) ++ List.replicate (1 - (lg_sl ([.ref (ad (10 + 3 * i))])).length) Slot.unset).toArray = ls at hl ⊢
  have hl : lv_has ls 1 [(0, .ref (ad (10 + 3 * i)))] := hl
  refine lv_aload_n hx hb d_R_stageNow_0 rfl (lv_at hl 0 rfl) ?_
  refine gV (As := []) (rest := []) (st1 := [.int (f_R_isAtStage s0 i)]) ⟨hx, hb, hml, hown, hts⟩ (cc_R_isAtStage l G A ad nr nm hnr hnm s0 i hi) (cC_rel hnr hi) rfl tw_247 tw_244 tw_246 tw_p16 tw_5 hd_R_isAtStage rfl rfl ⟨Nat.le_of_ble_eq_true rfl, Nat.le_of_ble_eq_true rfl⟩ hK hw hS hl.1 rfl (Nat.le_of_ble_eq_true rfl) ⟨Nat.zero_le _, Nat.zero_le _⟩ d_R_stageNow_1 rfl (fun H locs hw hS => ?_)
  refine lv_if_eq (tgt := 14) hx hb d_R_stageNow_4 (by decide) (fun h1 => ?_) (fun h1 => ?_)
  · skip
    refine lv_iconst (v := -1) hx hb d_R_stageNow_14 (by decide) ?_
    have e9 : f_R_stageNow s0 i = -1 := by unfold f_R_stageNow; exact if_pos h1
    exact mw_iret hx hb hr rfl hw hS (congrArg (fun z => some (Value.int z)) e9.symm) ⟨rfl, rfl⟩ hlocks d_R_stageNow_15
  · skip
    refine lv_aload_n hx hb d_R_stageNow_7 rfl (lv_at hl 0 rfl) ?_
    refine mw_get (v := .int (s0 (10 + 3 * i) 10)) hx hb hts in_R hown hK.1 hw (10 + 3 * i) (cC_rel hnr hi) rfl 10 (by decide) (hts _ tw_111) rfl d_R_stageNow_8 ?_
    refine lv_goto (tgt := 15) hx hb d_R_stageNow_11 (by decide) ?_
    have e9 : f_R_stageNow s0 i = s0 (10 + 3 * i) 10 := by unfold f_R_stageNow; exact if_neg h1
    exact mw_iret hx hb hr rfl hw hS (congrArg (fun z => some (Value.int z)) e9.symm) ⟨rfl, rfl⟩ hlocks d_R_stageNow_15

def f_R_valueOfStage (s0 : S2) (i : Nat) (k nA : Nat) : Int32 :=
  if (f_C_within (s0 (10 + 3 * i) 10) 0 ((nI nA) - 1)) = 0 then
    0
  else
    s0 (k) (Int32.toNatClampNeg (s0 (10 + 3 * i) 10))
set_option maxHeartbeats 4000000 in
set_option maxRecDepth 100000 in
theorem cc_R_valueOfStage (l : Launch) (G : Gx) (A : Nat → Prop) (ad : Nat → Nat) (nr nm : Nat) (hnr : nr ≤ 16) (hnm : nm ≤ 30) (s0 : S2) (i : Nat) (hi : i < nr) (k nA : Nat) (hk : ∀ r, cellC G.2 ad nr nm k r = some (.inl (G.2 0, nA, .inl r))) (hA : nA < 2 ^ 31) : Met l y_R_valueOfStage ws_R_valueOfStage { frames := 1, cells := 0, slots := 0, locals := 22 } (PG G [.ref (ad (10 + 3 * i)), .ref (ad (k))] A ad (encC G.2 ad nr nm s0)) (EG G A (some (.int (f_R_valueOfStage s0 i k nA))) ad (encC G.2 ad nr nm s0)) 0 0 A := by
  refine Met.ofW (cc := c_R_valueOfStage) (maxL := 2) (ret := (some .int)) (by decide) rfl ?_
  intro p e s m args below meth c s₁ B hml hv
  obtain ⟨rfl, hw, hK⟩ := hv
  have hx := B.exec
  have hb := B.bytes
  have hr := B.returns
  have hts : ∀ w ∈ tbG, w.before [.ref (ad (10 + 3 * i)), .ref (ad (k))].toArray s = true := fun w h => atoms_spec (ws := ws_R_valueOfStage) B.pre w (List.mem_cons_of_mem _ h)
  have hown : s.vm.findClass "RollStages$Release" = some m.cls := findClass_of_methodNamed B.named
  have hlocks := B.notSynchronized
  have hS : va_S A s.heap s.heap [] := va_S.rf
  have hw : mwG G A ad (encC G.2 ad nr nm s0) s.heap := hw
  have hl := lv_entry ([.ref (ad (10 + 3 * i)), .ref (ad (k))]) (n := 2) (Nat.le_of_ble_eq_true rfl)
  rw [lg_entry_eq]
  generalize (lg_sl ([.ref (ad (10 + 3 * i)), .ref (ad (k))]) ++ List.replicate (2 - (lg_sl ([.ref (ad (10 + 3 * i)), .ref (ad (k))])).length) Slot.unset).toArray = ls at hl ⊢
  have hl : lv_has ls 2 [(0, .ref (ad (10 + 3 * i))), (1, .ref (ad (k)))] := hl
  refine lv_aload_n hx hb d_R_valueOfStage_0 rfl (lv_at hl 0 rfl) ?_
  refine mw_get (v := .int (s0 (10 + 3 * i) 10)) hx hb hts in_R hown hK.1 hw (10 + 3 * i) (cC_rel hnr hi) rfl 10 (by decide) (hts _ tw_111) rfl d_R_valueOfStage_1 ?_
  refine lv_iconst (v := 0) hx hb d_R_valueOfStage_4 (by decide) ?_
  refine lv_aload_n hx hb d_R_valueOfStage_5 rfl (lv_at hl 1 rfl) ?_
  refine mw_alen (v := nI nA) hx hb hK.1 hw (k) 0 (hk _) rfl (by first | rfl | decide) d_R_valueOfStage_6 ?_
  refine lv_iconst (v := 1) hx hb d_R_valueOfStage_7 (by decide) ?_
  refine lv_isub hx hb d_R_valueOfStage_8 ?_
  refine gSN (As := [.int (s0 (10 + 3 * i) 10), .int (0), .int ((nI nA) - 1)]) (rest := []) (st1 := [.int (f_C_within (s0 (10 + 3 * i) 10) 0 ((nI nA) - 1))]) ⟨hx, hb, hml, hown, hts⟩ (cc_C_within l G A ad nr nm hnr hnm s0 (s0 (10 + 3 * i) 10) 0 ((nI nA) - 1)) tw_89 nw_3 tw_88 tw_1 hd_C_within rfl rfl ⟨Nat.le_of_ble_eq_true rfl, Nat.le_of_ble_eq_true rfl⟩ hK hw hS hl.1 rfl (Nat.le_of_ble_eq_true rfl) ⟨Nat.zero_le _, Nat.zero_le _⟩ d_R_valueOfStage_9 rfl (fun H locs hw hS => ?_)
  refine lv_if_eq (tgt := 24) hx hb d_R_valueOfStage_12 (by decide) (fun h1 => ?_) (fun h1 => ?_)
  · skip
    refine lv_iconst (v := 0) hx hb d_R_valueOfStage_24 (by decide) ?_
    have e9 : f_R_valueOfStage s0 i k nA = 0 := by unfold f_R_valueOfStage; exact if_pos h1
    exact mw_iret hx hb hr rfl hw hS (congrArg (fun z => some (Value.int z)) e9.symm) ⟨rfl, rfl⟩ hlocks d_R_valueOfStage_25
  · skip
    refine lv_aload_n hx hb d_R_valueOfStage_15 rfl (lv_at hl 1 rfl) ?_
    refine lv_aload_n hx hb d_R_valueOfStage_16 rfl (lv_at hl 0 rfl) ?_
    refine mw_get (v := .int (s0 (10 + 3 * i) 10)) hx hb hts in_R hown hK.1 hw (10 + 3 * i) (cC_rel hnr hi) rfl 10 (by decide) (hts _ tw_111) rfl d_R_valueOfStage_17 ?_
    refine mw_iald hx hb hK.1 hw (k) 0 (hk _) rfl (within_inN h1 hA) d_R_valueOfStage_20 ?_
    refine lv_goto (tgt := 25) hx hb d_R_valueOfStage_21 (by decide) ?_
    have e9 : f_R_valueOfStage s0 i k nA = s0 (k) (Int32.toNatClampNeg (s0 (10 + 3 * i) 10)) := by unfold f_R_valueOfStage; exact if_neg h1
    exact mw_iret hx hb hr rfl hw hS (congrArg (fun z => some (Value.int z)) e9.symm) ⟨rfl, rfl⟩ hlocks d_R_valueOfStage_25

def f_R_shareNow (s0 : S2) (i : Nat) : Int32 :=
  if (s0 (10 + 3 * i) 8) = 3 then
    1000
  else
    if (f_R_isAtStage s0 i) = 0 then
      0
    else
      f_R_valueOfStage s0 i (10 + 3 * i + 1) 5
set_option maxHeartbeats 4000000 in
set_option maxRecDepth 100000 in
theorem cc_R_shareNow (l : Launch) (G : Gx) (A : Nat → Prop) (ad : Nat → Nat) (nr nm : Nat) (hnr : nr ≤ 16) (hnm : nm ≤ 30) (s0 : S2) (i : Nat) (hi : i < nr) : Met l y_R_shareNow ws_R_shareNow { frames := 2, cells := 0, slots := 0, locals := 43 } (PG G [.ref (ad (10 + 3 * i))] A ad (encC G.2 ad nr nm s0)) (EG G A (some (.int (f_R_shareNow s0 i))) ad (encC G.2 ad nr nm s0)) 0 0 A := by
  refine Met.ofW (cc := c_R_shareNow) (maxL := 1) (ret := (some .int)) (by decide) rfl ?_
  intro p e s m args below meth c s₁ B hml hv
  obtain ⟨rfl, hw, hK⟩ := hv
  have hx := B.exec
  have hb := B.bytes
  have hr := B.returns
  have hts : ∀ w ∈ tbG, w.before [.ref (ad (10 + 3 * i))].toArray s = true := fun w h => atoms_spec (ws := ws_R_shareNow) B.pre w (List.mem_cons_of_mem _ h)
  have hown : s.vm.findClass "RollStages$Release" = some m.cls := findClass_of_methodNamed B.named
  have hlocks := B.notSynchronized
  have hS : va_S A s.heap s.heap [] := va_S.rf
  have hw : mwG G A ad (encC G.2 ad nr nm s0) s.heap := hw
  have hl := lv_entry ([.ref (ad (10 + 3 * i))]) (n := 1) (Nat.le_of_ble_eq_true rfl)
  rw [lg_entry_eq]
  generalize (lg_sl ([.ref (ad (10 + 3 * i))]) ++ List.replicate (1 - (lg_sl ([.ref (ad (10 + 3 * i))])).length) Slot.unset).toArray = ls at hl ⊢
  have hl : lv_has ls 1 [(0, .ref (ad (10 + 3 * i)))] := hl
  refine lv_aload_n hx hb d_R_shareNow_0 rfl (lv_at hl 0 rfl) ?_
  refine mw_get (v := .int (s0 (10 + 3 * i) 8)) hx hb hts in_R hown hK.1 hw (10 + 3 * i) (cC_rel hnr hi) rfl 8 (by decide) (hts _ tw_106) rfl d_R_shareNow_1 ?_
  refine lv_iconst (v := 3) hx hb d_R_shareNow_4 (by decide) ?_
  refine lv_icmp_ne (tgt := 12) hx hb d_R_shareNow_5 (by decide) (fun h1 => ?_) (fun h1 => ?_)
  · skip
    refine lv_aload_n hx hb d_R_shareNow_12 rfl (lv_at hl 0 rfl) ?_
    refine gV (As := []) (rest := []) (st1 := [.int (f_R_isAtStage s0 i)]) ⟨hx, hb, hml, hown, hts⟩ (cc_R_isAtStage l G A ad nr nm hnr hnm s0 i hi) (cC_rel hnr hi) rfl tw_247 tw_244 tw_246 tw_p16 tw_5 hd_R_isAtStage rfl rfl ⟨Nat.le_of_ble_eq_true rfl, Nat.le_of_ble_eq_true rfl⟩ hK hw hS hl.1 rfl (Nat.le_of_ble_eq_true rfl) ⟨Nat.zero_le _, Nat.zero_le _⟩ d_R_shareNow_13 rfl (fun H locs hw hS => ?_)
    refine lv_if_eq (tgt := 30) hx hb d_R_shareNow_16 (by decide) (fun h2 => ?_) (fun h2 => ?_)
    · skip
      refine lv_iconst (v := 0) hx hb d_R_shareNow_30 (by decide) ?_
      have e9 : f_R_shareNow s0 i = 0 := by unfold f_R_shareNow; exact (if_neg h1).trans (if_pos h2)
      exact mw_iret hx hb hr rfl hw hS (congrArg (fun z => some (Value.int z)) e9.symm) ⟨rfl, rfl⟩ hlocks d_R_shareNow_31
    · skip
      refine lv_aload_n hx hb d_R_shareNow_19 rfl (lv_at hl 0 rfl) ?_
      refine lv_aload_n hx hb d_R_shareNow_20 rfl (lv_at hl 0 rfl) ?_
      refine mw_get (v := .ref (ad (10 + 3 * i + 1))) hx hb hts in_R hown hK.1 hw (10 + 3 * i) (cC_rel hnr hi) rfl 3 (by decide) (hts _ tw_101) rfl d_R_shareNow_21 ?_
      refine gV (As := [.ref (ad (10 + 3 * i + 1))]) (rest := []) (st1 := [.int (f_R_valueOfStage s0 i (10 + 3 * i + 1) 5)]) ⟨hx, hb, hml, hown, hts⟩ (cc_R_valueOfStage l G A ad nr nm hnr hnm s0 i hi (10 + 3 * i + 1) 5 (fun _ => cC_sh hnr hi) (by decide)) (cC_rel hnr hi) rfl tw_220 tw_217 tw_219 tw_p11 tw_5 hd_R_valueOfStage rfl rfl ⟨Nat.le_of_ble_eq_true rfl, Nat.le_of_ble_eq_true rfl⟩ hK hw hS hl.1 rfl (Nat.le_of_ble_eq_true rfl) ⟨Nat.zero_le _, Nat.zero_le _⟩ d_R_shareNow_24 rfl (fun H locs hw hS => ?_)
      refine lv_goto (tgt := 31) hx hb d_R_shareNow_27 (by decide) ?_
      have e9 : f_R_shareNow s0 i = f_R_valueOfStage s0 i (10 + 3 * i + 1) 5 := by unfold f_R_shareNow; exact (if_neg h1).trans (if_neg h2)
      exact mw_iret hx hb hr rfl hw hS (congrArg (fun z => some (Value.int z)) e9.symm) ⟨rfl, rfl⟩ hlocks d_R_shareNow_31
  · skip
    refine lv_sipush (v := 1000) hx hb d_R_shareNow_8 (by decide) ?_
    have e9 : f_R_shareNow s0 i = 1000 := by unfold f_R_shareNow; exact if_pos h1
    exact mw_iret hx hb hr rfl hw hS (congrArg (fun z => some (Value.int z)) e9.symm) ⟨rfl, rfl⟩ hlocks d_R_shareNow_11

def f_R_isForced (s0 : S2) (i : Nat) : Int32 :=
  if (s0 (10 + 3 * i) 1) = 0 then
    0
  else
    if (s0 (10 + 3 * i) 8) = 1 then
      1
    else
      if (s0 (10 + 3 * i) 8) = 3 then
        1
      else
        if (s0 (10 + 3 * i) 9) = 3 then
          1
        else
          0
theorem fb_R_isForced (s0 : S2) (i : Nat) : narrow .boolean (.int (f_R_isForced s0 i)) = .int (f_R_isForced s0 i) := by
  unfold f_R_isForced
  repeat' split
  all_goals first | rfl | exact narrow_b0 | exact narrow_b1
set_option maxHeartbeats 4000000 in
set_option maxRecDepth 100000 in
theorem cc_R_isForced (l : Launch) (G : Gx) (A : Nat → Prop) (ad : Nat → Nat) (nr nm : Nat) (hnr : nr ≤ 16) (hnm : nm ≤ 30) (s0 : S2) (i : Nat) (hi : i < nr) : Met l y_R_isForced ws_R_isForced { frames := 0, cells := 0, slots := 0, locals := 0 } (PG G [.ref (ad (10 + 3 * i))] A ad (encC G.2 ad nr nm s0)) (EG G A (some (.int (f_R_isForced s0 i))) ad (encC G.2 ad nr nm s0)) 0 0 A := by
  refine Met.ofW (cc := c_R_isForced) (maxL := 1) (ret := (some .boolean)) (by decide) rfl ?_
  intro p e s m args below meth c s₁ B hml hv
  obtain ⟨rfl, hw, hK⟩ := hv
  have hx := B.exec
  have hb := B.bytes
  have hr := B.returns
  have hts : ∀ w ∈ tbG, w.before [.ref (ad (10 + 3 * i))].toArray s = true := fun w h => atoms_spec (ws := ws_R_isForced) B.pre w (List.mem_cons_of_mem _ h)
  have hown : s.vm.findClass "RollStages$Release" = some m.cls := findClass_of_methodNamed B.named
  have hlocks := B.notSynchronized
  have hS : va_S A s.heap s.heap [] := va_S.rf
  have hw : mwG G A ad (encC G.2 ad nr nm s0) s.heap := hw
  have hl := lv_entry ([.ref (ad (10 + 3 * i))]) (n := 1) (Nat.le_of_ble_eq_true rfl)
  rw [lg_entry_eq]
  generalize (lg_sl ([.ref (ad (10 + 3 * i))]) ++ List.replicate (1 - (lg_sl ([.ref (ad (10 + 3 * i))])).length) Slot.unset).toArray = ls at hl ⊢
  have hl : lv_has ls 1 [(0, .ref (ad (10 + 3 * i)))] := hl
  refine lv_aload_n hx hb d_R_isForced_0 rfl (lv_at hl 0 rfl) ?_
  refine mw_get (v := .int (s0 (10 + 3 * i) 1)) hx hb hts in_R hown hK.1 hw (10 + 3 * i) (cC_rel hnr hi) rfl 1 (by decide) (hts _ tw_98) rfl d_R_isForced_1 ?_
  refine lv_if_eq (tgt := 35) hx hb d_R_isForced_4 (by decide) (fun h1 => ?_) (fun h1 => ?_)
  · skip
    refine lv_iconst (v := 0) hx hb d_R_isForced_35 (by decide) ?_
    have e9 : f_R_isForced s0 i = 0 := by unfold f_R_isForced; exact if_pos h1
    exact mw_iret hx hb hr rfl hw hS (congrArg (fun z => some (Value.int z)) e9.symm) ⟨rfl, rfl⟩ hlocks d_R_isForced_36
  · skip
    refine lv_aload_n hx hb d_R_isForced_7 rfl (lv_at hl 0 rfl) ?_
    refine mw_get (v := .int (s0 (10 + 3 * i) 8)) hx hb hts in_R hown hK.1 hw (10 + 3 * i) (cC_rel hnr hi) rfl 8 (by decide) (hts _ tw_106) rfl d_R_isForced_8 ?_
    refine lv_iconst (v := 1) hx hb d_R_isForced_11 (by decide) ?_
    refine lv_icmp_eq (tgt := 31) hx hb d_R_isForced_12 (by decide) (fun h2 => ?_) (fun h2 => ?_)
    · skip
      refine lv_iconst (v := 1) hx hb d_R_isForced_31 (by decide) ?_
      refine lv_goto (tgt := 36) hx hb d_R_isForced_32 (by decide) ?_
      have e9 : f_R_isForced s0 i = 1 := by unfold f_R_isForced; exact (if_neg h1).trans (if_pos h2)
      exact mw_iret hx hb hr rfl hw hS (congrArg (fun z => some (Value.int z)) e9.symm) ⟨rfl, rfl⟩ hlocks d_R_isForced_36
    · skip
      refine lv_aload_n hx hb d_R_isForced_15 rfl (lv_at hl 0 rfl) ?_
      refine mw_get (v := .int (s0 (10 + 3 * i) 8)) hx hb hts in_R hown hK.1 hw (10 + 3 * i) (cC_rel hnr hi) rfl 8 (by decide) (hts _ tw_106) rfl d_R_isForced_16 ?_
      refine lv_iconst (v := 3) hx hb d_R_isForced_19 (by decide) ?_
      refine lv_icmp_eq (tgt := 31) hx hb d_R_isForced_20 (by decide) (fun h3 => ?_) (fun h3 => ?_)
      · skip
        refine lv_iconst (v := 1) hx hb d_R_isForced_31 (by decide) ?_
        refine lv_goto (tgt := 36) hx hb d_R_isForced_32 (by decide) ?_
        have e9 : f_R_isForced s0 i = 1 := by unfold f_R_isForced; exact (if_neg h1).trans ((if_neg h2).trans (if_pos h3))
        exact mw_iret hx hb hr rfl hw hS (congrArg (fun z => some (Value.int z)) e9.symm) ⟨rfl, rfl⟩ hlocks d_R_isForced_36
      · skip
        refine lv_aload_n hx hb d_R_isForced_23 rfl (lv_at hl 0 rfl) ?_
        refine mw_get (v := .int (s0 (10 + 3 * i) 9)) hx hb hts in_R hown hK.1 hw (10 + 3 * i) (cC_rel hnr hi) rfl 9 (by decide) (hts _ tw_109) rfl d_R_isForced_24 ?_
        refine lv_iconst (v := 3) hx hb d_R_isForced_27 (by decide) ?_
        refine lv_icmp_ne (tgt := 35) hx hb d_R_isForced_28 (by decide) (fun h4 => ?_) (fun h4 => ?_)
        · skip
          refine lv_iconst (v := 0) hx hb d_R_isForced_35 (by decide) ?_
          have e9 : f_R_isForced s0 i = 0 := by unfold f_R_isForced; exact (if_neg h1).trans ((if_neg h2).trans ((if_neg h3).trans (if_neg h4)))
          exact mw_iret hx hb hr rfl hw hS (congrArg (fun z => some (Value.int z)) e9.symm) ⟨rfl, rfl⟩ hlocks d_R_isForced_36
        · skip
          refine lv_iconst (v := 1) hx hb d_R_isForced_31 (by decide) ?_
          refine lv_goto (tgt := 36) hx hb d_R_isForced_32 (by decide) ?_
          have e9 : f_R_isForced s0 i = 1 := by unfold f_R_isForced; exact (if_neg h1).trans ((if_neg h2).trans ((if_neg h3).trans (if_pos h4)))
          exact mw_iret hx hb hr rfl hw hS (congrArg (fun z => some (Value.int z)) e9.symm) ⟨rfl, rfl⟩ hlocks d_R_isForced_36

def f_R_reachesRing (s0 : S2) (i : Nat) (a1 : Int32) : Int32 :=
  if (s0 (10 + 3 * i) 8) = 3 then
    1
  else
    if (f_R_isAtStage s0 i) = 0 then
      0
    else
      if (s0 (10 + 3 * i) 10) < a1 then
        0
      else
        1
theorem fb_R_reachesRing (s0 : S2) (i : Nat) (a1 : Int32) : narrow .boolean (.int (f_R_reachesRing s0 i a1)) = .int (f_R_reachesRing s0 i a1) := by
  unfold f_R_reachesRing
  repeat' split
  all_goals first | rfl | exact narrow_b0 | exact narrow_b1
set_option maxHeartbeats 4000000 in
set_option maxRecDepth 100000 in
theorem cc_R_reachesRing (l : Launch) (G : Gx) (A : Nat → Prop) (ad : Nat → Nat) (nr nm : Nat) (hnr : nr ≤ 16) (hnm : nm ≤ 30) (s0 : S2) (i : Nat) (hi : i < nr) (a1 : Int32) : Met l y_R_reachesRing ws_R_reachesRing { frames := 1, cells := 0, slots := 0, locals := 20 } (PG G [.ref (ad (10 + 3 * i)), .int (a1)] A ad (encC G.2 ad nr nm s0)) (EG G A (some (.int (f_R_reachesRing s0 i a1))) ad (encC G.2 ad nr nm s0)) 0 0 A := by
  refine Met.ofW (cc := c_R_reachesRing) (maxL := 2) (ret := (some .boolean)) (by decide) rfl ?_
  intro p e s m args below meth c s₁ B hml hv
  obtain ⟨rfl, hw, hK⟩ := hv
  have hx := B.exec
  have hb := B.bytes
  have hr := B.returns
  have hts : ∀ w ∈ tbG, w.before [.ref (ad (10 + 3 * i)), .int (a1)].toArray s = true := fun w h => atoms_spec (ws := ws_R_reachesRing) B.pre w (List.mem_cons_of_mem _ h)
  have hown : s.vm.findClass "RollStages$Release" = some m.cls := findClass_of_methodNamed B.named
  have hlocks := B.notSynchronized
  have hS : va_S A s.heap s.heap [] := va_S.rf
  have hw : mwG G A ad (encC G.2 ad nr nm s0) s.heap := hw
  have hl := lv_entry ([.ref (ad (10 + 3 * i)), .int (a1)]) (n := 2) (Nat.le_of_ble_eq_true rfl)
  rw [lg_entry_eq]
  generalize (lg_sl ([.ref (ad (10 + 3 * i)), .int (a1)]) ++ List.replicate (2 - (lg_sl ([.ref (ad (10 + 3 * i)), .int (a1)])).length) Slot.unset).toArray = ls at hl ⊢
  have hl : lv_has ls 2 [(0, .ref (ad (10 + 3 * i))), (1, .int (a1))] := hl
  refine lv_aload_n hx hb d_R_reachesRing_0 rfl (lv_at hl 0 rfl) ?_
  refine mw_get (v := .int (s0 (10 + 3 * i) 8)) hx hb hts in_R hown hK.1 hw (10 + 3 * i) (cC_rel hnr hi) rfl 8 (by decide) (hts _ tw_106) rfl d_R_reachesRing_1 ?_
  refine lv_iconst (v := 3) hx hb d_R_reachesRing_4 (by decide) ?_
  refine lv_icmp_eq (tgt := 23) hx hb d_R_reachesRing_5 (by decide) (fun h1 => ?_) (fun h1 => ?_)
  · skip
    refine lv_iconst (v := 1) hx hb d_R_reachesRing_23 (by decide) ?_
    refine lv_goto (tgt := 28) hx hb d_R_reachesRing_24 (by decide) ?_
    have e9 : f_R_reachesRing s0 i a1 = 1 := by unfold f_R_reachesRing; exact if_pos h1
    exact mw_iret hx hb hr rfl hw hS (congrArg (fun z => some (Value.int z)) e9.symm) ⟨rfl, rfl⟩ hlocks d_R_reachesRing_28
  · skip
    refine lv_aload_n hx hb d_R_reachesRing_8 rfl (lv_at hl 0 rfl) ?_
    refine gV (As := []) (rest := []) (st1 := [.int (f_R_isAtStage s0 i)]) ⟨hx, hb, hml, hown, hts⟩ (cc_R_isAtStage l G A ad nr nm hnr hnm s0 i hi) (cC_rel hnr hi) rfl tw_247 tw_244 tw_246 tw_p16 tw_5 hd_R_isAtStage rfl rfl ⟨Nat.le_of_ble_eq_true rfl, Nat.le_of_ble_eq_true rfl⟩ hK hw hS hl.1 rfl (Nat.le_of_ble_eq_true rfl) ⟨Nat.zero_le _, Nat.zero_le _⟩ d_R_reachesRing_9 rfl (fun H locs hw hS => ?_)
    refine lv_if_eq (tgt := 27) hx hb d_R_reachesRing_12 (by decide) (fun h2 => ?_) (fun h2 => ?_)
    · skip
      refine lv_iconst (v := 0) hx hb d_R_reachesRing_27 (by decide) ?_
      have e9 : f_R_reachesRing s0 i a1 = 0 := by unfold f_R_reachesRing; exact (if_neg h1).trans (if_pos h2)
      exact mw_iret hx hb hr rfl hw hS (congrArg (fun z => some (Value.int z)) e9.symm) ⟨rfl, rfl⟩ hlocks d_R_reachesRing_28
    · skip
      refine lv_aload_n hx hb d_R_reachesRing_15 rfl (lv_at hl 0 rfl) ?_
      refine mw_get (v := .int (s0 (10 + 3 * i) 10)) hx hb hts in_R hown hK.1 hw (10 + 3 * i) (cC_rel hnr hi) rfl 10 (by decide) (hts _ tw_111) rfl d_R_reachesRing_16 ?_
      refine lv_iload_n hx hb d_R_reachesRing_19 rfl (lv_at hl 1 rfl) ?_
      refine lv_icmp_lt (tgt := 27) hx hb d_R_reachesRing_20 (by decide) (fun h3 => ?_) (fun h3 => ?_)
      · skip
        refine lv_iconst (v := 0) hx hb d_R_reachesRing_27 (by decide) ?_
        have e9 : f_R_reachesRing s0 i a1 = 0 := by unfold f_R_reachesRing; exact (if_neg h1).trans ((if_neg h2).trans (if_pos h3))
        exact mw_iret hx hb hr rfl hw hS (congrArg (fun z => some (Value.int z)) e9.symm) ⟨rfl, rfl⟩ hlocks d_R_reachesRing_28
      · skip
        refine lv_iconst (v := 1) hx hb d_R_reachesRing_23 (by decide) ?_
        refine lv_goto (tgt := 28) hx hb d_R_reachesRing_24 (by decide) ?_
        have e9 : f_R_reachesRing s0 i a1 = 1 := by unfold f_R_reachesRing; exact (if_neg h1).trans ((if_neg h2).trans (if_neg h3))
        exact mw_iret hx hb hr rfl hw hS (congrArg (fun z => some (Value.int z)) e9.symm) ⟨rfl, rfl⟩ hlocks d_R_reachesRing_28

def f_R_isTooBad (s0 : S2) (i : Nat) : Int32 :=
  if (lg_cmp ((Int32.toInt64 (s0 (10 + 3 * i) 13)) * (Int32.toInt64 (s0 (10 + 3 * i) 7))) ((Int32.toInt64 (s0 (10 + 3 * i) 6)) * (Int32.toInt64 (f_R_allReports s0 i)))) ≤ 0 then
    0
  else
    1
theorem fb_R_isTooBad (s0 : S2) (i : Nat) : narrow .boolean (.int (f_R_isTooBad s0 i)) = .int (f_R_isTooBad s0 i) := by
  unfold f_R_isTooBad
  repeat' split
  all_goals first | rfl | exact narrow_b0 | exact narrow_b1
set_option maxHeartbeats 4000000 in
set_option maxRecDepth 100000 in
theorem cc_R_isTooBad (l : Launch) (G : Gx) (A : Nat → Prop) (ad : Nat → Nat) (nr nm : Nat) (hnr : nr ≤ 16) (hnm : nm ≤ 30) (s0 : S2) (i : Nat) (hi : i < nr) : Met l y_R_isTooBad ws_R_isTooBad { frames := 1, cells := 0, slots := 0, locals := 20 } (PG G [.ref (ad (10 + 3 * i))] A ad (encC G.2 ad nr nm s0)) (EG G A (some (.int (f_R_isTooBad s0 i))) ad (encC G.2 ad nr nm s0)) 0 0 A := by
  refine Met.ofW (cc := c_R_isTooBad) (maxL := 1) (ret := (some .boolean)) (by decide) rfl ?_
  intro p e s m args below meth c s₁ B hml hv
  obtain ⟨rfl, hw, hK⟩ := hv
  have hx := B.exec
  have hb := B.bytes
  have hr := B.returns
  have hts : ∀ w ∈ tbG, w.before [.ref (ad (10 + 3 * i))].toArray s = true := fun w h => atoms_spec (ws := ws_R_isTooBad) B.pre w (List.mem_cons_of_mem _ h)
  have hown : s.vm.findClass "RollStages$Release" = some m.cls := findClass_of_methodNamed B.named
  have hlocks := B.notSynchronized
  have hS : va_S A s.heap s.heap [] := va_S.rf
  have hw : mwG G A ad (encC G.2 ad nr nm s0) s.heap := hw
  have hl := lv_entry ([.ref (ad (10 + 3 * i))]) (n := 1) (Nat.le_of_ble_eq_true rfl)
  rw [lg_entry_eq]
  generalize (lg_sl ([.ref (ad (10 + 3 * i))]) ++ List.replicate (1 - (lg_sl ([.ref (ad (10 + 3 * i))])).length) Slot.unset).toArray = ls at hl ⊢
  have hl : lv_has ls 1 [(0, .ref (ad (10 + 3 * i)))] := hl
  refine lv_aload_n hx hb d_R_isTooBad_0 rfl (lv_at hl 0 rfl) ?_
  refine mw_get (v := .int (s0 (10 + 3 * i) 13)) hx hb hts in_R hown hK.1 hw (10 + 3 * i) (cC_rel hnr hi) rfl 13 (by decide) (hts _ tw_114) rfl d_R_isTooBad_1 ?_
  refine lv_i2l (v := Int32.toInt64 (s0 (10 + 3 * i) 13)) hx hb d_R_isTooBad_4 rfl ?_
  refine lv_aload_n hx hb d_R_isTooBad_5 rfl (lv_at hl 0 rfl) ?_
  refine mw_get (v := .int (s0 (10 + 3 * i) 7)) hx hb hts in_R hown hK.1 hw (10 + 3 * i) (cC_rel hnr hi) rfl 7 (by decide) (hts _ tw_105) rfl d_R_isTooBad_6 ?_
  refine lv_i2l (v := Int32.toInt64 (s0 (10 + 3 * i) 7)) hx hb d_R_isTooBad_9 rfl ?_
  refine lv_lmul hx hb d_R_isTooBad_10 ?_
  refine lv_aload_n hx hb d_R_isTooBad_11 rfl (lv_at hl 0 rfl) ?_
  refine mw_get (v := .int (s0 (10 + 3 * i) 6)) hx hb hts in_R hown hK.1 hw (10 + 3 * i) (cC_rel hnr hi) rfl 6 (by decide) (hts _ tw_104) rfl d_R_isTooBad_12 ?_
  refine lv_i2l (v := Int32.toInt64 (s0 (10 + 3 * i) 6)) hx hb d_R_isTooBad_15 rfl ?_
  refine lv_aload_n hx hb d_R_isTooBad_16 rfl (lv_at hl 0 rfl) ?_
  refine gV (As := []) (rest := [.long (Int32.toInt64 (s0 (10 + 3 * i) 6)), .long ((Int32.toInt64 (s0 (10 + 3 * i) 13)) * (Int32.toInt64 (s0 (10 + 3 * i) 7)))]) (st1 := [.int (f_R_allReports s0 i), .long (Int32.toInt64 (s0 (10 + 3 * i) 6)), .long ((Int32.toInt64 (s0 (10 + 3 * i) 13)) * (Int32.toInt64 (s0 (10 + 3 * i) 7)))]) ⟨hx, hb, hml, hown, hts⟩ (cc_R_allReports l G A ad nr nm hnr hnm s0 i hi) (cC_rel hnr hi) rfl tw_231 tw_228 tw_230 tw_p13 tw_5 hd_R_allReports rfl rfl ⟨Nat.le_of_ble_eq_true rfl, Nat.le_of_ble_eq_true rfl⟩ hK hw hS hl.1 rfl (Nat.le_of_ble_eq_true rfl) ⟨Nat.zero_le _, Nat.zero_le _⟩ d_R_isTooBad_17 rfl (fun H locs hw hS => ?_)
  refine lv_i2l (v := Int32.toInt64 (f_R_allReports s0 i)) hx hb d_R_isTooBad_20 rfl ?_
  refine lv_lmul hx hb d_R_isTooBad_21 ?_
  refine W.lcmp hx hb d_R_isTooBad_22 ?_
  refine lv_if_le (tgt := 30) hx hb d_R_isTooBad_23 (by decide) (fun h1 => ?_) (fun h1 => ?_)
  · skip
    refine lv_iconst (v := 0) hx hb d_R_isTooBad_30 (by decide) ?_
    have e9 : f_R_isTooBad s0 i = 0 := by unfold f_R_isTooBad; exact if_pos h1
    exact mw_iret hx hb hr rfl hw hS (congrArg (fun z => some (Value.int z)) e9.symm) ⟨rfl, rfl⟩ hlocks d_R_isTooBad_31
  · skip
    refine lv_iconst (v := 1) hx hb d_R_isTooBad_26 (by decide) ?_
    refine lv_goto (tgt := 31) hx hb d_R_isTooBad_27 (by decide) ?_
    have e9 : f_R_isTooBad s0 i = 1 := by unfold f_R_isTooBad; exact if_neg h1
    exact mw_iret hx hb hr rfl hw hS (congrArg (fun z => some (Value.int z)) e9.symm) ⟨rfl, rfl⟩ hlocks d_R_isTooBad_31
end
section
def f_R_rollAt (s0 : S2) (i : Nat) (a1 : Int32) (a2 : Int32) : S2 :=
  up2 (up2 (up2 (up2 (up2 (up2 s0 (10 + 3 * i) 8 1) (10 + 3 * i) 9 0) (10 + 3 * i) 10 a1) (10 + 3 * i) 11 a2) (10 + 3 * i) 12 0) (10 + 3 * i) 13 0
set_option maxHeartbeats 4000000 in
set_option maxRecDepth 100000 in
theorem cc_R_rollAt (l : Launch) (G : Gx) (A : Nat → Prop) (ad : Nat → Nat) (nr nm : Nat) (hnr : nr ≤ 16) (hnm : nm ≤ 30) (s0 : S2) (i : Nat) (hi : i < nr) (a1 : Int32) (a2 : Int32) : Met l y_R_rollAt ws_R_rollAt { frames := 0, cells := 0, slots := 0, locals := 0 } (PG G [.ref (ad (10 + 3 * i)), .int (a1), .int (a2)] A ad (encC G.2 ad nr nm s0)) (EG G A none ad (encC G.2 ad nr nm (f_R_rollAt s0 i a1 a2))) 0 0 A := by
  refine Met.ofW (cc := c_R_rollAt) (maxL := 3) (ret := none) (by decide) rfl ?_
  intro p e s m args below meth c s₁ B hml hv
  obtain ⟨rfl, hw, hK⟩ := hv
  have hx := B.exec
  have hb := B.bytes
  have hr := B.returns
  have hts : ∀ w ∈ tbG, w.before [.ref (ad (10 + 3 * i)), .int (a1), .int (a2)].toArray s = true := fun w h => atoms_spec (ws := ws_R_rollAt) B.pre w (List.mem_cons_of_mem _ h)
  have hown : s.vm.findClass "RollStages$Release" = some m.cls := findClass_of_methodNamed B.named
  have hlocks := B.notSynchronized
  have hS : va_S A s.heap s.heap [] := va_S.rf
  have hw : mwG G A ad (encC G.2 ad nr nm s0) s.heap := hw
  have hl := lv_entry ([.ref (ad (10 + 3 * i)), .int (a1), .int (a2)]) (n := 3) (Nat.le_of_ble_eq_true rfl)
  rw [lg_entry_eq]
  generalize (lg_sl ([.ref (ad (10 + 3 * i)), .int (a1), .int (a2)]) ++ List.replicate (3 - (lg_sl ([.ref (ad (10 + 3 * i)), .int (a1), .int (a2)])).length) Slot.unset).toArray = ls at hl ⊢
  have hl : lv_has ls 3 [(0, .ref (ad (10 + 3 * i))), (1, .int (a1)), (2, .int (a2))] := hl
  refine lv_aload_n hx hb d_R_rollAt_0 rfl (lv_at hl 0 rfl) ?_
  refine lv_iconst (v := 1) hx hb d_R_rollAt_1 (by decide) ?_
  refine mw_put (v := .int (1)) hx hb hts in_R ty_R ty_R_ok n_R hown hK.1 hw hS (10 + 3 * i) (cC_rel hnr hi) rfl 8 (by decide) (hts _ tw_106) rfl rfl rfl (Nat.le_of_ble_eq_true rfl) d_R_rollAt_2 (fun H locs hw hS => ?_)
  replace hw := mw_encC (r := upd (s0 (10 + 3 * i)) 8 1) hw (cC_rel hnr hi)
  have hw : mwG G A ad (encC G.2 ad nr nm (up2 s0 (10 + 3 * i) 8 1)) H := hw
  refine lv_aload_n hx hb d_R_rollAt_5 rfl (lv_at hl 0 rfl) ?_
  refine lv_iconst (v := 0) hx hb d_R_rollAt_6 (by decide) ?_
  refine mw_put (v := .int (0)) hx hb hts in_R ty_R ty_R_ok n_R hown hK.1 hw hS (10 + 3 * i) (cC_rel hnr hi) rfl 9 (by decide) (hts _ tw_109) rfl rfl rfl (Nat.le_of_ble_eq_true rfl) d_R_rollAt_7 (fun H locs hw hS => ?_)
  replace hw := mw_encC (r := upd ((up2 s0 (10 + 3 * i) 8 1) (10 + 3 * i)) 9 0) hw (cC_rel hnr hi)
  have hw : mwG G A ad (encC G.2 ad nr nm (up2 (up2 s0 (10 + 3 * i) 8 1) (10 + 3 * i) 9 0)) H := hw
  refine lv_aload_n hx hb d_R_rollAt_10 rfl (lv_at hl 0 rfl) ?_
  refine lv_iload_n hx hb d_R_rollAt_11 rfl (lv_at hl 1 rfl) ?_
  refine mw_put (v := .int (a1)) hx hb hts in_R ty_R ty_R_ok n_R hown hK.1 hw hS (10 + 3 * i) (cC_rel hnr hi) rfl 10 (by decide) (hts _ tw_111) rfl rfl rfl (Nat.le_of_ble_eq_true rfl) d_R_rollAt_12 (fun H locs hw hS => ?_)
  replace hw := mw_encC (r := upd ((up2 (up2 s0 (10 + 3 * i) 8 1) (10 + 3 * i) 9 0) (10 + 3 * i)) 10 a1) hw (cC_rel hnr hi)
  have hw : mwG G A ad (encC G.2 ad nr nm (up2 (up2 (up2 s0 (10 + 3 * i) 8 1) (10 + 3 * i) 9 0) (10 + 3 * i) 10 a1)) H := hw
  refine lv_aload_n hx hb d_R_rollAt_15 rfl (lv_at hl 0 rfl) ?_
  refine lv_iload_n hx hb d_R_rollAt_16 rfl (lv_at hl 2 rfl) ?_
  refine mw_put (v := .int (a2)) hx hb hts in_R ty_R ty_R_ok n_R hown hK.1 hw hS (10 + 3 * i) (cC_rel hnr hi) rfl 11 (by decide) (hts _ tw_112) rfl rfl rfl (Nat.le_of_ble_eq_true rfl) d_R_rollAt_17 (fun H locs hw hS => ?_)
  replace hw := mw_encC (r := upd ((up2 (up2 (up2 s0 (10 + 3 * i) 8 1) (10 + 3 * i) 9 0) (10 + 3 * i) 10 a1) (10 + 3 * i)) 11 a2) hw (cC_rel hnr hi)
  have hw : mwG G A ad (encC G.2 ad nr nm (up2 (up2 (up2 (up2 s0 (10 + 3 * i) 8 1) (10 + 3 * i) 9 0) (10 + 3 * i) 10 a1) (10 + 3 * i) 11 a2)) H := hw
  refine lv_aload_n hx hb d_R_rollAt_20 rfl (lv_at hl 0 rfl) ?_
  refine lv_iconst (v := 0) hx hb d_R_rollAt_21 (by decide) ?_
  refine mw_put (v := .int (0)) hx hb hts in_R ty_R ty_R_ok n_R hown hK.1 hw hS (10 + 3 * i) (cC_rel hnr hi) rfl 12 (by decide) (hts _ tw_113) rfl rfl rfl (Nat.le_of_ble_eq_true rfl) d_R_rollAt_22 (fun H locs hw hS => ?_)
  replace hw := mw_encC (r := upd ((up2 (up2 (up2 (up2 s0 (10 + 3 * i) 8 1) (10 + 3 * i) 9 0) (10 + 3 * i) 10 a1) (10 + 3 * i) 11 a2) (10 + 3 * i)) 12 0) hw (cC_rel hnr hi)
  have hw : mwG G A ad (encC G.2 ad nr nm (up2 (up2 (up2 (up2 (up2 s0 (10 + 3 * i) 8 1) (10 + 3 * i) 9 0) (10 + 3 * i) 10 a1) (10 + 3 * i) 11 a2) (10 + 3 * i) 12 0)) H := hw
  refine lv_aload_n hx hb d_R_rollAt_25 rfl (lv_at hl 0 rfl) ?_
  refine lv_iconst (v := 0) hx hb d_R_rollAt_26 (by decide) ?_
  refine mw_put (v := .int (0)) hx hb hts in_R ty_R ty_R_ok n_R hown hK.1 hw hS (10 + 3 * i) (cC_rel hnr hi) rfl 13 (by decide) (hts _ tw_114) rfl rfl rfl (Nat.le_of_ble_eq_true rfl) d_R_rollAt_27 (fun H locs hw hS => ?_)
  replace hw := mw_encC (r := upd ((up2 (up2 (up2 (up2 (up2 s0 (10 + 3 * i) 8 1) (10 + 3 * i) 9 0) (10 + 3 * i) 10 a1) (10 + 3 * i) 11 a2) (10 + 3 * i) 12 0) (10 + 3 * i)) 13 0) hw (cC_rel hnr hi)
  have hw : mwG G A ad (encC G.2 ad nr nm (up2 (up2 (up2 (up2 (up2 (up2 s0 (10 + 3 * i) 8 1) (10 + 3 * i) 9 0) (10 + 3 * i) 10 a1) (10 + 3 * i) 11 a2) (10 + 3 * i) 12 0) (10 + 3 * i) 13 0)) H := hw
  have e9 : f_R_rollAt s0 i a1 a2 = up2 (up2 (up2 (up2 (up2 (up2 s0 (10 + 3 * i) 8 1) (10 + 3 * i) 9 0) (10 + 3 * i) 10 a1) (10 + 3 * i) 11 a2) (10 + 3 * i) 12 0) (10 + 3 * i) 13 0 := by unfold f_R_rollAt; exact rfl
  exact mw_vret hx hb hr hw hS ⟨rfl, congrArg (fun z => encC G.2 ad nr nm z) e9.symm⟩ hlocks d_R_rollAt_30

def f_R_holdFor (s0 : S2) (i : Nat) (a1 : Int32) : S2 :=
  up2 (up2 s0 (10 + 3 * i) 8 2) (10 + 3 * i) 9 a1
set_option maxHeartbeats 4000000 in
set_option maxRecDepth 100000 in
theorem cc_R_holdFor (l : Launch) (G : Gx) (A : Nat → Prop) (ad : Nat → Nat) (nr nm : Nat) (hnr : nr ≤ 16) (hnm : nm ≤ 30) (s0 : S2) (i : Nat) (hi : i < nr) (a1 : Int32) : Met l y_R_holdFor ws_R_holdFor { frames := 0, cells := 0, slots := 0, locals := 0 } (PG G [.ref (ad (10 + 3 * i)), .int (a1)] A ad (encC G.2 ad nr nm s0)) (EG G A none ad (encC G.2 ad nr nm (f_R_holdFor s0 i a1))) 0 0 A := by
  refine Met.ofW (cc := c_R_holdFor) (maxL := 2) (ret := none) (by decide) rfl ?_
  intro p e s m args below meth c s₁ B hml hv
  obtain ⟨rfl, hw, hK⟩ := hv
  have hx := B.exec
  have hb := B.bytes
  have hr := B.returns
  have hts : ∀ w ∈ tbG, w.before [.ref (ad (10 + 3 * i)), .int (a1)].toArray s = true := fun w h => atoms_spec (ws := ws_R_holdFor) B.pre w (List.mem_cons_of_mem _ h)
  have hown : s.vm.findClass "RollStages$Release" = some m.cls := findClass_of_methodNamed B.named
  have hlocks := B.notSynchronized
  have hS : va_S A s.heap s.heap [] := va_S.rf
  have hw : mwG G A ad (encC G.2 ad nr nm s0) s.heap := hw
  have hl := lv_entry ([.ref (ad (10 + 3 * i)), .int (a1)]) (n := 2) (Nat.le_of_ble_eq_true rfl)
  rw [lg_entry_eq]
  generalize (lg_sl ([.ref (ad (10 + 3 * i)), .int (a1)]) ++ List.replicate (2 - (lg_sl ([.ref (ad (10 + 3 * i)), .int (a1)])).length) Slot.unset).toArray = ls at hl ⊢
  have hl : lv_has ls 2 [(0, .ref (ad (10 + 3 * i))), (1, .int (a1))] := hl
  refine lv_aload_n hx hb d_R_holdFor_0 rfl (lv_at hl 0 rfl) ?_
  refine lv_iconst (v := 2) hx hb d_R_holdFor_1 (by decide) ?_
  refine mw_put (v := .int (2)) hx hb hts in_R ty_R ty_R_ok n_R hown hK.1 hw hS (10 + 3 * i) (cC_rel hnr hi) rfl 8 (by decide) (hts _ tw_106) rfl rfl rfl (Nat.le_of_ble_eq_true rfl) d_R_holdFor_2 (fun H locs hw hS => ?_)
  replace hw := mw_encC (r := upd (s0 (10 + 3 * i)) 8 2) hw (cC_rel hnr hi)
  have hw : mwG G A ad (encC G.2 ad nr nm (up2 s0 (10 + 3 * i) 8 2)) H := hw
  refine lv_aload_n hx hb d_R_holdFor_5 rfl (lv_at hl 0 rfl) ?_
  refine lv_iload_n hx hb d_R_holdFor_6 rfl (lv_at hl 1 rfl) ?_
  refine mw_put (v := .int (a1)) hx hb hts in_R ty_R ty_R_ok n_R hown hK.1 hw hS (10 + 3 * i) (cC_rel hnr hi) rfl 9 (by decide) (hts _ tw_109) rfl rfl rfl (Nat.le_of_ble_eq_true rfl) d_R_holdFor_7 (fun H locs hw hS => ?_)
  replace hw := mw_encC (r := upd ((up2 s0 (10 + 3 * i) 8 2) (10 + 3 * i)) 9 a1) hw (cC_rel hnr hi)
  have hw : mwG G A ad (encC G.2 ad nr nm (up2 (up2 s0 (10 + 3 * i) 8 2) (10 + 3 * i) 9 a1)) H := hw
  have e9 : f_R_holdFor s0 i a1 = up2 (up2 s0 (10 + 3 * i) 8 2) (10 + 3 * i) 9 a1 := by unfold f_R_holdFor; exact rfl
  exact mw_vret hx hb hr hw hS ⟨rfl, congrArg (fun z => encC G.2 ad nr nm z) e9.symm⟩ hlocks d_R_holdFor_10

def f_R_addStage (s0 : S2) (i : Nat) (a1 : Int32) (a2 : Int32) : Int32 × S2 :=
  if (s0 (10 + 3 * i) 8) = 0 then
    if (s0 (10 + 3 * i) 5) < 5 then
      if (s0 (10 + 3 * i) 5) = 0 then
        if (f_C_within a1 0 1000) = 0 then
          (0, s0)
        else
          if (f_C_within a2 0 1000) = 0 then
            (0, s0)
          else
            (1, up2 (up2 (up2 s0 (10 + 3 * i + 1) (Int32.toNatClampNeg (s0 (10 + 3 * i) 5)) a1) (10 + 3 * i + 2) (Int32.toNatClampNeg ((up2 s0 (10 + 3 * i + 1) (Int32.toNatClampNeg (s0 (10 + 3 * i) 5)) a1) (10 + 3 * i) 5)) a2) (10 + 3 * i) 5 (((up2 (up2 s0 (10 + 3 * i + 1) (Int32.toNatClampNeg (s0 (10 + 3 * i) 5)) a1) (10 + 3 * i + 2) (Int32.toNatClampNeg ((up2 s0 (10 + 3 * i + 1) (Int32.toNatClampNeg (s0 (10 + 3 * i) 5)) a1) (10 + 3 * i) 5)) a2) (10 + 3 * i) 5) + 1))
      else
        if (f_C_within a1 (s0 (10 + 3 * i + 1) (Int32.toNatClampNeg ((s0 (10 + 3 * i) 5) - 1))) 1000) = 0 then
          (0, s0)
        else
          if (f_C_within a2 0 1000) = 0 then
            (0, s0)
          else
            (1, up2 (up2 (up2 s0 (10 + 3 * i + 1) (Int32.toNatClampNeg (s0 (10 + 3 * i) 5)) a1) (10 + 3 * i + 2) (Int32.toNatClampNeg ((up2 s0 (10 + 3 * i + 1) (Int32.toNatClampNeg (s0 (10 + 3 * i) 5)) a1) (10 + 3 * i) 5)) a2) (10 + 3 * i) 5 (((up2 (up2 s0 (10 + 3 * i + 1) (Int32.toNatClampNeg (s0 (10 + 3 * i) 5)) a1) (10 + 3 * i + 2) (Int32.toNatClampNeg ((up2 s0 (10 + 3 * i + 1) (Int32.toNatClampNeg (s0 (10 + 3 * i) 5)) a1) (10 + 3 * i) 5)) a2) (10 + 3 * i) 5) + 1))
    else
      (0, s0)
  else
    (0, s0)
theorem fb_R_addStage (s0 : S2) (i : Nat) (a1 : Int32) (a2 : Int32) : narrow .boolean (.int ((f_R_addStage s0 i a1 a2).1)) = .int ((f_R_addStage s0 i a1 a2).1) := by
  unfold f_R_addStage
  repeat' split
  all_goals first | rfl | exact narrow_b0 | exact narrow_b1
set_option maxHeartbeats 4000000 in
set_option maxRecDepth 100000 in
theorem cc_R_addStage (l : Launch) (G : Gx) (A : Nat → Prop) (ad : Nat → Nat) (nr nm : Nat) (hnr : nr ≤ 16) (hnm : nm ≤ 30) (s0 : S2) (i : Nat) (hi : i < nr) (a1 : Int32) (a2 : Int32) (hsc : 0 ≤ (s0 (10 + 3 * i) 5).toInt ∧ (s0 (10 + 3 * i) 5).toInt ≤ 5) : Met l y_R_addStage ws_R_addStage { frames := 1, cells := 0, slots := 0, locals := 22 } (PG G [.ref (ad (10 + 3 * i)), .int (a1), .int (a2)] A ad (encC G.2 ad nr nm s0)) (EG G A (some (.int (f_R_addStage s0 i a1 a2).1)) ad (encC G.2 ad nr nm ((f_R_addStage s0 i a1 a2).2))) 0 0 A := by
  refine Met.ofW (cc := c_R_addStage) (maxL := 4) (ret := (some .boolean)) (by decide) rfl ?_
  intro p e s m args below meth c s₁ B hml hv
  obtain ⟨rfl, hw, hK⟩ := hv
  have hx := B.exec
  have hb := B.bytes
  have hr := B.returns
  have hts : ∀ w ∈ tbG, w.before [.ref (ad (10 + 3 * i)), .int (a1), .int (a2)].toArray s = true := fun w h => atoms_spec (ws := ws_R_addStage) B.pre w (List.mem_cons_of_mem _ h)
  have hown : s.vm.findClass "RollStages$Release" = some m.cls := findClass_of_methodNamed B.named
  have hlocks := B.notSynchronized
  have hS : va_S A s.heap s.heap [] := va_S.rf
  have hw : mwG G A ad (encC G.2 ad nr nm s0) s.heap := hw
  have hl := lv_entry ([.ref (ad (10 + 3 * i)), .int (a1), .int (a2)]) (n := 4) (Nat.le_of_ble_eq_true rfl)
  rw [lg_entry_eq]
  generalize (lg_sl ([.ref (ad (10 + 3 * i)), .int (a1), .int (a2)]) ++ List.replicate (4 - (lg_sl ([.ref (ad (10 + 3 * i)), .int (a1), .int (a2)])).length) Slot.unset).toArray = ls at hl ⊢
  have hl : lv_has ls 4 [(0, .ref (ad (10 + 3 * i))), (1, .int (a1)), (2, .int (a2))] := hl
  refine lv_aload_n hx hb d_R_addStage_0 rfl (lv_at hl 0 rfl) ?_
  refine mw_get (v := .int (s0 (10 + 3 * i) 8)) hx hb hts in_R hown hK.1 hw (10 + 3 * i) (cC_rel hnr hi) rfl 8 (by decide) (hts _ tw_106) rfl d_R_addStage_1 ?_
  refine lv_if_ne (tgt := 15) hx hb d_R_addStage_4 (by decide) (fun h1 => ?_) (fun h1 => ?_)
  · skip
    refine lv_iconst (v := 0) hx hb d_R_addStage_15 (by decide) ?_
    have e9 : f_R_addStage s0 i a1 a2 = (0, s0) := by unfold f_R_addStage; exact if_neg h1
    exact mw_iret hx hb hr rfl hw hS (congrArg (fun z => some (Value.int z.1)) e9.symm) ⟨rfl, congrArg (fun z => encC G.2 ad nr nm z.2) e9.symm⟩ hlocks d_R_addStage_16
  · skip
    refine lv_aload_n hx hb d_R_addStage_7 rfl (lv_at hl 0 rfl) ?_
    refine mw_get (v := .int (s0 (10 + 3 * i) 5)) hx hb hts in_R hown hK.1 hw (10 + 3 * i) (cC_rel hnr hi) rfl 5 (by decide) (hts _ tw_103) rfl d_R_addStage_8 ?_
    refine lv_iconst (v := 5) hx hb d_R_addStage_11 (by decide) ?_
    refine lv_icmp_lt (tgt := 17) hx hb d_R_addStage_12 (by decide) (fun h2 => ?_) (fun h2 => ?_)
    · skip
      refine lv_aload_n hx hb d_R_addStage_17 rfl (lv_at hl 0 rfl) ?_
      refine mw_get (v := .int (s0 (10 + 3 * i) 5)) hx hb hts in_R hown hK.1 hw (10 + 3 * i) (cC_rel hnr hi) rfl 5 (by decide) (hts _ tw_103) rfl d_R_addStage_18 ?_
      refine lv_if_ne (tgt := 28) hx hb d_R_addStage_21 (by decide) (fun h3 => ?_) (fun h3 => ?_)
      · skip
        refine lv_aload_n hx hb d_R_addStage_28 rfl (lv_at hl 0 rfl) ?_
        refine mw_get (v := .ref (ad (10 + 3 * i + 1))) hx hb hts in_R hown hK.1 hw (10 + 3 * i) (cC_rel hnr hi) rfl 3 (by decide) (hts _ tw_101) rfl d_R_addStage_29 ?_
        refine lv_aload_n hx hb d_R_addStage_32 rfl (lv_at hl 0 rfl) ?_
        refine mw_get (v := .int (s0 (10 + 3 * i) 5)) hx hb hts in_R hown hK.1 hw (10 + 3 * i) (cC_rel hnr hi) rfl 5 (by decide) (hts _ tw_103) rfl d_R_addStage_33 ?_
        refine lv_iconst (v := 1) hx hb d_R_addStage_36 (by decide) ?_
        refine lv_isub hx hb d_R_addStage_37 ?_
        refine mw_iald hx hb hK.1 hw (10 + 3 * i + 1) 0 (cC_sh hnr hi) rfl (stc_p hsc h3) d_R_addStage_38 ?_
        refine lv_istore_n (lv' := [(3, .int (s0 (10 + 3 * i + 1) (Int32.toNatClampNeg ((s0 (10 + 3 * i) 5) - 1)))), (0, .ref (ad (10 + 3 * i))), (1, .int (a1)), (2, .int (a2))]) hx hb d_R_addStage_39 rfl hl (by decide) rfl (fun ls hl => ?_)
        refine lv_iload_n hx hb d_R_addStage_40 rfl (lv_at hl 2 rfl) ?_
        refine lv_iload_n hx hb d_R_addStage_41 rfl (lv_at hl 0 rfl) ?_
        refine lv_sipush (v := 1000) hx hb d_R_addStage_42 (by decide) ?_
        refine gSN (As := [.int (a1), .int (s0 (10 + 3 * i + 1) (Int32.toNatClampNeg ((s0 (10 + 3 * i) 5) - 1))), .int (1000)]) (rest := []) (st1 := [.int (f_C_within a1 (s0 (10 + 3 * i + 1) (Int32.toNatClampNeg ((s0 (10 + 3 * i) 5) - 1))) 1000)]) ⟨hx, hb, hml, hown, hts⟩ (cc_C_within l G A ad nr nm hnr hnm s0 a1 (s0 (10 + 3 * i + 1) (Int32.toNatClampNeg ((s0 (10 + 3 * i) 5) - 1))) 1000) tw_89 nw_3 tw_88 tw_1 hd_C_within rfl rfl ⟨Nat.le_of_ble_eq_true rfl, Nat.le_of_ble_eq_true rfl⟩ hK hw hS hl.1 rfl (Nat.le_of_ble_eq_true rfl) ⟨Nat.zero_le _, Nat.zero_le _⟩ d_R_addStage_45 rfl (fun H locs hw hS => ?_)
        refine lv_if_eq (tgt := 62) hx hb d_R_addStage_48 (by decide) (fun h4 => ?_) (fun h4 => ?_)
        · skip
          refine lv_iconst (v := 0) hx hb d_R_addStage_62 (by decide) ?_
          have e9 : f_R_addStage s0 i a1 a2 = (0, s0) := by unfold f_R_addStage; exact (if_pos h1).trans ((if_pos h2).trans ((if_neg h3).trans (if_pos h4)))
          exact mw_iret hx hb hr rfl hw hS (congrArg (fun z => some (Value.int z.1)) e9.symm) ⟨rfl, congrArg (fun z => encC G.2 ad nr nm z.2) e9.symm⟩ hlocks d_R_addStage_63
        · skip
          refine lv_iload_n hx hb d_R_addStage_51 rfl (lv_at hl 3 rfl) ?_
          refine lv_iconst (v := 0) hx hb d_R_addStage_52 (by decide) ?_
          refine lv_sipush (v := 1000) hx hb d_R_addStage_53 (by decide) ?_
          refine gSN (As := [.int (a2), .int (0), .int (1000)]) (rest := []) (st1 := [.int (f_C_within a2 0 1000)]) ⟨hx, hb, hml, hown, hts⟩ (cc_C_within l G A ad nr nm hnr hnm s0 a2 0 1000) tw_89 nw_3 tw_88 tw_1 hd_C_within rfl rfl ⟨Nat.le_of_ble_eq_true rfl, Nat.le_of_ble_eq_true rfl⟩ hK hw hS hl.1 rfl (Nat.le_of_ble_eq_true rfl) ⟨Nat.zero_le _, Nat.zero_le _⟩ d_R_addStage_56 rfl (fun H locs hw hS => ?_)
          refine lv_if_ne (tgt := 64) hx hb d_R_addStage_59 (by decide) (fun h5 => ?_) (fun h5 => ?_)
          · skip
            refine lv_aload_n hx hb d_R_addStage_64 rfl (lv_at hl 1 rfl) ?_
            refine mw_get (v := .ref (ad (10 + 3 * i + 1))) hx hb hts in_R hown hK.1 hw (10 + 3 * i) (cC_rel hnr hi) rfl 3 (by decide) (hts _ tw_101) rfl d_R_addStage_65 ?_
            refine lv_aload_n hx hb d_R_addStage_68 rfl (lv_at hl 1 rfl) ?_
            refine mw_get (v := .int (s0 (10 + 3 * i) 5)) hx hb hts in_R hown hK.1 hw (10 + 3 * i) (cC_rel hnr hi) rfl 5 (by decide) (hts _ tw_103) rfl d_R_addStage_69 ?_
            refine lv_iload_n hx hb d_R_addStage_72 rfl (lv_at hl 2 rfl) ?_
            refine mw_iast hx hb hK.1 hw hS (10 + 3 * i + 1) 0 (cC_sh hnr hi) rfl (stc_i hsc h2) d_R_addStage_73 (fun H locs hw hS => ?_)
            replace hw := mw_encC (r := upd (s0 (10 + 3 * i + 1)) (Int32.toNatClampNeg (s0 (10 + 3 * i) 5)) a1) hw (cC_sh hnr hi)
            have hw : mwG G A ad (encC G.2 ad nr nm (up2 s0 (10 + 3 * i + 1) (Int32.toNatClampNeg (s0 (10 + 3 * i) 5)) a1)) H := hw
            refine lv_aload_n hx hb d_R_addStage_74 rfl (lv_at hl 1 rfl) ?_
            refine mw_get (v := .ref (ad (10 + 3 * i + 2))) hx hb hts in_R hown hK.1 hw (10 + 3 * i) (cC_rel hnr hi) rfl 4 (by decide) (hts _ tw_102) rfl d_R_addStage_75 ?_
            refine lv_aload_n hx hb d_R_addStage_78 rfl (lv_at hl 1 rfl) ?_
            refine mw_get (v := .int ((up2 s0 (10 + 3 * i + 1) (Int32.toNatClampNeg (s0 (10 + 3 * i) 5)) a1) (10 + 3 * i) 5)) hx hb hts in_R hown hK.1 hw (10 + 3 * i) (cC_rel hnr hi) rfl 5 (by decide) (hts _ tw_103) rfl d_R_addStage_79 ?_
            refine lv_iload_n hx hb d_R_addStage_82 rfl (lv_at hl 3 rfl) ?_
            refine mw_iast hx hb hK.1 hw hS (10 + 3 * i + 2) 0 (cC_wa hnr hi) rfl (by rw [up2_at, if_neg (by omega)]; exact stc_i hsc h2) d_R_addStage_83 (fun H locs hw hS => ?_)
            replace hw := mw_encC (r := upd ((up2 s0 (10 + 3 * i + 1) (Int32.toNatClampNeg (s0 (10 + 3 * i) 5)) a1) (10 + 3 * i + 2)) (Int32.toNatClampNeg ((up2 s0 (10 + 3 * i + 1) (Int32.toNatClampNeg (s0 (10 + 3 * i) 5)) a1) (10 + 3 * i) 5)) a2) hw (cC_wa hnr hi)
            have hw : mwG G A ad (encC G.2 ad nr nm (up2 (up2 s0 (10 + 3 * i + 1) (Int32.toNatClampNeg (s0 (10 + 3 * i) 5)) a1) (10 + 3 * i + 2) (Int32.toNatClampNeg ((up2 s0 (10 + 3 * i + 1) (Int32.toNatClampNeg (s0 (10 + 3 * i) 5)) a1) (10 + 3 * i) 5)) a2)) H := hw
            refine lv_aload_n hx hb d_R_addStage_84 rfl (lv_at hl 1 rfl) ?_
            refine lv_dup hx hb d_R_addStage_85 rfl ?_
            refine mw_get (v := .int ((up2 (up2 s0 (10 + 3 * i + 1) (Int32.toNatClampNeg (s0 (10 + 3 * i) 5)) a1) (10 + 3 * i + 2) (Int32.toNatClampNeg ((up2 s0 (10 + 3 * i + 1) (Int32.toNatClampNeg (s0 (10 + 3 * i) 5)) a1) (10 + 3 * i) 5)) a2) (10 + 3 * i) 5)) hx hb hts in_R hown hK.1 hw (10 + 3 * i) (cC_rel hnr hi) rfl 5 (by decide) (hts _ tw_103) rfl d_R_addStage_86 ?_
            refine lv_iconst (v := 1) hx hb d_R_addStage_89 (by decide) ?_
            refine lv_iadd hx hb d_R_addStage_90 ?_
            refine mw_put (v := .int (((up2 (up2 s0 (10 + 3 * i + 1) (Int32.toNatClampNeg (s0 (10 + 3 * i) 5)) a1) (10 + 3 * i + 2) (Int32.toNatClampNeg ((up2 s0 (10 + 3 * i + 1) (Int32.toNatClampNeg (s0 (10 + 3 * i) 5)) a1) (10 + 3 * i) 5)) a2) (10 + 3 * i) 5) + 1)) hx hb hts in_R ty_R ty_R_ok n_R hown hK.1 hw hS (10 + 3 * i) (cC_rel hnr hi) rfl 5 (by decide) (hts _ tw_103) rfl rfl rfl (Nat.le_of_ble_eq_true rfl) d_R_addStage_91 (fun H locs hw hS => ?_)
            replace hw := mw_encC (r := upd ((up2 (up2 s0 (10 + 3 * i + 1) (Int32.toNatClampNeg (s0 (10 + 3 * i) 5)) a1) (10 + 3 * i + 2) (Int32.toNatClampNeg ((up2 s0 (10 + 3 * i + 1) (Int32.toNatClampNeg (s0 (10 + 3 * i) 5)) a1) (10 + 3 * i) 5)) a2) (10 + 3 * i)) 5 (((up2 (up2 s0 (10 + 3 * i + 1) (Int32.toNatClampNeg (s0 (10 + 3 * i) 5)) a1) (10 + 3 * i + 2) (Int32.toNatClampNeg ((up2 s0 (10 + 3 * i + 1) (Int32.toNatClampNeg (s0 (10 + 3 * i) 5)) a1) (10 + 3 * i) 5)) a2) (10 + 3 * i) 5) + 1)) hw (cC_rel hnr hi)
            have hw : mwG G A ad (encC G.2 ad nr nm (up2 (up2 (up2 s0 (10 + 3 * i + 1) (Int32.toNatClampNeg (s0 (10 + 3 * i) 5)) a1) (10 + 3 * i + 2) (Int32.toNatClampNeg ((up2 s0 (10 + 3 * i + 1) (Int32.toNatClampNeg (s0 (10 + 3 * i) 5)) a1) (10 + 3 * i) 5)) a2) (10 + 3 * i) 5 (((up2 (up2 s0 (10 + 3 * i + 1) (Int32.toNatClampNeg (s0 (10 + 3 * i) 5)) a1) (10 + 3 * i + 2) (Int32.toNatClampNeg ((up2 s0 (10 + 3 * i + 1) (Int32.toNatClampNeg (s0 (10 + 3 * i) 5)) a1) (10 + 3 * i) 5)) a2) (10 + 3 * i) 5) + 1))) H := hw
            refine lv_iconst (v := 1) hx hb d_R_addStage_94 (by decide) ?_
            have e9 : f_R_addStage s0 i a1 a2 = (1, up2 (up2 (up2 s0 (10 + 3 * i + 1) (Int32.toNatClampNeg (s0 (10 + 3 * i) 5)) a1) (10 + 3 * i + 2) (Int32.toNatClampNeg ((up2 s0 (10 + 3 * i + 1) (Int32.toNatClampNeg (s0 (10 + 3 * i) 5)) a1) (10 + 3 * i) 5)) a2) (10 + 3 * i) 5 (((up2 (up2 s0 (10 + 3 * i + 1) (Int32.toNatClampNeg (s0 (10 + 3 * i) 5)) a1) (10 + 3 * i + 2) (Int32.toNatClampNeg ((up2 s0 (10 + 3 * i + 1) (Int32.toNatClampNeg (s0 (10 + 3 * i) 5)) a1) (10 + 3 * i) 5)) a2) (10 + 3 * i) 5) + 1)) := by unfold f_R_addStage; exact (if_pos h1).trans ((if_pos h2).trans ((if_neg h3).trans ((if_neg h4).trans (if_neg h5))))
            exact mw_iret hx hb hr rfl hw hS (congrArg (fun z => some (Value.int z.1)) e9.symm) ⟨rfl, congrArg (fun z => encC G.2 ad nr nm z.2) e9.symm⟩ hlocks d_R_addStage_95
          · skip
            refine lv_iconst (v := 0) hx hb d_R_addStage_62 (by decide) ?_
            have e9 : f_R_addStage s0 i a1 a2 = (0, s0) := by unfold f_R_addStage; exact (if_pos h1).trans ((if_pos h2).trans ((if_neg h3).trans ((if_neg h4).trans (if_pos h5))))
            exact mw_iret hx hb hr rfl hw hS (congrArg (fun z => some (Value.int z.1)) e9.symm) ⟨rfl, congrArg (fun z => encC G.2 ad nr nm z.2) e9.symm⟩ hlocks d_R_addStage_63
      · skip
        refine lv_iconst (v := 0) hx hb d_R_addStage_24 (by decide) ?_
        refine lv_goto (tgt := 39) hx hb d_R_addStage_25 (by decide) ?_
        refine lv_istore_n (lv' := [(3, .int (0)), (0, .ref (ad (10 + 3 * i))), (1, .int (a1)), (2, .int (a2))]) hx hb d_R_addStage_39 rfl hl (by decide) rfl (fun ls hl => ?_)
        refine lv_iload_n hx hb d_R_addStage_40 rfl (lv_at hl 2 rfl) ?_
        refine lv_iload_n hx hb d_R_addStage_41 rfl (lv_at hl 0 rfl) ?_
        refine lv_sipush (v := 1000) hx hb d_R_addStage_42 (by decide) ?_
        refine gSN (As := [.int (a1), .int (0), .int (1000)]) (rest := []) (st1 := [.int (f_C_within a1 0 1000)]) ⟨hx, hb, hml, hown, hts⟩ (cc_C_within l G A ad nr nm hnr hnm s0 a1 0 1000) tw_89 nw_3 tw_88 tw_1 hd_C_within rfl rfl ⟨Nat.le_of_ble_eq_true rfl, Nat.le_of_ble_eq_true rfl⟩ hK hw hS hl.1 rfl (Nat.le_of_ble_eq_true rfl) ⟨Nat.zero_le _, Nat.zero_le _⟩ d_R_addStage_45 rfl (fun H locs hw hS => ?_)
        refine lv_if_eq (tgt := 62) hx hb d_R_addStage_48 (by decide) (fun h6 => ?_) (fun h6 => ?_)
        · skip
          refine lv_iconst (v := 0) hx hb d_R_addStage_62 (by decide) ?_
          have e9 : f_R_addStage s0 i a1 a2 = (0, s0) := by unfold f_R_addStage; exact (if_pos h1).trans ((if_pos h2).trans ((if_pos h3).trans (if_pos h6)))
          exact mw_iret hx hb hr rfl hw hS (congrArg (fun z => some (Value.int z.1)) e9.symm) ⟨rfl, congrArg (fun z => encC G.2 ad nr nm z.2) e9.symm⟩ hlocks d_R_addStage_63
        · skip
          refine lv_iload_n hx hb d_R_addStage_51 rfl (lv_at hl 3 rfl) ?_
          refine lv_iconst (v := 0) hx hb d_R_addStage_52 (by decide) ?_
          refine lv_sipush (v := 1000) hx hb d_R_addStage_53 (by decide) ?_
          refine gSN (As := [.int (a2), .int (0), .int (1000)]) (rest := []) (st1 := [.int (f_C_within a2 0 1000)]) ⟨hx, hb, hml, hown, hts⟩ (cc_C_within l G A ad nr nm hnr hnm s0 a2 0 1000) tw_89 nw_3 tw_88 tw_1 hd_C_within rfl rfl ⟨Nat.le_of_ble_eq_true rfl, Nat.le_of_ble_eq_true rfl⟩ hK hw hS hl.1 rfl (Nat.le_of_ble_eq_true rfl) ⟨Nat.zero_le _, Nat.zero_le _⟩ d_R_addStage_56 rfl (fun H locs hw hS => ?_)
          refine lv_if_ne (tgt := 64) hx hb d_R_addStage_59 (by decide) (fun h7 => ?_) (fun h7 => ?_)
          · skip
            refine lv_aload_n hx hb d_R_addStage_64 rfl (lv_at hl 1 rfl) ?_
            refine mw_get (v := .ref (ad (10 + 3 * i + 1))) hx hb hts in_R hown hK.1 hw (10 + 3 * i) (cC_rel hnr hi) rfl 3 (by decide) (hts _ tw_101) rfl d_R_addStage_65 ?_
            refine lv_aload_n hx hb d_R_addStage_68 rfl (lv_at hl 1 rfl) ?_
            refine mw_get (v := .int (s0 (10 + 3 * i) 5)) hx hb hts in_R hown hK.1 hw (10 + 3 * i) (cC_rel hnr hi) rfl 5 (by decide) (hts _ tw_103) rfl d_R_addStage_69 ?_
            refine lv_iload_n hx hb d_R_addStage_72 rfl (lv_at hl 2 rfl) ?_
            refine mw_iast hx hb hK.1 hw hS (10 + 3 * i + 1) 0 (cC_sh hnr hi) rfl (stc_i hsc h2) d_R_addStage_73 (fun H locs hw hS => ?_)
            replace hw := mw_encC (r := upd (s0 (10 + 3 * i + 1)) (Int32.toNatClampNeg (s0 (10 + 3 * i) 5)) a1) hw (cC_sh hnr hi)
            have hw : mwG G A ad (encC G.2 ad nr nm (up2 s0 (10 + 3 * i + 1) (Int32.toNatClampNeg (s0 (10 + 3 * i) 5)) a1)) H := hw
            refine lv_aload_n hx hb d_R_addStage_74 rfl (lv_at hl 1 rfl) ?_
            refine mw_get (v := .ref (ad (10 + 3 * i + 2))) hx hb hts in_R hown hK.1 hw (10 + 3 * i) (cC_rel hnr hi) rfl 4 (by decide) (hts _ tw_102) rfl d_R_addStage_75 ?_
            refine lv_aload_n hx hb d_R_addStage_78 rfl (lv_at hl 1 rfl) ?_
            refine mw_get (v := .int ((up2 s0 (10 + 3 * i + 1) (Int32.toNatClampNeg (s0 (10 + 3 * i) 5)) a1) (10 + 3 * i) 5)) hx hb hts in_R hown hK.1 hw (10 + 3 * i) (cC_rel hnr hi) rfl 5 (by decide) (hts _ tw_103) rfl d_R_addStage_79 ?_
            refine lv_iload_n hx hb d_R_addStage_82 rfl (lv_at hl 3 rfl) ?_
            refine mw_iast hx hb hK.1 hw hS (10 + 3 * i + 2) 0 (cC_wa hnr hi) rfl (by rw [up2_at, if_neg (by omega)]; exact stc_i hsc h2) d_R_addStage_83 (fun H locs hw hS => ?_)
            replace hw := mw_encC (r := upd ((up2 s0 (10 + 3 * i + 1) (Int32.toNatClampNeg (s0 (10 + 3 * i) 5)) a1) (10 + 3 * i + 2)) (Int32.toNatClampNeg ((up2 s0 (10 + 3 * i + 1) (Int32.toNatClampNeg (s0 (10 + 3 * i) 5)) a1) (10 + 3 * i) 5)) a2) hw (cC_wa hnr hi)
            have hw : mwG G A ad (encC G.2 ad nr nm (up2 (up2 s0 (10 + 3 * i + 1) (Int32.toNatClampNeg (s0 (10 + 3 * i) 5)) a1) (10 + 3 * i + 2) (Int32.toNatClampNeg ((up2 s0 (10 + 3 * i + 1) (Int32.toNatClampNeg (s0 (10 + 3 * i) 5)) a1) (10 + 3 * i) 5)) a2)) H := hw
            refine lv_aload_n hx hb d_R_addStage_84 rfl (lv_at hl 1 rfl) ?_
            refine lv_dup hx hb d_R_addStage_85 rfl ?_
            refine mw_get (v := .int ((up2 (up2 s0 (10 + 3 * i + 1) (Int32.toNatClampNeg (s0 (10 + 3 * i) 5)) a1) (10 + 3 * i + 2) (Int32.toNatClampNeg ((up2 s0 (10 + 3 * i + 1) (Int32.toNatClampNeg (s0 (10 + 3 * i) 5)) a1) (10 + 3 * i) 5)) a2) (10 + 3 * i) 5)) hx hb hts in_R hown hK.1 hw (10 + 3 * i) (cC_rel hnr hi) rfl 5 (by decide) (hts _ tw_103) rfl d_R_addStage_86 ?_
            refine lv_iconst (v := 1) hx hb d_R_addStage_89 (by decide) ?_
            refine lv_iadd hx hb d_R_addStage_90 ?_
            refine mw_put (v := .int (((up2 (up2 s0 (10 + 3 * i + 1) (Int32.toNatClampNeg (s0 (10 + 3 * i) 5)) a1) (10 + 3 * i + 2) (Int32.toNatClampNeg ((up2 s0 (10 + 3 * i + 1) (Int32.toNatClampNeg (s0 (10 + 3 * i) 5)) a1) (10 + 3 * i) 5)) a2) (10 + 3 * i) 5) + 1)) hx hb hts in_R ty_R ty_R_ok n_R hown hK.1 hw hS (10 + 3 * i) (cC_rel hnr hi) rfl 5 (by decide) (hts _ tw_103) rfl rfl rfl (Nat.le_of_ble_eq_true rfl) d_R_addStage_91 (fun H locs hw hS => ?_)
            replace hw := mw_encC (r := upd ((up2 (up2 s0 (10 + 3 * i + 1) (Int32.toNatClampNeg (s0 (10 + 3 * i) 5)) a1) (10 + 3 * i + 2) (Int32.toNatClampNeg ((up2 s0 (10 + 3 * i + 1) (Int32.toNatClampNeg (s0 (10 + 3 * i) 5)) a1) (10 + 3 * i) 5)) a2) (10 + 3 * i)) 5 (((up2 (up2 s0 (10 + 3 * i + 1) (Int32.toNatClampNeg (s0 (10 + 3 * i) 5)) a1) (10 + 3 * i + 2) (Int32.toNatClampNeg ((up2 s0 (10 + 3 * i + 1) (Int32.toNatClampNeg (s0 (10 + 3 * i) 5)) a1) (10 + 3 * i) 5)) a2) (10 + 3 * i) 5) + 1)) hw (cC_rel hnr hi)
            have hw : mwG G A ad (encC G.2 ad nr nm (up2 (up2 (up2 s0 (10 + 3 * i + 1) (Int32.toNatClampNeg (s0 (10 + 3 * i) 5)) a1) (10 + 3 * i + 2) (Int32.toNatClampNeg ((up2 s0 (10 + 3 * i + 1) (Int32.toNatClampNeg (s0 (10 + 3 * i) 5)) a1) (10 + 3 * i) 5)) a2) (10 + 3 * i) 5 (((up2 (up2 s0 (10 + 3 * i + 1) (Int32.toNatClampNeg (s0 (10 + 3 * i) 5)) a1) (10 + 3 * i + 2) (Int32.toNatClampNeg ((up2 s0 (10 + 3 * i + 1) (Int32.toNatClampNeg (s0 (10 + 3 * i) 5)) a1) (10 + 3 * i) 5)) a2) (10 + 3 * i) 5) + 1))) H := hw
            refine lv_iconst (v := 1) hx hb d_R_addStage_94 (by decide) ?_
            have e9 : f_R_addStage s0 i a1 a2 = (1, up2 (up2 (up2 s0 (10 + 3 * i + 1) (Int32.toNatClampNeg (s0 (10 + 3 * i) 5)) a1) (10 + 3 * i + 2) (Int32.toNatClampNeg ((up2 s0 (10 + 3 * i + 1) (Int32.toNatClampNeg (s0 (10 + 3 * i) 5)) a1) (10 + 3 * i) 5)) a2) (10 + 3 * i) 5 (((up2 (up2 s0 (10 + 3 * i + 1) (Int32.toNatClampNeg (s0 (10 + 3 * i) 5)) a1) (10 + 3 * i + 2) (Int32.toNatClampNeg ((up2 s0 (10 + 3 * i + 1) (Int32.toNatClampNeg (s0 (10 + 3 * i) 5)) a1) (10 + 3 * i) 5)) a2) (10 + 3 * i) 5) + 1)) := by unfold f_R_addStage; exact (if_pos h1).trans ((if_pos h2).trans ((if_pos h3).trans ((if_neg h6).trans (if_neg h7))))
            exact mw_iret hx hb hr rfl hw hS (congrArg (fun z => some (Value.int z.1)) e9.symm) ⟨rfl, congrArg (fun z => encC G.2 ad nr nm z.2) e9.symm⟩ hlocks d_R_addStage_95
          · skip
            refine lv_iconst (v := 0) hx hb d_R_addStage_62 (by decide) ?_
            have e9 : f_R_addStage s0 i a1 a2 = (0, s0) := by unfold f_R_addStage; exact (if_pos h1).trans ((if_pos h2).trans ((if_pos h3).trans ((if_neg h6).trans (if_pos h7))))
            exact mw_iret hx hb hr rfl hw hS (congrArg (fun z => some (Value.int z.1)) e9.symm) ⟨rfl, congrArg (fun z => encC G.2 ad nr nm z.2) e9.symm⟩ hlocks d_R_addStage_63
    · skip
      refine lv_iconst (v := 0) hx hb d_R_addStage_15 (by decide) ?_
      have e9 : f_R_addStage s0 i a1 a2 = (0, s0) := by unfold f_R_addStage; exact (if_pos h1).trans (if_neg h2)
      exact mw_iret hx hb hr rfl hw hS (congrArg (fun z => some (Value.int z.1)) e9.symm) ⟨rfl, congrArg (fun z => encC G.2 ad nr nm z.2) e9.symm⟩ hlocks d_R_addStage_16

def f_R_setHealth (s0 : S2) (i : Nat) (a1 : Int32) (a2 : Int32) : Int32 × S2 :=
  if (f_C_within a2 1 1000) = 0 then
    (0, s0)
  else
    if (f_C_within a1 0 a2) = 0 then
      (0, s0)
    else
      (1, up2 (up2 s0 (10 + 3 * i) 6 a1) (10 + 3 * i) 7 a2)
theorem fb_R_setHealth (s0 : S2) (i : Nat) (a1 : Int32) (a2 : Int32) : narrow .boolean (.int ((f_R_setHealth s0 i a1 a2).1)) = .int ((f_R_setHealth s0 i a1 a2).1) := by
  unfold f_R_setHealth
  repeat' split
  all_goals first | rfl | exact narrow_b0 | exact narrow_b1
set_option maxHeartbeats 4000000 in
set_option maxRecDepth 100000 in
theorem cc_R_setHealth (l : Launch) (G : Gx) (A : Nat → Prop) (ad : Nat → Nat) (nr nm : Nat) (hnr : nr ≤ 16) (hnm : nm ≤ 30) (s0 : S2) (i : Nat) (hi : i < nr) (a1 : Int32) (a2 : Int32) : Met l y_R_setHealth ws_R_setHealth { frames := 1, cells := 0, slots := 0, locals := 22 } (PG G [.ref (ad (10 + 3 * i)), .int (a1), .int (a2)] A ad (encC G.2 ad nr nm s0)) (EG G A (some (.int (f_R_setHealth s0 i a1 a2).1)) ad (encC G.2 ad nr nm ((f_R_setHealth s0 i a1 a2).2))) 0 0 A := by
  refine Met.ofW (cc := c_R_setHealth) (maxL := 3) (ret := (some .boolean)) (by decide) rfl ?_
  intro p e s m args below meth c s₁ B hml hv
  obtain ⟨rfl, hw, hK⟩ := hv
  have hx := B.exec
  have hb := B.bytes
  have hr := B.returns
  have hts : ∀ w ∈ tbG, w.before [.ref (ad (10 + 3 * i)), .int (a1), .int (a2)].toArray s = true := fun w h => atoms_spec (ws := ws_R_setHealth) B.pre w (List.mem_cons_of_mem _ h)
  have hown : s.vm.findClass "RollStages$Release" = some m.cls := findClass_of_methodNamed B.named
  have hlocks := B.notSynchronized
  have hS : va_S A s.heap s.heap [] := va_S.rf
  have hw : mwG G A ad (encC G.2 ad nr nm s0) s.heap := hw
  have hl := lv_entry ([.ref (ad (10 + 3 * i)), .int (a1), .int (a2)]) (n := 3) (Nat.le_of_ble_eq_true rfl)
  rw [lg_entry_eq]
  generalize (lg_sl ([.ref (ad (10 + 3 * i)), .int (a1), .int (a2)]) ++ List.replicate (3 - (lg_sl ([.ref (ad (10 + 3 * i)), .int (a1), .int (a2)])).length) Slot.unset).toArray = ls at hl ⊢
  have hl : lv_has ls 3 [(0, .ref (ad (10 + 3 * i))), (1, .int (a1)), (2, .int (a2))] := hl
  refine lv_iload_n hx hb d_R_setHealth_0 rfl (lv_at hl 2 rfl) ?_
  refine lv_iconst (v := 1) hx hb d_R_setHealth_1 (by decide) ?_
  refine lv_sipush (v := 1000) hx hb d_R_setHealth_2 (by decide) ?_
  refine gSN (As := [.int (a2), .int (1), .int (1000)]) (rest := []) (st1 := [.int (f_C_within a2 1 1000)]) ⟨hx, hb, hml, hown, hts⟩ (cc_C_within l G A ad nr nm hnr hnm s0 a2 1 1000) tw_89 nw_3 tw_88 tw_1 hd_C_within rfl rfl ⟨Nat.le_of_ble_eq_true rfl, Nat.le_of_ble_eq_true rfl⟩ hK hw hS hl.1 rfl (Nat.le_of_ble_eq_true rfl) ⟨Nat.zero_le _, Nat.zero_le _⟩ d_R_setHealth_5 rfl (fun H locs hw hS => ?_)
  refine lv_if_eq (tgt := 20) hx hb d_R_setHealth_8 (by decide) (fun h1 => ?_) (fun h1 => ?_)
  · skip
    refine lv_iconst (v := 0) hx hb d_R_setHealth_20 (by decide) ?_
    have e9 : f_R_setHealth s0 i a1 a2 = (0, s0) := by unfold f_R_setHealth; exact if_pos h1
    exact mw_iret hx hb hr rfl hw hS (congrArg (fun z => some (Value.int z.1)) e9.symm) ⟨rfl, congrArg (fun z => encC G.2 ad nr nm z.2) e9.symm⟩ hlocks d_R_setHealth_21
  · skip
    refine lv_iload_n hx hb d_R_setHealth_11 rfl (lv_at hl 1 rfl) ?_
    refine lv_iconst (v := 0) hx hb d_R_setHealth_12 (by decide) ?_
    refine lv_iload_n hx hb d_R_setHealth_13 rfl (lv_at hl 2 rfl) ?_
    refine gSN (As := [.int (a1), .int (0), .int (a2)]) (rest := []) (st1 := [.int (f_C_within a1 0 a2)]) ⟨hx, hb, hml, hown, hts⟩ (cc_C_within l G A ad nr nm hnr hnm s0 a1 0 a2) tw_89 nw_3 tw_88 tw_1 hd_C_within rfl rfl ⟨Nat.le_of_ble_eq_true rfl, Nat.le_of_ble_eq_true rfl⟩ hK hw hS hl.1 rfl (Nat.le_of_ble_eq_true rfl) ⟨Nat.zero_le _, Nat.zero_le _⟩ d_R_setHealth_14 rfl (fun H locs hw hS => ?_)
    refine lv_if_ne (tgt := 22) hx hb d_R_setHealth_17 (by decide) (fun h2 => ?_) (fun h2 => ?_)
    · skip
      refine lv_aload_n hx hb d_R_setHealth_22 rfl (lv_at hl 0 rfl) ?_
      refine lv_iload_n hx hb d_R_setHealth_23 rfl (lv_at hl 1 rfl) ?_
      refine mw_put (v := .int (a1)) hx hb hts in_R ty_R ty_R_ok n_R hown hK.1 hw hS (10 + 3 * i) (cC_rel hnr hi) rfl 6 (by decide) (hts _ tw_104) rfl rfl rfl (Nat.le_of_ble_eq_true rfl) d_R_setHealth_24 (fun H locs hw hS => ?_)
      replace hw := mw_encC (r := upd (s0 (10 + 3 * i)) 6 a1) hw (cC_rel hnr hi)
      have hw : mwG G A ad (encC G.2 ad nr nm (up2 s0 (10 + 3 * i) 6 a1)) H := hw
      refine lv_aload_n hx hb d_R_setHealth_27 rfl (lv_at hl 0 rfl) ?_
      refine lv_iload_n hx hb d_R_setHealth_28 rfl (lv_at hl 2 rfl) ?_
      refine mw_put (v := .int (a2)) hx hb hts in_R ty_R ty_R_ok n_R hown hK.1 hw hS (10 + 3 * i) (cC_rel hnr hi) rfl 7 (by decide) (hts _ tw_105) rfl rfl rfl (Nat.le_of_ble_eq_true rfl) d_R_setHealth_29 (fun H locs hw hS => ?_)
      replace hw := mw_encC (r := upd ((up2 s0 (10 + 3 * i) 6 a1) (10 + 3 * i)) 7 a2) hw (cC_rel hnr hi)
      have hw : mwG G A ad (encC G.2 ad nr nm (up2 (up2 s0 (10 + 3 * i) 6 a1) (10 + 3 * i) 7 a2)) H := hw
      refine lv_iconst (v := 1) hx hb d_R_setHealth_32 (by decide) ?_
      have e9 : f_R_setHealth s0 i a1 a2 = (1, up2 (up2 s0 (10 + 3 * i) 6 a1) (10 + 3 * i) 7 a2) := by unfold f_R_setHealth; exact (if_neg h1).trans (if_neg h2)
      exact mw_iret hx hb hr rfl hw hS (congrArg (fun z => some (Value.int z.1)) e9.symm) ⟨rfl, congrArg (fun z => encC G.2 ad nr nm z.2) e9.symm⟩ hlocks d_R_setHealth_33
    · skip
      refine lv_iconst (v := 0) hx hb d_R_setHealth_20 (by decide) ?_
      have e9 : f_R_setHealth s0 i a1 a2 = (0, s0) := by unfold f_R_setHealth; exact (if_neg h1).trans (if_pos h2)
      exact mw_iret hx hb hr rfl hw hS (congrArg (fun z => some (Value.int z.1)) e9.symm) ⟨rfl, congrArg (fun z => encC G.2 ad nr nm z.2) e9.symm⟩ hlocks d_R_setHealth_21

def f_R_begin (s0 : S2) (i : Nat) (a1 : Int32) : Int32 × S2 :=
  if (s0 (10 + 3 * i) 8) = 0 then
    if (s0 (10 + 3 * i) 5) = 0 then
      (0, s0)
    else
      (1, f_R_rollAt s0 i 0 a1)
  else
    (0, s0)
theorem fb_R_begin (s0 : S2) (i : Nat) (a1 : Int32) : narrow .boolean (.int ((f_R_begin s0 i a1).1)) = .int ((f_R_begin s0 i a1).1) := by
  unfold f_R_begin
  repeat' split
  all_goals first | rfl | exact narrow_b0 | exact narrow_b1
set_option maxHeartbeats 4000000 in
set_option maxRecDepth 100000 in
theorem cc_R_begin (l : Launch) (G : Gx) (A : Nat → Prop) (ad : Nat → Nat) (nr nm : Nat) (hnr : nr ≤ 16) (hnm : nm ≤ 30) (s0 : S2) (i : Nat) (hi : i < nr) (a1 : Int32) : Met l y_R_begin ws_R_begin { frames := 1, cells := 0, slots := 0, locals := 22 } (PG G [.ref (ad (10 + 3 * i)), .int (a1)] A ad (encC G.2 ad nr nm s0)) (EG G A (some (.int (f_R_begin s0 i a1).1)) ad (encC G.2 ad nr nm ((f_R_begin s0 i a1).2))) 0 0 A := by
  refine Met.ofW (cc := c_R_begin) (maxL := 2) (ret := (some .boolean)) (by decide) rfl ?_
  intro p e s m args below meth c s₁ B hml hv
  obtain ⟨rfl, hw, hK⟩ := hv
  have hx := B.exec
  have hb := B.bytes
  have hr := B.returns
  have hts : ∀ w ∈ tbG, w.before [.ref (ad (10 + 3 * i)), .int (a1)].toArray s = true := fun w h => atoms_spec (ws := ws_R_begin) B.pre w (List.mem_cons_of_mem _ h)
  have hown : s.vm.findClass "RollStages$Release" = some m.cls := findClass_of_methodNamed B.named
  have hlocks := B.notSynchronized
  have hS : va_S A s.heap s.heap [] := va_S.rf
  have hw : mwG G A ad (encC G.2 ad nr nm s0) s.heap := hw
  have hl := lv_entry ([.ref (ad (10 + 3 * i)), .int (a1)]) (n := 2) (Nat.le_of_ble_eq_true rfl)
  rw [lg_entry_eq]
  generalize (lg_sl ([.ref (ad (10 + 3 * i)), .int (a1)]) ++ List.replicate (2 - (lg_sl ([.ref (ad (10 + 3 * i)), .int (a1)])).length) Slot.unset).toArray = ls at hl ⊢
  have hl : lv_has ls 2 [(0, .ref (ad (10 + 3 * i))), (1, .int (a1))] := hl
  refine lv_aload_n hx hb d_R_begin_0 rfl (lv_at hl 0 rfl) ?_
  refine mw_get (v := .int (s0 (10 + 3 * i) 8)) hx hb hts in_R hown hK.1 hw (10 + 3 * i) (cC_rel hnr hi) rfl 8 (by decide) (hts _ tw_106) rfl d_R_begin_1 ?_
  refine lv_if_ne (tgt := 14) hx hb d_R_begin_4 (by decide) (fun h1 => ?_) (fun h1 => ?_)
  · skip
    refine lv_iconst (v := 0) hx hb d_R_begin_14 (by decide) ?_
    have e9 : f_R_begin s0 i a1 = (0, s0) := by unfold f_R_begin; exact if_neg h1
    exact mw_iret hx hb hr rfl hw hS (congrArg (fun z => some (Value.int z.1)) e9.symm) ⟨rfl, congrArg (fun z => encC G.2 ad nr nm z.2) e9.symm⟩ hlocks d_R_begin_15
  · skip
    refine lv_aload_n hx hb d_R_begin_7 rfl (lv_at hl 0 rfl) ?_
    refine mw_get (v := .int (s0 (10 + 3 * i) 5)) hx hb hts in_R hown hK.1 hw (10 + 3 * i) (cC_rel hnr hi) rfl 5 (by decide) (hts _ tw_103) rfl d_R_begin_8 ?_
    refine lv_if_ne (tgt := 16) hx hb d_R_begin_11 (by decide) (fun h2 => ?_) (fun h2 => ?_)
    · skip
      refine lv_aload_n hx hb d_R_begin_16 rfl (lv_at hl 0 rfl) ?_
      refine lv_iconst (v := 0) hx hb d_R_begin_17 (by decide) ?_
      refine lv_iload_n hx hb d_R_begin_18 rfl (lv_at hl 1 rfl) ?_
      refine gV (As := [.int (0), .int (a1)]) (rest := []) (st1 := []) ⟨hx, hb, hml, hown, hts⟩ (cc_R_rollAt l G A ad nr nm hnr hnm s0 i hi 0 a1) (cC_rel hnr hi) rfl tw_176 tw_173 tw_175 tw_p4 tw_5 hd_R_rollAt rfl rfl ⟨Nat.le_of_ble_eq_true rfl, Nat.le_of_ble_eq_true rfl⟩ hK hw hS hl.1 rfl (Nat.le_of_ble_eq_true rfl) ⟨Nat.zero_le _, Nat.zero_le _⟩ d_R_begin_19 rfl (fun H locs hw hS => ?_)
      refine lv_iconst (v := 1) hx hb d_R_begin_22 (by decide) ?_
      have e9 : f_R_begin s0 i a1 = (1, f_R_rollAt s0 i 0 a1) := by unfold f_R_begin; exact (if_pos h1).trans (if_neg h2)
      exact mw_iret hx hb hr rfl hw hS (congrArg (fun z => some (Value.int z.1)) e9.symm) ⟨rfl, congrArg (fun z => encC G.2 ad nr nm z.2) e9.symm⟩ hlocks d_R_begin_23
    · skip
      refine lv_iconst (v := 0) hx hb d_R_begin_14 (by decide) ?_
      have e9 : f_R_begin s0 i a1 = (0, s0) := by unfold f_R_begin; exact (if_pos h1).trans (if_pos h2)
      exact mw_iret hx hb hr rfl hw hS (congrArg (fun z => some (Value.int z.1)) e9.symm) ⟨rfl, congrArg (fun z => encC G.2 ad nr nm z.2) e9.symm⟩ hlocks d_R_begin_15

def f_R_addReports (s0 : S2) (i : Nat) (a1 : Int32) (a2 : Int32) : Int32 × S2 :=
  if (s0 (10 + 3 * i) 8) = 1 then
    if (f_C_within a1 0 10000) = 0 then
      (0, s0)
    else
      if (f_C_within a2 0 10000) = 0 then
        (0, s0)
      else
        (1, up2 (up2 s0 (10 + 3 * i) 12 ((s0 (10 + 3 * i) 12) + a1)) (10 + 3 * i) 13 (((up2 s0 (10 + 3 * i) 12 ((s0 (10 + 3 * i) 12) + a1)) (10 + 3 * i) 13) + a2))
  else
    (0, s0)
theorem fb_R_addReports (s0 : S2) (i : Nat) (a1 : Int32) (a2 : Int32) : narrow .boolean (.int ((f_R_addReports s0 i a1 a2).1)) = .int ((f_R_addReports s0 i a1 a2).1) := by
  unfold f_R_addReports
  repeat' split
  all_goals first | rfl | exact narrow_b0 | exact narrow_b1
set_option maxHeartbeats 4000000 in
set_option maxRecDepth 100000 in
theorem cc_R_addReports (l : Launch) (G : Gx) (A : Nat → Prop) (ad : Nat → Nat) (nr nm : Nat) (hnr : nr ≤ 16) (hnm : nm ≤ 30) (s0 : S2) (i : Nat) (hi : i < nr) (a1 : Int32) (a2 : Int32) : Met l y_R_addReports ws_R_addReports { frames := 1, cells := 0, slots := 0, locals := 22 } (PG G [.ref (ad (10 + 3 * i)), .int (a1), .int (a2)] A ad (encC G.2 ad nr nm s0)) (EG G A (some (.int (f_R_addReports s0 i a1 a2).1)) ad (encC G.2 ad nr nm ((f_R_addReports s0 i a1 a2).2))) 0 0 A := by
  refine Met.ofW (cc := c_R_addReports) (maxL := 3) (ret := (some .boolean)) (by decide) rfl ?_
  intro p e s m args below meth c s₁ B hml hv
  obtain ⟨rfl, hw, hK⟩ := hv
  have hx := B.exec
  have hb := B.bytes
  have hr := B.returns
  have hts : ∀ w ∈ tbG, w.before [.ref (ad (10 + 3 * i)), .int (a1), .int (a2)].toArray s = true := fun w h => atoms_spec (ws := ws_R_addReports) B.pre w (List.mem_cons_of_mem _ h)
  have hown : s.vm.findClass "RollStages$Release" = some m.cls := findClass_of_methodNamed B.named
  have hlocks := B.notSynchronized
  have hS : va_S A s.heap s.heap [] := va_S.rf
  have hw : mwG G A ad (encC G.2 ad nr nm s0) s.heap := hw
  have hl := lv_entry ([.ref (ad (10 + 3 * i)), .int (a1), .int (a2)]) (n := 3) (Nat.le_of_ble_eq_true rfl)
  rw [lg_entry_eq]
  generalize (lg_sl ([.ref (ad (10 + 3 * i)), .int (a1), .int (a2)]) ++ List.replicate (3 - (lg_sl ([.ref (ad (10 + 3 * i)), .int (a1), .int (a2)])).length) Slot.unset).toArray = ls at hl ⊢
  have hl : lv_has ls 3 [(0, .ref (ad (10 + 3 * i))), (1, .int (a1)), (2, .int (a2))] := hl
  refine lv_aload_n hx hb d_R_addReports_0 rfl (lv_at hl 0 rfl) ?_
  refine mw_get (v := .int (s0 (10 + 3 * i) 8)) hx hb hts in_R hown hK.1 hw (10 + 3 * i) (cC_rel hnr hi) rfl 8 (by decide) (hts _ tw_106) rfl d_R_addReports_1 ?_
  refine lv_iconst (v := 1) hx hb d_R_addReports_4 (by decide) ?_
  refine lv_icmp_ne (tgt := 30) hx hb d_R_addReports_5 (by decide) (fun h1 => ?_) (fun h1 => ?_)
  · skip
    refine lv_iconst (v := 0) hx hb d_R_addReports_30 (by decide) ?_
    have e9 : f_R_addReports s0 i a1 a2 = (0, s0) := by unfold f_R_addReports; exact if_neg h1
    exact mw_iret hx hb hr rfl hw hS (congrArg (fun z => some (Value.int z.1)) e9.symm) ⟨rfl, congrArg (fun z => encC G.2 ad nr nm z.2) e9.symm⟩ hlocks d_R_addReports_31
  · skip
    refine lv_iload_n hx hb d_R_addReports_8 rfl (lv_at hl 1 rfl) ?_
    refine lv_iconst (v := 0) hx hb d_R_addReports_9 (by decide) ?_
    refine lv_sipush (v := 10000) hx hb d_R_addReports_10 (by decide) ?_
    refine gSN (As := [.int (a1), .int (0), .int (10000)]) (rest := []) (st1 := [.int (f_C_within a1 0 10000)]) ⟨hx, hb, hml, hown, hts⟩ (cc_C_within l G A ad nr nm hnr hnm s0 a1 0 10000) tw_89 nw_3 tw_88 tw_1 hd_C_within rfl rfl ⟨Nat.le_of_ble_eq_true rfl, Nat.le_of_ble_eq_true rfl⟩ hK hw hS hl.1 rfl (Nat.le_of_ble_eq_true rfl) ⟨Nat.zero_le _, Nat.zero_le _⟩ d_R_addReports_13 rfl (fun H locs hw hS => ?_)
    refine lv_if_eq (tgt := 30) hx hb d_R_addReports_16 (by decide) (fun h2 => ?_) (fun h2 => ?_)
    · skip
      refine lv_iconst (v := 0) hx hb d_R_addReports_30 (by decide) ?_
      have e9 : f_R_addReports s0 i a1 a2 = (0, s0) := by unfold f_R_addReports; exact (if_pos h1).trans (if_pos h2)
      exact mw_iret hx hb hr rfl hw hS (congrArg (fun z => some (Value.int z.1)) e9.symm) ⟨rfl, congrArg (fun z => encC G.2 ad nr nm z.2) e9.symm⟩ hlocks d_R_addReports_31
    · skip
      refine lv_iload_n hx hb d_R_addReports_19 rfl (lv_at hl 2 rfl) ?_
      refine lv_iconst (v := 0) hx hb d_R_addReports_20 (by decide) ?_
      refine lv_sipush (v := 10000) hx hb d_R_addReports_21 (by decide) ?_
      refine gSN (As := [.int (a2), .int (0), .int (10000)]) (rest := []) (st1 := [.int (f_C_within a2 0 10000)]) ⟨hx, hb, hml, hown, hts⟩ (cc_C_within l G A ad nr nm hnr hnm s0 a2 0 10000) tw_89 nw_3 tw_88 tw_1 hd_C_within rfl rfl ⟨Nat.le_of_ble_eq_true rfl, Nat.le_of_ble_eq_true rfl⟩ hK hw hS hl.1 rfl (Nat.le_of_ble_eq_true rfl) ⟨Nat.zero_le _, Nat.zero_le _⟩ d_R_addReports_24 rfl (fun H locs hw hS => ?_)
      refine lv_if_ne (tgt := 32) hx hb d_R_addReports_27 (by decide) (fun h3 => ?_) (fun h3 => ?_)
      · skip
        refine lv_aload_n hx hb d_R_addReports_32 rfl (lv_at hl 0 rfl) ?_
        refine lv_dup hx hb d_R_addReports_33 rfl ?_
        refine mw_get (v := .int (s0 (10 + 3 * i) 12)) hx hb hts in_R hown hK.1 hw (10 + 3 * i) (cC_rel hnr hi) rfl 12 (by decide) (hts _ tw_113) rfl d_R_addReports_34 ?_
        refine lv_iload_n hx hb d_R_addReports_37 rfl (lv_at hl 1 rfl) ?_
        refine lv_iadd hx hb d_R_addReports_38 ?_
        refine mw_put (v := .int ((s0 (10 + 3 * i) 12) + a1)) hx hb hts in_R ty_R ty_R_ok n_R hown hK.1 hw hS (10 + 3 * i) (cC_rel hnr hi) rfl 12 (by decide) (hts _ tw_113) rfl rfl rfl (Nat.le_of_ble_eq_true rfl) d_R_addReports_39 (fun H locs hw hS => ?_)
        replace hw := mw_encC (r := upd (s0 (10 + 3 * i)) 12 ((s0 (10 + 3 * i) 12) + a1)) hw (cC_rel hnr hi)
        have hw : mwG G A ad (encC G.2 ad nr nm (up2 s0 (10 + 3 * i) 12 ((s0 (10 + 3 * i) 12) + a1))) H := hw
        refine lv_aload_n hx hb d_R_addReports_42 rfl (lv_at hl 0 rfl) ?_
        refine lv_dup hx hb d_R_addReports_43 rfl ?_
        refine mw_get (v := .int ((up2 s0 (10 + 3 * i) 12 ((s0 (10 + 3 * i) 12) + a1)) (10 + 3 * i) 13)) hx hb hts in_R hown hK.1 hw (10 + 3 * i) (cC_rel hnr hi) rfl 13 (by decide) (hts _ tw_114) rfl d_R_addReports_44 ?_
        refine lv_iload_n hx hb d_R_addReports_47 rfl (lv_at hl 2 rfl) ?_
        refine lv_iadd hx hb d_R_addReports_48 ?_
        refine mw_put (v := .int (((up2 s0 (10 + 3 * i) 12 ((s0 (10 + 3 * i) 12) + a1)) (10 + 3 * i) 13) + a2)) hx hb hts in_R ty_R ty_R_ok n_R hown hK.1 hw hS (10 + 3 * i) (cC_rel hnr hi) rfl 13 (by decide) (hts _ tw_114) rfl rfl rfl (Nat.le_of_ble_eq_true rfl) d_R_addReports_49 (fun H locs hw hS => ?_)
        replace hw := mw_encC (r := upd ((up2 s0 (10 + 3 * i) 12 ((s0 (10 + 3 * i) 12) + a1)) (10 + 3 * i)) 13 (((up2 s0 (10 + 3 * i) 12 ((s0 (10 + 3 * i) 12) + a1)) (10 + 3 * i) 13) + a2)) hw (cC_rel hnr hi)
        have hw : mwG G A ad (encC G.2 ad nr nm (up2 (up2 s0 (10 + 3 * i) 12 ((s0 (10 + 3 * i) 12) + a1)) (10 + 3 * i) 13 (((up2 s0 (10 + 3 * i) 12 ((s0 (10 + 3 * i) 12) + a1)) (10 + 3 * i) 13) + a2))) H := hw
        refine lv_iconst (v := 1) hx hb d_R_addReports_52 (by decide) ?_
        have e9 : f_R_addReports s0 i a1 a2 = (1, up2 (up2 s0 (10 + 3 * i) 12 ((s0 (10 + 3 * i) 12) + a1)) (10 + 3 * i) 13 (((up2 s0 (10 + 3 * i) 12 ((s0 (10 + 3 * i) 12) + a1)) (10 + 3 * i) 13) + a2)) := by unfold f_R_addReports; exact (if_pos h1).trans ((if_neg h2).trans (if_neg h3))
        exact mw_iret hx hb hr rfl hw hS (congrArg (fun z => some (Value.int z.1)) e9.symm) ⟨rfl, congrArg (fun z => encC G.2 ad nr nm z.2) e9.symm⟩ hlocks d_R_addReports_53
      · skip
        refine lv_iconst (v := 0) hx hb d_R_addReports_30 (by decide) ?_
        have e9 : f_R_addReports s0 i a1 a2 = (0, s0) := by unfold f_R_addReports; exact (if_pos h1).trans ((if_neg h2).trans (if_pos h3))
        exact mw_iret hx hb hr rfl hw hS (congrArg (fun z => some (Value.int z.1)) e9.symm) ⟨rfl, congrArg (fun z => encC G.2 ad nr nm z.2) e9.symm⟩ hlocks d_R_addReports_31

def f_R_holdByHand (s0 : S2) (i : Nat) : Int32 × S2 :=
  if (s0 (10 + 3 * i) 8) = 1 then
    (1, f_R_holdFor s0 i 3)
  else
    (0, s0)
theorem fb_R_holdByHand (s0 : S2) (i : Nat) : narrow .boolean (.int ((f_R_holdByHand s0 i).1)) = .int ((f_R_holdByHand s0 i).1) := by
  unfold f_R_holdByHand
  repeat' split
  all_goals first | rfl | exact narrow_b0 | exact narrow_b1
set_option maxHeartbeats 4000000 in
set_option maxRecDepth 100000 in
theorem cc_R_holdByHand (l : Launch) (G : Gx) (A : Nat → Prop) (ad : Nat → Nat) (nr nm : Nat) (hnr : nr ≤ 16) (hnm : nm ≤ 30) (s0 : S2) (i : Nat) (hi : i < nr) : Met l y_R_holdByHand ws_R_holdByHand { frames := 1, cells := 0, slots := 0, locals := 21 } (PG G [.ref (ad (10 + 3 * i))] A ad (encC G.2 ad nr nm s0)) (EG G A (some (.int (f_R_holdByHand s0 i).1)) ad (encC G.2 ad nr nm ((f_R_holdByHand s0 i).2))) 0 0 A := by
  refine Met.ofW (cc := c_R_holdByHand) (maxL := 1) (ret := (some .boolean)) (by decide) rfl ?_
  intro p e s m args below meth c s₁ B hml hv
  obtain ⟨rfl, hw, hK⟩ := hv
  have hx := B.exec
  have hb := B.bytes
  have hr := B.returns
  have hts : ∀ w ∈ tbG, w.before [.ref (ad (10 + 3 * i))].toArray s = true := fun w h => atoms_spec (ws := ws_R_holdByHand) B.pre w (List.mem_cons_of_mem _ h)
  have hown : s.vm.findClass "RollStages$Release" = some m.cls := findClass_of_methodNamed B.named
  have hlocks := B.notSynchronized
  have hS : va_S A s.heap s.heap [] := va_S.rf
  have hw : mwG G A ad (encC G.2 ad nr nm s0) s.heap := hw
  have hl := lv_entry ([.ref (ad (10 + 3 * i))]) (n := 1) (Nat.le_of_ble_eq_true rfl)
  rw [lg_entry_eq]
  generalize (lg_sl ([.ref (ad (10 + 3 * i))]) ++ List.replicate (1 - (lg_sl ([.ref (ad (10 + 3 * i))])).length) Slot.unset).toArray = ls at hl ⊢
  have hl : lv_has ls 1 [(0, .ref (ad (10 + 3 * i)))] := hl
  refine lv_aload_n hx hb d_R_holdByHand_0 rfl (lv_at hl 0 rfl) ?_
  refine mw_get (v := .int (s0 (10 + 3 * i) 8)) hx hb hts in_R hown hK.1 hw (10 + 3 * i) (cC_rel hnr hi) rfl 8 (by decide) (hts _ tw_106) rfl d_R_holdByHand_1 ?_
  refine lv_iconst (v := 1) hx hb d_R_holdByHand_4 (by decide) ?_
  refine lv_icmp_eq (tgt := 10) hx hb d_R_holdByHand_5 (by decide) (fun h1 => ?_) (fun h1 => ?_)
  · skip
    refine lv_aload_n hx hb d_R_holdByHand_10 rfl (lv_at hl 0 rfl) ?_
    refine lv_iconst (v := 3) hx hb d_R_holdByHand_11 (by decide) ?_
    refine gV (As := [.int (3)]) (rest := []) (st1 := []) ⟨hx, hb, hml, hown, hts⟩ (cc_R_holdFor l G A ad nr nm hnr hnm s0 i hi 3) (cC_rel hnr hi) rfl tw_196 tw_193 tw_195 tw_p7 tw_5 hd_R_holdFor rfl rfl ⟨Nat.le_of_ble_eq_true rfl, Nat.le_of_ble_eq_true rfl⟩ hK hw hS hl.1 rfl (Nat.le_of_ble_eq_true rfl) ⟨Nat.zero_le _, Nat.zero_le _⟩ d_R_holdByHand_12 rfl (fun H locs hw hS => ?_)
    refine lv_iconst (v := 1) hx hb d_R_holdByHand_15 (by decide) ?_
    have e9 : f_R_holdByHand s0 i = (1, f_R_holdFor s0 i 3) := by unfold f_R_holdByHand; exact if_pos h1
    exact mw_iret hx hb hr rfl hw hS (congrArg (fun z => some (Value.int z.1)) e9.symm) ⟨rfl, congrArg (fun z => encC G.2 ad nr nm z.2) e9.symm⟩ hlocks d_R_holdByHand_16
  · skip
    refine lv_iconst (v := 0) hx hb d_R_holdByHand_8 (by decide) ?_
    have e9 : f_R_holdByHand s0 i = (0, s0) := by unfold f_R_holdByHand; exact if_neg h1
    exact mw_iret hx hb hr rfl hw hS (congrArg (fun z => some (Value.int z.1)) e9.symm) ⟨rfl, congrArg (fun z => encC G.2 ad nr nm z.2) e9.symm⟩ hlocks d_R_holdByHand_9

def f_R_goOn (s0 : S2) (i : Nat) (a1 : Int32) : Int32 × S2 :=
  if (s0 (10 + 3 * i) 8) = 2 then
    (1, f_R_rollAt s0 i (s0 (10 + 3 * i) 10) a1)
  else
    (0, s0)
theorem fb_R_goOn (s0 : S2) (i : Nat) (a1 : Int32) : narrow .boolean (.int ((f_R_goOn s0 i a1).1)) = .int ((f_R_goOn s0 i a1).1) := by
  unfold f_R_goOn
  repeat' split
  all_goals first | rfl | exact narrow_b0 | exact narrow_b1
set_option maxHeartbeats 4000000 in
set_option maxRecDepth 100000 in
theorem cc_R_goOn (l : Launch) (G : Gx) (A : Nat → Prop) (ad : Nat → Nat) (nr nm : Nat) (hnr : nr ≤ 16) (hnm : nm ≤ 30) (s0 : S2) (i : Nat) (hi : i < nr) (a1 : Int32) : Met l y_R_goOn ws_R_goOn { frames := 1, cells := 0, slots := 0, locals := 22 } (PG G [.ref (ad (10 + 3 * i)), .int (a1)] A ad (encC G.2 ad nr nm s0)) (EG G A (some (.int (f_R_goOn s0 i a1).1)) ad (encC G.2 ad nr nm ((f_R_goOn s0 i a1).2))) 0 0 A := by
  refine Met.ofW (cc := c_R_goOn) (maxL := 2) (ret := (some .boolean)) (by decide) rfl ?_
  intro p e s m args below meth c s₁ B hml hv
  obtain ⟨rfl, hw, hK⟩ := hv
  have hx := B.exec
  have hb := B.bytes
  have hr := B.returns
  have hts : ∀ w ∈ tbG, w.before [.ref (ad (10 + 3 * i)), .int (a1)].toArray s = true := fun w h => atoms_spec (ws := ws_R_goOn) B.pre w (List.mem_cons_of_mem _ h)
  have hown : s.vm.findClass "RollStages$Release" = some m.cls := findClass_of_methodNamed B.named
  have hlocks := B.notSynchronized
  have hS : va_S A s.heap s.heap [] := va_S.rf
  have hw : mwG G A ad (encC G.2 ad nr nm s0) s.heap := hw
  have hl := lv_entry ([.ref (ad (10 + 3 * i)), .int (a1)]) (n := 2) (Nat.le_of_ble_eq_true rfl)
  rw [lg_entry_eq]
  generalize (lg_sl ([.ref (ad (10 + 3 * i)), .int (a1)]) ++ List.replicate (2 - (lg_sl ([.ref (ad (10 + 3 * i)), .int (a1)])).length) Slot.unset).toArray = ls at hl ⊢
  have hl : lv_has ls 2 [(0, .ref (ad (10 + 3 * i))), (1, .int (a1))] := hl
  refine lv_aload_n hx hb d_R_goOn_0 rfl (lv_at hl 0 rfl) ?_
  refine mw_get (v := .int (s0 (10 + 3 * i) 8)) hx hb hts in_R hown hK.1 hw (10 + 3 * i) (cC_rel hnr hi) rfl 8 (by decide) (hts _ tw_106) rfl d_R_goOn_1 ?_
  refine lv_iconst (v := 2) hx hb d_R_goOn_4 (by decide) ?_
  refine lv_icmp_eq (tgt := 10) hx hb d_R_goOn_5 (by decide) (fun h1 => ?_) (fun h1 => ?_)
  · skip
    refine lv_aload_n hx hb d_R_goOn_10 rfl (lv_at hl 0 rfl) ?_
    refine lv_aload_n hx hb d_R_goOn_11 rfl (lv_at hl 0 rfl) ?_
    refine mw_get (v := .int (s0 (10 + 3 * i) 10)) hx hb hts in_R hown hK.1 hw (10 + 3 * i) (cC_rel hnr hi) rfl 10 (by decide) (hts _ tw_111) rfl d_R_goOn_12 ?_
    refine lv_iload_n hx hb d_R_goOn_15 rfl (lv_at hl 1 rfl) ?_
    refine gV (As := [.int (s0 (10 + 3 * i) 10), .int (a1)]) (rest := []) (st1 := []) ⟨hx, hb, hml, hown, hts⟩ (cc_R_rollAt l G A ad nr nm hnr hnm s0 i hi (s0 (10 + 3 * i) 10) a1) (cC_rel hnr hi) rfl tw_176 tw_173 tw_175 tw_p4 tw_5 hd_R_rollAt rfl rfl ⟨Nat.le_of_ble_eq_true rfl, Nat.le_of_ble_eq_true rfl⟩ hK hw hS hl.1 rfl (Nat.le_of_ble_eq_true rfl) ⟨Nat.zero_le _, Nat.zero_le _⟩ d_R_goOn_16 rfl (fun H locs hw hS => ?_)
    refine lv_iconst (v := 1) hx hb d_R_goOn_19 (by decide) ?_
    have e9 : f_R_goOn s0 i a1 = (1, f_R_rollAt s0 i (s0 (10 + 3 * i) 10) a1) := by unfold f_R_goOn; exact if_pos h1
    exact mw_iret hx hb hr rfl hw hS (congrArg (fun z => some (Value.int z.1)) e9.symm) ⟨rfl, congrArg (fun z => encC G.2 ad nr nm z.2) e9.symm⟩ hlocks d_R_goOn_20
  · skip
    refine lv_iconst (v := 0) hx hb d_R_goOn_8 (by decide) ?_
    have e9 : f_R_goOn s0 i a1 = (0, s0) := by unfold f_R_goOn; exact if_neg h1
    exact mw_iret hx hb hr rfl hw hS (congrArg (fun z => some (Value.int z.1)) e9.symm) ⟨rfl, congrArg (fun z => encC G.2 ad nr nm z.2) e9.symm⟩ hlocks d_R_goOn_9

def f_R_bar (s0 : S2) (i : Nat) : Int32 × S2 :=
  if (s0 (10 + 3 * i) 8) = 4 then
    (0, s0)
  else
    (1, up2 (up2 s0 (10 + 3 * i) 8 4) (10 + 3 * i) 9 0)
theorem fb_R_bar (s0 : S2) (i : Nat) : narrow .boolean (.int ((f_R_bar s0 i).1)) = .int ((f_R_bar s0 i).1) := by
  unfold f_R_bar
  repeat' split
  all_goals first | rfl | exact narrow_b0 | exact narrow_b1
set_option maxHeartbeats 4000000 in
set_option maxRecDepth 100000 in
theorem cc_R_bar (l : Launch) (G : Gx) (A : Nat → Prop) (ad : Nat → Nat) (nr nm : Nat) (hnr : nr ≤ 16) (hnm : nm ≤ 30) (s0 : S2) (i : Nat) (hi : i < nr) : Met l y_R_bar ws_R_bar { frames := 0, cells := 0, slots := 0, locals := 0 } (PG G [.ref (ad (10 + 3 * i))] A ad (encC G.2 ad nr nm s0)) (EG G A (some (.int (f_R_bar s0 i).1)) ad (encC G.2 ad nr nm ((f_R_bar s0 i).2))) 0 0 A := by
  refine Met.ofW (cc := c_R_bar) (maxL := 1) (ret := (some .boolean)) (by decide) rfl ?_
  intro p e s m args below meth c s₁ B hml hv
  obtain ⟨rfl, hw, hK⟩ := hv
  have hx := B.exec
  have hb := B.bytes
  have hr := B.returns
  have hts : ∀ w ∈ tbG, w.before [.ref (ad (10 + 3 * i))].toArray s = true := fun w h => atoms_spec (ws := ws_R_bar) B.pre w (List.mem_cons_of_mem _ h)
  have hown : s.vm.findClass "RollStages$Release" = some m.cls := findClass_of_methodNamed B.named
  have hlocks := B.notSynchronized
  have hS : va_S A s.heap s.heap [] := va_S.rf
  have hw : mwG G A ad (encC G.2 ad nr nm s0) s.heap := hw
  have hl := lv_entry ([.ref (ad (10 + 3 * i))]) (n := 1) (Nat.le_of_ble_eq_true rfl)
  rw [lg_entry_eq]
  generalize (lg_sl ([.ref (ad (10 + 3 * i))]) ++ List.replicate (1 - (lg_sl ([.ref (ad (10 + 3 * i))])).length) Slot.unset).toArray = ls at hl ⊢
  have hl : lv_has ls 1 [(0, .ref (ad (10 + 3 * i)))] := hl
  refine lv_aload_n hx hb d_R_bar_0 rfl (lv_at hl 0 rfl) ?_
  refine mw_get (v := .int (s0 (10 + 3 * i) 8)) hx hb hts in_R hown hK.1 hw (10 + 3 * i) (cC_rel hnr hi) rfl 8 (by decide) (hts _ tw_106) rfl d_R_bar_1 ?_
  refine lv_iconst (v := 4) hx hb d_R_bar_4 (by decide) ?_
  refine lv_icmp_ne (tgt := 10) hx hb d_R_bar_5 (by decide) (fun h1 => ?_) (fun h1 => ?_)
  · skip
    refine lv_aload_n hx hb d_R_bar_10 rfl (lv_at hl 0 rfl) ?_
    refine lv_iconst (v := 4) hx hb d_R_bar_11 (by decide) ?_
    refine mw_put (v := .int (4)) hx hb hts in_R ty_R ty_R_ok n_R hown hK.1 hw hS (10 + 3 * i) (cC_rel hnr hi) rfl 8 (by decide) (hts _ tw_106) rfl rfl rfl (Nat.le_of_ble_eq_true rfl) d_R_bar_12 (fun H locs hw hS => ?_)
    replace hw := mw_encC (r := upd (s0 (10 + 3 * i)) 8 4) hw (cC_rel hnr hi)
    have hw : mwG G A ad (encC G.2 ad nr nm (up2 s0 (10 + 3 * i) 8 4)) H := hw
    refine lv_aload_n hx hb d_R_bar_15 rfl (lv_at hl 0 rfl) ?_
    refine lv_iconst (v := 0) hx hb d_R_bar_16 (by decide) ?_
    refine mw_put (v := .int (0)) hx hb hts in_R ty_R ty_R_ok n_R hown hK.1 hw hS (10 + 3 * i) (cC_rel hnr hi) rfl 9 (by decide) (hts _ tw_109) rfl rfl rfl (Nat.le_of_ble_eq_true rfl) d_R_bar_17 (fun H locs hw hS => ?_)
    replace hw := mw_encC (r := upd ((up2 s0 (10 + 3 * i) 8 4) (10 + 3 * i)) 9 0) hw (cC_rel hnr hi)
    have hw : mwG G A ad (encC G.2 ad nr nm (up2 (up2 s0 (10 + 3 * i) 8 4) (10 + 3 * i) 9 0)) H := hw
    refine lv_iconst (v := 1) hx hb d_R_bar_20 (by decide) ?_
    have e9 : f_R_bar s0 i = (1, up2 (up2 s0 (10 + 3 * i) 8 4) (10 + 3 * i) 9 0) := by unfold f_R_bar; exact if_neg h1
    exact mw_iret hx hb hr rfl hw hS (congrArg (fun z => some (Value.int z.1)) e9.symm) ⟨rfl, congrArg (fun z => encC G.2 ad nr nm z.2) e9.symm⟩ hlocks d_R_bar_21
  · skip
    refine lv_iconst (v := 0) hx hb d_R_bar_8 (by decide) ?_
    have e9 : f_R_bar s0 i = (0, s0) := by unfold f_R_bar; exact if_pos h1
    exact mw_iret hx hb hr rfl hw hS (congrArg (fun z => some (Value.int z.1)) e9.symm) ⟨rfl, congrArg (fun z => encC G.2 ad nr nm z.2) e9.symm⟩ hlocks d_R_bar_9

def f_R_judge (s0 : S2) (i : Nat) (a1 : Int32) : S2 :=
  if (f_R_allReports s0 i) = 0 then
    f_R_holdFor s0 i 1
  else
    if (f_R_isTooBad s0 i) = 0 then
      if (s0 (10 + 3 * i) 5) ≤ ((s0 (10 + 3 * i) 10) + 1) then
        up2 s0 (10 + 3 * i) 8 3
      else
        f_R_rollAt s0 i ((s0 (10 + 3 * i) 10) + 1) a1
    else
      f_R_holdFor s0 i 2
set_option maxHeartbeats 4000000 in
set_option maxRecDepth 100000 in
theorem cc_R_judge (l : Launch) (G : Gx) (A : Nat → Prop) (ad : Nat → Nat) (nr nm : Nat) (hnr : nr ≤ 16) (hnm : nm ≤ 30) (s0 : S2) (i : Nat) (hi : i < nr) (a1 : Int32) : Met l y_R_judge ws_R_judge { frames := 2, cells := 0, slots := 0, locals := 40 } (PG G [.ref (ad (10 + 3 * i)), .int (a1)] A ad (encC G.2 ad nr nm s0)) (EG G A none ad (encC G.2 ad nr nm (f_R_judge s0 i a1))) 0 0 A := by
  refine Met.ofW (cc := c_R_judge) (maxL := 2) (ret := none) (by decide) rfl ?_
  intro p e s m args below meth c s₁ B hml hv
  obtain ⟨rfl, hw, hK⟩ := hv
  have hx := B.exec
  have hb := B.bytes
  have hr := B.returns
  have hts : ∀ w ∈ tbG, w.before [.ref (ad (10 + 3 * i)), .int (a1)].toArray s = true := fun w h => atoms_spec (ws := ws_R_judge) B.pre w (List.mem_cons_of_mem _ h)
  have hown : s.vm.findClass "RollStages$Release" = some m.cls := findClass_of_methodNamed B.named
  have hlocks := B.notSynchronized
  have hS : va_S A s.heap s.heap [] := va_S.rf
  have hw : mwG G A ad (encC G.2 ad nr nm s0) s.heap := hw
  have hl := lv_entry ([.ref (ad (10 + 3 * i)), .int (a1)]) (n := 2) (Nat.le_of_ble_eq_true rfl)
  rw [lg_entry_eq]
  generalize (lg_sl ([.ref (ad (10 + 3 * i)), .int (a1)]) ++ List.replicate (2 - (lg_sl ([.ref (ad (10 + 3 * i)), .int (a1)])).length) Slot.unset).toArray = ls at hl ⊢
  have hl : lv_has ls 2 [(0, .ref (ad (10 + 3 * i))), (1, .int (a1))] := hl
  refine lv_aload_n hx hb d_R_judge_0 rfl (lv_at hl 0 rfl) ?_
  refine gV (As := []) (rest := []) (st1 := [.int (f_R_allReports s0 i)]) ⟨hx, hb, hml, hown, hts⟩ (cc_R_allReports l G A ad nr nm hnr hnm s0 i hi) (cC_rel hnr hi) rfl tw_231 tw_228 tw_230 tw_p13 tw_5 hd_R_allReports rfl rfl ⟨Nat.le_of_ble_eq_true rfl, Nat.le_of_ble_eq_true rfl⟩ hK hw hS hl.1 rfl (Nat.le_of_ble_eq_true rfl) ⟨Nat.zero_le _, Nat.zero_le _⟩ d_R_judge_1 rfl (fun H locs hw hS => ?_)
  refine lv_if_ne (tgt := 15) hx hb d_R_judge_4 (by decide) (fun h1 => ?_) (fun h1 => ?_)
  · skip
    refine lv_aload_n hx hb d_R_judge_15 rfl (lv_at hl 0 rfl) ?_
    refine gV (As := []) (rest := []) (st1 := [.int (f_R_isTooBad s0 i)]) ⟨hx, hb, hml, hown, hts⟩ (cc_R_isTooBad l G A ad nr nm hnr hnm s0 i hi) (cC_rel hnr hi) rfl tw_235 tw_232 tw_234 tw_p14 tw_5 hd_R_isTooBad rfl rfl ⟨Nat.le_of_ble_eq_true rfl, Nat.le_of_ble_eq_true rfl⟩ hK hw hS hl.1 rfl (Nat.le_of_ble_eq_true rfl) ⟨Nat.zero_le _, Nat.zero_le _⟩ d_R_judge_16 rfl (fun H locs hw hS => ?_)
    refine lv_if_eq (tgt := 30) hx hb d_R_judge_19 (by decide) (fun h2 => ?_) (fun h2 => ?_)
    · skip
      refine lv_aload_n hx hb d_R_judge_30 rfl (lv_at hl 0 rfl) ?_
      refine mw_get (v := .int (s0 (10 + 3 * i) 10)) hx hb hts in_R hown hK.1 hw (10 + 3 * i) (cC_rel hnr hi) rfl 10 (by decide) (hts _ tw_111) rfl d_R_judge_31 ?_
      refine lv_iconst (v := 1) hx hb d_R_judge_34 (by decide) ?_
      refine lv_iadd hx hb d_R_judge_35 ?_
      refine lv_aload_n hx hb d_R_judge_36 rfl (lv_at hl 0 rfl) ?_
      refine mw_get (v := .int (s0 (10 + 3 * i) 5)) hx hb hts in_R hown hK.1 hw (10 + 3 * i) (cC_rel hnr hi) rfl 5 (by decide) (hts _ tw_103) rfl d_R_judge_37 ?_
      refine lv_icmp_ge (tgt := 57) hx hb d_R_judge_40 (by decide) (fun h3 => ?_) (fun h3 => ?_)
      · skip
        refine lv_aload_n hx hb d_R_judge_57 rfl (lv_at hl 0 rfl) ?_
        refine lv_iconst (v := 3) hx hb d_R_judge_58 (by decide) ?_
        refine mw_put (v := .int (3)) hx hb hts in_R ty_R ty_R_ok n_R hown hK.1 hw hS (10 + 3 * i) (cC_rel hnr hi) rfl 8 (by decide) (hts _ tw_106) rfl rfl rfl (Nat.le_of_ble_eq_true rfl) d_R_judge_59 (fun H locs hw hS => ?_)
        replace hw := mw_encC (r := upd (s0 (10 + 3 * i)) 8 3) hw (cC_rel hnr hi)
        have hw : mwG G A ad (encC G.2 ad nr nm (up2 s0 (10 + 3 * i) 8 3)) H := hw
        have e9 : f_R_judge s0 i a1 = up2 s0 (10 + 3 * i) 8 3 := by unfold f_R_judge; exact (if_neg h1).trans ((if_pos h2).trans (if_pos h3))
        exact mw_vret hx hb hr hw hS ⟨rfl, congrArg (fun z => encC G.2 ad nr nm z) e9.symm⟩ hlocks d_R_judge_62
      · skip
        refine lv_aload_n hx hb d_R_judge_43 rfl (lv_at hl 0 rfl) ?_
        refine lv_aload_n hx hb d_R_judge_44 rfl (lv_at hl 0 rfl) ?_
        refine mw_get (v := .int (s0 (10 + 3 * i) 10)) hx hb hts in_R hown hK.1 hw (10 + 3 * i) (cC_rel hnr hi) rfl 10 (by decide) (hts _ tw_111) rfl d_R_judge_45 ?_
        refine lv_iconst (v := 1) hx hb d_R_judge_48 (by decide) ?_
        refine lv_iadd hx hb d_R_judge_49 ?_
        refine lv_iload_n hx hb d_R_judge_50 rfl (lv_at hl 1 rfl) ?_
        refine gV (As := [.int ((s0 (10 + 3 * i) 10) + 1), .int (a1)]) (rest := []) (st1 := []) ⟨hx, hb, hml, hown, hts⟩ (cc_R_rollAt l G A ad nr nm hnr hnm s0 i hi ((s0 (10 + 3 * i) 10) + 1) a1) (cC_rel hnr hi) rfl tw_176 tw_173 tw_175 tw_p4 tw_5 hd_R_rollAt rfl rfl ⟨Nat.le_of_ble_eq_true rfl, Nat.le_of_ble_eq_true rfl⟩ hK hw hS hl.1 rfl (Nat.le_of_ble_eq_true rfl) ⟨Nat.zero_le _, Nat.zero_le _⟩ d_R_judge_51 rfl (fun H locs hw hS => ?_)
        refine lv_goto (tgt := 62) hx hb d_R_judge_54 (by decide) ?_
        have e9 : f_R_judge s0 i a1 = f_R_rollAt s0 i ((s0 (10 + 3 * i) 10) + 1) a1 := by unfold f_R_judge; exact (if_neg h1).trans ((if_pos h2).trans (if_neg h3))
        exact mw_vret hx hb hr hw hS ⟨rfl, congrArg (fun z => encC G.2 ad nr nm z) e9.symm⟩ hlocks d_R_judge_62
    · skip
      refine lv_aload_n hx hb d_R_judge_22 rfl (lv_at hl 0 rfl) ?_
      refine lv_iconst (v := 2) hx hb d_R_judge_23 (by decide) ?_
      refine gV (As := [.int (2)]) (rest := []) (st1 := []) ⟨hx, hb, hml, hown, hts⟩ (cc_R_holdFor l G A ad nr nm hnr hnm s0 i hi 2) (cC_rel hnr hi) rfl tw_196 tw_193 tw_195 tw_p7 tw_5 hd_R_holdFor rfl rfl ⟨Nat.le_of_ble_eq_true rfl, Nat.le_of_ble_eq_true rfl⟩ hK hw hS hl.1 rfl (Nat.le_of_ble_eq_true rfl) ⟨Nat.zero_le _, Nat.zero_le _⟩ d_R_judge_24 rfl (fun H locs hw hS => ?_)
      refine lv_goto (tgt := 62) hx hb d_R_judge_27 (by decide) ?_
      have e9 : f_R_judge s0 i a1 = f_R_holdFor s0 i 2 := by unfold f_R_judge; exact (if_neg h1).trans (if_neg h2)
      exact mw_vret hx hb hr hw hS ⟨rfl, congrArg (fun z => encC G.2 ad nr nm z) e9.symm⟩ hlocks d_R_judge_62
  · skip
    refine lv_aload_n hx hb d_R_judge_7 rfl (lv_at hl 0 rfl) ?_
    refine lv_iconst (v := 1) hx hb d_R_judge_8 (by decide) ?_
    refine gV (As := [.int (1)]) (rest := []) (st1 := []) ⟨hx, hb, hml, hown, hts⟩ (cc_R_holdFor l G A ad nr nm hnr hnm s0 i hi 1) (cC_rel hnr hi) rfl tw_196 tw_193 tw_195 tw_p7 tw_5 hd_R_holdFor rfl rfl ⟨Nat.le_of_ble_eq_true rfl, Nat.le_of_ble_eq_true rfl⟩ hK hw hS hl.1 rfl (Nat.le_of_ble_eq_true rfl) ⟨Nat.zero_le _, Nat.zero_le _⟩ d_R_judge_9 rfl (fun H locs hw hS => ?_)
    refine lv_goto (tgt := 62) hx hb d_R_judge_12 (by decide) ?_
    have e9 : f_R_judge s0 i a1 = f_R_holdFor s0 i 1 := by unfold f_R_judge; exact if_pos h1
    exact mw_vret hx hb hr hw hS ⟨rfl, congrArg (fun z => encC G.2 ad nr nm z) e9.symm⟩ hlocks d_R_judge_62
end
section
theorem i_up {x : Int32} (h0 : -1 ≤ x.toInt) (h : x.toInt < 2147483647) : (x + 1).toInt = x.toInt + 1 := by
  rw [Int32.toInt_add, show (1 : Int32).toInt = 1 from rfl, Int.bmod_def]
  omega
theorem i_dn {x : Int32} (h0 : 0 ≤ x.toInt) : (x + (-1)).toInt = x.toInt - 1 := by
  have h1 := Int32.toInt_lt x
  rw [Int32.toInt_add, show (-1 : Int32).toInt = -1 from rfl, Int.bmod_def]
  omega
theorem i_le {a b : Int32} : a ≤ b ↔ a.toInt ≤ b.toInt := Int32.le_iff_toInt_le
theorem i_lt {a b : Int32} : a < b ↔ a.toInt < b.toInt := Int32.lt_iff_toInt_lt
theorem lp_up {x : Int32} {n : Nat} (hI : 0 ≤ x.toInt ∧ x.toInt ≤ 5 ∧ 6 ≤ x.toInt + ((n + 1 : Nat) : Int)) (h : ¬ 5 ≤ x) : 0 ≤ (x + 1).toInt ∧ (x + 1).toInt ≤ 5 ∧ 6 ≤ (x + 1).toInt + (n : Int) := by
  rw [i_le, show (5 : Int32).toInt = 5 from rfl] at h
  rw [i_up (by omega) (by omega)]
  omega
theorem sc_S {x : Int32} {n : Nat} (hI : 1 ≤ x.toInt ∧ x.toInt ≤ 5 ∧ 6 ≤ x.toInt + ((n + 1 : Nat) : Int)) (h : ¬ 4 < x) : 1 ≤ (x + 1).toInt ∧ (x + 1).toInt ≤ 5 ∧ 6 ≤ (x + 1).toInt + (n : Int) := by
  rw [i_lt, show (4 : Int32).toInt = 4 from rfl] at h
  rw [i_up (by omega) (by omega)]
  omega
theorem dr_S {x : Int32} {n : Nat} (hI : 0 ≤ x.toInt ∧ x.toInt ≤ 16 ∧ 17 ≤ x.toInt + ((n + 1 : Nat) : Int)) (h : ¬ 16 ≤ x) : 0 ≤ (x + 1).toInt ∧ (x + 1).toInt ≤ 16 ∧ 17 ≤ (x + 1).toInt + (n : Int) := by
  rw [i_le, show (16 : Int32).toInt = 16 from rfl] at h
  rw [i_up (by omega) (by omega)]
  omega
theorem dr_in {x : Int32} (h0 : 0 ≤ x.toInt) (h : ¬ 16 ≤ x) : vp_in x 16 := by
  rw [i_le, show (16 : Int32).toInt = 16 from rfl] at h
  rw [vp_in_iff]
  omega
theorem ct_S {x y : Int32} {n : Nat} (hc : 0 ≤ y.toInt ∧ y.toInt ≤ 40) (hI : 0 ≤ x.toInt ∧ x.toInt ≤ 40 ∧ 41 ≤ x.toInt + ((n + 1 : Nat) : Int)) (h : ¬ y ≤ x) : 0 ≤ (x + 1).toInt ∧ (x + 1).toInt ≤ 40 ∧ 41 ≤ (x + 1).toInt + (n : Int) := by
  rw [i_le] at h
  rw [i_up (by omega) (by omega)]
  omega
theorem ct_in {x y : Int32} (hc : 0 ≤ y.toInt ∧ y.toInt ≤ 40) (h0 : 0 ≤ x.toInt) (h : ¬ y ≤ x) : vp_in x 40 := by
  rw [i_le] at h
  rw [vp_in_iff]
  omega
theorem fl_0 {nA : Nat} (hA : nA < 2 ^ 31) : nI nA = nI nA ∧ 0 ≤ (0 : Int32).toInt ∧ (0 : Int32).toInt ≤ (nA : Int) ∧ (nA : Int) + 1 ≤ (0 : Int32).toInt + ((nA + 1 : Nat) : Int) := by
  rw [Int32.toInt_zero]
  exact ⟨rfl, by omega⟩
theorem fl_S {x y : Int32} {nA n : Nat} (hA : nA < 2 ^ 31) (hI : y = nI nA ∧ 0 ≤ x.toInt ∧ x.toInt ≤ (nA : Int) ∧ (nA : Int) + 1 ≤ x.toInt + ((n + 1 : Nat) : Int)) (h : ¬ y ≤ x) : y = nI nA ∧ 0 ≤ (x + 1).toInt ∧ (x + 1).toInt ≤ (nA : Int) ∧ (nA : Int) + 1 ≤ (x + 1).toInt + (n : Int) := by
  rw [i_le, hI.1, nI_toInt hA] at h
  rw [i_up (by omega) (by omega)]
  exact ⟨hI.1, by omega⟩
theorem fl_in {x y : Int32} {nA : Nat} {P : Prop} (hA : nA < 2 ^ 31) (hI : y = nI nA ∧ 0 ≤ x.toInt ∧ P) (h : ¬ y ≤ x) : vp_in x nA := by
  rw [i_le, hI.1, nI_toInt hA] at h
  rw [vp_in_iff]
  omega
theorem nft_0 {c : Int32} {nr : Nat} (h : c = nI nr) (hn : nr ≤ 16) : -1 ≤ (c - 1).toInt ∧ (c - 1).toInt + 2 ≤ ((17 : Nat) : Int) := by
  rw [h, nI_m1 (by omega)]
  omega
theorem nft_S {x : Int32} {n : Nat} (hI : -1 ≤ x.toInt ∧ x.toInt + 2 ≤ ((n + 1 : Nat) : Int)) (h : ¬ x < 0) : -1 ≤ (x + (-1)).toInt ∧ (x + (-1)).toInt + 2 ≤ (n : Int) := by
  rw [i_lt, Int32.toInt_zero] at h
  rw [i_dn (by omega)]
  omega
theorem tk_S {x c : Int32} {nr n : Nat} (hn : nr ≤ 16) (hI : c = nI nr ∧ 0 ≤ x.toInt ∧ x.toInt ≤ (nr : Int) ∧ 17 ≤ x.toInt + ((n + 1 : Nat) : Int)) (h : ¬ c ≤ x) : 0 ≤ (x + 1).toInt ∧ (x + 1).toInt ≤ (nr : Int) ∧ 17 ≤ (x + 1).toInt + (n : Int) := by
  rw [i_le, hI.1, nI_toInt (by omega)] at h
  rw [i_up (by omega) (by omega)]
  omega
theorem chan_in {n : Int32} (h : ¬ f_C_isChannel n = 0) : vp_in n 3 := within_inC (m := 2) h (by decide)
abbrev rOk (nr : Nat) (n : Int32) : Prop := 0 ≤ n ∧ n.toNatClampNeg < nr
def rVal (ad : Nat → Nat) (nr : Nat) (n : Int32) : Value := if rOk nr n then .ref (ad (10 + 3 * Int32.toNatClampNeg n)) else .null
def mVal (ad : Nat → Nat) (nm : Nat) (n : Int32) : Value := if rOk nm n then .ref (ad (58 + Int32.toNatClampNeg n)) else .null
theorem rVal_p {ad : Nat → Nat} {nr : Nat} {n : Int32} (h : rOk nr n) : rVal ad nr n = .ref (ad (10 + 3 * Int32.toNatClampNeg n)) := if_pos h
theorem rVal_n {ad : Nat → Nat} {nr : Nat} {n : Int32} (h : ¬ rOk nr n) : rVal ad nr n = .null := if_neg h
theorem mVal_p {ad : Nat → Nat} {nr : Nat} {n : Int32} (h : rOk nr n) : mVal ad nr n = .ref (ad (58 + Int32.toNatClampNeg n)) := if_pos h
theorem mVal_n {ad : Nat → Nat} {nr : Nat} {n : Int32} (h : ¬ rOk nr n) : mVal ad nr n = .null := if_neg h
theorem rfRel_p {ad : Nat → Nat} {nr i : Nat} (h : i < nr) : va_rf (rfRel ad nr i) = .ref (ad (10 + 3 * i)) := by simp [rfRel, va_rf, h]
theorem rfRel_n {ad : Nat → Nat} {nr i : Nat} (h : ¬ i < nr) : va_rf (rfRel ad nr i) = .null := by simp [rfRel, va_rf, h]
theorem tnc {n : Int32} (h : 0 ≤ n.toInt) : ((n.toNatClampNeg : Nat) : Int) = n.toInt := by
  show ((n.toInt.toNat : Nat) : Int) = n.toInt
  omega
theorem rVal_in {ad : Nat → Nat} {nr : Nat} {n : Int32} (h : ¬ f_C_within n 0 15 = 0) : va_rf (rfRel ad nr (Int32.toNatClampNeg n)) = rVal ad nr n := by
  rw [within_ne] at h
  by_cases hq : n.toNatClampNeg < nr
  · rw [rfRel_p hq, rVal_p ⟨h.1, hq⟩]
  · rw [rfRel_n hq, rVal_n (fun z => hq z.2)]
theorem mVal_in {ad : Nat → Nat} {nm : Nat} {n : Int32} (h : ¬ f_C_within n 0 29 = 0) : va_rf (rfMac ad nm (Int32.toNatClampNeg n)) = mVal ad nm n := by
  rw [within_ne] at h
  by_cases hq : n.toNatClampNeg < nm
  · rw [mVal_p ⟨h.1, hq⟩]; simp [rfMac, va_rf, hq]
  · rw [mVal_n (fun z => hq z.2)]; simp [rfMac, va_rf, hq]
theorem rVal_out {ad : Nat → Nat} {nr : Nat} {n : Int32} (h : f_C_within n 0 15 = 0) (hn : nr ≤ 16) : Value.null = rVal ad nr n := by
  rw [within_e, i_le, i_le, Int32.toInt_zero, show (15 : Int32).toInt = 15 from rfl] at h
  refine (rVal_n (fun z => h ?_)).symm
  have z1 := z.1
  have z2 := z.2
  rw [i_le, Int32.toInt_zero] at z1
  have z3 := tnc z1
  omega
theorem mVal_out {ad : Nat → Nat} {nm : Nat} {n : Int32} (h : f_C_within n 0 29 = 0) (hn : nm ≤ 30) : Value.null = mVal ad nm n := by
  rw [within_e, i_le, i_le, Int32.toInt_zero, show (29 : Int32).toInt = 29 from rfl] at h
  refine (mVal_n (fun z => h ?_)).symm
  have z1 := z.1
  have z2 := z.2
  rw [i_le, Int32.toInt_zero] at z1
  have z3 := tnc z1
  omega

def g_A_fill (k nA : Nat) (a1 : Int32) : Nat → S2 → Int32 → Int32 → S2
  | 0, s1, _, _ => s1
  | n + 1, s1, x2, x3 =>
    if x3 ≤ x2 then
      s1
    else
      g_A_fill k nA a1 n (up2 s1 (k) (Int32.toNatClampNeg x2) a1) (x2 + 1) x3
def f_A_fill (s0 : S2) (k nA : Nat) (a1 : Int32) : S2 :=
  g_A_fill k nA a1 (nA + 1) s0 0 (nI nA)
set_option maxHeartbeats 4000000 in
set_option maxRecDepth 100000 in
theorem cc_A_fill (l : Launch) (G : Gx) (A : Nat → Prop) (ad : Nat → Nat) (nr nm : Nat) (hnr : nr ≤ 16) (hnm : nm ≤ 30) (s0 : S2) (k nA : Nat) (hk : ∀ r, cellC G.2 ad nr nm k r = some (.inl (G.2 0, nA, .inl r))) (a1 : Int32) (hA : nA < 2 ^ 31) : Met l y_A_fill ws_A_fill { frames := 0, cells := 0, slots := 0, locals := 0 } (PG G [.ref (ad (k)), .int (a1)] A ad (encC G.2 ad nr nm s0)) (EG G A none ad (encC G.2 ad nr nm (f_A_fill s0 k nA a1))) 0 0 A := by
  refine Met.ofW (cc := c_A_fill) (maxL := 4) (ret := none) (by decide) rfl ?_
  intro p e s m args below meth c s₁ B hml hv
  obtain ⟨rfl, hw, hK⟩ := hv
  have hx := B.exec
  have hb := B.bytes
  have hr := B.returns
  have hts : ∀ w ∈ tbG, w.before [.ref (ad (k)), .int (a1)].toArray s = true := fun w h => atoms_spec (ws := ws_A_fill) B.pre w (List.mem_cons_of_mem _ h)
  have hown : s.vm.findClass "java/util/Arrays" = some m.cls := findClass_of_methodNamed B.named
  have hlocks := B.notSynchronized
  have hS : va_S A s.heap s.heap [] := va_S.rf
  have hw : mwG G A ad (encC G.2 ad nr nm s0) s.heap := hw
  have loop : ∀ (n : Nat) (s1 : S2) (x2 : Int32) (x3 : Int32), x3 = nI nA ∧ 0 ≤ x2.toInt ∧ x2.toInt ≤ nA ∧ nA + 1 ≤ x2.toInt + n → ∀ (H : Heap) (locs : List Loc) (ls : Array Slot), mwG G A ad (encC G.2 ad nr nm s1) H → va_S A s.heap H locs → lv_has ls 4 [(0, .ref (ad (k))), (1, .int (a1)), (2, .int (x2)), (3, .int (x3))] → W p l e (headSpec ws_A_fill { frames := 0, cells := 0, slots := 0, locals := 0 }).room s m [.ref (ad (k)), .int (a1)].toArray below meth c H locs 0 0 (MQ below (EG G A none ad (encC G.2 ad nr nm (g_A_fill k nA a1 n s1 x2 x3))) [.ref (ad (k)), .int (a1)].toArray s 0 0 A) (F0 m 5 ls []) := by
    intro n
    induction n with
    | zero =>
      intro s1 x2 x3 hI
      exact absurd hI (by omega)
    | succ n ih =>
      intro s1 x2 x3 hI H locs ls hw hS hl
      refine lv_iload_n hx hb d_A_fill_5 rfl (lv_at hl 2 rfl) ?_
      refine lv_iload_n hx hb d_A_fill_6 rfl (lv_at hl 3 rfl) ?_
      refine lv_icmp_ge (tgt := 20) hx hb d_A_fill_7 (by decide) (fun h501 => ?_) (fun h501 => ?_)
      · skip
        have e9 : g_A_fill k nA a1 (n + 1) s1 x2 x3 = s1 := by rw [g_A_fill]; exact if_pos h501
        exact mw_vret hx hb hr hw hS ⟨rfl, congrArg (fun z => encC G.2 ad nr nm z) e9.symm⟩ hlocks d_A_fill_20
      · skip
        refine lv_aload_n hx hb d_A_fill_10 rfl (lv_at hl 0 rfl) ?_
        refine lv_iload_n hx hb d_A_fill_11 rfl (lv_at hl 2 rfl) ?_
        refine lv_iload_n hx hb d_A_fill_12 rfl (lv_at hl 1 rfl) ?_
        refine mw_iast hx hb hK.1 hw hS (k) 0 (hk _) rfl (fl_in hA hI h501) d_A_fill_13 (fun H locs hw hS => ?_)
        replace hw := mw_encC (r := upd (s1 (k)) (Int32.toNatClampNeg x2) a1) hw (hk _)
        have hw : mwG G A ad (encC G.2 ad nr nm (up2 s1 (k) (Int32.toNatClampNeg x2) a1)) H := hw
        refine lv_iinc (v := x2 + 1) (lv' := [(2, .int (x2 + 1)), (0, .ref (ad (k))), (1, .int (a1)), (3, .int (x3))]) hx hb d_A_fill_14 hl (k := 2) rfl (by first | rfl | decide) (by decide) rfl (fun ls hl => ?_)
        refine lv_goto (tgt := 5) hx hb d_A_fill_17 (by decide) ?_
        have e9 : g_A_fill k nA a1 (n + 1) s1 x2 x3 = g_A_fill k nA a1 n (up2 s1 (k) (Int32.toNatClampNeg x2) a1) (x2 + 1) x3 := by rw [g_A_fill]; exact if_neg h501
        rw [e9]
        exact ih (up2 s1 (k) (Int32.toNatClampNeg x2) a1) (x2 + 1) x3 (fl_S hA hI h501) _ _ _ hw hS (lv_sub hl [1, 2, 0, 3] rfl)
  have hl := lv_entry ([.ref (ad (k)), .int (a1)]) (n := 4) (Nat.le_of_ble_eq_true rfl)
  rw [lg_entry_eq]
  generalize (lg_sl ([.ref (ad (k)), .int (a1)]) ++ List.replicate (4 - (lg_sl ([.ref (ad (k)), .int (a1)])).length) Slot.unset).toArray = ls at hl ⊢
  have hl : lv_has ls 4 [(0, .ref (ad (k))), (1, .int (a1))] := hl
  refine lv_iconst (v := 0) hx hb d_A_fill_0 (by decide) ?_
  refine lv_istore_n (lv' := [(2, .int (0)), (0, .ref (ad (k))), (1, .int (a1))]) hx hb d_A_fill_1 rfl hl (by decide) rfl (fun ls hl => ?_)
  refine lv_aload_n hx hb d_A_fill_2 rfl (lv_at hl 1 rfl) ?_
  refine mw_alen (v := nI nA) hx hb hK.1 hw (k) 0 (hk _) rfl (by first | rfl | decide) d_A_fill_3 ?_
  refine lv_istore_n (lv' := [(3, .int (nI nA)), (2, .int (0)), (0, .ref (ad (k))), (1, .int (a1))]) hx hb d_A_fill_4 rfl hl (by decide) rfl (fun ls hl => ?_)
  have e9 : f_A_fill s0 k nA a1 = g_A_fill k nA a1 (nA + 1) s0 0 (nI nA) := rfl
  rw [e9]
  exact loop (nA + 1) s0 0 (nI nA) (fl_0 hA) _ _ _ hw hS (lv_sub hl [2, 3, 1, 0] rfl)

def f_D_sizeAt (s0 : S2) (k nA : Nat) (a1 : Int32) : Int32 :=
  if (f_C_within a1 0 ((nI nA) - 1)) = 0 then
    2147483647
  else
    s0 (k) (Int32.toNatClampNeg a1)
set_option maxHeartbeats 4000000 in
set_option maxRecDepth 100000 in
theorem cc_D_sizeAt (l : Launch) (G : Gx) (A : Nat → Prop) (ad : Nat → Nat) (nr nm : Nat) (hnr : nr ≤ 16) (hnm : nm ≤ 30) (s0 : S2) (k nA : Nat) (hk : ∀ r, cellC G.2 ad nr nm k r = some (.inl (G.2 0, nA, .inl r))) (a1 : Int32) (hA : nA < 2 ^ 31) : Met l y_D_sizeAt ws_D_sizeAt { frames := 1, cells := 0, slots := 0, locals := 22 } (PG G [.ref (ad (k)), .int (a1)] A ad (encC G.2 ad nr nm s0)) (EG G A (some (.int (f_D_sizeAt s0 k nA a1))) ad (encC G.2 ad nr nm s0)) 0 0 A := by
  refine Met.ofW (cc := c_D_sizeAt) (maxL := 2) (ret := (some .int)) (by decide) rfl ?_
  intro p e s m args below meth c s₁ B hml hv
  obtain ⟨rfl, hw, hK⟩ := hv
  have hx := B.exec
  have hb := B.bytes
  have hr := B.returns
  have hts : ∀ w ∈ tbG, w.before [.ref (ad (k)), .int (a1)].toArray s = true := fun w h => atoms_spec (ws := ws_D_sizeAt) B.pre w (List.mem_cons_of_mem _ h)
  have hown : s.vm.findClass "RollStages$Deltas" = some m.cls := findClass_of_methodNamed B.named
  have hlocks := B.notSynchronized
  have hS : va_S A s.heap s.heap [] := va_S.rf
  have hw : mwG G A ad (encC G.2 ad nr nm s0) s.heap := hw
  have hl := lv_entry ([.ref (ad (k)), .int (a1)]) (n := 2) (Nat.le_of_ble_eq_true rfl)
  rw [lg_entry_eq]
  generalize (lg_sl ([.ref (ad (k)), .int (a1)]) ++ List.replicate (2 - (lg_sl ([.ref (ad (k)), .int (a1)])).length) Slot.unset).toArray = ls at hl ⊢
  have hl : lv_has ls 2 [(0, .ref (ad (k))), (1, .int (a1))] := hl
  refine lv_iload_n hx hb d_D_sizeAt_0 rfl (lv_at hl 1 rfl) ?_
  refine lv_iconst (v := 0) hx hb d_D_sizeAt_1 (by decide) ?_
  refine lv_aload_n hx hb d_D_sizeAt_2 rfl (lv_at hl 0 rfl) ?_
  refine mw_alen (v := nI nA) hx hb hK.1 hw (k) 0 (hk _) rfl (by first | rfl | decide) d_D_sizeAt_3 ?_
  refine lv_iconst (v := 1) hx hb d_D_sizeAt_4 (by decide) ?_
  refine lv_isub hx hb d_D_sizeAt_5 ?_
  refine gSN (As := [.int (a1), .int (0), .int ((nI nA) - 1)]) (rest := []) (st1 := [.int (f_C_within a1 0 ((nI nA) - 1))]) ⟨hx, hb, hml, hown, hts⟩ (cc_C_within l G A ad nr nm hnr hnm s0 a1 0 ((nI nA) - 1)) tw_89 nw_18 tw_88 tw_1 hd_C_within rfl rfl ⟨Nat.le_of_ble_eq_true rfl, Nat.le_of_ble_eq_true rfl⟩ hK hw hS hl.1 rfl (Nat.le_of_ble_eq_true rfl) ⟨Nat.zero_le _, Nat.zero_le _⟩ d_D_sizeAt_6 rfl (fun H locs hw hS => ?_)
  refine lv_if_eq (tgt := 18) hx hb d_D_sizeAt_9 (by decide) (fun h1 => ?_) (fun h1 => ?_)
  · skip
    refine lv_ldc (v := 2147483647) hx hb hown (hts _ tw_371) d_D_sizeAt_18 ?_
    have e9 : f_D_sizeAt s0 k nA a1 = 2147483647 := by unfold f_D_sizeAt; exact if_pos h1
    exact mw_iret hx hb hr rfl hw hS (congrArg (fun z => some (Value.int z)) e9.symm) ⟨rfl, rfl⟩ hlocks d_D_sizeAt_20
  · skip
    refine lv_aload_n hx hb d_D_sizeAt_12 rfl (lv_at hl 0 rfl) ?_
    refine lv_iload_n hx hb d_D_sizeAt_13 rfl (lv_at hl 1 rfl) ?_
    refine mw_iald hx hb hK.1 hw (k) 0 (hk _) rfl (within_inN h1 hA) d_D_sizeAt_14 ?_
    refine lv_goto (tgt := 20) hx hb d_D_sizeAt_15 (by decide) ?_
    have e9 : f_D_sizeAt s0 k nA a1 = s0 (k) (Int32.toNatClampNeg a1) := by unfold f_D_sizeAt; exact if_neg h1
    exact mw_iret hx hb hr rfl hw hS (congrArg (fun z => some (Value.int z)) e9.symm) ⟨rfl, rfl⟩ hlocks d_D_sizeAt_20

def f_D_lower (s0 : S2) (k nA : Nat) (a1 : Int32) (a2 : Int32) : S2 :=
  if (f_C_within a1 0 ((nI nA) - 1)) = 0 then
    s0
  else
    if (s0 (k) (Int32.toNatClampNeg a1)) ≤ a2 then
      s0
    else
      up2 s0 (k) (Int32.toNatClampNeg a1) a2
set_option maxHeartbeats 4000000 in
set_option maxRecDepth 100000 in
theorem cc_D_lower (l : Launch) (G : Gx) (A : Nat → Prop) (ad : Nat → Nat) (nr nm : Nat) (hnr : nr ≤ 16) (hnm : nm ≤ 30) (s0 : S2) (k nA : Nat) (hk : ∀ r, cellC G.2 ad nr nm k r = some (.inl (G.2 0, nA, .inl r))) (a1 : Int32) (a2 : Int32) (hA : nA < 2 ^ 31) : Met l y_D_lower ws_D_lower { frames := 1, cells := 0, slots := 0, locals := 22 } (PG G [.ref (ad (k)), .int (a1), .int (a2)] A ad (encC G.2 ad nr nm s0)) (EG G A none ad (encC G.2 ad nr nm (f_D_lower s0 k nA a1 a2))) 0 0 A := by
  refine Met.ofW (cc := c_D_lower) (maxL := 3) (ret := none) (by decide) rfl ?_
  intro p e s m args below meth c s₁ B hml hv
  obtain ⟨rfl, hw, hK⟩ := hv
  have hx := B.exec
  have hb := B.bytes
  have hr := B.returns
  have hts : ∀ w ∈ tbG, w.before [.ref (ad (k)), .int (a1), .int (a2)].toArray s = true := fun w h => atoms_spec (ws := ws_D_lower) B.pre w (List.mem_cons_of_mem _ h)
  have hown : s.vm.findClass "RollStages$Deltas" = some m.cls := findClass_of_methodNamed B.named
  have hlocks := B.notSynchronized
  have hS : va_S A s.heap s.heap [] := va_S.rf
  have hw : mwG G A ad (encC G.2 ad nr nm s0) s.heap := hw
  have hl := lv_entry ([.ref (ad (k)), .int (a1), .int (a2)]) (n := 3) (Nat.le_of_ble_eq_true rfl)
  rw [lg_entry_eq]
  generalize (lg_sl ([.ref (ad (k)), .int (a1), .int (a2)]) ++ List.replicate (3 - (lg_sl ([.ref (ad (k)), .int (a1), .int (a2)])).length) Slot.unset).toArray = ls at hl ⊢
  have hl : lv_has ls 3 [(0, .ref (ad (k))), (1, .int (a1)), (2, .int (a2))] := hl
  refine lv_iload_n hx hb d_D_lower_0 rfl (lv_at hl 1 rfl) ?_
  refine lv_iconst (v := 0) hx hb d_D_lower_1 (by decide) ?_
  refine lv_aload_n hx hb d_D_lower_2 rfl (lv_at hl 0 rfl) ?_
  refine mw_alen (v := nI nA) hx hb hK.1 hw (k) 0 (hk _) rfl (by first | rfl | decide) d_D_lower_3 ?_
  refine lv_iconst (v := 1) hx hb d_D_lower_4 (by decide) ?_
  refine lv_isub hx hb d_D_lower_5 ?_
  refine gSN (As := [.int (a1), .int (0), .int ((nI nA) - 1)]) (rest := []) (st1 := [.int (f_C_within a1 0 ((nI nA) - 1))]) ⟨hx, hb, hml, hown, hts⟩ (cc_C_within l G A ad nr nm hnr hnm s0 a1 0 ((nI nA) - 1)) tw_89 nw_18 tw_88 tw_1 hd_C_within rfl rfl ⟨Nat.le_of_ble_eq_true rfl, Nat.le_of_ble_eq_true rfl⟩ hK hw hS hl.1 rfl (Nat.le_of_ble_eq_true rfl) ⟨Nat.zero_le _, Nat.zero_le _⟩ d_D_lower_6 rfl (fun H locs hw hS => ?_)
  refine lv_if_eq (tgt := 23) hx hb d_D_lower_9 (by decide) (fun h1 => ?_) (fun h1 => ?_)
  · skip
    have e9 : f_D_lower s0 k nA a1 a2 = s0 := by unfold f_D_lower; exact if_pos h1
    exact mw_vret hx hb hr hw hS ⟨rfl, congrArg (fun z => encC G.2 ad nr nm z) e9.symm⟩ hlocks d_D_lower_23
  · skip
    refine lv_iload_n hx hb d_D_lower_12 rfl (lv_at hl 2 rfl) ?_
    refine lv_aload_n hx hb d_D_lower_13 rfl (lv_at hl 0 rfl) ?_
    refine lv_iload_n hx hb d_D_lower_14 rfl (lv_at hl 1 rfl) ?_
    refine mw_iald hx hb hK.1 hw (k) 0 (hk _) rfl (within_inN h1 hA) d_D_lower_15 ?_
    refine lv_icmp_ge (tgt := 23) hx hb d_D_lower_16 (by decide) (fun h2 => ?_) (fun h2 => ?_)
    · skip
      have e9 : f_D_lower s0 k nA a1 a2 = s0 := by unfold f_D_lower; exact (if_neg h1).trans (if_pos h2)
      exact mw_vret hx hb hr hw hS ⟨rfl, congrArg (fun z => encC G.2 ad nr nm z) e9.symm⟩ hlocks d_D_lower_23
    · skip
      refine lv_aload_n hx hb d_D_lower_19 rfl (lv_at hl 0 rfl) ?_
      refine lv_iload_n hx hb d_D_lower_20 rfl (lv_at hl 1 rfl) ?_
      refine lv_iload_n hx hb d_D_lower_21 rfl (lv_at hl 2 rfl) ?_
      refine mw_iast hx hb hK.1 hw hS (k) 0 (hk _) rfl (within_inN h1 hA) d_D_lower_22 (fun H locs hw hS => ?_)
      replace hw := mw_encC (r := upd (s0 (k)) (Int32.toNatClampNeg a1) a2) hw (hk _)
      have hw : mwG G A ad (encC G.2 ad nr nm (up2 s0 (k) (Int32.toNatClampNeg a1) a2)) H := hw
      have e9 : f_D_lower s0 k nA a1 a2 = up2 s0 (k) (Int32.toNatClampNeg a1) a2 := by unfold f_D_lower; exact (if_neg h1).trans (if_neg h2)
      exact mw_vret hx hb hr hw hS ⟨rfl, congrArg (fun z => encC G.2 ad nr nm z) e9.symm⟩ hlocks d_D_lower_23

def f_D_setWay (s0 : S2) (a1 : Int32) (a2 : Int32) : S2 :=
  up2 (up2 s0 (4) 6 a1) (4) 7 a2
set_option maxHeartbeats 4000000 in
set_option maxRecDepth 100000 in
theorem cc_D_setWay (l : Launch) (G : Gx) (A : Nat → Prop) (ad : Nat → Nat) (nr nm : Nat) (hnr : nr ≤ 16) (hnm : nm ≤ 30) (s0 : S2) (a1 : Int32) (a2 : Int32) : Met l y_D_setWay ws_D_setWay { frames := 0, cells := 0, slots := 0, locals := 0 } (PG G [.ref (ad (4)), .int (a1), .int (a2)] A ad (encC G.2 ad nr nm s0)) (EG G A none ad (encC G.2 ad nr nm (f_D_setWay s0 a1 a2))) 0 0 A := by
  refine Met.ofW (cc := c_D_setWay) (maxL := 3) (ret := none) (by decide) rfl ?_
  intro p e s m args below meth c s₁ B hml hv
  obtain ⟨rfl, hw, hK⟩ := hv
  have hx := B.exec
  have hb := B.bytes
  have hr := B.returns
  have hts : ∀ w ∈ tbG, w.before [.ref (ad (4)), .int (a1), .int (a2)].toArray s = true := fun w h => atoms_spec (ws := ws_D_setWay) B.pre w (List.mem_cons_of_mem _ h)
  have hown : s.vm.findClass "RollStages$Deltas" = some m.cls := findClass_of_methodNamed B.named
  have hlocks := B.notSynchronized
  have hS : va_S A s.heap s.heap [] := va_S.rf
  have hw : mwG G A ad (encC G.2 ad nr nm s0) s.heap := hw
  have hl := lv_entry ([.ref (ad (4)), .int (a1), .int (a2)]) (n := 3) (Nat.le_of_ble_eq_true rfl)
  rw [lg_entry_eq]
  generalize (lg_sl ([.ref (ad (4)), .int (a1), .int (a2)]) ++ List.replicate (3 - (lg_sl ([.ref (ad (4)), .int (a1), .int (a2)])).length) Slot.unset).toArray = ls at hl ⊢
  have hl : lv_has ls 3 [(0, .ref (ad (4))), (1, .int (a1)), (2, .int (a2))] := hl
  refine lv_aload_n hx hb d_D_setWay_0 rfl (lv_at hl 0 rfl) ?_
  refine lv_iload_n hx hb d_D_setWay_1 rfl (lv_at hl 1 rfl) ?_
  refine mw_put (v := .int (a1)) hx hb hts in_D ty_D ty_D_ok n_D hown hK.1 hw hS (4) cC_4 rfl 6 (by decide) (hts _ tw_33) rfl rfl rfl (Nat.le_of_ble_eq_true rfl) d_D_setWay_2 (fun H locs hw hS => ?_)
  replace hw := mw_encC (r := upd (s0 (4)) 6 a1) hw cC_4
  have hw : mwG G A ad (encC G.2 ad nr nm (up2 s0 (4) 6 a1)) H := hw
  refine lv_aload_n hx hb d_D_setWay_5 rfl (lv_at hl 0 rfl) ?_
  refine lv_iload_n hx hb d_D_setWay_6 rfl (lv_at hl 2 rfl) ?_
  refine mw_put (v := .int (a2)) hx hb hts in_D ty_D ty_D_ok n_D hown hK.1 hw hS (4) cC_4 rfl 7 (by decide) (hts _ tw_35) rfl rfl rfl (Nat.le_of_ble_eq_true rfl) d_D_setWay_7 (fun H locs hw hS => ?_)
  replace hw := mw_encC (r := upd ((up2 s0 (4) 6 a1) (4)) 7 a2) hw cC_4
  have hw : mwG G A ad (encC G.2 ad nr nm (up2 (up2 s0 (4) 6 a1) (4) 7 a2)) H := hw
  have e9 : f_D_setWay s0 a1 a2 = up2 (up2 s0 (4) 6 a1) (4) 7 a2 := by unfold f_D_setWay; exact rfl
  exact mw_vret hx hb hr hw hS ⟨rfl, congrArg (fun z => encC G.2 ad nr nm z) e9.symm⟩ hlocks d_D_setWay_10

theorem fillg_fr (k nA : Nat) (a1 : Int32) : ∀ (n : Nat) (s : S2) (x2 x3 : Int32) (q : Nat), q ≠ k → g_A_fill k nA a1 n s x2 x3 q = s q := by
  intro n
  induction n with
  | zero => intro s x2 x3 q h; rfl
  | succ n ih =>
    intro s x2 x3 q h
    rw [g_A_fill]
    split
    · rfl
    · rw [ih _ _ _ _ h, up2_ne h]
theorem fill_fr (s : S2) (k nA : Nat) (a1 : Int32) {q : Nat} (h : q ≠ k) : f_A_fill s k nA a1 q = s q := fillg_fr k nA a1 _ s _ _ q h
theorem lower_fr {s : S2} {k nA : Nat} {a1 a2 : Int32} {q : Nat} (h : q ≠ k) : f_D_lower s k nA a1 a2 q = s q := by
  unfold f_D_lower
  repeat' split
  all_goals first | rfl | exact up2_ne h
theorem setWay_3 (s : S2) (a1 a2 : Int32) : f_D_setWay s a1 a2 4 3 = s 4 3 := by
  unfold f_D_setWay
  rw [up2_at, if_neg (by decide), up2_at, if_neg (by decide)]

def g_D_placeOf (s0 : S2) (a1 : Int32) (a2 : Int32) : Nat → Int32 → Int32
  | 0, _ => 0
  | n + 1, x3 =>
    if (s0 4 3) ≤ x3 then
      s0 4 3
    else
      if (s0 (5) (Int32.toNatClampNeg x3)) = a1 then
        if (s0 (6) (Int32.toNatClampNeg x3)) = a2 then
          x3
        else
          g_D_placeOf s0 a1 a2 n (x3 + 1)
      else
        g_D_placeOf s0 a1 a2 n (x3 + 1)
def f_D_placeOf (s0 : S2) (a1 : Int32) (a2 : Int32) : Int32 :=
  g_D_placeOf s0 a1 a2 41 0
set_option maxHeartbeats 4000000 in
set_option maxRecDepth 100000 in
theorem cc_D_placeOf (l : Launch) (G : Gx) (A : Nat → Prop) (ad : Nat → Nat) (nr nm : Nat) (hnr : nr ≤ 16) (hnm : nm ≤ 30) (s0 : S2) (a1 : Int32) (a2 : Int32) (hct : 0 ≤ (s0 4 3).toInt ∧ (s0 4 3).toInt ≤ 40) : Met l y_D_placeOf ws_D_placeOf { frames := 0, cells := 0, slots := 0, locals := 0 } (PG G [.ref (ad (4)), .int (a1), .int (a2)] A ad (encC G.2 ad nr nm s0)) (EG G A (some (.int (f_D_placeOf s0 a1 a2))) ad (encC G.2 ad nr nm s0)) 0 0 A := by
  refine Met.ofW (cc := c_D_placeOf) (maxL := 4) (ret := (some .int)) (by decide) rfl ?_
  intro p e s m args below meth c s₁ B hml hv
  obtain ⟨rfl, hw, hK⟩ := hv
  have hx := B.exec
  have hb := B.bytes
  have hr := B.returns
  have hts : ∀ w ∈ tbG, w.before [.ref (ad (4)), .int (a1), .int (a2)].toArray s = true := fun w h => atoms_spec (ws := ws_D_placeOf) B.pre w (List.mem_cons_of_mem _ h)
  have hown : s.vm.findClass "RollStages$Deltas" = some m.cls := findClass_of_methodNamed B.named
  have hlocks := B.notSynchronized
  have hS : va_S A s.heap s.heap [] := va_S.rf
  have hw : mwG G A ad (encC G.2 ad nr nm s0) s.heap := hw
  have loop : ∀ (n : Nat) (x3 : Int32), 0 ≤ x3.toInt ∧ x3.toInt ≤ 40 ∧ 41 ≤ x3.toInt + n → ∀ (H : Heap) (locs : List Loc) (ls : Array Slot), mwG G A ad (encC G.2 ad nr nm s0) H → va_S A s.heap H locs → lv_has ls 4 [(0, .ref (ad (4))), (1, .int (a1)), (2, .int (a2)), (3, .int (x3))] → W p l e (headSpec ws_D_placeOf { frames := 0, cells := 0, slots := 0, locals := 0 }).room s m [.ref (ad (4)), .int (a1), .int (a2)].toArray below meth c H locs 0 0 (MQ below (EG G A (some (.int (g_D_placeOf s0 a1 a2 n x3))) ad (encC G.2 ad nr nm s0)) [.ref (ad (4)), .int (a1), .int (a2)].toArray s 0 0 A) (F0 m 2 ls []) := by
    intro n
    induction n with
    | zero =>
      intro x3 hI
      exact absurd hI (by omega)
    | succ n ih =>
      intro x3 hI H locs ls hw hS hl
      refine lv_iload_n hx hb d_D_placeOf_2 rfl (lv_at hl 3 rfl) ?_
      refine lv_aload_n hx hb d_D_placeOf_3 rfl (lv_at hl 0 rfl) ?_
      refine mw_get (v := .int (s0 4 3)) hx hb hts in_D hown hK.1 hw (4) cC_4 rfl 3 (by decide) (hts _ tw_30) rfl d_D_placeOf_4 ?_
      refine lv_icmp_ge (tgt := 38) hx hb d_D_placeOf_7 (by decide) (fun h501 => ?_) (fun h501 => ?_)
      · skip
        refine lv_aload_n hx hb d_D_placeOf_38 rfl (lv_at hl 0 rfl) ?_
        refine mw_get (v := .int (s0 4 3)) hx hb hts in_D hown hK.1 hw (4) cC_4 rfl 3 (by decide) (hts _ tw_30) rfl d_D_placeOf_39 ?_
        have e9 : g_D_placeOf s0 a1 a2 (n + 1) x3 = s0 4 3 := by rw [g_D_placeOf]; exact if_pos h501
        exact mw_iret hx hb hr rfl hw hS (congrArg (fun z => some (Value.int z)) e9.symm) ⟨rfl, rfl⟩ hlocks d_D_placeOf_42
      · skip
        refine lv_aload_n hx hb d_D_placeOf_10 rfl (lv_at hl 0 rfl) ?_
        refine mw_get (v := .ref (ad (5))) hx hb hts in_D hown hK.1 hw (4) cC_4 rfl 0 (by decide) (hts _ tw_27) rfl d_D_placeOf_11 ?_
        refine lv_iload_n hx hb d_D_placeOf_14 rfl (lv_at hl 3 rfl) ?_
        refine mw_iald hx hb hK.1 hw (5) 0 cC_5 rfl (ct_in hct hI.1 h501) d_D_placeOf_15 ?_
        refine lv_iload_n hx hb d_D_placeOf_16 rfl (lv_at hl 1 rfl) ?_
        refine lv_icmp_ne (tgt := 32) hx hb d_D_placeOf_17 (by decide) (fun h502 => ?_) (fun h502 => ?_)
        · skip
          refine lv_iinc (v := x3 + 1) (lv' := [(3, .int (x3 + 1)), (0, .ref (ad (4))), (1, .int (a1)), (2, .int (a2))]) hx hb d_D_placeOf_32 hl (k := 3) rfl (by first | rfl | decide) (by decide) rfl (fun ls hl => ?_)
          refine lv_goto (tgt := 2) hx hb d_D_placeOf_35 (by decide) ?_
          have e9 : g_D_placeOf s0 a1 a2 (n + 1) x3 = g_D_placeOf s0 a1 a2 n (x3 + 1) := by rw [g_D_placeOf]; exact (if_neg h501).trans (if_neg h502)
          rw [e9]
          exact ih (x3 + 1) (ct_S hct hI h501) _ _ _ hw hS (lv_sub hl [1, 2, 3, 0] rfl)
        · skip
          refine lv_aload_n hx hb d_D_placeOf_20 rfl (lv_at hl 0 rfl) ?_
          refine mw_get (v := .ref (ad (6))) hx hb hts in_D hown hK.1 hw (4) cC_4 rfl 1 (by decide) (hts _ tw_28) rfl d_D_placeOf_21 ?_
          refine lv_iload_n hx hb d_D_placeOf_24 rfl (lv_at hl 3 rfl) ?_
          refine mw_iald hx hb hK.1 hw (6) 0 cC_6 rfl (ct_in hct hI.1 h501) d_D_placeOf_25 ?_
          refine lv_iload_n hx hb d_D_placeOf_26 rfl (lv_at hl 2 rfl) ?_
          refine lv_icmp_ne (tgt := 32) hx hb d_D_placeOf_27 (by decide) (fun h503 => ?_) (fun h503 => ?_)
          · skip
            refine lv_iinc (v := x3 + 1) (lv' := [(3, .int (x3 + 1)), (0, .ref (ad (4))), (1, .int (a1)), (2, .int (a2))]) hx hb d_D_placeOf_32 hl (k := 3) rfl (by first | rfl | decide) (by decide) rfl (fun ls hl => ?_)
            refine lv_goto (tgt := 2) hx hb d_D_placeOf_35 (by decide) ?_
            have e9 : g_D_placeOf s0 a1 a2 (n + 1) x3 = g_D_placeOf s0 a1 a2 n (x3 + 1) := by rw [g_D_placeOf]; exact (if_neg h501).trans ((if_pos h502).trans (if_neg h503))
            rw [e9]
            exact ih (x3 + 1) (ct_S hct hI h501) _ _ _ hw hS (lv_sub hl [1, 2, 3, 0] rfl)
          · skip
            refine lv_iload_n hx hb d_D_placeOf_30 rfl (lv_at hl 3 rfl) ?_
            have e9 : g_D_placeOf s0 a1 a2 (n + 1) x3 = x3 := by rw [g_D_placeOf]; exact (if_neg h501).trans ((if_pos h502).trans (if_pos h503))
            exact mw_iret hx hb hr rfl hw hS (congrArg (fun z => some (Value.int z)) e9.symm) ⟨rfl, rfl⟩ hlocks d_D_placeOf_31
  have hl := lv_entry ([.ref (ad (4)), .int (a1), .int (a2)]) (n := 4) (Nat.le_of_ble_eq_true rfl)
  rw [lg_entry_eq]
  generalize (lg_sl ([.ref (ad (4)), .int (a1), .int (a2)]) ++ List.replicate (4 - (lg_sl ([.ref (ad (4)), .int (a1), .int (a2)])).length) Slot.unset).toArray = ls at hl ⊢
  have hl : lv_has ls 4 [(0, .ref (ad (4))), (1, .int (a1)), (2, .int (a2))] := hl
  refine lv_iconst (v := 0) hx hb d_D_placeOf_0 (by decide) ?_
  refine lv_istore_n (lv' := [(3, .int (0)), (0, .ref (ad (4))), (1, .int (a1)), (2, .int (a2))]) hx hb d_D_placeOf_1 rfl hl (by decide) rfl (fun ls hl => ?_)
  have e9 : f_D_placeOf s0 a1 a2 = g_D_placeOf s0 a1 a2 41 0 := rfl
  rw [e9]
  exact loop 41 0 (by decide) _ _ _ hw hS (lv_sub hl [1, 2, 3, 0] rfl)

def f_D_put (s0 : S2) (a1 : Int32) (a2 : Int32) (a3 : Int32) : Int32 × S2 :=
  if (f_C_within (f_D_placeOf s0 a1 a2) 0 39) = 0 then
    (0, s0)
  else
    (1, up2 (up2 (up2 (up2 s0 (5) (Int32.toNatClampNeg (f_D_placeOf s0 a1 a2)) a1) (6) (Int32.toNatClampNeg (f_D_placeOf s0 a1 a2)) a2) (7) (Int32.toNatClampNeg (f_D_placeOf s0 a1 a2)) a3) (4) 3 (if ((up2 (up2 (up2 s0 (5) (Int32.toNatClampNeg (f_D_placeOf s0 a1 a2)) a1) (6) (Int32.toNatClampNeg (f_D_placeOf s0 a1 a2)) a2) (7) (Int32.toNatClampNeg (f_D_placeOf s0 a1 a2)) a3) 4 3) < ((f_D_placeOf s0 a1 a2) + 1) then (f_D_placeOf s0 a1 a2) + 1 else (up2 (up2 (up2 s0 (5) (Int32.toNatClampNeg (f_D_placeOf s0 a1 a2)) a1) (6) (Int32.toNatClampNeg (f_D_placeOf s0 a1 a2)) a2) (7) (Int32.toNatClampNeg (f_D_placeOf s0 a1 a2)) a3) 4 3))
theorem fb_D_put (s0 : S2) (a1 : Int32) (a2 : Int32) (a3 : Int32) : narrow .boolean (.int ((f_D_put s0 a1 a2 a3).1)) = .int ((f_D_put s0 a1 a2 a3).1) := by
  unfold f_D_put
  repeat' split
  all_goals first | rfl | exact narrow_b0 | exact narrow_b1
set_option maxHeartbeats 4000000 in
set_option maxRecDepth 100000 in
theorem cc_D_put (l : Launch) (G : Gx) (A : Nat → Prop) (ad : Nat → Nat) (nr nm : Nat) (hnr : nr ≤ 16) (hnm : nm ≤ 30) (s0 : S2) (a1 : Int32) (a2 : Int32) (a3 : Int32) (hct : 0 ≤ (s0 4 3).toInt ∧ (s0 4 3).toInt ≤ 40) : Met l y_D_put ws_D_put { frames := 1, cells := 0, slots := 0, locals := 23 } (PG G [.ref (ad (4)), .int (a1), .int (a2), .int (a3)] A ad (encC G.2 ad nr nm s0)) (EG G A (some (.int (f_D_put s0 a1 a2 a3).1)) ad (encC G.2 ad nr nm ((f_D_put s0 a1 a2 a3).2))) 0 0 A := by
  refine Met.ofW (cc := c_D_put) (maxL := 5) (ret := (some .boolean)) (by decide) rfl ?_
  intro p e s m args below meth c s₁ B hml hv
  obtain ⟨rfl, hw, hK⟩ := hv
  have hx := B.exec
  have hb := B.bytes
  have hr := B.returns
  have hts : ∀ w ∈ tbG, w.before [.ref (ad (4)), .int (a1), .int (a2), .int (a3)].toArray s = true := fun w h => atoms_spec (ws := ws_D_put) B.pre w (List.mem_cons_of_mem _ h)
  have hown : s.vm.findClass "RollStages$Deltas" = some m.cls := findClass_of_methodNamed B.named
  have hlocks := B.notSynchronized
  have hS : va_S A s.heap s.heap [] := va_S.rf
  have hw : mwG G A ad (encC G.2 ad nr nm s0) s.heap := hw
  have hl := lv_entry ([.ref (ad (4)), .int (a1), .int (a2), .int (a3)]) (n := 5) (Nat.le_of_ble_eq_true rfl)
  rw [lg_entry_eq]
  generalize (lg_sl ([.ref (ad (4)), .int (a1), .int (a2), .int (a3)]) ++ List.replicate (5 - (lg_sl ([.ref (ad (4)), .int (a1), .int (a2), .int (a3)])).length) Slot.unset).toArray = ls at hl ⊢
  have hl : lv_has ls 5 [(0, .ref (ad (4))), (1, .int (a1)), (2, .int (a2)), (3, .int (a3))] := hl
  refine lv_aload_n hx hb d_D_put_0 rfl (lv_at hl 0 rfl) ?_
  refine lv_iload_n hx hb d_D_put_1 rfl (lv_at hl 1 rfl) ?_
  refine lv_iload_n hx hb d_D_put_2 rfl (lv_at hl 2 rfl) ?_
  refine gV (As := [.int (a1), .int (a2)]) (rest := []) (st1 := [.int (f_D_placeOf s0 a1 a2)]) ⟨hx, hb, hml, hown, hts⟩ (cc_D_placeOf l G A ad nr nm hnr hnm s0 a1 a2 hct) cC_4 rfl tw_352 tw_349 tw_351 tw_p27 tw_2 hd_D_placeOf rfl rfl ⟨Nat.le_of_ble_eq_true rfl, Nat.le_of_ble_eq_true rfl⟩ hK hw hS hl.1 rfl (Nat.le_of_ble_eq_true rfl) ⟨Nat.zero_le _, Nat.zero_le _⟩ d_D_put_3 rfl (fun H locs hw hS => ?_)
  refine lv_istore (lv' := [(4, .int (f_D_placeOf s0 a1 a2)), (0, .ref (ad (4))), (1, .int (a1)), (2, .int (a2)), (3, .int (a3))]) hx hb d_D_put_6 hl (by decide) rfl (fun ls hl => ?_)
  refine lv_iload hx hb d_D_put_8 (lv_at hl 0 rfl) ?_
  refine lv_iconst (v := 0) hx hb d_D_put_10 (by decide) ?_
  refine lv_bipush (v := 39) hx hb d_D_put_11 (by decide) ?_
  refine gSN (As := [.int (f_D_placeOf s0 a1 a2), .int (0), .int (39)]) (rest := []) (st1 := [.int (f_C_within (f_D_placeOf s0 a1 a2) 0 39)]) ⟨hx, hb, hml, hown, hts⟩ (cc_C_within l G A ad nr nm hnr hnm s0 (f_D_placeOf s0 a1 a2) 0 39) tw_89 nw_18 tw_88 tw_1 hd_C_within rfl rfl ⟨Nat.le_of_ble_eq_true rfl, Nat.le_of_ble_eq_true rfl⟩ hK hw hS hl.1 rfl (Nat.le_of_ble_eq_true rfl) ⟨Nat.zero_le _, Nat.zero_le _⟩ d_D_put_13 rfl (fun H locs hw hS => ?_)
  refine lv_if_ne (tgt := 21) hx hb d_D_put_16 (by decide) (fun h1 => ?_) (fun h1 => ?_)
  · skip
    refine lv_aload_n hx hb d_D_put_21 rfl (lv_at hl 1 rfl) ?_
    refine mw_get (v := .ref (ad (5))) hx hb hts in_D hown hK.1 hw (4) cC_4 rfl 0 (by decide) (hts _ tw_27) rfl d_D_put_22 ?_
    refine lv_iload hx hb d_D_put_25 (lv_at hl 0 rfl) ?_
    refine lv_iload_n hx hb d_D_put_27 rfl (lv_at hl 2 rfl) ?_
    refine mw_iast hx hb hK.1 hw hS (5) 0 cC_5 rfl (within_inC h1 (by decide)) d_D_put_28 (fun H locs hw hS => ?_)
    replace hw := mw_encC (r := upd (s0 (5)) (Int32.toNatClampNeg (f_D_placeOf s0 a1 a2)) a1) hw cC_5
    have hw : mwG G A ad (encC G.2 ad nr nm (up2 s0 (5) (Int32.toNatClampNeg (f_D_placeOf s0 a1 a2)) a1)) H := hw
    refine lv_aload_n hx hb d_D_put_29 rfl (lv_at hl 1 rfl) ?_
    refine mw_get (v := .ref (ad (6))) hx hb hts in_D hown hK.1 hw (4) cC_4 rfl 1 (by decide) (hts _ tw_28) rfl d_D_put_30 ?_
    refine lv_iload hx hb d_D_put_33 (lv_at hl 0 rfl) ?_
    refine lv_iload_n hx hb d_D_put_35 rfl (lv_at hl 3 rfl) ?_
    refine mw_iast hx hb hK.1 hw hS (6) 0 cC_6 rfl (within_inC h1 (by decide)) d_D_put_36 (fun H locs hw hS => ?_)
    replace hw := mw_encC (r := upd ((up2 s0 (5) (Int32.toNatClampNeg (f_D_placeOf s0 a1 a2)) a1) (6)) (Int32.toNatClampNeg (f_D_placeOf s0 a1 a2)) a2) hw cC_6
    have hw : mwG G A ad (encC G.2 ad nr nm (up2 (up2 s0 (5) (Int32.toNatClampNeg (f_D_placeOf s0 a1 a2)) a1) (6) (Int32.toNatClampNeg (f_D_placeOf s0 a1 a2)) a2)) H := hw
    refine lv_aload_n hx hb d_D_put_37 rfl (lv_at hl 1 rfl) ?_
    refine mw_get (v := .ref (ad (7))) hx hb hts in_D hown hK.1 hw (4) cC_4 rfl 2 (by decide) (hts _ tw_29) rfl d_D_put_38 ?_
    refine lv_iload hx hb d_D_put_41 (lv_at hl 0 rfl) ?_
    refine lv_iload_n hx hb d_D_put_43 rfl (lv_at hl 4 rfl) ?_
    refine mw_iast hx hb hK.1 hw hS (7) 0 cC_7 rfl (within_inC h1 (by decide)) d_D_put_44 (fun H locs hw hS => ?_)
    replace hw := mw_encC (r := upd ((up2 (up2 s0 (5) (Int32.toNatClampNeg (f_D_placeOf s0 a1 a2)) a1) (6) (Int32.toNatClampNeg (f_D_placeOf s0 a1 a2)) a2) (7)) (Int32.toNatClampNeg (f_D_placeOf s0 a1 a2)) a3) hw cC_7
    have hw : mwG G A ad (encC G.2 ad nr nm (up2 (up2 (up2 s0 (5) (Int32.toNatClampNeg (f_D_placeOf s0 a1 a2)) a1) (6) (Int32.toNatClampNeg (f_D_placeOf s0 a1 a2)) a2) (7) (Int32.toNatClampNeg (f_D_placeOf s0 a1 a2)) a3)) H := hw
    refine lv_aload_n hx hb d_D_put_45 rfl (lv_at hl 1 rfl) ?_
    refine lv_aload_n hx hb d_D_put_46 rfl (lv_at hl 1 rfl) ?_
    refine mw_get (v := .int ((up2 (up2 (up2 s0 (5) (Int32.toNatClampNeg (f_D_placeOf s0 a1 a2)) a1) (6) (Int32.toNatClampNeg (f_D_placeOf s0 a1 a2)) a2) (7) (Int32.toNatClampNeg (f_D_placeOf s0 a1 a2)) a3) 4 3)) hx hb hts in_D hown hK.1 hw (4) cC_4 rfl 3 (by decide) (hts _ tw_30) rfl d_D_put_47 ?_
    refine lv_iload hx hb d_D_put_50 (lv_at hl 0 rfl) ?_
    refine lv_iconst (v := 1) hx hb d_D_put_52 (by decide) ?_
    refine lv_iadd hx hb d_D_put_53 ?_
    refine va_mmax hx hb (hml.trans hl.1.symm) hown (hts _ tw_354) (hts _ tw_222) (hts _ tw_6) (hts _ tw_223) (Nat.le_of_ble_eq_true rfl) (Nat.le_of_ble_eq_true rfl) (Nat.le_of_ble_eq_true rfl) (Nat.le_of_ble_eq_true rfl) d_D_put_54 ?_
    refine mw_put (v := .int (if ((up2 (up2 (up2 s0 (5) (Int32.toNatClampNeg (f_D_placeOf s0 a1 a2)) a1) (6) (Int32.toNatClampNeg (f_D_placeOf s0 a1 a2)) a2) (7) (Int32.toNatClampNeg (f_D_placeOf s0 a1 a2)) a3) 4 3) < ((f_D_placeOf s0 a1 a2) + 1) then (f_D_placeOf s0 a1 a2) + 1 else (up2 (up2 (up2 s0 (5) (Int32.toNatClampNeg (f_D_placeOf s0 a1 a2)) a1) (6) (Int32.toNatClampNeg (f_D_placeOf s0 a1 a2)) a2) (7) (Int32.toNatClampNeg (f_D_placeOf s0 a1 a2)) a3) 4 3)) hx hb hts in_D ty_D ty_D_ok n_D hown hK.1 hw hS (4) cC_4 rfl 3 (by decide) (hts _ tw_30) rfl rfl rfl (Nat.le_of_ble_eq_true rfl) d_D_put_57 (fun H locs hw hS => ?_)
    replace hw := mw_encC (r := upd ((up2 (up2 (up2 s0 (5) (Int32.toNatClampNeg (f_D_placeOf s0 a1 a2)) a1) (6) (Int32.toNatClampNeg (f_D_placeOf s0 a1 a2)) a2) (7) (Int32.toNatClampNeg (f_D_placeOf s0 a1 a2)) a3) (4)) 3 (if ((up2 (up2 (up2 s0 (5) (Int32.toNatClampNeg (f_D_placeOf s0 a1 a2)) a1) (6) (Int32.toNatClampNeg (f_D_placeOf s0 a1 a2)) a2) (7) (Int32.toNatClampNeg (f_D_placeOf s0 a1 a2)) a3) 4 3) < ((f_D_placeOf s0 a1 a2) + 1) then (f_D_placeOf s0 a1 a2) + 1 else (up2 (up2 (up2 s0 (5) (Int32.toNatClampNeg (f_D_placeOf s0 a1 a2)) a1) (6) (Int32.toNatClampNeg (f_D_placeOf s0 a1 a2)) a2) (7) (Int32.toNatClampNeg (f_D_placeOf s0 a1 a2)) a3) 4 3)) hw cC_4
    have hw : mwG G A ad (encC G.2 ad nr nm (up2 (up2 (up2 (up2 s0 (5) (Int32.toNatClampNeg (f_D_placeOf s0 a1 a2)) a1) (6) (Int32.toNatClampNeg (f_D_placeOf s0 a1 a2)) a2) (7) (Int32.toNatClampNeg (f_D_placeOf s0 a1 a2)) a3) (4) 3 (if ((up2 (up2 (up2 s0 (5) (Int32.toNatClampNeg (f_D_placeOf s0 a1 a2)) a1) (6) (Int32.toNatClampNeg (f_D_placeOf s0 a1 a2)) a2) (7) (Int32.toNatClampNeg (f_D_placeOf s0 a1 a2)) a3) 4 3) < ((f_D_placeOf s0 a1 a2) + 1) then (f_D_placeOf s0 a1 a2) + 1 else (up2 (up2 (up2 s0 (5) (Int32.toNatClampNeg (f_D_placeOf s0 a1 a2)) a1) (6) (Int32.toNatClampNeg (f_D_placeOf s0 a1 a2)) a2) (7) (Int32.toNatClampNeg (f_D_placeOf s0 a1 a2)) a3) 4 3))) H := hw
    refine lv_iconst (v := 1) hx hb d_D_put_60 (by decide) ?_
    have e9 : f_D_put s0 a1 a2 a3 = (1, up2 (up2 (up2 (up2 s0 (5) (Int32.toNatClampNeg (f_D_placeOf s0 a1 a2)) a1) (6) (Int32.toNatClampNeg (f_D_placeOf s0 a1 a2)) a2) (7) (Int32.toNatClampNeg (f_D_placeOf s0 a1 a2)) a3) (4) 3 (if ((up2 (up2 (up2 s0 (5) (Int32.toNatClampNeg (f_D_placeOf s0 a1 a2)) a1) (6) (Int32.toNatClampNeg (f_D_placeOf s0 a1 a2)) a2) (7) (Int32.toNatClampNeg (f_D_placeOf s0 a1 a2)) a3) 4 3) < ((f_D_placeOf s0 a1 a2) + 1) then (f_D_placeOf s0 a1 a2) + 1 else (up2 (up2 (up2 s0 (5) (Int32.toNatClampNeg (f_D_placeOf s0 a1 a2)) a1) (6) (Int32.toNatClampNeg (f_D_placeOf s0 a1 a2)) a2) (7) (Int32.toNatClampNeg (f_D_placeOf s0 a1 a2)) a3) 4 3)) := by unfold f_D_put; exact if_neg h1
    exact mw_iret hx hb hr rfl hw hS (congrArg (fun z => some (Value.int z.1)) e9.symm) ⟨rfl, congrArg (fun z => encC G.2 ad nr nm z.2) e9.symm⟩ hlocks d_D_put_61
  · skip
    refine lv_iconst (v := 0) hx hb d_D_put_19 (by decide) ?_
    have e9 : f_D_put s0 a1 a2 a3 = (0, s0) := by unfold f_D_put; exact if_pos h1
    exact mw_iret hx hb hr rfl hw hS (congrArg (fun z => some (Value.int z.1)) e9.symm) ⟨rfl, congrArg (fun z => encC G.2 ad nr nm z.2) e9.symm⟩ hlocks d_D_put_20
end
section
def g_D_takeOneMore : Nat → S2 → Int32 → S2
  | 0, s1, _ => s1
  | n + 1, s1, x1 =>
    if (s1 4 3) ≤ x1 then
      s1
    else
      if (f_D_sizeAt s1 8 16 (s1 (5) (Int32.toNatClampNeg x1))) = 2147483647 then
        g_D_takeOneMore n s1 (x1 + 1)
      else
        g_D_takeOneMore n (f_D_lower s1 9 16 (s1 (6) (Int32.toNatClampNeg x1)) ((f_D_sizeAt s1 8 16 (s1 (5) (Int32.toNatClampNeg x1))) + (s1 (7) (Int32.toNatClampNeg x1)))) (x1 + 1)
def f_D_takeOneMore (s0 : S2)  : S2 :=
  g_D_takeOneMore 41 (f_A_fill s0 9 16 2147483647) 0
set_option maxHeartbeats 4000000 in
set_option maxRecDepth 100000 in
theorem cc_D_takeOneMore (l : Launch) (G : Gx) (A : Nat → Prop) (ad : Nat → Nat) (nr nm : Nat) (hnr : nr ≤ 16) (hnm : nm ≤ 30) (s0 : S2) (hct : 0 ≤ (s0 4 3).toInt ∧ (s0 4 3).toInt ≤ 40) : Met l y_D_takeOneMore ws_D_takeOneMore { frames := 2, cells := 0, slots := 0, locals := 44 } (PG G [.ref (ad (4))] A ad (encC G.2 ad nr nm s0)) (EG G A none ad (encC G.2 ad nr nm (f_D_takeOneMore s0))) 0 0 A := by
  refine Met.ofW (cc := c_D_takeOneMore) (maxL := 3) (ret := none) (by decide) rfl ?_
  intro p e s m args below meth c s₁ B hml hv
  obtain ⟨rfl, hw, hK⟩ := hv
  have hx := B.exec
  have hb := B.bytes
  have hr := B.returns
  have hts : ∀ w ∈ tbG, w.before [.ref (ad (4))].toArray s = true := fun w h => atoms_spec (ws := ws_D_takeOneMore) B.pre w (List.mem_cons_of_mem _ h)
  have hown : s.vm.findClass "RollStages$Deltas" = some m.cls := findClass_of_methodNamed B.named
  have hlocks := B.notSynchronized
  have hS : va_S A s.heap s.heap [] := va_S.rf
  have hw : mwG G A ad (encC G.2 ad nr nm s0) s.heap := hw
  have loop : ∀ (n : Nat) (s1 : S2) (x1 : Int32), (0 ≤ (s1 4 3).toInt ∧ (s1 4 3).toInt ≤ 40) ∧ 0 ≤ x1.toInt ∧ x1.toInt ≤ 40 ∧ 41 ≤ x1.toInt + n → ∀ (H : Heap) (locs : List Loc) (ls : Array Slot), mwG G A ad (encC G.2 ad nr nm s1) H → va_S A s.heap H locs → lv_has ls 3 [(0, .ref (ad (4))), (1, .int (x1))] → W p l e (headSpec ws_D_takeOneMore { frames := 2, cells := 0, slots := 0, locals := 44 }).room s m [.ref (ad (4))].toArray below meth c H locs 0 0 (MQ below (EG G A none ad (encC G.2 ad nr nm (g_D_takeOneMore n s1 x1))) [.ref (ad (4))].toArray s 0 0 A) (F0 m 11 ls []) := by
    intro n
    induction n with
    | zero =>
      intro s1 x1 hI
      exact absurd hI.2 (by omega)
    | succ n ih =>
      intro s1 x1 hI H locs ls hw hS hl
      refine lv_iload_n hx hb d_D_takeOneMore_11 rfl (lv_at hl 1 rfl) ?_
      refine lv_aload_n hx hb d_D_takeOneMore_12 rfl (lv_at hl 0 rfl) ?_
      refine mw_get (v := .int (s1 4 3)) hx hb hts in_D hown hK.1 hw (4) cC_4 rfl 3 (by decide) (hts _ tw_30) rfl d_D_takeOneMore_13 ?_
      refine lv_icmp_ge (tgt := 66) hx hb d_D_takeOneMore_16 (by decide) (fun h501 => ?_) (fun h501 => ?_)
      · skip
        have e9 : g_D_takeOneMore (n + 1) s1 x1 = s1 := by rw [g_D_takeOneMore]; exact if_pos h501
        exact mw_vret hx hb hr hw hS ⟨rfl, congrArg (fun z => encC G.2 ad nr nm z) e9.symm⟩ hlocks d_D_takeOneMore_66
      · skip
        refine lv_aload_n hx hb d_D_takeOneMore_19 rfl (lv_at hl 0 rfl) ?_
        refine mw_get (v := .ref (ad (8))) hx hb hts in_D hown hK.1 hw (4) cC_4 rfl 4 (by decide) (hts _ tw_31) rfl d_D_takeOneMore_20 ?_
        refine lv_aload_n hx hb d_D_takeOneMore_23 rfl (lv_at hl 0 rfl) ?_
        refine mw_get (v := .ref (ad (5))) hx hb hts in_D hown hK.1 hw (4) cC_4 rfl 0 (by decide) (hts _ tw_27) rfl d_D_takeOneMore_24 ?_
        refine lv_iload_n hx hb d_D_takeOneMore_27 rfl (lv_at hl 1 rfl) ?_
        refine mw_iald hx hb hK.1 hw (5) 0 cC_5 rfl (ct_in hI.1 hI.2.1 h501) d_D_takeOneMore_28 ?_
        refine gS (As := [.ref (ad (8)), .int (s1 (5) (Int32.toNatClampNeg x1))]) (rest := []) (st1 := [.int (f_D_sizeAt s1 8 16 (s1 (5) (Int32.toNatClampNeg x1)))]) ⟨hx, hb, hml, hown, hts⟩ (cc_D_sizeAt l G A ad nr nm hnr hnm s1 8 16 (fun _ => cC_8) (s1 (5) (Int32.toNatClampNeg x1)) (by decide)) tw_382 tw_380 tw_381 tw_2 hd_D_sizeAt rfl rfl ⟨Nat.le_of_ble_eq_true rfl, Nat.le_of_ble_eq_true rfl⟩ hK hw hS hl.1 rfl (Nat.le_of_ble_eq_true rfl) ⟨Nat.zero_le _, Nat.zero_le _⟩ d_D_takeOneMore_29 rfl (fun H locs hw hS => ?_)
        refine lv_istore_n (lv' := [(2, .int (f_D_sizeAt s1 8 16 (s1 (5) (Int32.toNatClampNeg x1)))), (0, .ref (ad (4))), (1, .int (x1))]) hx hb d_D_takeOneMore_32 rfl hl (by decide) rfl (fun ls hl => ?_)
        refine lv_iload_n hx hb d_D_takeOneMore_33 rfl (lv_at hl 0 rfl) ?_
        refine lv_ldc (v := 2147483647) hx hb hown (hts _ tw_371) d_D_takeOneMore_34 ?_
        refine lv_icmp_eq (tgt := 60) hx hb d_D_takeOneMore_36 (by decide) (fun h502 => ?_) (fun h502 => ?_)
        · skip
          refine lv_iinc (v := x1 + 1) (lv' := [(1, .int (x1 + 1)), (2, .int (f_D_sizeAt s1 8 16 (s1 (5) (Int32.toNatClampNeg x1)))), (0, .ref (ad (4)))]) hx hb d_D_takeOneMore_60 hl (k := 2) rfl (by first | rfl | decide) (by decide) rfl (fun ls hl => ?_)
          refine lv_goto (tgt := 11) hx hb d_D_takeOneMore_63 (by decide) ?_
          have e9 : g_D_takeOneMore (n + 1) s1 x1 = g_D_takeOneMore n s1 (x1 + 1) := by rw [g_D_takeOneMore]; exact (if_neg h501).trans (if_pos h502)
          rw [e9]
          exact ih s1 (x1 + 1) ⟨by first | exact hI.1 | (rw [lower_fr (by decide)]; exact hI.1), ct_S hI.1 hI.2 h501⟩ _ _ _ hw hS (lv_sub hl [2, 0] rfl)
        · skip
          refine lv_aload_n hx hb d_D_takeOneMore_39 rfl (lv_at hl 1 rfl) ?_
          refine mw_get (v := .ref (ad (9))) hx hb hts in_D hown hK.1 hw (4) cC_4 rfl 5 (by decide) (hts _ tw_32) rfl d_D_takeOneMore_40 ?_
          refine lv_aload_n hx hb d_D_takeOneMore_43 rfl (lv_at hl 1 rfl) ?_
          refine mw_get (v := .ref (ad (6))) hx hb hts in_D hown hK.1 hw (4) cC_4 rfl 1 (by decide) (hts _ tw_28) rfl d_D_takeOneMore_44 ?_
          refine lv_iload_n hx hb d_D_takeOneMore_47 rfl (lv_at hl 2 rfl) ?_
          refine mw_iald hx hb hK.1 hw (6) 0 cC_6 rfl (ct_in hI.1 hI.2.1 h501) d_D_takeOneMore_48 ?_
          refine lv_iload_n hx hb d_D_takeOneMore_49 rfl (lv_at hl 0 rfl) ?_
          refine lv_aload_n hx hb d_D_takeOneMore_50 rfl (lv_at hl 1 rfl) ?_
          refine mw_get (v := .ref (ad (7))) hx hb hts in_D hown hK.1 hw (4) cC_4 rfl 2 (by decide) (hts _ tw_29) rfl d_D_takeOneMore_51 ?_
          refine lv_iload_n hx hb d_D_takeOneMore_54 rfl (lv_at hl 2 rfl) ?_
          refine mw_iald hx hb hK.1 hw (7) 0 cC_7 rfl (ct_in hI.1 hI.2.1 h501) d_D_takeOneMore_55 ?_
          refine lv_iadd hx hb d_D_takeOneMore_56 ?_
          refine gS (As := [.ref (ad (9)), .int (s1 (6) (Int32.toNatClampNeg x1)), .int ((f_D_sizeAt s1 8 16 (s1 (5) (Int32.toNatClampNeg x1))) + (s1 (7) (Int32.toNatClampNeg x1)))]) (rest := []) (st1 := []) ⟨hx, hb, hml, hown, hts⟩ (cc_D_lower l G A ad nr nm hnr hnm s1 9 16 (fun _ => cC_9) (s1 (6) (Int32.toNatClampNeg x1)) ((f_D_sizeAt s1 8 16 (s1 (5) (Int32.toNatClampNeg x1))) + (s1 (7) (Int32.toNatClampNeg x1))) (by decide)) tw_375 tw_373 tw_374 tw_2 hd_D_lower rfl rfl ⟨Nat.le_of_ble_eq_true rfl, Nat.le_of_ble_eq_true rfl⟩ hK hw hS hl.1 rfl (Nat.le_of_ble_eq_true rfl) ⟨Nat.zero_le _, Nat.zero_le _⟩ d_D_takeOneMore_57 rfl (fun H locs hw hS => ?_)
          refine lv_iinc (v := x1 + 1) (lv' := [(1, .int (x1 + 1)), (2, .int (f_D_sizeAt s1 8 16 (s1 (5) (Int32.toNatClampNeg x1)))), (0, .ref (ad (4)))]) hx hb d_D_takeOneMore_60 hl (k := 2) rfl (by first | rfl | decide) (by decide) rfl (fun ls hl => ?_)
          refine lv_goto (tgt := 11) hx hb d_D_takeOneMore_63 (by decide) ?_
          have e9 : g_D_takeOneMore (n + 1) s1 x1 = g_D_takeOneMore n (f_D_lower s1 9 16 (s1 (6) (Int32.toNatClampNeg x1)) ((f_D_sizeAt s1 8 16 (s1 (5) (Int32.toNatClampNeg x1))) + (s1 (7) (Int32.toNatClampNeg x1)))) (x1 + 1) := by rw [g_D_takeOneMore]; exact (if_neg h501).trans (if_neg h502)
          rw [e9]
          exact ih (f_D_lower s1 9 16 (s1 (6) (Int32.toNatClampNeg x1)) ((f_D_sizeAt s1 8 16 (s1 (5) (Int32.toNatClampNeg x1))) + (s1 (7) (Int32.toNatClampNeg x1)))) (x1 + 1) ⟨by first | exact hI.1 | (rw [lower_fr (by decide)]; exact hI.1), ct_S hI.1 hI.2 h501⟩ _ _ _ hw hS (lv_sub hl [2, 0] rfl)
  have hl := lv_entry ([.ref (ad (4))]) (n := 3) (Nat.le_of_ble_eq_true rfl)
  rw [lg_entry_eq]
  generalize (lg_sl ([.ref (ad (4))]) ++ List.replicate (3 - (lg_sl ([.ref (ad (4))])).length) Slot.unset).toArray = ls at hl ⊢
  have hl : lv_has ls 3 [(0, .ref (ad (4)))] := hl
  refine lv_aload_n hx hb d_D_takeOneMore_0 rfl (lv_at hl 0 rfl) ?_
  refine mw_get (v := .ref (ad (9))) hx hb hts in_D hown hK.1 hw (4) cC_4 rfl 5 (by decide) (hts _ tw_32) rfl d_D_takeOneMore_1 ?_
  refine lv_ldc (v := 2147483647) hx hb hown (hts _ tw_371) d_D_takeOneMore_4 ?_
  refine gS (As := [.ref (ad (9)), .int (2147483647)]) (rest := []) (st1 := []) ⟨hx, hb, hml, hown, hts⟩ (cc_A_fill l G A ad nr nm hnr hnm s0 9 16 (fun _ => cC_9) 2147483647 (by decide)) tw_57 tw_372 tw_56 tw_3 hd_A_fill rfl rfl ⟨Nat.le_of_ble_eq_true rfl, Nat.le_of_ble_eq_true rfl⟩ hK hw hS hl.1 rfl (Nat.le_of_ble_eq_true rfl) ⟨Nat.zero_le _, Nat.zero_le _⟩ d_D_takeOneMore_6 rfl (fun H locs hw hS => ?_)
  refine lv_iconst (v := 0) hx hb d_D_takeOneMore_9 (by decide) ?_
  refine lv_istore_n (lv' := [(1, .int (0)), (0, .ref (ad (4)))]) hx hb d_D_takeOneMore_10 rfl hl (by decide) rfl (fun ls hl => ?_)
  have e9 : f_D_takeOneMore s0 = g_D_takeOneMore 41 (f_A_fill s0 9 16 2147483647) 0 := rfl
  rw [e9]
  exact loop 41 (f_A_fill s0 9 16 2147483647) 0 ⟨by rw [fill_fr _ _ _ _ (by decide)]; exact hct, by decide⟩ _ _ _ hw hS (lv_sub hl [1, 0] rfl)

def g_D_dropRevoked (nr nm : Nat) : Nat → S2 → Int32 → S2
  | 0, s1, _ => s1
  | n + 1, s1, x2 =>
    if 16 ≤ x2 then
      s1
    else
      if Int32.toNatClampNeg x2 < nr then
        if (s1 (10 + 3 * (Int32.toNatClampNeg x2)) 8) = 4 then
          g_D_dropRevoked nr nm n (up2 s1 (8) (Int32.toNatClampNeg x2) 2147483647) (x2 + 1)
        else
          g_D_dropRevoked nr nm n s1 (x2 + 1)
      else
        g_D_dropRevoked nr nm n s1 (x2 + 1)
def f_D_dropRevoked (nr nm : Nat) (s0 : S2)  : S2 :=
  g_D_dropRevoked nr nm 17 s0 0
set_option maxHeartbeats 4000000 in
set_option maxRecDepth 100000 in
theorem cc_D_dropRevoked (l : Launch) (G : Gx) (A : Nat → Prop) (ad : Nat → Nat) (nr nm : Nat) (hnr : nr ≤ 16) (hnm : nm ≤ 30) (s0 : S2)  : Met l y_D_dropRevoked ws_D_dropRevoked { frames := 0, cells := 0, slots := 0, locals := 0 } (PG G [.ref (ad (4)), .ref (ad (1))] A ad (encC G.2 ad nr nm s0)) (EG G A none ad (encC G.2 ad nr nm (f_D_dropRevoked nr nm s0))) 0 0 A := by
  refine Met.ofW (cc := c_D_dropRevoked) (maxL := 4) (ret := none) (by decide) rfl ?_
  intro p e s m args below meth c s₁ B hml hv
  obtain ⟨rfl, hw, hK⟩ := hv
  have hx := B.exec
  have hb := B.bytes
  have hr := B.returns
  have hts : ∀ w ∈ tbG, w.before [.ref (ad (4)), .ref (ad (1))].toArray s = true := fun w h => atoms_spec (ws := ws_D_dropRevoked) B.pre w (List.mem_cons_of_mem _ h)
  have hown : s.vm.findClass "RollStages$Deltas" = some m.cls := findClass_of_methodNamed B.named
  have hlocks := B.notSynchronized
  have hS : va_S A s.heap s.heap [] := va_S.rf
  have hw : mwG G A ad (encC G.2 ad nr nm s0) s.heap := hw
  have loop : ∀ (n : Nat) (s1 : S2) (x2 : Int32), 0 ≤ x2.toInt ∧ x2.toInt ≤ 16 ∧ 17 ≤ x2.toInt + n → ∀ (H : Heap) (locs : List Loc) (ls : Array Slot), mwG G A ad (encC G.2 ad nr nm s1) H → va_S A s.heap H locs → lv_has ls 4 [(0, .ref (ad (4))), (1, .ref (ad (1))), (2, .int (x2))] → W p l e (headSpec ws_D_dropRevoked { frames := 0, cells := 0, slots := 0, locals := 0 }).room s m [.ref (ad (4)), .ref (ad (1))].toArray below meth c H locs 0 0 (MQ below (EG G A none ad (encC G.2 ad nr nm (g_D_dropRevoked nr nm n s1 x2))) [.ref (ad (4)), .ref (ad (1))].toArray s 0 0 A) (F0 m 2 ls []) := by
    intro n
    induction n with
    | zero =>
      intro s1 x2 hI
      exact absurd hI (by omega)
    | succ n ih =>
      intro s1 x2 hI H locs ls hw hS hl
      refine lv_iload_n hx hb d_D_dropRevoked_2 rfl (lv_at hl 2 rfl) ?_
      refine lv_aload_n hx hb d_D_dropRevoked_3 rfl (lv_at hl 1 rfl) ?_
      refine mw_alen (v := 16) hx hb hK.1 hw (1) 1 cC_1 rfl (by first | rfl | decide) d_D_dropRevoked_4 ?_
      refine lv_icmp_ge (tgt := 44) hx hb d_D_dropRevoked_5 (by decide) (fun h501 => ?_) (fun h501 => ?_)
      · skip
        have e9 : g_D_dropRevoked nr nm (n + 1) s1 x2 = s1 := by rw [g_D_dropRevoked]; exact if_pos h501
        exact mw_vret hx hb hr hw hS ⟨rfl, congrArg (fun z => encC G.2 ad nr nm z) e9.symm⟩ hlocks d_D_dropRevoked_44
      · skip
        refine lv_iload_n hx hb d_D_dropRevoked_8 rfl (lv_at hl 2 rfl) ?_
        refine lv_bipush (v := 16) hx hb d_D_dropRevoked_9 (by decide) ?_
        refine lv_icmp_ge (tgt := 44) hx hb d_D_dropRevoked_11 (by decide) (fun h502 => ?_) (fun h502 => ?_)
        · exact absurd h502 h501
        · skip
          refine lv_aload_n hx hb d_D_dropRevoked_14 rfl (lv_at hl 1 rfl) ?_
          refine lv_iload_n hx hb d_D_dropRevoked_15 rfl (lv_at hl 2 rfl) ?_
          refine mw_aldq hx hb hK.1 hw (1) 1 cC_1 rfl (dr_in hI.1 h501) d_D_dropRevoked_16 ?_
          by_cases h503 : Int32.toNatClampNeg x2 < nr
          · skip
            refine W.eq (g2 := F0 m (16 + 1) ls [.ref (ad (10 + 3 * (Int32.toNatClampNeg x2)))]) (by rw [rfRel_p h503]) ?_
            refine lv_astore_n (lv' := [(3, .ref (ad (10 + 3 * (Int32.toNatClampNeg x2)))), (0, .ref (ad (4))), (1, .ref (ad (1))), (2, .int (x2))]) hx hb d_D_dropRevoked_17 rfl hl (by decide) rfl (fun ls hl => ?_)
            refine lv_aload_n hx hb d_D_dropRevoked_18 rfl (lv_at hl 0 rfl) ?_
            refine lv_ifnull hx hb d_D_dropRevoked_19 ?_
            refine lv_aload_n hx hb d_D_dropRevoked_22 rfl (lv_at hl 0 rfl) ?_
            refine mw_getN (v := .int (s1 (10 + 3 * (Int32.toNatClampNeg x2)) 8)) hx hb hts in_R hown hK.1 hw (10 + 3 * (Int32.toNatClampNeg x2)) (cC_rel hnr h503) rfl 8 (by decide) (hK.2.1 _ nf_4) rfl d_D_dropRevoked_23 ?_
            refine lv_iconst (v := 4) hx hb d_D_dropRevoked_26 (by decide) ?_
            refine lv_icmp_ne (tgt := 38) hx hb d_D_dropRevoked_27 (by decide) (fun h504 => ?_) (fun h504 => ?_)
            · skip
              refine lv_iinc (v := x2 + 1) (lv' := [(2, .int (x2 + 1)), (3, .ref (ad (10 + 3 * (Int32.toNatClampNeg x2)))), (0, .ref (ad (4))), (1, .ref (ad (1)))]) hx hb d_D_dropRevoked_38 hl (k := 3) rfl (by first | rfl | decide) (by decide) rfl (fun ls hl => ?_)
              refine lv_goto (tgt := 2) hx hb d_D_dropRevoked_41 (by decide) ?_
              have e9 : g_D_dropRevoked nr nm (n + 1) s1 x2 = g_D_dropRevoked nr nm n s1 (x2 + 1) := by rw [g_D_dropRevoked]; exact (if_neg h501).trans ((if_pos h503).trans (if_neg h504))
              rw [e9]
              exact ih s1 (x2 + 1) (dr_S hI h501) _ _ _ hw hS (lv_sub hl [2, 3, 0] rfl)
            · skip
              refine lv_aload_n hx hb d_D_dropRevoked_30 rfl (lv_at hl 1 rfl) ?_
              refine mw_get (v := .ref (ad (8))) hx hb hts in_D hown hK.1 hw (4) cC_4 rfl 4 (by decide) (hts _ tw_31) rfl d_D_dropRevoked_31 ?_
              refine lv_iload_n hx hb d_D_dropRevoked_34 rfl (lv_at hl 3 rfl) ?_
              refine lv_ldc (v := 2147483647) hx hb hown (hts _ tw_371) d_D_dropRevoked_35 ?_
              refine mw_iast hx hb hK.1 hw hS (8) 0 cC_8 rfl (dr_in hI.1 h501) d_D_dropRevoked_37 (fun H locs hw hS => ?_)
              replace hw := mw_encC (r := upd (s1 (8)) (Int32.toNatClampNeg x2) 2147483647) hw cC_8
              have hw : mwG G A ad (encC G.2 ad nr nm (up2 s1 (8) (Int32.toNatClampNeg x2) 2147483647)) H := hw
              refine lv_iinc (v := x2 + 1) (lv' := [(2, .int (x2 + 1)), (3, .ref (ad (10 + 3 * (Int32.toNatClampNeg x2)))), (0, .ref (ad (4))), (1, .ref (ad (1)))]) hx hb d_D_dropRevoked_38 hl (k := 3) rfl (by first | rfl | decide) (by decide) rfl (fun ls hl => ?_)
              refine lv_goto (tgt := 2) hx hb d_D_dropRevoked_41 (by decide) ?_
              have e9 : g_D_dropRevoked nr nm (n + 1) s1 x2 = g_D_dropRevoked nr nm n (up2 s1 (8) (Int32.toNatClampNeg x2) 2147483647) (x2 + 1) := by rw [g_D_dropRevoked]; exact (if_neg h501).trans ((if_pos h503).trans (if_pos h504))
              rw [e9]
              exact ih (up2 s1 (8) (Int32.toNatClampNeg x2) 2147483647) (x2 + 1) (dr_S hI h501) _ _ _ hw hS (lv_sub hl [2, 3, 0] rfl)
          · skip
            refine W.eq (g2 := F0 m (16 + 1) ls [.null]) (by rw [rfRel_n h503]) ?_
            refine lv_astore_nN (lv' := [(3, .null), (0, .ref (ad (4))), (1, .ref (ad (1))), (2, .int (x2))]) hx hb d_D_dropRevoked_17 rfl hl (by decide) rfl (fun ls hl => ?_)
            refine lv_aload_nN hx hb d_D_dropRevoked_18 rfl (lv_at hl 0 rfl) ?_
            refine lv_ifnullN (tgt := 38) hx hb d_D_dropRevoked_19 (by decide) ?_
            refine lv_iinc (v := x2 + 1) (lv' := [(2, .int (x2 + 1)), (3, .null), (0, .ref (ad (4))), (1, .ref (ad (1)))]) hx hb d_D_dropRevoked_38 hl (k := 3) rfl (by first | rfl | decide) (by decide) rfl (fun ls hl => ?_)
            refine lv_goto (tgt := 2) hx hb d_D_dropRevoked_41 (by decide) ?_
            have e9 : g_D_dropRevoked nr nm (n + 1) s1 x2 = g_D_dropRevoked nr nm n s1 (x2 + 1) := by rw [g_D_dropRevoked]; exact (if_neg h501).trans (if_neg h503)
            rw [e9]
            exact ih s1 (x2 + 1) (dr_S hI h501) _ _ _ hw hS (lv_sub hl [2, 3, 0] rfl)
  have hl := lv_entry ([.ref (ad (4)), .ref (ad (1))]) (n := 4) (Nat.le_of_ble_eq_true rfl)
  rw [lg_entry_eq]
  generalize (lg_sl ([.ref (ad (4)), .ref (ad (1))]) ++ List.replicate (4 - (lg_sl ([.ref (ad (4)), .ref (ad (1))])).length) Slot.unset).toArray = ls at hl ⊢
  have hl : lv_has ls 4 [(0, .ref (ad (4))), (1, .ref (ad (1)))] := hl
  refine lv_iconst (v := 0) hx hb d_D_dropRevoked_0 (by decide) ?_
  refine lv_istore_n (lv' := [(2, .int (0)), (0, .ref (ad (4))), (1, .ref (ad (1)))]) hx hb d_D_dropRevoked_1 rfl hl (by decide) rfl (fun ls hl => ?_)
  have e9 : f_D_dropRevoked nr nm s0 = g_D_dropRevoked nr nm 17 s0 0 := rfl
  rw [e9]
  exact loop 17 s0 0 (by decide) _ _ _ hw hS (lv_sub hl [1, 2, 0] rfl)

theorem takeg_fr : ∀ (n : Nat) (s : S2) (x1 : Int32) (q : Nat), q ≠ 9 → g_D_takeOneMore n s x1 q = s q := by
  intro n
  induction n with
  | zero => intro s x1 q h; rfl
  | succ n ih =>
    intro s x1 q h
    rw [g_D_takeOneMore]
    repeat' split
    all_goals first | rfl | (rw [ih _ _ _ h]; done) | (rw [ih _ _ _ h, lower_fr h])
theorem take_fr' (s : S2) {q : Nat} (h : q ≠ 9) : f_D_takeOneMore s q = s q := by
  unfold f_D_takeOneMore
  rw [takeg_fr _ _ _ _ h, fill_fr _ _ _ _ h]
theorem take_fr (s : S2) : f_D_takeOneMore s 4 = s 4 := take_fr' s (by decide)
theorem dropg_fr (nr nm : Nat) : ∀ (n : Nat) (s : S2) (x2 : Int32) (q : Nat), q ≠ 8 → g_D_dropRevoked nr nm n s x2 q = s q := by
  intro n
  induction n with
  | zero => intro s x2 q h; rfl
  | succ n ih =>
    intro s x2 q h
    rw [g_D_dropRevoked]
    repeat' split
    all_goals first | rfl | (rw [ih _ _ _ h]; done) | (rw [ih _ _ _ h, up2_ne h])
theorem drop_fr' (nr nm : Nat) (s : S2) {q : Nat} (h : q ≠ 8) : f_D_dropRevoked nr nm s q = s q := dropg_fr nr nm _ s _ q h
theorem drop_fr {nr nm : Nat} {s : S2} : f_D_dropRevoked nr nm s 4 = s 4 := drop_fr' nr nm s (by decide)

def g_D_searchCheaper (nr nm : Nat) (a1 : Int32) (a2 : Int32) : Nat → S2 → Int32 → S2
  | 0, s1, _ => s1
  | n + 1, s1, x4 =>
    if 4 < x4 then
      s1
    else
      if ((f_D_takeOneMore s1) 4 6) ≤ (f_D_sizeAt (f_D_takeOneMore s1) 9 16 a2) then
        g_D_searchCheaper nr nm a1 a2 n (f_D_dropRevoked nr nm (va_up (f_D_takeOneMore s1) 8 (va_cpy ((f_D_takeOneMore s1) 9) ((f_D_takeOneMore s1) 8) 0 0 16))) (x4 + 1)
      else
        g_D_searchCheaper nr nm a1 a2 n (f_D_dropRevoked nr nm (va_up (f_D_setWay (f_D_takeOneMore s1) (f_D_sizeAt (f_D_takeOneMore s1) 9 16 a2) x4) 8 (va_cpy ((f_D_setWay (f_D_takeOneMore s1) (f_D_sizeAt (f_D_takeOneMore s1) 9 16 a2) x4) 9) ((f_D_setWay (f_D_takeOneMore s1) (f_D_sizeAt (f_D_takeOneMore s1) 9 16 a2) x4) 8) 0 0 16))) (x4 + 1)
def f_D_searchCheaper (nr nm : Nat) (s0 : S2) (a1 : Int32) (a2 : Int32) : S2 :=
  g_D_searchCheaper nr nm a1 a2 5 (f_D_lower (f_A_fill s0 8 16 2147483647) 8 16 a1 0) 1
set_option maxHeartbeats 4000000 in
set_option maxRecDepth 100000 in
theorem cc_D_searchCheaper (l : Launch) (G : Gx) (A : Nat → Prop) (ad : Nat → Nat) (nr nm : Nat) (hnr : nr ≤ 16) (hnm : nm ≤ 30) (s0 : S2) (a1 : Int32) (a2 : Int32) (hct : 0 ≤ (s0 4 3).toInt ∧ (s0 4 3).toInt ≤ 40) : Met l y_D_searchCheaper ws_D_searchCheaper { frames := 3, cells := 0, slots := 0, locals := 66 } (PG G [.ref (ad (4)), .int (a1), .int (a2), .ref (ad (1))] A ad (encC G.2 ad nr nm s0)) (EG G A none ad (encC G.2 ad nr nm (f_D_searchCheaper nr nm s0 a1 a2))) 0 0 A := by
  refine Met.ofW (cc := c_D_searchCheaper) (maxL := 6) (ret := none) (by decide) rfl ?_
  intro p e s m args below meth c s₁ B hml hv
  obtain ⟨rfl, hw, hK⟩ := hv
  have hx := B.exec
  have hb := B.bytes
  have hr := B.returns
  have hts : ∀ w ∈ tbG, w.before [.ref (ad (4)), .int (a1), .int (a2), .ref (ad (1))].toArray s = true := fun w h => atoms_spec (ws := ws_D_searchCheaper) B.pre w (List.mem_cons_of_mem _ h)
  have hown : s.vm.findClass "RollStages$Deltas" = some m.cls := findClass_of_methodNamed B.named
  have hlocks := B.notSynchronized
  have hS : va_S A s.heap s.heap [] := va_S.rf
  have hw : mwG G A ad (encC G.2 ad nr nm s0) s.heap := hw
  have loop : ∀ (n : Nat) (s1 : S2) (x4 : Int32), (0 ≤ (s1 4 3).toInt ∧ (s1 4 3).toInt ≤ 40) ∧ 1 ≤ x4.toInt ∧ x4.toInt ≤ 5 ∧ 6 ≤ x4.toInt + n → ∀ (H : Heap) (locs : List Loc) (ls : Array Slot), mwG G A ad (encC G.2 ad nr nm s1) H → va_S A s.heap H locs → lv_has ls 6 [(0, .ref (ad (4))), (1, .int (a1)), (2, .int (a2)), (3, .ref (ad (1))), (4, .int (x4))] → W p l e (headSpec ws_D_searchCheaper { frames := 3, cells := 0, slots := 0, locals := 66 }).room s m [.ref (ad (4)), .int (a1), .int (a2), .ref (ad (1))].toArray below meth c H locs 0 0 (MQ below (EG G A none ad (encC G.2 ad nr nm (g_D_searchCheaper nr nm a1 a2 n s1 x4))) [.ref (ad (4)), .int (a1), .int (a2), .ref (ad (1))].toArray s 0 0 A) (F0 m 21 ls []) := by
    intro n
    induction n with
    | zero =>
      intro s1 x4 hI
      exact absurd hI.2 (by omega)
    | succ n ih =>
      intro s1 x4 hI H locs ls hw hS hl
      refine lv_iload hx hb d_D_searchCheaper_21 (lv_at hl 4 rfl) ?_
      refine lv_iconst (v := 4) hx hb d_D_searchCheaper_23 (by decide) ?_
      refine lv_icmp_gt (tgt := 84) hx hb d_D_searchCheaper_24 (by decide) (fun h501 => ?_) (fun h501 => ?_)
      · skip
        have e9 : g_D_searchCheaper nr nm a1 a2 (n + 1) s1 x4 = s1 := by rw [g_D_searchCheaper]; exact if_pos h501
        exact mw_vret hx hb hr hw hS ⟨rfl, congrArg (fun z => encC G.2 ad nr nm z) e9.symm⟩ hlocks d_D_searchCheaper_84
      · skip
        refine lv_aload_n hx hb d_D_searchCheaper_27 rfl (lv_at hl 0 rfl) ?_
        refine gV (As := []) (rest := []) (st1 := []) ⟨hx, hb, hml, hown, hts⟩ (cc_D_takeOneMore l G A ad nr nm hnr hnm s1 hI.1) cC_4 rfl tw_379 tw_376 tw_378 tw_p31 tw_2 hd_D_takeOneMore rfl rfl ⟨Nat.le_of_ble_eq_true rfl, Nat.le_of_ble_eq_true rfl⟩ hK hw hS hl.1 rfl (Nat.le_of_ble_eq_true rfl) ⟨Nat.zero_le _, Nat.zero_le _⟩ d_D_searchCheaper_28 rfl (fun H locs hw hS => ?_)
        refine lv_aload_n hx hb d_D_searchCheaper_31 rfl (lv_at hl 0 rfl) ?_
        refine mw_get (v := .ref (ad (9))) hx hb hts in_D hown hK.1 hw (4) cC_4 rfl 5 (by decide) (hts _ tw_32) rfl d_D_searchCheaper_32 ?_
        refine lv_iload_n hx hb d_D_searchCheaper_35 rfl (lv_at hl 2 rfl) ?_
        refine gS (As := [.ref (ad (9)), .int (a2)]) (rest := []) (st1 := [.int (f_D_sizeAt (f_D_takeOneMore s1) 9 16 a2)]) ⟨hx, hb, hml, hown, hts⟩ (cc_D_sizeAt l G A ad nr nm hnr hnm (f_D_takeOneMore s1) 9 16 (fun _ => cC_9) a2 (by decide)) tw_382 tw_380 tw_381 tw_2 hd_D_sizeAt rfl rfl ⟨Nat.le_of_ble_eq_true rfl, Nat.le_of_ble_eq_true rfl⟩ hK hw hS hl.1 rfl (Nat.le_of_ble_eq_true rfl) ⟨Nat.zero_le _, Nat.zero_le _⟩ d_D_searchCheaper_36 rfl (fun H locs hw hS => ?_)
        refine lv_istore (lv' := [(5, .int (f_D_sizeAt (f_D_takeOneMore s1) 9 16 a2)), (0, .ref (ad (4))), (1, .int (a1)), (2, .int (a2)), (3, .ref (ad (1))), (4, .int (x4))]) hx hb d_D_searchCheaper_39 hl (by decide) rfl (fun ls hl => ?_)
        refine lv_iload hx hb d_D_searchCheaper_41 (lv_at hl 0 rfl) ?_
        refine lv_aload_n hx hb d_D_searchCheaper_43 rfl (lv_at hl 1 rfl) ?_
        refine mw_get (v := .int ((f_D_takeOneMore s1) 4 6)) hx hb hts in_D hown hK.1 hw (4) cC_4 rfl 6 (by decide) (hts _ tw_33) rfl d_D_searchCheaper_44 ?_
        refine lv_icmp_ge (tgt := 58) hx hb d_D_searchCheaper_47 (by decide) (fun h502 => ?_) (fun h502 => ?_)
        · skip
          refine lv_aload_n hx hb d_D_searchCheaper_58 rfl (lv_at hl 1 rfl) ?_
          refine mw_get (v := .ref (ad (9))) hx hb hts in_D hown hK.1 hw (4) cC_4 rfl 5 (by decide) (hts _ tw_32) rfl d_D_searchCheaper_59 ?_
          refine lv_iconst (v := 0) hx hb d_D_searchCheaper_62 (by decide) ?_
          refine lv_aload_n hx hb d_D_searchCheaper_63 rfl (lv_at hl 1 rfl) ?_
          refine mw_get (v := .ref (ad (8))) hx hb hts in_D hown hK.1 hw (4) cC_4 rfl 4 (by decide) (hts _ tw_31) rfl d_D_searchCheaper_64 ?_
          refine lv_iconst (v := 0) hx hb d_D_searchCheaper_67 (by decide) ?_
          refine lv_bipush (v := 16) hx hb d_D_searchCheaper_68 (by decide) ?_
          refine mw_copyi hx hb (hml.trans hl.1.symm) hown (hts _ tw_384) (hts _ tw_386) (hts _ tw_385) (hts _ tw_8) hK.1 hw hS (9) (8) 0 0 cC_9 cC_8 rfl rfl rfl (by decide) (by decide) (by decide) (by decide) (by decide) (fun _ _ => rfl) (Nat.le_of_ble_eq_true rfl) (Nat.le_of_ble_eq_true rfl) d_D_searchCheaper_70 (fun H locs hw hS => ?_)
          replace hw := mw_encC (r := va_cpy ((f_D_takeOneMore s1) 9) ((f_D_takeOneMore s1) 8) 0 0 16) hw cC_8
          have hw : mwG G A ad (encC G.2 ad nr nm (va_up (f_D_takeOneMore s1) 8 (va_cpy ((f_D_takeOneMore s1) 9) ((f_D_takeOneMore s1) 8) 0 0 16))) H := hw
          refine lv_aload_n hx hb d_D_searchCheaper_73 rfl (lv_at hl 1 rfl) ?_
          refine lv_aload_n hx hb d_D_searchCheaper_74 rfl (lv_at hl 4 rfl) ?_
          refine gV (As := [.ref (ad (1))]) (rest := []) (st1 := []) ⟨hx, hb, hml, hown, hts⟩ (cc_D_dropRevoked l G A ad nr nm hnr hnm (va_up (f_D_takeOneMore s1) 8 (va_cpy ((f_D_takeOneMore s1) 9) ((f_D_takeOneMore s1) 8) 0 0 16))) cC_4 rfl tw_390 tw_387 tw_389 tw_p32 tw_2 hd_D_dropRevoked rfl rfl ⟨Nat.le_of_ble_eq_true rfl, Nat.le_of_ble_eq_true rfl⟩ hK hw hS hl.1 rfl (Nat.le_of_ble_eq_true rfl) ⟨Nat.zero_le _, Nat.zero_le _⟩ d_D_searchCheaper_75 rfl (fun H locs hw hS => ?_)
          refine lv_iinc (v := x4 + 1) (lv' := [(4, .int (x4 + 1)), (5, .int (f_D_sizeAt (f_D_takeOneMore s1) 9 16 a2)), (0, .ref (ad (4))), (1, .int (a1)), (2, .int (a2)), (3, .ref (ad (1)))]) hx hb d_D_searchCheaper_78 hl (k := 5) rfl (by first | rfl | decide) (by decide) rfl (fun ls hl => ?_)
          refine lv_goto (tgt := 21) hx hb d_D_searchCheaper_81 (by decide) ?_
          have e9 : g_D_searchCheaper nr nm a1 a2 (n + 1) s1 x4 = g_D_searchCheaper nr nm a1 a2 n (f_D_dropRevoked nr nm (va_up (f_D_takeOneMore s1) 8 (va_cpy ((f_D_takeOneMore s1) 9) ((f_D_takeOneMore s1) 8) 0 0 16))) (x4 + 1) := by rw [g_D_searchCheaper]; exact (if_neg h501).trans (if_pos h502)
          rw [e9]
          exact ih (f_D_dropRevoked nr nm (va_up (f_D_takeOneMore s1) 8 (va_cpy ((f_D_takeOneMore s1) 9) ((f_D_takeOneMore s1) 8) 0 0 16))) (x4 + 1) ⟨by rw [drop_fr]; first | (rw [va_up_ne _ _ (by decide), take_fr]; exact hI.1) | (rw [va_up_ne _ _ (by decide), setWay_3, take_fr]; exact hI.1), sc_S hI.2 h501⟩ _ _ _ hw hS (lv_sub hl [2, 3, 4, 5, 0] rfl)
        · skip
          refine lv_aload_n hx hb d_D_searchCheaper_50 rfl (lv_at hl 1 rfl) ?_
          refine lv_iload hx hb d_D_searchCheaper_51 (lv_at hl 0 rfl) ?_
          refine lv_iload hx hb d_D_searchCheaper_53 (lv_at hl 5 rfl) ?_
          refine gV (As := [.int (f_D_sizeAt (f_D_takeOneMore s1) 9 16 a2), .int (x4)]) (rest := []) (st1 := []) ⟨hx, hb, hml, hown, hts⟩ (cc_D_setWay l G A ad nr nm hnr hnm (f_D_takeOneMore s1) (f_D_sizeAt (f_D_takeOneMore s1) 9 16 a2) x4) cC_4 rfl tw_366 tw_383 tw_365 tw_p29 tw_2 hd_D_setWay rfl rfl ⟨Nat.le_of_ble_eq_true rfl, Nat.le_of_ble_eq_true rfl⟩ hK hw hS hl.1 rfl (Nat.le_of_ble_eq_true rfl) ⟨Nat.zero_le _, Nat.zero_le _⟩ d_D_searchCheaper_55 rfl (fun H locs hw hS => ?_)
          refine lv_aload_n hx hb d_D_searchCheaper_58 rfl (lv_at hl 1 rfl) ?_
          refine mw_get (v := .ref (ad (9))) hx hb hts in_D hown hK.1 hw (4) cC_4 rfl 5 (by decide) (hts _ tw_32) rfl d_D_searchCheaper_59 ?_
          refine lv_iconst (v := 0) hx hb d_D_searchCheaper_62 (by decide) ?_
          refine lv_aload_n hx hb d_D_searchCheaper_63 rfl (lv_at hl 1 rfl) ?_
          refine mw_get (v := .ref (ad (8))) hx hb hts in_D hown hK.1 hw (4) cC_4 rfl 4 (by decide) (hts _ tw_31) rfl d_D_searchCheaper_64 ?_
          refine lv_iconst (v := 0) hx hb d_D_searchCheaper_67 (by decide) ?_
          refine lv_bipush (v := 16) hx hb d_D_searchCheaper_68 (by decide) ?_
          refine mw_copyi hx hb (hml.trans hl.1.symm) hown (hts _ tw_384) (hts _ tw_386) (hts _ tw_385) (hts _ tw_8) hK.1 hw hS (9) (8) 0 0 cC_9 cC_8 rfl rfl rfl (by decide) (by decide) (by decide) (by decide) (by decide) (fun _ _ => rfl) (Nat.le_of_ble_eq_true rfl) (Nat.le_of_ble_eq_true rfl) d_D_searchCheaper_70 (fun H locs hw hS => ?_)
          replace hw := mw_encC (r := va_cpy ((f_D_setWay (f_D_takeOneMore s1) (f_D_sizeAt (f_D_takeOneMore s1) 9 16 a2) x4) 9) ((f_D_setWay (f_D_takeOneMore s1) (f_D_sizeAt (f_D_takeOneMore s1) 9 16 a2) x4) 8) 0 0 16) hw cC_8
          have hw : mwG G A ad (encC G.2 ad nr nm (va_up (f_D_setWay (f_D_takeOneMore s1) (f_D_sizeAt (f_D_takeOneMore s1) 9 16 a2) x4) 8 (va_cpy ((f_D_setWay (f_D_takeOneMore s1) (f_D_sizeAt (f_D_takeOneMore s1) 9 16 a2) x4) 9) ((f_D_setWay (f_D_takeOneMore s1) (f_D_sizeAt (f_D_takeOneMore s1) 9 16 a2) x4) 8) 0 0 16))) H := hw
          refine lv_aload_n hx hb d_D_searchCheaper_73 rfl (lv_at hl 1 rfl) ?_
          refine lv_aload_n hx hb d_D_searchCheaper_74 rfl (lv_at hl 4 rfl) ?_
          refine gV (As := [.ref (ad (1))]) (rest := []) (st1 := []) ⟨hx, hb, hml, hown, hts⟩ (cc_D_dropRevoked l G A ad nr nm hnr hnm (va_up (f_D_setWay (f_D_takeOneMore s1) (f_D_sizeAt (f_D_takeOneMore s1) 9 16 a2) x4) 8 (va_cpy ((f_D_setWay (f_D_takeOneMore s1) (f_D_sizeAt (f_D_takeOneMore s1) 9 16 a2) x4) 9) ((f_D_setWay (f_D_takeOneMore s1) (f_D_sizeAt (f_D_takeOneMore s1) 9 16 a2) x4) 8) 0 0 16))) cC_4 rfl tw_390 tw_387 tw_389 tw_p32 tw_2 hd_D_dropRevoked rfl rfl ⟨Nat.le_of_ble_eq_true rfl, Nat.le_of_ble_eq_true rfl⟩ hK hw hS hl.1 rfl (Nat.le_of_ble_eq_true rfl) ⟨Nat.zero_le _, Nat.zero_le _⟩ d_D_searchCheaper_75 rfl (fun H locs hw hS => ?_)
          refine lv_iinc (v := x4 + 1) (lv' := [(4, .int (x4 + 1)), (5, .int (f_D_sizeAt (f_D_takeOneMore s1) 9 16 a2)), (0, .ref (ad (4))), (1, .int (a1)), (2, .int (a2)), (3, .ref (ad (1)))]) hx hb d_D_searchCheaper_78 hl (k := 5) rfl (by first | rfl | decide) (by decide) rfl (fun ls hl => ?_)
          refine lv_goto (tgt := 21) hx hb d_D_searchCheaper_81 (by decide) ?_
          have e9 : g_D_searchCheaper nr nm a1 a2 (n + 1) s1 x4 = g_D_searchCheaper nr nm a1 a2 n (f_D_dropRevoked nr nm (va_up (f_D_setWay (f_D_takeOneMore s1) (f_D_sizeAt (f_D_takeOneMore s1) 9 16 a2) x4) 8 (va_cpy ((f_D_setWay (f_D_takeOneMore s1) (f_D_sizeAt (f_D_takeOneMore s1) 9 16 a2) x4) 9) ((f_D_setWay (f_D_takeOneMore s1) (f_D_sizeAt (f_D_takeOneMore s1) 9 16 a2) x4) 8) 0 0 16))) (x4 + 1) := by rw [g_D_searchCheaper]; exact (if_neg h501).trans (if_neg h502)
          rw [e9]
          exact ih (f_D_dropRevoked nr nm (va_up (f_D_setWay (f_D_takeOneMore s1) (f_D_sizeAt (f_D_takeOneMore s1) 9 16 a2) x4) 8 (va_cpy ((f_D_setWay (f_D_takeOneMore s1) (f_D_sizeAt (f_D_takeOneMore s1) 9 16 a2) x4) 9) ((f_D_setWay (f_D_takeOneMore s1) (f_D_sizeAt (f_D_takeOneMore s1) 9 16 a2) x4) 8) 0 0 16))) (x4 + 1) ⟨by rw [drop_fr]; first | (rw [va_up_ne _ _ (by decide), take_fr]; exact hI.1) | (rw [va_up_ne _ _ (by decide), setWay_3, take_fr]; exact hI.1), sc_S hI.2 h501⟩ _ _ _ hw hS (lv_sub hl [2, 3, 4, 5, 0] rfl)
  have hl := lv_entry ([.ref (ad (4)), .int (a1), .int (a2), .ref (ad (1))]) (n := 6) (Nat.le_of_ble_eq_true rfl)
  rw [lg_entry_eq]
  generalize (lg_sl ([.ref (ad (4)), .int (a1), .int (a2), .ref (ad (1))]) ++ List.replicate (6 - (lg_sl ([.ref (ad (4)), .int (a1), .int (a2), .ref (ad (1))])).length) Slot.unset).toArray = ls at hl ⊢
  have hl : lv_has ls 6 [(0, .ref (ad (4))), (1, .int (a1)), (2, .int (a2)), (3, .ref (ad (1)))] := hl
  refine lv_aload_n hx hb d_D_searchCheaper_0 rfl (lv_at hl 0 rfl) ?_
  refine mw_get (v := .ref (ad (8))) hx hb hts in_D hown hK.1 hw (4) cC_4 rfl 4 (by decide) (hts _ tw_31) rfl d_D_searchCheaper_1 ?_
  refine lv_ldc (v := 2147483647) hx hb hown (hts _ tw_371) d_D_searchCheaper_4 ?_
  refine gS (As := [.ref (ad (8)), .int (2147483647)]) (rest := []) (st1 := []) ⟨hx, hb, hml, hown, hts⟩ (cc_A_fill l G A ad nr nm hnr hnm s0 8 16 (fun _ => cC_8) 2147483647 (by decide)) tw_57 tw_372 tw_56 tw_3 hd_A_fill rfl rfl ⟨Nat.le_of_ble_eq_true rfl, Nat.le_of_ble_eq_true rfl⟩ hK hw hS hl.1 rfl (Nat.le_of_ble_eq_true rfl) ⟨Nat.zero_le _, Nat.zero_le _⟩ d_D_searchCheaper_6 rfl (fun H locs hw hS => ?_)
  refine lv_aload_n hx hb d_D_searchCheaper_9 rfl (lv_at hl 0 rfl) ?_
  refine mw_get (v := .ref (ad (8))) hx hb hts in_D hown hK.1 hw (4) cC_4 rfl 4 (by decide) (hts _ tw_31) rfl d_D_searchCheaper_10 ?_
  refine lv_iload_n hx hb d_D_searchCheaper_13 rfl (lv_at hl 1 rfl) ?_
  refine lv_iconst (v := 0) hx hb d_D_searchCheaper_14 (by decide) ?_
  refine gS (As := [.ref (ad (8)), .int (a1), .int (0)]) (rest := []) (st1 := []) ⟨hx, hb, hml, hown, hts⟩ (cc_D_lower l G A ad nr nm hnr hnm (f_A_fill s0 8 16 2147483647) 8 16 (fun _ => cC_8) a1 0 (by decide)) tw_375 tw_373 tw_374 tw_2 hd_D_lower rfl rfl ⟨Nat.le_of_ble_eq_true rfl, Nat.le_of_ble_eq_true rfl⟩ hK hw hS hl.1 rfl (Nat.le_of_ble_eq_true rfl) ⟨Nat.zero_le _, Nat.zero_le _⟩ d_D_searchCheaper_15 rfl (fun H locs hw hS => ?_)
  refine lv_iconst (v := 1) hx hb d_D_searchCheaper_18 (by decide) ?_
  refine lv_istore (lv' := [(4, .int (1)), (0, .ref (ad (4))), (1, .int (a1)), (2, .int (a2)), (3, .ref (ad (1)))]) hx hb d_D_searchCheaper_19 hl (by decide) rfl (fun ls hl => ?_)
  have e9 : f_D_searchCheaper nr nm s0 a1 a2 = g_D_searchCheaper nr nm a1 a2 5 (f_D_lower (f_A_fill s0 8 16 2147483647) 8 16 a1 0) 1 := rfl
  rw [e9]
  exact loop 5 (f_D_lower (f_A_fill s0 8 16 2147483647) 8 16 a1 0) 1 ⟨by rw [lower_fr (by decide), fill_fr _ _ _ _ (by decide)]; exact hct, by decide⟩ _ _ _ hw hS (lv_sub hl [1, 2, 3, 4, 0] rfl)
end
section
def g_R_passTicks (i : Nat) (a1 : Int32) (a2 : Int32) : Nat → S2 → Int32 → Int32 → S2
  | 0, s1, _, _ => s1
  | n + 1, s1, x3, x4 =>
    if 5 ≤ x4 then
      s1
    else
      if (s1 (10 + 3 * i) 8) = 1 then
        if (if (x3 + 1) < ((s1 (10 + 3 * i) 11) + (f_R_valueOfStage s1 i (10 + 3 * i + 2) 5)) then (s1 (10 + 3 * i) 11) + (f_R_valueOfStage s1 i (10 + 3 * i + 2) 5) else x3 + 1) ≤ a2 then
          g_R_passTicks i a1 a2 n (f_R_judge s1 i (if (x3 + 1) < ((s1 (10 + 3 * i) 11) + (f_R_valueOfStage s1 i (10 + 3 * i + 2) 5)) then (s1 (10 + 3 * i) 11) + (f_R_valueOfStage s1 i (10 + 3 * i + 2) 5) else x3 + 1)) (if (x3 + 1) < ((s1 (10 + 3 * i) 11) + (f_R_valueOfStage s1 i (10 + 3 * i + 2) 5)) then (s1 (10 + 3 * i) 11) + (f_R_valueOfStage s1 i (10 + 3 * i + 2) 5) else x3 + 1) (x4 + 1)
        else
          s1
      else
        s1
def f_R_passTicks (s0 : S2) (i : Nat) (a1 : Int32) (a2 : Int32) : S2 :=
  g_R_passTicks i a1 a2 6 s0 a1 0
set_option maxHeartbeats 4000000 in
set_option maxRecDepth 100000 in
theorem cc_R_passTicks (l : Launch) (G : Gx) (A : Nat → Prop) (ad : Nat → Nat) (nr nm : Nat) (hnr : nr ≤ 16) (hnm : nm ≤ 30) (s0 : S2) (i : Nat) (hi : i < nr) (a1 : Int32) (a2 : Int32) : Met l y_R_passTicks ws_R_passTicks { frames := 3, cells := 0, slots := 0, locals := 61 } (PG G [.ref (ad (10 + 3 * i)), .int (a1), .int (a2)] A ad (encC G.2 ad nr nm s0)) (EG G A none ad (encC G.2 ad nr nm (f_R_passTicks s0 i a1 a2))) 0 0 A := by
  refine Met.ofW (cc := c_R_passTicks) (maxL := 5) (ret := none) (by decide) rfl ?_
  intro p e s m args below meth c s₁ B hml hv
  obtain ⟨rfl, hw, hK⟩ := hv
  have hx := B.exec
  have hb := B.bytes
  have hr := B.returns
  have hts : ∀ w ∈ tbG, w.before [.ref (ad (10 + 3 * i)), .int (a1), .int (a2)].toArray s = true := fun w h => atoms_spec (ws := ws_R_passTicks) B.pre w (List.mem_cons_of_mem _ h)
  have hown : s.vm.findClass "RollStages$Release" = some m.cls := findClass_of_methodNamed B.named
  have hlocks := B.notSynchronized
  have hS : va_S A s.heap s.heap [] := va_S.rf
  have hw : mwG G A ad (encC G.2 ad nr nm s0) s.heap := hw
  have loop : ∀ (n : Nat) (s1 : S2) (x3 : Int32) (x4 : Int32), 0 ≤ x4.toInt ∧ x4.toInt ≤ 5 ∧ 6 ≤ x4.toInt + n → ∀ (H : Heap) (locs : List Loc) (ls : Array Slot), mwG G A ad (encC G.2 ad nr nm s1) H → va_S A s.heap H locs → lv_has ls 5 [(0, .ref (ad (10 + 3 * i))), (1, .int (a1)), (2, .int (a2)), (3, .int (x3)), (4, .int (x4))] → W p l e (headSpec ws_R_passTicks { frames := 3, cells := 0, slots := 0, locals := 61 }).room s m [.ref (ad (10 + 3 * i)), .int (a1), .int (a2)].toArray below meth c H locs 0 0 (MQ below (EG G A none ad (encC G.2 ad nr nm (g_R_passTicks i a1 a2 n s1 x3 x4))) [.ref (ad (10 + 3 * i)), .int (a1), .int (a2)].toArray s 0 0 A) (F0 m 5 ls []) := by
    intro n
    induction n with
    | zero =>
      intro s1 x3 x4 hI
      exact absurd hI (by omega)
    | succ n ih =>
      intro s1 x3 x4 hI H locs ls hw hS hl
      refine lv_iload hx hb d_R_passTicks_5 (lv_at hl 4 rfl) ?_
      refine lv_iconst (v := 5) hx hb d_R_passTicks_7 (by decide) ?_
      refine lv_icmp_ge (tgt := 56) hx hb d_R_passTicks_8 (by decide) (fun h501 => ?_) (fun h501 => ?_)
      · skip
        have e9 : g_R_passTicks i a1 a2 (n + 1) s1 x3 x4 = s1 := by rw [g_R_passTicks]; exact if_pos h501
        exact mw_vret hx hb hr hw hS ⟨rfl, congrArg (fun z => encC G.2 ad nr nm z) e9.symm⟩ hlocks d_R_passTicks_56
      · skip
        refine lv_aload_n hx hb d_R_passTicks_11 rfl (lv_at hl 0 rfl) ?_
        refine mw_get (v := .int (s1 (10 + 3 * i) 8)) hx hb hts in_R hown hK.1 hw (10 + 3 * i) (cC_rel hnr hi) rfl 8 (by decide) (hts _ tw_106) rfl d_R_passTicks_12 ?_
        refine lv_iconst (v := 1) hx hb d_R_passTicks_15 (by decide) ?_
        refine lv_icmp_ne (tgt := 56) hx hb d_R_passTicks_16 (by decide) (fun h502 => ?_) (fun h502 => ?_)
        · skip
          have e9 : g_R_passTicks i a1 a2 (n + 1) s1 x3 x4 = s1 := by rw [g_R_passTicks]; exact (if_neg h501).trans (if_neg h502)
          exact mw_vret hx hb hr hw hS ⟨rfl, congrArg (fun z => encC G.2 ad nr nm z) e9.symm⟩ hlocks d_R_passTicks_56
        · skip
          refine lv_iload_n hx hb d_R_passTicks_19 rfl (lv_at hl 3 rfl) ?_
          refine lv_iconst (v := 1) hx hb d_R_passTicks_20 (by decide) ?_
          refine lv_iadd hx hb d_R_passTicks_21 ?_
          refine lv_aload_n hx hb d_R_passTicks_22 rfl (lv_at hl 0 rfl) ?_
          refine mw_get (v := .int (s1 (10 + 3 * i) 11)) hx hb hts in_R hown hK.1 hw (10 + 3 * i) (cC_rel hnr hi) rfl 11 (by decide) (hts _ tw_112) rfl d_R_passTicks_23 ?_
          refine lv_aload_n hx hb d_R_passTicks_26 rfl (lv_at hl 0 rfl) ?_
          refine lv_aload_n hx hb d_R_passTicks_27 rfl (lv_at hl 0 rfl) ?_
          refine mw_get (v := .ref (ad (10 + 3 * i + 2))) hx hb hts in_R hown hK.1 hw (10 + 3 * i) (cC_rel hnr hi) rfl 4 (by decide) (hts _ tw_102) rfl d_R_passTicks_28 ?_
          refine gV (As := [.ref (ad (10 + 3 * i + 2))]) (rest := [.int (s1 (10 + 3 * i) 11), .int (x3 + 1)]) (st1 := [.int (f_R_valueOfStage s1 i (10 + 3 * i + 2) 5), .int (s1 (10 + 3 * i) 11), .int (x3 + 1)]) ⟨hx, hb, hml, hown, hts⟩ (cc_R_valueOfStage l G A ad nr nm hnr hnm s1 i hi (10 + 3 * i + 2) 5 (fun _ => cC_wa hnr hi) (by decide)) (cC_rel hnr hi) rfl tw_220 tw_217 tw_219 tw_p11 tw_5 hd_R_valueOfStage rfl rfl ⟨Nat.le_of_ble_eq_true rfl, Nat.le_of_ble_eq_true rfl⟩ hK hw hS hl.1 rfl (Nat.le_of_ble_eq_true rfl) ⟨Nat.zero_le _, Nat.zero_le _⟩ d_R_passTicks_31 rfl (fun H locs hw hS => ?_)
          refine lv_iadd hx hb d_R_passTicks_34 ?_
          refine va_mmax hx hb (hml.trans hl.1.symm) hown (hts _ tw_221) (hts _ tw_222) (hts _ tw_6) (hts _ tw_223) (Nat.le_of_ble_eq_true rfl) (Nat.le_of_ble_eq_true rfl) (Nat.le_of_ble_eq_true rfl) (Nat.le_of_ble_eq_true rfl) d_R_passTicks_35 ?_
          refine lv_istore_n (lv' := [(3, .int (if (x3 + 1) < ((s1 (10 + 3 * i) 11) + (f_R_valueOfStage s1 i (10 + 3 * i + 2) 5)) then (s1 (10 + 3 * i) 11) + (f_R_valueOfStage s1 i (10 + 3 * i + 2) 5) else x3 + 1)), (0, .ref (ad (10 + 3 * i))), (1, .int (a1)), (2, .int (a2)), (4, .int (x4))]) hx hb d_R_passTicks_38 rfl hl (by decide) rfl (fun ls hl => ?_)
          refine lv_iload_n hx hb d_R_passTicks_39 rfl (lv_at hl 0 rfl) ?_
          refine lv_iload_n hx hb d_R_passTicks_40 rfl (lv_at hl 3 rfl) ?_
          refine lv_icmp_le (tgt := 45) hx hb d_R_passTicks_41 (by decide) (fun h503 => ?_) (fun h503 => ?_)
          · skip
            refine lv_aload_n hx hb d_R_passTicks_45 rfl (lv_at hl 1 rfl) ?_
            refine lv_iload_n hx hb d_R_passTicks_46 rfl (lv_at hl 0 rfl) ?_
            refine gV (As := [.int (if (x3 + 1) < ((s1 (10 + 3 * i) 11) + (f_R_valueOfStage s1 i (10 + 3 * i + 2) 5)) then (s1 (10 + 3 * i) 11) + (f_R_valueOfStage s1 i (10 + 3 * i + 2) 5) else x3 + 1)]) (rest := []) (st1 := []) ⟨hx, hb, hml, hown, hts⟩ (cc_R_judge l G A ad nr nm hnr hnm s1 i hi (if (x3 + 1) < ((s1 (10 + 3 * i) 11) + (f_R_valueOfStage s1 i (10 + 3 * i + 2) 5)) then (s1 (10 + 3 * i) 11) + (f_R_valueOfStage s1 i (10 + 3 * i + 2) 5) else x3 + 1)) (cC_rel hnr hi) rfl tw_227 tw_224 tw_226 tw_p12 tw_5 hd_R_judge rfl rfl ⟨Nat.le_of_ble_eq_true rfl, Nat.le_of_ble_eq_true rfl⟩ hK hw hS hl.1 rfl (Nat.le_of_ble_eq_true rfl) ⟨Nat.zero_le _, Nat.zero_le _⟩ d_R_passTicks_47 rfl (fun H locs hw hS => ?_)
            refine lv_iinc (v := x4 + 1) (lv' := [(4, .int (x4 + 1)), (3, .int (if (x3 + 1) < ((s1 (10 + 3 * i) 11) + (f_R_valueOfStage s1 i (10 + 3 * i + 2) 5)) then (s1 (10 + 3 * i) 11) + (f_R_valueOfStage s1 i (10 + 3 * i + 2) 5) else x3 + 1)), (0, .ref (ad (10 + 3 * i))), (1, .int (a1)), (2, .int (a2))]) hx hb d_R_passTicks_50 hl (k := 4) rfl (by first | rfl | decide) (by decide) rfl (fun ls hl => ?_)
            refine lv_goto (tgt := 5) hx hb d_R_passTicks_53 (by decide) ?_
            have e9 : g_R_passTicks i a1 a2 (n + 1) s1 x3 x4 = g_R_passTicks i a1 a2 n (f_R_judge s1 i (if (x3 + 1) < ((s1 (10 + 3 * i) 11) + (f_R_valueOfStage s1 i (10 + 3 * i + 2) 5)) then (s1 (10 + 3 * i) 11) + (f_R_valueOfStage s1 i (10 + 3 * i + 2) 5) else x3 + 1)) (if (x3 + 1) < ((s1 (10 + 3 * i) 11) + (f_R_valueOfStage s1 i (10 + 3 * i + 2) 5)) then (s1 (10 + 3 * i) 11) + (f_R_valueOfStage s1 i (10 + 3 * i + 2) 5) else x3 + 1) (x4 + 1) := by rw [g_R_passTicks]; exact (if_neg h501).trans ((if_pos h502).trans (if_pos h503))
            rw [e9]
            exact ih (f_R_judge s1 i (if (x3 + 1) < ((s1 (10 + 3 * i) 11) + (f_R_valueOfStage s1 i (10 + 3 * i + 2) 5)) then (s1 (10 + 3 * i) 11) + (f_R_valueOfStage s1 i (10 + 3 * i + 2) 5) else x3 + 1)) (if (x3 + 1) < ((s1 (10 + 3 * i) 11) + (f_R_valueOfStage s1 i (10 + 3 * i + 2) 5)) then (s1 (10 + 3 * i) 11) + (f_R_valueOfStage s1 i (10 + 3 * i + 2) 5) else x3 + 1) (x4 + 1) (lp_up hI h501) _ _ _ hw hS (lv_sub hl [2, 3, 4, 1, 0] rfl)
          · skip
            have e9 : g_R_passTicks i a1 a2 (n + 1) s1 x3 x4 = s1 := by rw [g_R_passTicks]; exact (if_neg h501).trans ((if_pos h502).trans (if_neg h503))
            exact mw_vret hx hb hr hw hS ⟨rfl, congrArg (fun z => encC G.2 ad nr nm z) e9.symm⟩ hlocks d_R_passTicks_44
  have hl := lv_entry ([.ref (ad (10 + 3 * i)), .int (a1), .int (a2)]) (n := 5) (Nat.le_of_ble_eq_true rfl)
  rw [lg_entry_eq]
  generalize (lg_sl ([.ref (ad (10 + 3 * i)), .int (a1), .int (a2)]) ++ List.replicate (5 - (lg_sl ([.ref (ad (10 + 3 * i)), .int (a1), .int (a2)])).length) Slot.unset).toArray = ls at hl ⊢
  have hl : lv_has ls 5 [(0, .ref (ad (10 + 3 * i))), (1, .int (a1)), (2, .int (a2))] := hl
  refine lv_iload_n hx hb d_R_passTicks_0 rfl (lv_at hl 1 rfl) ?_
  refine lv_istore_n (lv' := [(3, .int (a1)), (0, .ref (ad (10 + 3 * i))), (1, .int (a1)), (2, .int (a2))]) hx hb d_R_passTicks_1 rfl hl (by decide) rfl (fun ls hl => ?_)
  refine lv_iconst (v := 0) hx hb d_R_passTicks_2 (by decide) ?_
  refine lv_istore (lv' := [(4, .int (0)), (3, .int (a1)), (0, .ref (ad (10 + 3 * i))), (1, .int (a1)), (2, .int (a2))]) hx hb d_R_passTicks_3 hl (by decide) rfl (fun ls hl => ?_)
  have e9 : f_R_passTicks s0 i a1 a2 = g_R_passTicks i a1 a2 6 s0 a1 0 := rfl
  rw [e9]
  exact loop 6 s0 a1 0 (by decide) _ _ _ hw hS (lv_sub hl [2, 3, 4, 1, 0] rfl)

theorem rollAt_fr {s : S2} {i : Nat} {a1 a2 : Int32} {q : Nat} (h : q ≠ 10 + 3 * i) : f_R_rollAt s i a1 a2 q = s q := by
  unfold f_R_rollAt
  simp only [up2_ne h]
theorem holdFor_fr {s : S2} {i : Nat} {a1 : Int32} {q : Nat} (h : q ≠ 10 + 3 * i) : f_R_holdFor s i a1 q = s q := by
  unfold f_R_holdFor
  simp only [up2_ne h]
theorem judge_fr {s : S2} {i : Nat} {a1 : Int32} {q : Nat} (h : q ≠ 10 + 3 * i) : f_R_judge s i a1 q = s q := by
  unfold f_R_judge
  repeat' split
  all_goals first | exact holdFor_fr h | exact rollAt_fr h | exact up2_ne h
theorem ptg_fr (i : Nat) (a1 a2 : Int32) : ∀ (n : Nat) (s : S2) (x3 x4 : Int32) (q : Nat), q ≠ 10 + 3 * i → g_R_passTicks i a1 a2 n s x3 x4 q = s q := by
  intro n
  induction n with
  | zero => intro s x3 x4 q h; rfl
  | succ n ih =>
    intro s x3 x4 q h
    rw [g_R_passTicks]
    repeat' split
    all_goals first | rfl | rw [ih _ _ _ _ h, judge_fr h]
theorem pt_fr {s : S2} {i : Nat} {a1 a2 : Int32} {q : Nat} (h : q ≠ 10 + 3 * i) : f_R_passTicks s i a1 a2 q = s q := ptg_fr i a1 a2 _ s _ _ q h

set_option maxHeartbeats 4000000 in
set_option maxRecDepth 100000 in
theorem cc_C_releaseAt (l : Launch) (G : Gx) (A : Nat → Prop) (ad : Nat → Nat) (nr nm : Nat) (hnr : nr ≤ 16) (hnm : nm ≤ 30) (s0 : S2) (a1 : Int32) : Met l y_C_releaseAt ws_C_releaseAt { frames := 1, cells := 0, slots := 0, locals := 22 } (PG G [.ref (ad (0)), .int (a1)] A ad (encC G.2 ad nr nm s0)) (EG G A (some (rVal ad nr a1)) ad (encC G.2 ad nr nm s0)) 0 0 A := by
  refine Met.ofW (cc := c_C_releaseAt) (maxL := 2) (ret := (some (.object "RollStages$Release"))) (by decide) rfl ?_
  intro p e s m args below meth c s₁ B hml hv
  obtain ⟨rfl, hw, hK⟩ := hv
  have hx := B.exec
  have hb := B.bytes
  have hr := B.returns
  have hts : ∀ w ∈ tbG, w.before [.ref (ad (0)), .int (a1)].toArray s = true := fun w h => atoms_spec (ws := ws_C_releaseAt) B.pre w (List.mem_cons_of_mem _ h)
  have hown : s.vm.findClass "RollStages" = some m.cls := findClass_of_methodNamed B.named
  have hlocks := B.notSynchronized
  have hS : va_S A s.heap s.heap [] := va_S.rf
  have hw : mwG G A ad (encC G.2 ad nr nm s0) s.heap := hw
  have hl := lv_entry ([.ref (ad (0)), .int (a1)]) (n := 2) (Nat.le_of_ble_eq_true rfl)
  rw [lg_entry_eq]
  generalize (lg_sl ([.ref (ad (0)), .int (a1)]) ++ List.replicate (2 - (lg_sl ([.ref (ad (0)), .int (a1)])).length) Slot.unset).toArray = ls at hl ⊢
  have hl : lv_has ls 2 [(0, .ref (ad (0))), (1, .int (a1))] := hl
  refine lv_iload_n hx hb d_C_releaseAt_0 rfl (lv_at hl 1 rfl) ?_
  refine lv_iconst (v := 0) hx hb d_C_releaseAt_1 (by decide) ?_
  refine lv_bipush (v := 15) hx hb d_C_releaseAt_2 (by decide) ?_
  refine gS (As := [.int (a1), .int (0), .int (15)]) (rest := []) (st1 := [.int (f_C_within a1 0 15)]) ⟨hx, hb, hml, hown, hts⟩ (cc_C_within l G A ad nr nm hnr hnm s0 a1 0 15) tw_89 tw_87 tw_88 tw_1 hd_C_within rfl rfl ⟨Nat.le_of_ble_eq_true rfl, Nat.le_of_ble_eq_true rfl⟩ hK hw hS hl.1 rfl (Nat.le_of_ble_eq_true rfl) ⟨Nat.zero_le _, Nat.zero_le _⟩ d_C_releaseAt_4 rfl (fun H locs hw hS => ?_)
  refine lv_if_eq (tgt := 19) hx hb d_C_releaseAt_7 (by decide) (fun h1 => ?_) (fun h1 => ?_)
  · skip
    refine lv_null hx hb d_C_releaseAt_19 ?_
    exact mw_aret hx hb hr (Or.inl ⟨_, rfl⟩) (Or.inl rfl) hw hS (congrArg some (rVal_out h1 hnr)) ⟨rfl, rfl⟩ hlocks d_C_releaseAt_20
  · skip
    refine lv_aload_n hx hb d_C_releaseAt_10 rfl (lv_at hl 0 rfl) ?_
    refine mw_get (v := .ref (ad (1))) hx hb hts in_C hown hK.1 hw (0) cC_0 rfl 0 (by decide) (hts _ tw_58) rfl d_C_releaseAt_11 ?_
    refine lv_iload_n hx hb d_C_releaseAt_14 rfl (lv_at hl 1 rfl) ?_
    refine mw_aldq hx hb hK.1 hw (1) 1 cC_1 rfl (within_inC h1 (by decide)) d_C_releaseAt_15 ?_
    refine lv_goto (tgt := 20) hx hb d_C_releaseAt_16 (by decide) ?_
    exact mw_aret hx hb hr (Or.inl ⟨_, rfl⟩) (va_rf_or _) hw hS (congrArg some (rVal_in h1)) ⟨rfl, rfl⟩ hlocks d_C_releaseAt_20

set_option maxHeartbeats 4000000 in
set_option maxRecDepth 100000 in
theorem cc_C_machineAt (l : Launch) (G : Gx) (A : Nat → Prop) (ad : Nat → Nat) (nr nm : Nat) (hnr : nr ≤ 16) (hnm : nm ≤ 30) (s0 : S2) (a1 : Int32) : Met l y_C_machineAt ws_C_machineAt { frames := 1, cells := 0, slots := 0, locals := 22 } (PG G [.ref (ad (0)), .int (a1)] A ad (encC G.2 ad nr nm s0)) (EG G A (some (mVal ad nm a1)) ad (encC G.2 ad nr nm s0)) 0 0 A := by
  refine Met.ofW (cc := c_C_machineAt) (maxL := 2) (ret := (some (.object "RollStages$Machine"))) (by decide) rfl ?_
  intro p e s m args below meth c s₁ B hml hv
  obtain ⟨rfl, hw, hK⟩ := hv
  have hx := B.exec
  have hb := B.bytes
  have hr := B.returns
  have hts : ∀ w ∈ tbG, w.before [.ref (ad (0)), .int (a1)].toArray s = true := fun w h => atoms_spec (ws := ws_C_machineAt) B.pre w (List.mem_cons_of_mem _ h)
  have hown : s.vm.findClass "RollStages" = some m.cls := findClass_of_methodNamed B.named
  have hlocks := B.notSynchronized
  have hS : va_S A s.heap s.heap [] := va_S.rf
  have hw : mwG G A ad (encC G.2 ad nr nm s0) s.heap := hw
  have hl := lv_entry ([.ref (ad (0)), .int (a1)]) (n := 2) (Nat.le_of_ble_eq_true rfl)
  rw [lg_entry_eq]
  generalize (lg_sl ([.ref (ad (0)), .int (a1)]) ++ List.replicate (2 - (lg_sl ([.ref (ad (0)), .int (a1)])).length) Slot.unset).toArray = ls at hl ⊢
  have hl : lv_has ls 2 [(0, .ref (ad (0))), (1, .int (a1))] := hl
  refine lv_iload_n hx hb d_C_machineAt_0 rfl (lv_at hl 1 rfl) ?_
  refine lv_iconst (v := 0) hx hb d_C_machineAt_1 (by decide) ?_
  refine lv_bipush (v := 29) hx hb d_C_machineAt_2 (by decide) ?_
  refine gS (As := [.int (a1), .int (0), .int (29)]) (rest := []) (st1 := [.int (f_C_within a1 0 29)]) ⟨hx, hb, hml, hown, hts⟩ (cc_C_within l G A ad nr nm hnr hnm s0 a1 0 29) tw_89 tw_87 tw_88 tw_1 hd_C_within rfl rfl ⟨Nat.le_of_ble_eq_true rfl, Nat.le_of_ble_eq_true rfl⟩ hK hw hS hl.1 rfl (Nat.le_of_ble_eq_true rfl) ⟨Nat.zero_le _, Nat.zero_le _⟩ d_C_machineAt_4 rfl (fun H locs hw hS => ?_)
  refine lv_if_eq (tgt := 19) hx hb d_C_machineAt_7 (by decide) (fun h1 => ?_) (fun h1 => ?_)
  · skip
    refine lv_null hx hb d_C_machineAt_19 ?_
    exact mw_aret hx hb hr (Or.inl ⟨_, rfl⟩) (Or.inl rfl) hw hS (congrArg some (mVal_out h1 hnm)) ⟨rfl, rfl⟩ hlocks d_C_machineAt_20
  · skip
    refine lv_aload_n hx hb d_C_machineAt_10 rfl (lv_at hl 0 rfl) ?_
    refine mw_get (v := .ref (ad (2))) hx hb hts in_C hown hK.1 hw (0) cC_0 rfl 1 (by decide) (hts _ tw_59) rfl d_C_machineAt_11 ?_
    refine lv_iload_n hx hb d_C_machineAt_14 rfl (lv_at hl 1 rfl) ?_
    refine mw_aldq hx hb hK.1 hw (2) 2 cC_2 rfl (within_inC h1 (by decide)) d_C_machineAt_15 ?_
    refine lv_goto (tgt := 20) hx hb d_C_machineAt_16 (by decide) ?_
    exact mw_aret hx hb hr (Or.inl ⟨_, rfl⟩) (va_rf_or _) hw hS (congrArg some (mVal_in h1)) ⟨rfl, rfl⟩ hlocks d_C_machineAt_20

def f_C_isOpenTo (nr nm : Nat) (s0 : S2) (j : Nat) (i : Nat) (a1 : Int32) : Int32 :=
  if (s0 (10 + 3 * i) 0) = (s0 (58 + j) 0) then
    if (f_C_isChannel (s0 (58 + j) 0)) = 0 then
      0
    else
      if (s0 (3) (Int32.toNatClampNeg (s0 (58 + j) 0))) = (-1) then
        1
      else
        if (s0 (3) (Int32.toNatClampNeg (s0 (58 + j) 0))) < a1 then
          0
        else
          1
  else
    0
theorem fb_C_isOpenTo (nr nm : Nat) (s0 : S2) (j : Nat) (i : Nat) (a1 : Int32) : narrow .boolean (.int (f_C_isOpenTo nr nm s0 j i a1)) = .int (f_C_isOpenTo nr nm s0 j i a1) := by
  unfold f_C_isOpenTo
  repeat' split
  all_goals first | rfl | exact narrow_b0 | exact narrow_b1
set_option maxHeartbeats 4000000 in
set_option maxRecDepth 100000 in
theorem cc_C_isOpenTo (l : Launch) (G : Gx) (A : Nat → Prop) (ad : Nat → Nat) (nr nm : Nat) (hnr : nr ≤ 16) (hnm : nm ≤ 30) (s0 : S2) (j : Nat) (hj : j < nm) (i : Nat) (hi : i < nr) (a1 : Int32) : Met l y_C_isOpenTo ws_C_isOpenTo { frames := 2, cells := 0, slots := 0, locals := 42 } (PG G [.ref (ad (0)), .ref (ad (58 + j)), .ref (ad (10 + 3 * i)), .int (a1)] A ad (encC G.2 ad nr nm s0)) (EG G A (some (.int (f_C_isOpenTo nr nm s0 j i a1))) ad (encC G.2 ad nr nm s0)) 0 0 A := by
  refine Met.ofW (cc := c_C_isOpenTo) (maxL := 5) (ret := (some .boolean)) (by decide) rfl ?_
  intro p e s m args below meth c s₁ B hml hv
  obtain ⟨rfl, hw, hK⟩ := hv
  have hx := B.exec
  have hb := B.bytes
  have hr := B.returns
  have hts : ∀ w ∈ tbG, w.before [.ref (ad (0)), .ref (ad (58 + j)), .ref (ad (10 + 3 * i)), .int (a1)].toArray s = true := fun w h => atoms_spec (ws := ws_C_isOpenTo) B.pre w (List.mem_cons_of_mem _ h)
  have hown : s.vm.findClass "RollStages" = some m.cls := findClass_of_methodNamed B.named
  have hlocks := B.notSynchronized
  have hS : va_S A s.heap s.heap [] := va_S.rf
  have hw : mwG G A ad (encC G.2 ad nr nm s0) s.heap := hw
  have hl := lv_entry ([.ref (ad (0)), .ref (ad (58 + j)), .ref (ad (10 + 3 * i)), .int (a1)]) (n := 5) (Nat.le_of_ble_eq_true rfl)
  rw [lg_entry_eq]
  generalize (lg_sl ([.ref (ad (0)), .ref (ad (58 + j)), .ref (ad (10 + 3 * i)), .int (a1)]) ++ List.replicate (5 - (lg_sl ([.ref (ad (0)), .ref (ad (58 + j)), .ref (ad (10 + 3 * i)), .int (a1)])).length) Slot.unset).toArray = ls at hl ⊢
  have hl : lv_has ls 5 [(0, .ref (ad (0))), (1, .ref (ad (58 + j))), (2, .ref (ad (10 + 3 * i))), (3, .int (a1))] := hl
  refine lv_aload_n hx hb d_C_isOpenTo_0 rfl (lv_at hl 2 rfl) ?_
  refine mw_getN (v := .int (s0 (10 + 3 * i) 0)) hx hb hts in_R hown hK.1 hw (10 + 3 * i) (cC_rel hnr hi) rfl 0 (by decide) (hK.2.1 _ nf_2) rfl d_C_isOpenTo_1 ?_
  refine lv_aload_n hx hb d_C_isOpenTo_4 rfl (lv_at hl 1 rfl) ?_
  refine mw_getN (v := .int (s0 (58 + j) 0)) hx hb hts in_M hown hK.1 hw (58 + j) (cC_mac hj) rfl 0 (by decide) (hK.2.1 _ nf_7) rfl d_C_isOpenTo_5 ?_
  refine lv_icmp_ne (tgt := 21) hx hb d_C_isOpenTo_8 (by decide) (fun h1 => ?_) (fun h1 => ?_)
  · skip
    refine lv_iconst (v := 0) hx hb d_C_isOpenTo_21 (by decide) ?_
    have e9 : f_C_isOpenTo nr nm s0 j i a1 = 0 := by unfold f_C_isOpenTo; exact if_neg h1
    exact mw_iret hx hb hr rfl hw hS (congrArg (fun z => some (Value.int z)) e9.symm) ⟨rfl, rfl⟩ hlocks d_C_isOpenTo_22
  · skip
    refine lv_aload_n hx hb d_C_isOpenTo_11 rfl (lv_at hl 1 rfl) ?_
    refine mw_getN (v := .int (s0 (58 + j) 0)) hx hb hts in_M hown hK.1 hw (58 + j) (cC_mac hj) rfl 0 (by decide) (hK.2.1 _ nf_7) rfl d_C_isOpenTo_12 ?_
    refine gS (As := [.int (s0 (58 + j) 0)]) (rest := []) (st1 := [.int (f_C_isChannel (s0 (58 + j) 0))]) ⟨hx, hb, hml, hown, hts⟩ (cc_C_isChannel l G A ad nr nm hnr hnm s0 (s0 (58 + j) 0)) tw_86 tw_84 tw_85 tw_1 hd_C_isChannel rfl rfl ⟨Nat.le_of_ble_eq_true rfl, Nat.le_of_ble_eq_true rfl⟩ hK hw hS hl.1 rfl (Nat.le_of_ble_eq_true rfl) ⟨Nat.zero_le _, Nat.zero_le _⟩ d_C_isOpenTo_15 rfl (fun H locs hw hS => ?_)
    refine lv_if_ne (tgt := 23) hx hb d_C_isOpenTo_18 (by decide) (fun h2 => ?_) (fun h2 => ?_)
    · skip
      refine lv_aload_n hx hb d_C_isOpenTo_23 rfl (lv_at hl 0 rfl) ?_
      refine mw_get (v := .ref (ad (3))) hx hb hts in_C hown hK.1 hw (0) cC_0 rfl 2 (by decide) (hts _ tw_60) rfl d_C_isOpenTo_24 ?_
      refine lv_aload_n hx hb d_C_isOpenTo_27 rfl (lv_at hl 1 rfl) ?_
      refine mw_getN (v := .int (s0 (58 + j) 0)) hx hb hts in_M hown hK.1 hw (58 + j) (cC_mac hj) rfl 0 (by decide) (hK.2.1 _ nf_7) rfl d_C_isOpenTo_28 ?_
      refine mw_iald hx hb hK.1 hw (3) 0 cC_3 rfl (chan_in h2) d_C_isOpenTo_31 ?_
      refine lv_istore (lv' := [(4, .int (s0 (3) (Int32.toNatClampNeg (s0 (58 + j) 0)))), (0, .ref (ad (0))), (1, .ref (ad (58 + j))), (2, .ref (ad (10 + 3 * i))), (3, .int (a1))]) hx hb d_C_isOpenTo_32 hl (by decide) rfl (fun ls hl => ?_)
      refine lv_iload hx hb d_C_isOpenTo_34 (lv_at hl 0 rfl) ?_
      refine lv_iconst (v := -1) hx hb d_C_isOpenTo_36 (by decide) ?_
      refine lv_icmp_eq (tgt := 46) hx hb d_C_isOpenTo_37 (by decide) (fun h3 => ?_) (fun h3 => ?_)
      · skip
        refine lv_iconst (v := 1) hx hb d_C_isOpenTo_46 (by decide) ?_
        refine lv_goto (tgt := 51) hx hb d_C_isOpenTo_47 (by decide) ?_
        have e9 : f_C_isOpenTo nr nm s0 j i a1 = 1 := by unfold f_C_isOpenTo; exact (if_pos h1).trans ((if_neg h2).trans (if_pos h3))
        exact mw_iret hx hb hr rfl hw hS (congrArg (fun z => some (Value.int z)) e9.symm) ⟨rfl, rfl⟩ hlocks d_C_isOpenTo_51
      · skip
        refine lv_iload_n hx hb d_C_isOpenTo_40 rfl (lv_at hl 4 rfl) ?_
        refine lv_iload hx hb d_C_isOpenTo_41 (lv_at hl 0 rfl) ?_
        refine lv_icmp_gt (tgt := 50) hx hb d_C_isOpenTo_43 (by decide) (fun h4 => ?_) (fun h4 => ?_)
        · skip
          refine lv_iconst (v := 0) hx hb d_C_isOpenTo_50 (by decide) ?_
          have e9 : f_C_isOpenTo nr nm s0 j i a1 = 0 := by unfold f_C_isOpenTo; exact (if_pos h1).trans ((if_neg h2).trans ((if_neg h3).trans (if_pos h4)))
          exact mw_iret hx hb hr rfl hw hS (congrArg (fun z => some (Value.int z)) e9.symm) ⟨rfl, rfl⟩ hlocks d_C_isOpenTo_51
        · skip
          refine lv_iconst (v := 1) hx hb d_C_isOpenTo_46 (by decide) ?_
          refine lv_goto (tgt := 51) hx hb d_C_isOpenTo_47 (by decide) ?_
          have e9 : f_C_isOpenTo nr nm s0 j i a1 = 1 := by unfold f_C_isOpenTo; exact (if_pos h1).trans ((if_neg h2).trans ((if_neg h3).trans (if_neg h4)))
          exact mw_iret hx hb hr rfl hw hS (congrArg (fun z => some (Value.int z)) e9.symm) ⟨rfl, rfl⟩ hlocks d_C_isOpenTo_51
    · skip
      refine lv_iconst (v := 0) hx hb d_C_isOpenTo_21 (by decide) ?_
      have e9 : f_C_isOpenTo nr nm s0 j i a1 = 0 := by unfold f_C_isOpenTo; exact (if_pos h1).trans (if_pos h2)
      exact mw_iret hx hb hr rfl hw hS (congrArg (fun z => some (Value.int z)) e9.symm) ⟨rfl, rfl⟩ hlocks d_C_isOpenTo_22

def f_C_mayGet (nr nm : Nat) (s0 : S2) (j : Nat) (a1 : Int32) : Int32 :=
  if rOk nr a1 then
    if (f_C_isOpenTo nr nm s0 j (Int32.toNatClampNeg a1) a1) = 0 then
      0
    else
      if (f_R_isForced s0 (Int32.toNatClampNeg a1)) = 0 then
        if (f_R_shareNow s0 (Int32.toNatClampNeg a1)) ≤ (s0 (58 + j) 2) then
          0
        else
          if (f_R_reachesRing s0 (Int32.toNatClampNeg a1) (s0 (58 + j) 1)) = 0 then
            0
          else
            1
      else
        1
  else
    0
theorem fb_C_mayGet (nr nm : Nat) (s0 : S2) (j : Nat) (a1 : Int32) : narrow .boolean (.int (f_C_mayGet nr nm s0 j a1)) = .int (f_C_mayGet nr nm s0 j a1) := by
  unfold f_C_mayGet
  repeat' split
  all_goals first | rfl | exact narrow_b0 | exact narrow_b1
set_option maxHeartbeats 4000000 in
set_option maxRecDepth 100000 in
theorem cc_C_mayGet (l : Launch) (G : Gx) (A : Nat → Prop) (ad : Nat → Nat) (nr nm : Nat) (hnr : nr ≤ 16) (hnm : nm ≤ 30) (s0 : S2) (j : Nat) (hj : j < nm) (a1 : Int32) : Met l y_C_mayGet ws_C_mayGet { frames := 3, cells := 0, slots := 0, locals := 66 } (PG G [.ref (ad (0)), .ref (ad (58 + j)), .int (a1)] A ad (encC G.2 ad nr nm s0)) (EG G A (some (.int (f_C_mayGet nr nm s0 j a1))) ad (encC G.2 ad nr nm s0)) 0 0 A := by
  refine Met.ofW (cc := c_C_mayGet) (maxL := 4) (ret := (some .boolean)) (by decide) rfl ?_
  intro p e s m args below meth c s₁ B hml hv
  obtain ⟨rfl, hw, hK⟩ := hv
  have hx := B.exec
  have hb := B.bytes
  have hr := B.returns
  have hts : ∀ w ∈ tbG, w.before [.ref (ad (0)), .ref (ad (58 + j)), .int (a1)].toArray s = true := fun w h => atoms_spec (ws := ws_C_mayGet) B.pre w (List.mem_cons_of_mem _ h)
  have hown : s.vm.findClass "RollStages" = some m.cls := findClass_of_methodNamed B.named
  have hlocks := B.notSynchronized
  have hS : va_S A s.heap s.heap [] := va_S.rf
  have hw : mwG G A ad (encC G.2 ad nr nm s0) s.heap := hw
  have hl := lv_entry ([.ref (ad (0)), .ref (ad (58 + j)), .int (a1)]) (n := 4) (Nat.le_of_ble_eq_true rfl)
  rw [lg_entry_eq]
  generalize (lg_sl ([.ref (ad (0)), .ref (ad (58 + j)), .int (a1)]) ++ List.replicate (4 - (lg_sl ([.ref (ad (0)), .ref (ad (58 + j)), .int (a1)])).length) Slot.unset).toArray = ls at hl ⊢
  have hl : lv_has ls 4 [(0, .ref (ad (0))), (1, .ref (ad (58 + j))), (2, .int (a1))] := hl
  refine lv_aload_n hx hb d_C_mayGet_0 rfl (lv_at hl 0 rfl) ?_
  refine lv_iload_n hx hb d_C_mayGet_1 rfl (lv_at hl 2 rfl) ?_
  refine gV (As := [.int (a1)]) (rest := []) (st1 := [rVal ad nr a1]) ⟨hx, hb, hml, hown, hts⟩ (cc_C_releaseAt l G A ad nr nm hnr hnm s0 a1) cC_0 rfl tw_151 tw_148 tw_150 tw_p0 tw_1 hd_C_releaseAt rfl rfl ⟨Nat.le_of_ble_eq_true rfl, Nat.le_of_ble_eq_true rfl⟩ hK hw hS hl.1 rfl (Nat.le_of_ble_eq_true rfl) ⟨Nat.zero_le _, Nat.zero_le _⟩ d_C_mayGet_2 rfl (fun H locs hw hS => ?_)
  by_cases h1 : rOk nr a1
  · skip
    refine W.eq (g2 := F0 m (2 + 3) ls [.ref (ad (10 + 3 * (Int32.toNatClampNeg a1)))]) (by rw [rVal_p h1]) ?_
    refine lv_astore_n (lv' := [(3, .ref (ad (10 + 3 * (Int32.toNatClampNeg a1)))), (0, .ref (ad (0))), (1, .ref (ad (58 + j))), (2, .int (a1))]) hx hb d_C_mayGet_5 rfl hl (by decide) rfl (fun ls hl => ?_)
    refine lv_aload_n hx hb d_C_mayGet_6 rfl (lv_at hl 0 rfl) ?_
    refine lv_ifnull hx hb d_C_mayGet_7 ?_
    refine lv_aload_n hx hb d_C_mayGet_10 rfl (lv_at hl 1 rfl) ?_
    refine lv_aload_n hx hb d_C_mayGet_11 rfl (lv_at hl 2 rfl) ?_
    refine lv_aload_n hx hb d_C_mayGet_12 rfl (lv_at hl 0 rfl) ?_
    refine lv_iload_n hx hb d_C_mayGet_13 rfl (lv_at hl 3 rfl) ?_
    refine gV (As := [.ref (ad (58 + j)), .ref (ad (10 + 3 * (Int32.toNatClampNeg a1))), .int (a1)]) (rest := []) (st1 := [.int (f_C_isOpenTo nr nm s0 j (Int32.toNatClampNeg a1) a1)]) ⟨hx, hb, hml, hown, hts⟩ (cc_C_isOpenTo l G A ad nr nm hnr hnm s0 j hj (Int32.toNatClampNeg a1) h1.2 a1) cC_0 rfl tw_324 tw_321 tw_323 tw_p22 tw_1 hd_C_isOpenTo rfl rfl ⟨Nat.le_of_ble_eq_true rfl, Nat.le_of_ble_eq_true rfl⟩ hK hw hS hl.1 rfl (Nat.le_of_ble_eq_true rfl) ⟨Nat.zero_le _, Nat.zero_le _⟩ d_C_mayGet_14 rfl (fun H locs hw hS => ?_)
    refine lv_if_ne (tgt := 22) hx hb d_C_mayGet_17 (by decide) (fun h2 => ?_) (fun h2 => ?_)
    · skip
      refine lv_aload_n hx hb d_C_mayGet_22 rfl (lv_at hl 0 rfl) ?_
      refine gVN (As := []) (rest := []) (st1 := [.int (f_R_isForced s0 (Int32.toNatClampNeg a1))]) ⟨hx, hb, hml, hown, hts⟩ (cc_R_isForced l G A ad nr nm hnr hnm s0 (Int32.toNatClampNeg a1) h1.2) (cC_rel hnr h1.2) rfl tw_328 nw_15 tw_327 tw_p23 tw_5 hd_R_isForced rfl rfl ⟨Nat.le_of_ble_eq_true rfl, Nat.le_of_ble_eq_true rfl⟩ hK hw hS hl.1 rfl (Nat.le_of_ble_eq_true rfl) ⟨Nat.zero_le _, Nat.zero_le _⟩ d_C_mayGet_23 rfl (fun H locs hw hS => ?_)
      refine lv_if_ne (tgt := 51) hx hb d_C_mayGet_26 (by decide) (fun h3 => ?_) (fun h3 => ?_)
      · skip
        refine lv_iconst (v := 1) hx hb d_C_mayGet_51 (by decide) ?_
        refine lv_goto (tgt := 56) hx hb d_C_mayGet_52 (by decide) ?_
        have e9 : f_C_mayGet nr nm s0 j a1 = 1 := by unfold f_C_mayGet; exact (if_pos h1).trans ((if_neg h2).trans (if_neg h3))
        exact mw_iret hx hb hr rfl hw hS (congrArg (fun z => some (Value.int z)) e9.symm) ⟨rfl, rfl⟩ hlocks d_C_mayGet_56
      · skip
        refine lv_aload_n hx hb d_C_mayGet_29 rfl (lv_at hl 2 rfl) ?_
        refine mw_getN (v := .int (s0 (58 + j) 2)) hx hb hts in_M hown hK.1 hw (58 + j) (cC_mac hj) rfl 2 (by decide) (hK.2.1 _ nf_9) rfl d_C_mayGet_30 ?_
        refine lv_aload_n hx hb d_C_mayGet_33 rfl (lv_at hl 0 rfl) ?_
        refine gVN (As := []) (rest := [.int (s0 (58 + j) 2)]) (st1 := [.int (f_R_shareNow s0 (Int32.toNatClampNeg a1)), .int (s0 (58 + j) 2)]) ⟨hx, hb, hml, hown, hts⟩ (cc_R_shareNow l G A ad nr nm hnr hnm s0 (Int32.toNatClampNeg a1) h1.2) (cC_rel hnr h1.2) rfl tw_251 nw_12 tw_250 tw_p17 tw_5 hd_R_shareNow rfl rfl ⟨Nat.le_of_ble_eq_true rfl, Nat.le_of_ble_eq_true rfl⟩ hK hw hS hl.1 rfl (Nat.le_of_ble_eq_true rfl) ⟨Nat.zero_le _, Nat.zero_le _⟩ d_C_mayGet_34 rfl (fun H locs hw hS => ?_)
        refine lv_icmp_ge (tgt := 55) hx hb d_C_mayGet_37 (by decide) (fun h4 => ?_) (fun h4 => ?_)
        · skip
          refine lv_iconst (v := 0) hx hb d_C_mayGet_55 (by decide) ?_
          have e9 : f_C_mayGet nr nm s0 j a1 = 0 := by unfold f_C_mayGet; exact (if_pos h1).trans ((if_neg h2).trans ((if_pos h3).trans (if_pos h4)))
          exact mw_iret hx hb hr rfl hw hS (congrArg (fun z => some (Value.int z)) e9.symm) ⟨rfl, rfl⟩ hlocks d_C_mayGet_56
        · skip
          refine lv_aload_n hx hb d_C_mayGet_40 rfl (lv_at hl 0 rfl) ?_
          refine lv_aload_n hx hb d_C_mayGet_41 rfl (lv_at hl 2 rfl) ?_
          refine mw_getN (v := .int (s0 (58 + j) 1)) hx hb hts in_M hown hK.1 hw (58 + j) (cC_mac hj) rfl 1 (by decide) (hK.2.1 _ nf_8) rfl d_C_mayGet_42 ?_
          refine gVN (As := [.int (s0 (58 + j) 1)]) (rest := []) (st1 := [.int (f_R_reachesRing s0 (Int32.toNatClampNeg a1) (s0 (58 + j) 1))]) ⟨hx, hb, hml, hown, hts⟩ (cc_R_reachesRing l G A ad nr nm hnr hnm s0 (Int32.toNatClampNeg a1) h1.2 (s0 (58 + j) 1)) (cC_rel hnr h1.2) rfl tw_332 nw_16 tw_331 tw_p24 tw_5 hd_R_reachesRing rfl rfl ⟨Nat.le_of_ble_eq_true rfl, Nat.le_of_ble_eq_true rfl⟩ hK hw hS hl.1 rfl (Nat.le_of_ble_eq_true rfl) ⟨Nat.zero_le _, Nat.zero_le _⟩ d_C_mayGet_45 rfl (fun H locs hw hS => ?_)
          refine lv_if_eq (tgt := 55) hx hb d_C_mayGet_48 (by decide) (fun h5 => ?_) (fun h5 => ?_)
          · skip
            refine lv_iconst (v := 0) hx hb d_C_mayGet_55 (by decide) ?_
            have e9 : f_C_mayGet nr nm s0 j a1 = 0 := by unfold f_C_mayGet; exact (if_pos h1).trans ((if_neg h2).trans ((if_pos h3).trans ((if_neg h4).trans (if_pos h5))))
            exact mw_iret hx hb hr rfl hw hS (congrArg (fun z => some (Value.int z)) e9.symm) ⟨rfl, rfl⟩ hlocks d_C_mayGet_56
          · skip
            refine lv_iconst (v := 1) hx hb d_C_mayGet_51 (by decide) ?_
            refine lv_goto (tgt := 56) hx hb d_C_mayGet_52 (by decide) ?_
            have e9 : f_C_mayGet nr nm s0 j a1 = 1 := by unfold f_C_mayGet; exact (if_pos h1).trans ((if_neg h2).trans ((if_pos h3).trans ((if_neg h4).trans (if_neg h5))))
            exact mw_iret hx hb hr rfl hw hS (congrArg (fun z => some (Value.int z)) e9.symm) ⟨rfl, rfl⟩ hlocks d_C_mayGet_56
    · skip
      refine lv_iconst (v := 0) hx hb d_C_mayGet_20 (by decide) ?_
      have e9 : f_C_mayGet nr nm s0 j a1 = 0 := by unfold f_C_mayGet; exact (if_pos h1).trans (if_pos h2)
      exact mw_iret hx hb hr rfl hw hS (congrArg (fun z => some (Value.int z)) e9.symm) ⟨rfl, rfl⟩ hlocks d_C_mayGet_21
  · skip
    refine W.eq (g2 := F0 m (2 + 3) ls [.null]) (by rw [rVal_n h1]) ?_
    refine lv_astore_nN (lv' := [(3, .null), (0, .ref (ad (0))), (1, .ref (ad (58 + j))), (2, .int (a1))]) hx hb d_C_mayGet_5 rfl hl (by decide) rfl (fun ls hl => ?_)
    refine lv_aload_nN hx hb d_C_mayGet_6 rfl (lv_at hl 0 rfl) ?_
    refine lv_ifnullN (tgt := 20) hx hb d_C_mayGet_7 (by decide) ?_
    refine lv_iconst (v := 0) hx hb d_C_mayGet_20 (by decide) ?_
    have e9 : f_C_mayGet nr nm s0 j a1 = 0 := by unfold f_C_mayGet; exact if_neg h1
    exact mw_iret hx hb hr rfl hw hS (congrArg (fun z => some (Value.int z)) e9.symm) ⟨rfl, rfl⟩ hlocks d_C_mayGet_21

def f_C_mayKeep (nr nm : Nat) (s0 : S2) (j : Nat) : Int32 :=
  if rOk nr (s0 (58 + j) 3) then
    if (s0 (10 + 3 * (Int32.toNatClampNeg (s0 (58 + j) 3))) 8) = 4 then
      0
    else
      if (f_C_isOpenTo nr nm s0 j (Int32.toNatClampNeg (s0 (58 + j) 3)) (s0 (58 + j) 3)) = 0 then
        0
      else
        1
  else
    0
theorem fb_C_mayKeep (nr nm : Nat) (s0 : S2) (j : Nat) : narrow .boolean (.int (f_C_mayKeep nr nm s0 j)) = .int (f_C_mayKeep nr nm s0 j) := by
  unfold f_C_mayKeep
  repeat' split
  all_goals first | rfl | exact narrow_b0 | exact narrow_b1
set_option maxHeartbeats 4000000 in
set_option maxRecDepth 100000 in
theorem cc_C_mayKeep (l : Launch) (G : Gx) (A : Nat → Prop) (ad : Nat → Nat) (nr nm : Nat) (hnr : nr ≤ 16) (hnm : nm ≤ 30) (s0 : S2) (j : Nat) (hj : j < nm) : Met l y_C_mayKeep ws_C_mayKeep { frames := 3, cells := 0, slots := 0, locals := 66 } (PG G [.ref (ad (0)), .ref (ad (58 + j))] A ad (encC G.2 ad nr nm s0)) (EG G A (some (.int (f_C_mayKeep nr nm s0 j))) ad (encC G.2 ad nr nm s0)) 0 0 A := by
  refine Met.ofW (cc := c_C_mayKeep) (maxL := 3) (ret := (some .boolean)) (by decide) rfl ?_
  intro p e s m args below meth c s₁ B hml hv
  obtain ⟨rfl, hw, hK⟩ := hv
  have hx := B.exec
  have hb := B.bytes
  have hr := B.returns
  have hts : ∀ w ∈ tbG, w.before [.ref (ad (0)), .ref (ad (58 + j))].toArray s = true := fun w h => atoms_spec (ws := ws_C_mayKeep) B.pre w (List.mem_cons_of_mem _ h)
  have hown : s.vm.findClass "RollStages" = some m.cls := findClass_of_methodNamed B.named
  have hlocks := B.notSynchronized
  have hS : va_S A s.heap s.heap [] := va_S.rf
  have hw : mwG G A ad (encC G.2 ad nr nm s0) s.heap := hw
  have hl := lv_entry ([.ref (ad (0)), .ref (ad (58 + j))]) (n := 3) (Nat.le_of_ble_eq_true rfl)
  rw [lg_entry_eq]
  generalize (lg_sl ([.ref (ad (0)), .ref (ad (58 + j))]) ++ List.replicate (3 - (lg_sl ([.ref (ad (0)), .ref (ad (58 + j))])).length) Slot.unset).toArray = ls at hl ⊢
  have hl : lv_has ls 3 [(0, .ref (ad (0))), (1, .ref (ad (58 + j)))] := hl
  refine lv_aload_n hx hb d_C_mayKeep_0 rfl (lv_at hl 0 rfl) ?_
  refine lv_aload_n hx hb d_C_mayKeep_1 rfl (lv_at hl 1 rfl) ?_
  refine mw_getN (v := .int (s0 (58 + j) 3)) hx hb hts in_M hown hK.1 hw (58 + j) (cC_mac hj) rfl 3 (by decide) (hK.2.1 _ nf_10) rfl d_C_mayKeep_2 ?_
  refine gV (As := [.int (s0 (58 + j) 3)]) (rest := []) (st1 := [rVal ad nr (s0 (58 + j) 3)]) ⟨hx, hb, hml, hown, hts⟩ (cc_C_releaseAt l G A ad nr nm hnr hnm s0 (s0 (58 + j) 3)) cC_0 rfl tw_151 tw_148 tw_150 tw_p0 tw_1 hd_C_releaseAt rfl rfl ⟨Nat.le_of_ble_eq_true rfl, Nat.le_of_ble_eq_true rfl⟩ hK hw hS hl.1 rfl (Nat.le_of_ble_eq_true rfl) ⟨Nat.zero_le _, Nat.zero_le _⟩ d_C_mayKeep_5 rfl (fun H locs hw hS => ?_)
  by_cases h1 : rOk nr (s0 (58 + j) 3)
  · skip
    refine W.eq (g2 := F0 m (5 + 3) ls [.ref (ad (10 + 3 * (Int32.toNatClampNeg (s0 (58 + j) 3))))]) (by rw [rVal_p h1]) ?_
    refine lv_astore_n (lv' := [(2, .ref (ad (10 + 3 * (Int32.toNatClampNeg (s0 (58 + j) 3))))), (0, .ref (ad (0))), (1, .ref (ad (58 + j)))]) hx hb d_C_mayKeep_8 rfl hl (by decide) rfl (fun ls hl => ?_)
    refine lv_aload_n hx hb d_C_mayKeep_9 rfl (lv_at hl 0 rfl) ?_
    refine lv_ifnull hx hb d_C_mayKeep_10 ?_
    refine lv_aload_n hx hb d_C_mayKeep_13 rfl (lv_at hl 0 rfl) ?_
    refine mw_getN (v := .int (s0 (10 + 3 * (Int32.toNatClampNeg (s0 (58 + j) 3))) 8)) hx hb hts in_R hown hK.1 hw (10 + 3 * (Int32.toNatClampNeg (s0 (58 + j) 3))) (cC_rel hnr h1.2) rfl 8 (by decide) (hK.2.1 _ nf_5) rfl d_C_mayKeep_14 ?_
    refine lv_iconst (v := 4) hx hb d_C_mayKeep_17 (by decide) ?_
    refine lv_icmp_eq (tgt := 38) hx hb d_C_mayKeep_18 (by decide) (fun h2 => ?_) (fun h2 => ?_)
    · skip
      refine lv_iconst (v := 0) hx hb d_C_mayKeep_38 (by decide) ?_
      have e9 : f_C_mayKeep nr nm s0 j = 0 := by unfold f_C_mayKeep; exact (if_pos h1).trans (if_pos h2)
      exact mw_iret hx hb hr rfl hw hS (congrArg (fun z => some (Value.int z)) e9.symm) ⟨rfl, rfl⟩ hlocks d_C_mayKeep_39
    · skip
      refine lv_aload_n hx hb d_C_mayKeep_21 rfl (lv_at hl 1 rfl) ?_
      refine lv_aload_n hx hb d_C_mayKeep_22 rfl (lv_at hl 2 rfl) ?_
      refine lv_aload_n hx hb d_C_mayKeep_23 rfl (lv_at hl 0 rfl) ?_
      refine lv_aload_n hx hb d_C_mayKeep_24 rfl (lv_at hl 2 rfl) ?_
      refine mw_getN (v := .int (s0 (58 + j) 3)) hx hb hts in_M hown hK.1 hw (58 + j) (cC_mac hj) rfl 3 (by decide) (hK.2.1 _ nf_10) rfl d_C_mayKeep_25 ?_
      refine gV (As := [.ref (ad (58 + j)), .ref (ad (10 + 3 * (Int32.toNatClampNeg (s0 (58 + j) 3)))), .int (s0 (58 + j) 3)]) (rest := []) (st1 := [.int (f_C_isOpenTo nr nm s0 j (Int32.toNatClampNeg (s0 (58 + j) 3)) (s0 (58 + j) 3))]) ⟨hx, hb, hml, hown, hts⟩ (cc_C_isOpenTo l G A ad nr nm hnr hnm s0 j hj (Int32.toNatClampNeg (s0 (58 + j) 3)) h1.2 (s0 (58 + j) 3)) cC_0 rfl tw_324 tw_321 tw_323 tw_p22 tw_1 hd_C_isOpenTo rfl rfl ⟨Nat.le_of_ble_eq_true rfl, Nat.le_of_ble_eq_true rfl⟩ hK hw hS hl.1 rfl (Nat.le_of_ble_eq_true rfl) ⟨Nat.zero_le _, Nat.zero_le _⟩ d_C_mayKeep_28 rfl (fun H locs hw hS => ?_)
      refine lv_if_eq (tgt := 38) hx hb d_C_mayKeep_31 (by decide) (fun h3 => ?_) (fun h3 => ?_)
      · skip
        refine lv_iconst (v := 0) hx hb d_C_mayKeep_38 (by decide) ?_
        have e9 : f_C_mayKeep nr nm s0 j = 0 := by unfold f_C_mayKeep; exact (if_pos h1).trans ((if_neg h2).trans (if_pos h3))
        exact mw_iret hx hb hr rfl hw hS (congrArg (fun z => some (Value.int z)) e9.symm) ⟨rfl, rfl⟩ hlocks d_C_mayKeep_39
      · skip
        refine lv_iconst (v := 1) hx hb d_C_mayKeep_34 (by decide) ?_
        refine lv_goto (tgt := 39) hx hb d_C_mayKeep_35 (by decide) ?_
        have e9 : f_C_mayKeep nr nm s0 j = 1 := by unfold f_C_mayKeep; exact (if_pos h1).trans ((if_neg h2).trans (if_neg h3))
        exact mw_iret hx hb hr rfl hw hS (congrArg (fun z => some (Value.int z)) e9.symm) ⟨rfl, rfl⟩ hlocks d_C_mayKeep_39
  · skip
    refine W.eq (g2 := F0 m (5 + 3) ls [.null]) (by rw [rVal_n h1]) ?_
    refine lv_astore_nN (lv' := [(2, .null), (0, .ref (ad (0))), (1, .ref (ad (58 + j)))]) hx hb d_C_mayKeep_8 rfl hl (by decide) rfl (fun ls hl => ?_)
    refine lv_aload_nN hx hb d_C_mayKeep_9 rfl (lv_at hl 0 rfl) ?_
    refine lv_ifnullN (tgt := 38) hx hb d_C_mayKeep_10 (by decide) ?_
    refine lv_iconst (v := 0) hx hb d_C_mayKeep_38 (by decide) ?_
    have e9 : f_C_mayKeep nr nm s0 j = 0 := by unfold f_C_mayKeep; exact if_neg h1
    exact mw_iret hx hb hr rfl hw hS (congrArg (fun z => some (Value.int z)) e9.symm) ⟨rfl, rfl⟩ hlocks d_C_mayKeep_39

def g_C_newestFor (nr nm : Nat) (s0 : S2) (j : Nat) : Nat → Int32 → Int32
  | 0, _ => 0
  | n + 1, x2 =>
    if x2 < 0 then
      -1
    else
      if (f_C_mayGet nr nm s0 j x2) = 0 then
        g_C_newestFor nr nm s0 j n (x2 + (-1))
      else
        x2
def f_C_newestFor (nr nm : Nat) (s0 : S2) (j : Nat) : Int32 :=
  g_C_newestFor nr nm s0 j 17 ((s0 0 4) - 1)
set_option maxHeartbeats 4000000 in
set_option maxRecDepth 100000 in
theorem cc_C_newestFor (l : Launch) (G : Gx) (A : Nat → Prop) (ad : Nat → Nat) (nr nm : Nat) (hnr : nr ≤ 16) (hnm : nm ≤ 30) (s0 : S2) (j : Nat) (hj : j < nm) (hcnt : s0 0 4 = nI nr) : Met l y_C_newestFor ws_C_newestFor { frames := 4, cells := 0, slots := 0, locals := 89 } (PG G [.ref (ad (0)), .ref (ad (58 + j))] A ad (encC G.2 ad nr nm s0)) (EG G A (some (.int (f_C_newestFor nr nm s0 j))) ad (encC G.2 ad nr nm s0)) 0 0 A := by
  refine Met.ofW (cc := c_C_newestFor) (maxL := 3) (ret := (some .int)) (by decide) rfl ?_
  intro p e s m args below meth c s₁ B hml hv
  obtain ⟨rfl, hw, hK⟩ := hv
  have hx := B.exec
  have hb := B.bytes
  have hr := B.returns
  have hts : ∀ w ∈ tbG, w.before [.ref (ad (0)), .ref (ad (58 + j))].toArray s = true := fun w h => atoms_spec (ws := ws_C_newestFor) B.pre w (List.mem_cons_of_mem _ h)
  have hown : s.vm.findClass "RollStages" = some m.cls := findClass_of_methodNamed B.named
  have hlocks := B.notSynchronized
  have hS : va_S A s.heap s.heap [] := va_S.rf
  have hw : mwG G A ad (encC G.2 ad nr nm s0) s.heap := hw
  have loop : ∀ (n : Nat) (x2 : Int32), -1 ≤ x2.toInt ∧ x2.toInt + 2 ≤ n → ∀ (H : Heap) (locs : List Loc) (ls : Array Slot), mwG G A ad (encC G.2 ad nr nm s0) H → va_S A s.heap H locs → lv_has ls 3 [(0, .ref (ad (0))), (1, .ref (ad (58 + j))), (2, .int (x2))] → W p l e (headSpec ws_C_newestFor { frames := 4, cells := 0, slots := 0, locals := 89 }).room s m [.ref (ad (0)), .ref (ad (58 + j))].toArray below meth c H locs 0 0 (MQ below (EG G A (some (.int (g_C_newestFor nr nm s0 j n x2))) ad (encC G.2 ad nr nm s0)) [.ref (ad (0)), .ref (ad (58 + j))].toArray s 0 0 A) (F0 m 7 ls []) := by
    intro n
    induction n with
    | zero =>
      intro x2 hI
      exact absurd hI (by omega)
    | succ n ih =>
      intro x2 hI H locs ls hw hS hl
      refine lv_iload_n hx hb d_C_newestFor_7 rfl (lv_at hl 2 rfl) ?_
      refine lv_if_lt (tgt := 28) hx hb d_C_newestFor_8 (by decide) (fun h501 => ?_) (fun h501 => ?_)
      · skip
        refine lv_iconst (v := -1) hx hb d_C_newestFor_28 (by decide) ?_
        have e9 : g_C_newestFor nr nm s0 j (n + 1) x2 = -1 := by rw [g_C_newestFor]; exact if_pos h501
        exact mw_iret hx hb hr rfl hw hS (congrArg (fun z => some (Value.int z)) e9.symm) ⟨rfl, rfl⟩ hlocks d_C_newestFor_29
      · skip
        refine lv_aload_n hx hb d_C_newestFor_11 rfl (lv_at hl 0 rfl) ?_
        refine lv_aload_n hx hb d_C_newestFor_12 rfl (lv_at hl 1 rfl) ?_
        refine lv_iload_n hx hb d_C_newestFor_13 rfl (lv_at hl 2 rfl) ?_
        refine gV (As := [.ref (ad (58 + j)), .int (x2)]) (rest := []) (st1 := [.int (f_C_mayGet nr nm s0 j x2)]) ⟨hx, hb, hml, hown, hts⟩ (cc_C_mayGet l G A ad nr nm hnr hnm s0 j hj x2) cC_0 rfl tw_320 tw_317 tw_319 tw_p21 tw_1 hd_C_mayGet rfl rfl ⟨Nat.le_of_ble_eq_true rfl, Nat.le_of_ble_eq_true rfl⟩ hK hw hS hl.1 rfl (Nat.le_of_ble_eq_true rfl) ⟨Nat.zero_le _, Nat.zero_le _⟩ d_C_newestFor_14 rfl (fun H locs hw hS => ?_)
        refine lv_if_eq (tgt := 22) hx hb d_C_newestFor_17 (by decide) (fun h502 => ?_) (fun h502 => ?_)
        · skip
          refine lv_iinc (v := x2 + (-1)) (lv' := [(2, .int (x2 + (-1))), (0, .ref (ad (0))), (1, .ref (ad (58 + j)))]) hx hb d_C_newestFor_22 hl (k := 2) rfl (by first | rfl | decide) (by decide) rfl (fun ls hl => ?_)
          refine lv_goto (tgt := 7) hx hb d_C_newestFor_25 (by decide) ?_
          have e9 : g_C_newestFor nr nm s0 j (n + 1) x2 = g_C_newestFor nr nm s0 j n (x2 + (-1)) := by rw [g_C_newestFor]; exact (if_neg h501).trans (if_pos h502)
          rw [e9]
          exact ih (x2 + (-1)) (nft_S hI h501) _ _ _ hw hS (lv_sub hl [1, 2, 0] rfl)
        · skip
          refine lv_iload_n hx hb d_C_newestFor_20 rfl (lv_at hl 2 rfl) ?_
          have e9 : g_C_newestFor nr nm s0 j (n + 1) x2 = x2 := by rw [g_C_newestFor]; exact (if_neg h501).trans (if_neg h502)
          exact mw_iret hx hb hr rfl hw hS (congrArg (fun z => some (Value.int z)) e9.symm) ⟨rfl, rfl⟩ hlocks d_C_newestFor_21
  have hl := lv_entry ([.ref (ad (0)), .ref (ad (58 + j))]) (n := 3) (Nat.le_of_ble_eq_true rfl)
  rw [lg_entry_eq]
  generalize (lg_sl ([.ref (ad (0)), .ref (ad (58 + j))]) ++ List.replicate (3 - (lg_sl ([.ref (ad (0)), .ref (ad (58 + j))])).length) Slot.unset).toArray = ls at hl ⊢
  have hl : lv_has ls 3 [(0, .ref (ad (0))), (1, .ref (ad (58 + j)))] := hl
  refine lv_aload_n hx hb d_C_newestFor_0 rfl (lv_at hl 0 rfl) ?_
  refine mw_get (v := .int (s0 0 4)) hx hb hts in_C hown hK.1 hw (0) cC_0 rfl 4 (by decide) (hts _ tw_62) rfl d_C_newestFor_1 ?_
  refine lv_iconst (v := 1) hx hb d_C_newestFor_4 (by decide) ?_
  refine lv_isub hx hb d_C_newestFor_5 ?_
  refine lv_istore_n (lv' := [(2, .int ((s0 0 4) - 1)), (0, .ref (ad (0))), (1, .ref (ad (58 + j)))]) hx hb d_C_newestFor_6 rfl hl (by decide) rfl (fun ls hl => ?_)
  have e9 : f_C_newestFor nr nm s0 j = g_C_newestFor nr nm s0 j 17 ((s0 0 4) - 1) := rfl
  rw [e9]
  exact loop 17 ((s0 0 4) - 1) (nft_0 hcnt hnr) _ _ _ hw hS (lv_sub hl [1, 2, 0] rfl)

def f_C_offerTo (nr nm : Nat) (s0 : S2) (j : Nat) : Int32 :=
  if rOk nr (s0 (58 + j) 4) then
    if (s0 (10 + 3 * (Int32.toNatClampNeg (s0 (58 + j) 4))) 8) = 4 then
      if (s0 (58 + j) 3) ≤ (f_C_newestFor nr nm s0 j) then
        f_C_newestFor nr nm s0 j
      else
        if (f_C_mayKeep nr nm s0 j) = 0 then
          f_C_newestFor nr nm s0 j
        else
          s0 (58 + j) 3
    else
      s0 (58 + j) 4
  else
    if (s0 (58 + j) 3) ≤ (f_C_newestFor nr nm s0 j) then
      f_C_newestFor nr nm s0 j
    else
      if (f_C_mayKeep nr nm s0 j) = 0 then
        f_C_newestFor nr nm s0 j
      else
        s0 (58 + j) 3
set_option maxHeartbeats 4000000 in
set_option maxRecDepth 100000 in
theorem cc_C_offerTo (l : Launch) (G : Gx) (A : Nat → Prop) (ad : Nat → Nat) (nr nm : Nat) (hnr : nr ≤ 16) (hnm : nm ≤ 30) (s0 : S2) (j : Nat) (hj : j < nm) (hcnt : s0 0 4 = nI nr) : Met l y_C_offerTo ws_C_offerTo { frames := 5, cells := 0, slots := 0, locals := 111 } (PG G [.ref (ad (0)), .ref (ad (58 + j))] A ad (encC G.2 ad nr nm s0)) (EG G A (some (.int (f_C_offerTo nr nm s0 j))) ad (encC G.2 ad nr nm s0)) 0 0 A := by
  refine Met.ofW (cc := c_C_offerTo) (maxL := 4) (ret := (some .int)) (by decide) rfl ?_
  intro p e s m args below meth c s₁ B hml hv
  obtain ⟨rfl, hw, hK⟩ := hv
  have hx := B.exec
  have hb := B.bytes
  have hr := B.returns
  have hts : ∀ w ∈ tbG, w.before [.ref (ad (0)), .ref (ad (58 + j))].toArray s = true := fun w h => atoms_spec (ws := ws_C_offerTo) B.pre w (List.mem_cons_of_mem _ h)
  have hown : s.vm.findClass "RollStages" = some m.cls := findClass_of_methodNamed B.named
  have hlocks := B.notSynchronized
  have hS : va_S A s.heap s.heap [] := va_S.rf
  have hw : mwG G A ad (encC G.2 ad nr nm s0) s.heap := hw
  have hl := lv_entry ([.ref (ad (0)), .ref (ad (58 + j))]) (n := 4) (Nat.le_of_ble_eq_true rfl)
  rw [lg_entry_eq]
  generalize (lg_sl ([.ref (ad (0)), .ref (ad (58 + j))]) ++ List.replicate (4 - (lg_sl ([.ref (ad (0)), .ref (ad (58 + j))])).length) Slot.unset).toArray = ls at hl ⊢
  have hl : lv_has ls 4 [(0, .ref (ad (0))), (1, .ref (ad (58 + j)))] := hl
  refine lv_aload_n hx hb d_C_offerTo_0 rfl (lv_at hl 0 rfl) ?_
  refine lv_aload_n hx hb d_C_offerTo_1 rfl (lv_at hl 1 rfl) ?_
  refine mw_getN (v := .int (s0 (58 + j) 4)) hx hb hts in_M hown hK.1 hw (58 + j) (cC_mac hj) rfl 4 (by decide) (hK.2.1 _ nf_11) rfl d_C_offerTo_2 ?_
  refine gV (As := [.int (s0 (58 + j) 4)]) (rest := []) (st1 := [rVal ad nr (s0 (58 + j) 4)]) ⟨hx, hb, hml, hown, hts⟩ (cc_C_releaseAt l G A ad nr nm hnr hnm s0 (s0 (58 + j) 4)) cC_0 rfl tw_151 tw_148 tw_150 tw_p0 tw_1 hd_C_releaseAt rfl rfl ⟨Nat.le_of_ble_eq_true rfl, Nat.le_of_ble_eq_true rfl⟩ hK hw hS hl.1 rfl (Nat.le_of_ble_eq_true rfl) ⟨Nat.zero_le _, Nat.zero_le _⟩ d_C_offerTo_5 rfl (fun H locs hw hS => ?_)
  by_cases h1 : rOk nr (s0 (58 + j) 4)
  · skip
    refine W.eq (g2 := F0 m (5 + 3) ls [.ref (ad (10 + 3 * (Int32.toNatClampNeg (s0 (58 + j) 4))))]) (by rw [rVal_p h1]) ?_
    refine lv_astore_n (lv' := [(2, .ref (ad (10 + 3 * (Int32.toNatClampNeg (s0 (58 + j) 4))))), (0, .ref (ad (0))), (1, .ref (ad (58 + j)))]) hx hb d_C_offerTo_8 rfl hl (by decide) rfl (fun ls hl => ?_)
    refine lv_aload_n hx hb d_C_offerTo_9 rfl (lv_at hl 0 rfl) ?_
    refine lv_ifnull hx hb d_C_offerTo_10 ?_
    refine lv_aload_n hx hb d_C_offerTo_13 rfl (lv_at hl 0 rfl) ?_
    refine mw_getN (v := .int (s0 (10 + 3 * (Int32.toNatClampNeg (s0 (58 + j) 4))) 8)) hx hb hts in_R hown hK.1 hw (10 + 3 * (Int32.toNatClampNeg (s0 (58 + j) 4))) (cC_rel hnr h1.2) rfl 8 (by decide) (hK.2.1 _ nf_5) rfl d_C_offerTo_14 ?_
    refine lv_iconst (v := 4) hx hb d_C_offerTo_17 (by decide) ?_
    refine lv_icmp_eq (tgt := 26) hx hb d_C_offerTo_18 (by decide) (fun h2 => ?_) (fun h2 => ?_)
    · skip
      refine lv_aload_n hx hb d_C_offerTo_26 rfl (lv_at hl 1 rfl) ?_
      refine lv_aload_n hx hb d_C_offerTo_27 rfl (lv_at hl 2 rfl) ?_
      refine gV (As := [.ref (ad (58 + j))]) (rest := []) (st1 := [.int (f_C_newestFor nr nm s0 j)]) ⟨hx, hb, hml, hown, hts⟩ (cc_C_newestFor l G A ad nr nm hnr hnm s0 j hj hcnt) cC_0 rfl tw_316 tw_313 tw_315 tw_p20 tw_1 hd_C_newestFor rfl rfl ⟨Nat.le_of_ble_eq_true rfl, Nat.le_of_ble_eq_true rfl⟩ hK hw hS hl.1 rfl (Nat.le_of_ble_eq_true rfl) ⟨Nat.zero_le _, Nat.zero_le _⟩ d_C_offerTo_28 rfl (fun H locs hw hS => ?_)
      refine lv_istore_n (lv' := [(3, .int (f_C_newestFor nr nm s0 j)), (2, .ref (ad (10 + 3 * (Int32.toNatClampNeg (s0 (58 + j) 4))))), (0, .ref (ad (0))), (1, .ref (ad (58 + j)))]) hx hb d_C_offerTo_31 rfl hl (by decide) rfl (fun ls hl => ?_)
      refine lv_aload_n hx hb d_C_offerTo_32 rfl (lv_at hl 3 rfl) ?_
      refine mw_getN (v := .int (s0 (58 + j) 3)) hx hb hts in_M hown hK.1 hw (58 + j) (cC_mac hj) rfl 3 (by decide) (hK.2.1 _ nf_10) rfl d_C_offerTo_33 ?_
      refine lv_iload_n hx hb d_C_offerTo_36 rfl (lv_at hl 0 rfl) ?_
      refine lv_icmp_le (tgt := 55) hx hb d_C_offerTo_37 (by decide) (fun h3 => ?_) (fun h3 => ?_)
      · skip
        refine lv_iload_n hx hb d_C_offerTo_55 rfl (lv_at hl 0 rfl) ?_
        have e9 : f_C_offerTo nr nm s0 j = f_C_newestFor nr nm s0 j := by unfold f_C_offerTo; exact (if_pos h1).trans ((if_pos h2).trans (if_pos h3))
        exact mw_iret hx hb hr rfl hw hS (congrArg (fun z => some (Value.int z)) e9.symm) ⟨rfl, rfl⟩ hlocks d_C_offerTo_56
      · skip
        refine lv_aload_n hx hb d_C_offerTo_40 rfl (lv_at hl 2 rfl) ?_
        refine lv_aload_n hx hb d_C_offerTo_41 rfl (lv_at hl 3 rfl) ?_
        refine gV (As := [.ref (ad (58 + j))]) (rest := []) (st1 := [.int (f_C_mayKeep nr nm s0 j)]) ⟨hx, hb, hml, hown, hts⟩ (cc_C_mayKeep l G A ad nr nm hnr hnm s0 j hj) cC_0 rfl tw_336 tw_333 tw_335 tw_p25 tw_1 hd_C_mayKeep rfl rfl ⟨Nat.le_of_ble_eq_true rfl, Nat.le_of_ble_eq_true rfl⟩ hK hw hS hl.1 rfl (Nat.le_of_ble_eq_true rfl) ⟨Nat.zero_le _, Nat.zero_le _⟩ d_C_offerTo_42 rfl (fun H locs hw hS => ?_)
        refine lv_if_eq (tgt := 55) hx hb d_C_offerTo_45 (by decide) (fun h4 => ?_) (fun h4 => ?_)
        · skip
          refine lv_iload_n hx hb d_C_offerTo_55 rfl (lv_at hl 0 rfl) ?_
          have e9 : f_C_offerTo nr nm s0 j = f_C_newestFor nr nm s0 j := by unfold f_C_offerTo; exact (if_pos h1).trans ((if_pos h2).trans ((if_neg h3).trans (if_pos h4)))
          exact mw_iret hx hb hr rfl hw hS (congrArg (fun z => some (Value.int z)) e9.symm) ⟨rfl, rfl⟩ hlocks d_C_offerTo_56
        · skip
          refine lv_aload_n hx hb d_C_offerTo_48 rfl (lv_at hl 3 rfl) ?_
          refine mw_getN (v := .int (s0 (58 + j) 3)) hx hb hts in_M hown hK.1 hw (58 + j) (cC_mac hj) rfl 3 (by decide) (hK.2.1 _ nf_10) rfl d_C_offerTo_49 ?_
          refine lv_goto (tgt := 56) hx hb d_C_offerTo_52 (by decide) ?_
          have e9 : f_C_offerTo nr nm s0 j = s0 (58 + j) 3 := by unfold f_C_offerTo; exact (if_pos h1).trans ((if_pos h2).trans ((if_neg h3).trans (if_neg h4)))
          exact mw_iret hx hb hr rfl hw hS (congrArg (fun z => some (Value.int z)) e9.symm) ⟨rfl, rfl⟩ hlocks d_C_offerTo_56
    · skip
      refine lv_aload_n hx hb d_C_offerTo_21 rfl (lv_at hl 2 rfl) ?_
      refine mw_getN (v := .int (s0 (58 + j) 4)) hx hb hts in_M hown hK.1 hw (58 + j) (cC_mac hj) rfl 4 (by decide) (hK.2.1 _ nf_11) rfl d_C_offerTo_22 ?_
      have e9 : f_C_offerTo nr nm s0 j = s0 (58 + j) 4 := by unfold f_C_offerTo; exact (if_pos h1).trans (if_neg h2)
      exact mw_iret hx hb hr rfl hw hS (congrArg (fun z => some (Value.int z)) e9.symm) ⟨rfl, rfl⟩ hlocks d_C_offerTo_25
  · skip
    refine W.eq (g2 := F0 m (5 + 3) ls [.null]) (by rw [rVal_n h1]) ?_
    refine lv_astore_nN (lv' := [(2, .null), (0, .ref (ad (0))), (1, .ref (ad (58 + j)))]) hx hb d_C_offerTo_8 rfl hl (by decide) rfl (fun ls hl => ?_)
    refine lv_aload_nN hx hb d_C_offerTo_9 rfl (lv_at hl 0 rfl) ?_
    refine lv_ifnullN (tgt := 26) hx hb d_C_offerTo_10 (by decide) ?_
    refine lv_aload_n hx hb d_C_offerTo_26 rfl (lv_at hl 1 rfl) ?_
    refine lv_aload_n hx hb d_C_offerTo_27 rfl (lv_at hl 2 rfl) ?_
    refine gV (As := [.ref (ad (58 + j))]) (rest := []) (st1 := [.int (f_C_newestFor nr nm s0 j)]) ⟨hx, hb, hml, hown, hts⟩ (cc_C_newestFor l G A ad nr nm hnr hnm s0 j hj hcnt) cC_0 rfl tw_316 tw_313 tw_315 tw_p20 tw_1 hd_C_newestFor rfl rfl ⟨Nat.le_of_ble_eq_true rfl, Nat.le_of_ble_eq_true rfl⟩ hK hw hS hl.1 rfl (Nat.le_of_ble_eq_true rfl) ⟨Nat.zero_le _, Nat.zero_le _⟩ d_C_offerTo_28 rfl (fun H locs hw hS => ?_)
    refine lv_istore_n (lv' := [(3, .int (f_C_newestFor nr nm s0 j)), (2, .null), (0, .ref (ad (0))), (1, .ref (ad (58 + j)))]) hx hb d_C_offerTo_31 rfl hl (by decide) rfl (fun ls hl => ?_)
    refine lv_aload_n hx hb d_C_offerTo_32 rfl (lv_at hl 3 rfl) ?_
    refine mw_getN (v := .int (s0 (58 + j) 3)) hx hb hts in_M hown hK.1 hw (58 + j) (cC_mac hj) rfl 3 (by decide) (hK.2.1 _ nf_10) rfl d_C_offerTo_33 ?_
    refine lv_iload_n hx hb d_C_offerTo_36 rfl (lv_at hl 0 rfl) ?_
    refine lv_icmp_le (tgt := 55) hx hb d_C_offerTo_37 (by decide) (fun h5 => ?_) (fun h5 => ?_)
    · skip
      refine lv_iload_n hx hb d_C_offerTo_55 rfl (lv_at hl 0 rfl) ?_
      have e9 : f_C_offerTo nr nm s0 j = f_C_newestFor nr nm s0 j := by unfold f_C_offerTo; exact (if_neg h1).trans (if_pos h5)
      exact mw_iret hx hb hr rfl hw hS (congrArg (fun z => some (Value.int z)) e9.symm) ⟨rfl, rfl⟩ hlocks d_C_offerTo_56
    · skip
      refine lv_aload_n hx hb d_C_offerTo_40 rfl (lv_at hl 2 rfl) ?_
      refine lv_aload_n hx hb d_C_offerTo_41 rfl (lv_at hl 3 rfl) ?_
      refine gV (As := [.ref (ad (58 + j))]) (rest := []) (st1 := [.int (f_C_mayKeep nr nm s0 j)]) ⟨hx, hb, hml, hown, hts⟩ (cc_C_mayKeep l G A ad nr nm hnr hnm s0 j hj) cC_0 rfl tw_336 tw_333 tw_335 tw_p25 tw_1 hd_C_mayKeep rfl rfl ⟨Nat.le_of_ble_eq_true rfl, Nat.le_of_ble_eq_true rfl⟩ hK hw hS hl.1 rfl (Nat.le_of_ble_eq_true rfl) ⟨Nat.zero_le _, Nat.zero_le _⟩ d_C_offerTo_42 rfl (fun H locs hw hS => ?_)
      refine lv_if_eq (tgt := 55) hx hb d_C_offerTo_45 (by decide) (fun h6 => ?_) (fun h6 => ?_)
      · skip
        refine lv_iload_n hx hb d_C_offerTo_55 rfl (lv_at hl 0 rfl) ?_
        have e9 : f_C_offerTo nr nm s0 j = f_C_newestFor nr nm s0 j := by unfold f_C_offerTo; exact (if_neg h1).trans ((if_neg h5).trans (if_pos h6))
        exact mw_iret hx hb hr rfl hw hS (congrArg (fun z => some (Value.int z)) e9.symm) ⟨rfl, rfl⟩ hlocks d_C_offerTo_56
      · skip
        refine lv_aload_n hx hb d_C_offerTo_48 rfl (lv_at hl 3 rfl) ?_
        refine mw_getN (v := .int (s0 (58 + j) 3)) hx hb hts in_M hown hK.1 hw (58 + j) (cC_mac hj) rfl 3 (by decide) (hK.2.1 _ nf_10) rfl d_C_offerTo_49 ?_
        refine lv_goto (tgt := 56) hx hb d_C_offerTo_52 (by decide) ?_
        have e9 : f_C_offerTo nr nm s0 j = s0 (58 + j) 3 := by unfold f_C_offerTo; exact (if_neg h1).trans ((if_neg h5).trans (if_neg h6))
        exact mw_iret hx hb hr rfl hw hS (congrArg (fun z => some (Value.int z)) e9.symm) ⟨rfl, rfl⟩ hlocks d_C_offerTo_56

def f_C_findWay (nr nm : Nat) (s0 : S2) (j : Nat) : S2 :=
  if rOk nr (f_C_offerTo nr nm s0 j) then
    if (f_C_offerTo nr nm s0 j) = (s0 (58 + j) 3) then
      f_D_setWay s0 0 0
    else
      if ((f_D_setWay s0 (s0 (10 + 3 * (Int32.toNatClampNeg (f_C_offerTo nr nm s0 j))) 2) 0) (58 + j) 3) = (-1) then
        f_D_setWay s0 (s0 (10 + 3 * (Int32.toNatClampNeg (f_C_offerTo nr nm s0 j))) 2) 0
      else
        f_D_searchCheaper nr nm (f_D_setWay s0 (s0 (10 + 3 * (Int32.toNatClampNeg (f_C_offerTo nr nm s0 j))) 2) 0) ((f_D_setWay s0 (s0 (10 + 3 * (Int32.toNatClampNeg (f_C_offerTo nr nm s0 j))) 2) 0) (58 + j) 3) (f_C_offerTo nr nm s0 j)
  else
    f_D_setWay s0 0 0
set_option maxHeartbeats 4000000 in
set_option maxRecDepth 100000 in
theorem cc_C_findWay (l : Launch) (G : Gx) (A : Nat → Prop) (ad : Nat → Nat) (nr nm : Nat) (hnr : nr ≤ 16) (hnm : nm ≤ 30) (s0 : S2) (j : Nat) (hj : j < nm) (hcnt : s0 0 4 = nI nr) (hct : 0 ≤ (s0 4 3).toInt ∧ (s0 4 3).toInt ≤ 40) : Met l y_C_findWay ws_C_findWay { frames := 6, cells := 0, slots := 0, locals := 134 } (PG G [.ref (ad (0)), .ref (ad (58 + j))] A ad (encC G.2 ad nr nm s0)) (EG G A none ad (encC G.2 ad nr nm (f_C_findWay nr nm s0 j))) 0 0 A := by
  refine Met.ofW (cc := c_C_findWay) (maxL := 4) (ret := none) (by decide) rfl ?_
  intro p e s m args below meth c s₁ B hml hv
  obtain ⟨rfl, hw, hK⟩ := hv
  have hx := B.exec
  have hb := B.bytes
  have hr := B.returns
  have hts : ∀ w ∈ tbG, w.before [.ref (ad (0)), .ref (ad (58 + j))].toArray s = true := fun w h => atoms_spec (ws := ws_C_findWay) B.pre w (List.mem_cons_of_mem _ h)
  have hown : s.vm.findClass "RollStages" = some m.cls := findClass_of_methodNamed B.named
  have hlocks := B.notSynchronized
  have hS : va_S A s.heap s.heap [] := va_S.rf
  have hw : mwG G A ad (encC G.2 ad nr nm s0) s.heap := hw
  have hl := lv_entry ([.ref (ad (0)), .ref (ad (58 + j))]) (n := 4) (Nat.le_of_ble_eq_true rfl)
  rw [lg_entry_eq]
  generalize (lg_sl ([.ref (ad (0)), .ref (ad (58 + j))]) ++ List.replicate (4 - (lg_sl ([.ref (ad (0)), .ref (ad (58 + j))])).length) Slot.unset).toArray = ls at hl ⊢
  have hl : lv_has ls 4 [(0, .ref (ad (0))), (1, .ref (ad (58 + j)))] := hl
  refine lv_aload_n hx hb d_C_findWay_0 rfl (lv_at hl 0 rfl) ?_
  refine lv_aload_n hx hb d_C_findWay_1 rfl (lv_at hl 1 rfl) ?_
  refine gV (As := [.ref (ad (58 + j))]) (rest := []) (st1 := [.int (f_C_offerTo nr nm s0 j)]) ⟨hx, hb, hml, hown, hts⟩ (cc_C_offerTo l G A ad nr nm hnr hnm s0 j hj hcnt) cC_0 rfl tw_312 tw_309 tw_311 tw_p19 tw_1 hd_C_offerTo rfl rfl ⟨Nat.le_of_ble_eq_true rfl, Nat.le_of_ble_eq_true rfl⟩ hK hw hS hl.1 rfl (Nat.le_of_ble_eq_true rfl) ⟨Nat.zero_le _, Nat.zero_le _⟩ d_C_findWay_2 rfl (fun H locs hw hS => ?_)
  refine lv_istore_n (lv' := [(2, .int (f_C_offerTo nr nm s0 j)), (0, .ref (ad (0))), (1, .ref (ad (58 + j)))]) hx hb d_C_findWay_5 rfl hl (by decide) rfl (fun ls hl => ?_)
  refine lv_aload_n hx hb d_C_findWay_6 rfl (lv_at hl 1 rfl) ?_
  refine lv_iload_n hx hb d_C_findWay_7 rfl (lv_at hl 0 rfl) ?_
  refine gV (As := [.int (f_C_offerTo nr nm s0 j)]) (rest := []) (st1 := [rVal ad nr (f_C_offerTo nr nm s0 j)]) ⟨hx, hb, hml, hown, hts⟩ (cc_C_releaseAt l G A ad nr nm hnr hnm s0 (f_C_offerTo nr nm s0 j)) cC_0 rfl tw_151 tw_148 tw_150 tw_p0 tw_1 hd_C_releaseAt rfl rfl ⟨Nat.le_of_ble_eq_true rfl, Nat.le_of_ble_eq_true rfl⟩ hK hw hS hl.1 rfl (Nat.le_of_ble_eq_true rfl) ⟨Nat.zero_le _, Nat.zero_le _⟩ d_C_findWay_8 rfl (fun H locs hw hS => ?_)
  by_cases h1 : rOk nr (f_C_offerTo nr nm s0 j)
  · skip
    refine W.eq (g2 := F0 m (8 + 3) ls [.ref (ad (10 + 3 * (Int32.toNatClampNeg (f_C_offerTo nr nm s0 j))))]) (by rw [rVal_p h1]) ?_
    refine lv_astore_n (lv' := [(3, .ref (ad (10 + 3 * (Int32.toNatClampNeg (f_C_offerTo nr nm s0 j))))), (2, .int (f_C_offerTo nr nm s0 j)), (0, .ref (ad (0))), (1, .ref (ad (58 + j)))]) hx hb d_C_findWay_11 rfl hl (by decide) rfl (fun ls hl => ?_)
    refine lv_aload_n hx hb d_C_findWay_12 rfl (lv_at hl 0 rfl) ?_
    refine lv_ifnull hx hb d_C_findWay_13 ?_
    refine lv_iload_n hx hb d_C_findWay_16 rfl (lv_at hl 1 rfl) ?_
    refine lv_aload_n hx hb d_C_findWay_17 rfl (lv_at hl 3 rfl) ?_
    refine mw_getN (v := .int (s0 (58 + j) 3)) hx hb hts in_M hown hK.1 hw (58 + j) (cC_mac hj) rfl 3 (by decide) (hK.2.1 _ nf_10) rfl d_C_findWay_18 ?_
    refine lv_icmp_ne (tgt := 34) hx hb d_C_findWay_21 (by decide) (fun h2 => ?_) (fun h2 => ?_)
    · skip
      refine lv_aload_n hx hb d_C_findWay_34 rfl (lv_at hl 2 rfl) ?_
      refine mw_get (v := .ref (ad (4))) hx hb hts in_C hown hK.1 hw (0) cC_0 rfl 3 (by decide) (hts _ tw_61) rfl d_C_findWay_35 ?_
      refine lv_aload_n hx hb d_C_findWay_38 rfl (lv_at hl 0 rfl) ?_
      refine mw_getN (v := .int (s0 (10 + 3 * (Int32.toNatClampNeg (f_C_offerTo nr nm s0 j))) 2)) hx hb hts in_R hown hK.1 hw (10 + 3 * (Int32.toNatClampNeg (f_C_offerTo nr nm s0 j))) (cC_rel hnr h1.2) rfl 2 (by decide) (hK.2.1 _ nf_3) rfl d_C_findWay_39 ?_
      refine lv_iconst (v := 0) hx hb d_C_findWay_42 (by decide) ?_
      refine gVN (As := [.int (s0 (10 + 3 * (Int32.toNatClampNeg (f_C_offerTo nr nm s0 j))) 2), .int (0)]) (rest := []) (st1 := []) ⟨hx, hb, hml, hown, hts⟩ (cc_D_setWay l G A ad nr nm hnr hnm s0 (s0 (10 + 3 * (Int32.toNatClampNeg (f_C_offerTo nr nm s0 j))) 2) 0) cC_4 rfl tw_366 nw_19 tw_365 tw_p29 tw_2 hd_D_setWay rfl rfl ⟨Nat.le_of_ble_eq_true rfl, Nat.le_of_ble_eq_true rfl⟩ hK hw hS hl.1 rfl (Nat.le_of_ble_eq_true rfl) ⟨Nat.zero_le _, Nat.zero_le _⟩ d_C_findWay_43 rfl (fun H locs hw hS => ?_)
      refine lv_aload_n hx hb d_C_findWay_46 rfl (lv_at hl 3 rfl) ?_
      refine mw_getN (v := .int ((f_D_setWay s0 (s0 (10 + 3 * (Int32.toNatClampNeg (f_C_offerTo nr nm s0 j))) 2) 0) (58 + j) 3)) hx hb hts in_M hown hK.1 hw (58 + j) (cC_mac hj) rfl 3 (by decide) (hK.2.1 _ nf_10) rfl d_C_findWay_47 ?_
      refine lv_iconst (v := -1) hx hb d_C_findWay_50 (by decide) ?_
      refine lv_icmp_eq (tgt := 70) hx hb d_C_findWay_51 (by decide) (fun h3 => ?_) (fun h3 => ?_)
      · skip
        have e9 : f_C_findWay nr nm s0 j = f_D_setWay s0 (s0 (10 + 3 * (Int32.toNatClampNeg (f_C_offerTo nr nm s0 j))) 2) 0 := by unfold f_C_findWay; exact (if_pos h1).trans ((if_neg h2).trans (if_pos h3))
        exact mw_vret hx hb hr hw hS ⟨rfl, congrArg (fun z => encC G.2 ad nr nm z) e9.symm⟩ hlocks d_C_findWay_70
      · skip
        refine lv_aload_n hx hb d_C_findWay_54 rfl (lv_at hl 2 rfl) ?_
        refine mw_get (v := .ref (ad (4))) hx hb hts in_C hown hK.1 hw (0) cC_0 rfl 3 (by decide) (hts _ tw_61) rfl d_C_findWay_55 ?_
        refine lv_aload_n hx hb d_C_findWay_58 rfl (lv_at hl 3 rfl) ?_
        refine mw_getN (v := .int ((f_D_setWay s0 (s0 (10 + 3 * (Int32.toNatClampNeg (f_C_offerTo nr nm s0 j))) 2) 0) (58 + j) 3)) hx hb hts in_M hown hK.1 hw (58 + j) (cC_mac hj) rfl 3 (by decide) (hK.2.1 _ nf_10) rfl d_C_findWay_59 ?_
        refine lv_iload_n hx hb d_C_findWay_62 rfl (lv_at hl 1 rfl) ?_
        refine lv_aload_n hx hb d_C_findWay_63 rfl (lv_at hl 2 rfl) ?_
        refine mw_get (v := .ref (ad (1))) hx hb hts in_C hown hK.1 hw (0) cC_0 rfl 0 (by decide) (hts _ tw_58) rfl d_C_findWay_64 ?_
        refine gVN (As := [.int ((f_D_setWay s0 (s0 (10 + 3 * (Int32.toNatClampNeg (f_C_offerTo nr nm s0 j))) 2) 0) (58 + j) 3), .int (f_C_offerTo nr nm s0 j), .ref (ad (1))]) (rest := []) (st1 := []) ⟨hx, hb, hml, hown, hts⟩ (cc_D_searchCheaper l G A ad nr nm hnr hnm (f_D_setWay s0 (s0 (10 + 3 * (Int32.toNatClampNeg (f_C_offerTo nr nm s0 j))) 2) 0) ((f_D_setWay s0 (s0 (10 + 3 * (Int32.toNatClampNeg (f_C_offerTo nr nm s0 j))) 2) 0) (58 + j) 3) (f_C_offerTo nr nm s0 j) (by rw [setWay_3]; exact hct)) cC_4 rfl tw_370 nw_20 tw_369 tw_p30 tw_2 hd_D_searchCheaper rfl rfl ⟨Nat.le_of_ble_eq_true rfl, Nat.le_of_ble_eq_true rfl⟩ hK hw hS hl.1 rfl (Nat.le_of_ble_eq_true rfl) ⟨Nat.zero_le _, Nat.zero_le _⟩ d_C_findWay_67 rfl (fun H locs hw hS => ?_)
        have e9 : f_C_findWay nr nm s0 j = f_D_searchCheaper nr nm (f_D_setWay s0 (s0 (10 + 3 * (Int32.toNatClampNeg (f_C_offerTo nr nm s0 j))) 2) 0) ((f_D_setWay s0 (s0 (10 + 3 * (Int32.toNatClampNeg (f_C_offerTo nr nm s0 j))) 2) 0) (58 + j) 3) (f_C_offerTo nr nm s0 j) := by unfold f_C_findWay; exact (if_pos h1).trans ((if_neg h2).trans (if_neg h3))
        exact mw_vret hx hb hr hw hS ⟨rfl, congrArg (fun z => encC G.2 ad nr nm z) e9.symm⟩ hlocks d_C_findWay_70
    · skip
      refine lv_aload_n hx hb d_C_findWay_24 rfl (lv_at hl 2 rfl) ?_
      refine mw_get (v := .ref (ad (4))) hx hb hts in_C hown hK.1 hw (0) cC_0 rfl 3 (by decide) (hts _ tw_61) rfl d_C_findWay_25 ?_
      refine lv_iconst (v := 0) hx hb d_C_findWay_28 (by decide) ?_
      refine lv_iconst (v := 0) hx hb d_C_findWay_29 (by decide) ?_
      refine gVN (As := [.int (0), .int (0)]) (rest := []) (st1 := []) ⟨hx, hb, hml, hown, hts⟩ (cc_D_setWay l G A ad nr nm hnr hnm s0 0 0) cC_4 rfl tw_366 nw_19 tw_365 tw_p29 tw_2 hd_D_setWay rfl rfl ⟨Nat.le_of_ble_eq_true rfl, Nat.le_of_ble_eq_true rfl⟩ hK hw hS hl.1 rfl (Nat.le_of_ble_eq_true rfl) ⟨Nat.zero_le _, Nat.zero_le _⟩ d_C_findWay_30 rfl (fun H locs hw hS => ?_)
      have e9 : f_C_findWay nr nm s0 j = f_D_setWay s0 0 0 := by unfold f_C_findWay; exact (if_pos h1).trans (if_pos h2)
      exact mw_vret hx hb hr hw hS ⟨rfl, congrArg (fun z => encC G.2 ad nr nm z) e9.symm⟩ hlocks d_C_findWay_33
  · skip
    refine W.eq (g2 := F0 m (8 + 3) ls [.null]) (by rw [rVal_n h1]) ?_
    refine lv_astore_nN (lv' := [(3, .null), (2, .int (f_C_offerTo nr nm s0 j)), (0, .ref (ad (0))), (1, .ref (ad (58 + j)))]) hx hb d_C_findWay_11 rfl hl (by decide) rfl (fun ls hl => ?_)
    refine lv_aload_nN hx hb d_C_findWay_12 rfl (lv_at hl 0 rfl) ?_
    refine lv_ifnullN (tgt := 24) hx hb d_C_findWay_13 (by decide) ?_
    refine lv_aload_n hx hb d_C_findWay_24 rfl (lv_at hl 2 rfl) ?_
    refine mw_get (v := .ref (ad (4))) hx hb hts in_C hown hK.1 hw (0) cC_0 rfl 3 (by decide) (hts _ tw_61) rfl d_C_findWay_25 ?_
    refine lv_iconst (v := 0) hx hb d_C_findWay_28 (by decide) ?_
    refine lv_iconst (v := 0) hx hb d_C_findWay_29 (by decide) ?_
    refine gVN (As := [.int (0), .int (0)]) (rest := []) (st1 := []) ⟨hx, hb, hml, hown, hts⟩ (cc_D_setWay l G A ad nr nm hnr hnm s0 0 0) cC_4 rfl tw_366 nw_19 tw_365 tw_p29 tw_2 hd_D_setWay rfl rfl ⟨Nat.le_of_ble_eq_true rfl, Nat.le_of_ble_eq_true rfl⟩ hK hw hS hl.1 rfl (Nat.le_of_ble_eq_true rfl) ⟨Nat.zero_le _, Nat.zero_le _⟩ d_C_findWay_30 rfl (fun H locs hw hS => ?_)
    have e9 : f_C_findWay nr nm s0 j = f_D_setWay s0 0 0 := by unfold f_C_findWay; exact if_neg h1
    exact mw_vret hx hb hr hw hS ⟨rfl, congrArg (fun z => encC G.2 ad nr nm z) e9.symm⟩ hlocks d_C_findWay_33
end
section
def f_C_stage (nr nm : Nat) (s0 : S2) (a1 : Int32) (a2 : Int32) (a3 : Int32) : Int32 × S2 :=
  if rOk nr a1 then
    if ((f_R_addStage s0 (Int32.toNatClampNeg a1) a2 a3).1) = 0 then
      (0, (f_R_addStage s0 (Int32.toNatClampNeg a1) a2 a3).2)
    else
      (1, (f_R_addStage s0 (Int32.toNatClampNeg a1) a2 a3).2)
  else
    (0, s0)
theorem fb_C_stage (nr nm : Nat) (s0 : S2) (a1 : Int32) (a2 : Int32) (a3 : Int32) : narrow .boolean (.int ((f_C_stage nr nm s0 a1 a2 a3).1)) = .int ((f_C_stage nr nm s0 a1 a2 a3).1) := by
  unfold f_C_stage
  repeat' split
  all_goals first | rfl | exact narrow_b0 | exact narrow_b1
set_option maxHeartbeats 4000000 in
set_option maxRecDepth 100000 in
theorem cc_C_stage (l : Launch) (G : Gx) (A : Nat → Prop) (ad : Nat → Nat) (nr nm : Nat) (hnr : nr ≤ 16) (hnm : nm ≤ 30) (s0 : S2) (a1 : Int32) (a2 : Int32) (a3 : Int32) (hwf : ∀ i, i < nr → 0 ≤ (s0 (10 + 3 * i) 5).toInt ∧ (s0 (10 + 3 * i) 5).toInt ≤ 5) : Met l y_C_stage ws_C_stage { frames := 2, cells := 0, slots := 0, locals := 45 } (PG G [.ref (ad (0)), .int (a1), .int (a2), .int (a3)] A ad (encC G.2 ad nr nm s0)) (EG G A (some (.int (f_C_stage nr nm s0 a1 a2 a3).1)) ad (encC G.2 ad nr nm ((f_C_stage nr nm s0 a1 a2 a3).2))) 0 0 A := by
  refine Met.ofW (cc := c_C_stage) (maxL := 5) (ret := (some .boolean)) (by decide) rfl ?_
  intro p e s m args below meth c s₁ B hml hv
  obtain ⟨rfl, hw, hK⟩ := hv
  have hx := B.exec
  have hb := B.bytes
  have hr := B.returns
  have hts : ∀ w ∈ tbG, w.before [.ref (ad (0)), .int (a1), .int (a2), .int (a3)].toArray s = true := fun w h => atoms_spec (ws := ws_C_stage) B.pre w (List.mem_cons_of_mem _ h)
  have hown : s.vm.findClass "RollStages" = some m.cls := findClass_of_methodNamed B.named
  have hlocks := B.notSynchronized
  have hS : va_S A s.heap s.heap [] := va_S.rf
  have hw : mwG G A ad (encC G.2 ad nr nm s0) s.heap := hw
  have hl := lv_entry ([.ref (ad (0)), .int (a1), .int (a2), .int (a3)]) (n := 5) (Nat.le_of_ble_eq_true rfl)
  rw [lg_entry_eq]
  generalize (lg_sl ([.ref (ad (0)), .int (a1), .int (a2), .int (a3)]) ++ List.replicate (5 - (lg_sl ([.ref (ad (0)), .int (a1), .int (a2), .int (a3)])).length) Slot.unset).toArray = ls at hl ⊢
  have hl : lv_has ls 5 [(0, .ref (ad (0))), (1, .int (a1)), (2, .int (a2)), (3, .int (a3))] := hl
  refine lv_aload_n hx hb d_C_stage_0 rfl (lv_at hl 0 rfl) ?_
  refine lv_iload_n hx hb d_C_stage_1 rfl (lv_at hl 1 rfl) ?_
  refine gV (As := [.int (a1)]) (rest := []) (st1 := [rVal ad nr a1]) ⟨hx, hb, hml, hown, hts⟩ (cc_C_releaseAt l G A ad nr nm hnr hnm s0 a1) cC_0 rfl tw_151 tw_148 tw_150 tw_p0 tw_1 hd_C_releaseAt rfl rfl ⟨Nat.le_of_ble_eq_true rfl, Nat.le_of_ble_eq_true rfl⟩ hK hw hS hl.1 rfl (Nat.le_of_ble_eq_true rfl) ⟨Nat.zero_le _, Nat.zero_le _⟩ d_C_stage_2 rfl (fun H locs hw hS => ?_)
  by_cases h1 : rOk nr a1
  · skip
    refine W.eq (g2 := F0 m (2 + 3) ls [.ref (ad (10 + 3 * (Int32.toNatClampNeg a1)))]) (by rw [rVal_p h1]) ?_
    refine lv_astore (lv' := [(4, .ref (ad (10 + 3 * (Int32.toNatClampNeg a1)))), (0, .ref (ad (0))), (1, .int (a1)), (2, .int (a2)), (3, .int (a3))]) hx hb d_C_stage_5 hl (by decide) rfl (fun ls hl => ?_)
    refine lv_aload hx hb d_C_stage_7 (lv_at hl 0 rfl) ?_
    refine lv_ifnull hx hb d_C_stage_9 ?_
    refine lv_aload hx hb d_C_stage_12 (lv_at hl 0 rfl) ?_
    refine lv_iload_n hx hb d_C_stage_14 rfl (lv_at hl 3 rfl) ?_
    refine lv_iload_n hx hb d_C_stage_15 rfl (lv_at hl 4 rfl) ?_
    refine gVN (As := [.int (a2), .int (a3)]) (rest := []) (st1 := [.int ((f_R_addStage s0 (Int32.toNatClampNeg a1) a2 a3).1)]) ⟨hx, hb, hml, hown, hts⟩ (cc_R_addStage l G A ad nr nm hnr hnm s0 (Int32.toNatClampNeg a1) h1.2 a2 a3 (hwf _ h1.2)) (cC_rel hnr h1.2) rfl tw_155 nw_2 tw_154 tw_p1 tw_5 hd_R_addStage rfl rfl ⟨Nat.le_of_ble_eq_true rfl, Nat.le_of_ble_eq_true rfl⟩ hK hw hS hl.1 rfl (Nat.le_of_ble_eq_true rfl) ⟨Nat.zero_le _, Nat.zero_le _⟩ d_C_stage_16 rfl (fun H locs hw hS => ?_)
    refine lv_if_eq (tgt := 26) hx hb d_C_stage_19 (by decide) (fun h2 => ?_) (fun h2 => ?_)
    · skip
      refine lv_iconst (v := 0) hx hb d_C_stage_26 (by decide) ?_
      have e9 : f_C_stage nr nm s0 a1 a2 a3 = (0, (f_R_addStage s0 (Int32.toNatClampNeg a1) a2 a3).2) := by unfold f_C_stage; exact (if_pos h1).trans (if_pos h2)
      exact mw_iret hx hb hr rfl hw hS (congrArg (fun z => some (Value.int z.1)) e9.symm) ⟨rfl, congrArg (fun z => encC G.2 ad nr nm z.2) e9.symm⟩ hlocks d_C_stage_27
    · skip
      refine lv_iconst (v := 1) hx hb d_C_stage_22 (by decide) ?_
      refine lv_goto (tgt := 27) hx hb d_C_stage_23 (by decide) ?_
      have e9 : f_C_stage nr nm s0 a1 a2 a3 = (1, (f_R_addStage s0 (Int32.toNatClampNeg a1) a2 a3).2) := by unfold f_C_stage; exact (if_pos h1).trans (if_neg h2)
      exact mw_iret hx hb hr rfl hw hS (congrArg (fun z => some (Value.int z.1)) e9.symm) ⟨rfl, congrArg (fun z => encC G.2 ad nr nm z.2) e9.symm⟩ hlocks d_C_stage_27
  · skip
    refine W.eq (g2 := F0 m (2 + 3) ls [.null]) (by rw [rVal_n h1]) ?_
    refine lv_astoreN (lv' := [(4, .null), (0, .ref (ad (0))), (1, .int (a1)), (2, .int (a2)), (3, .int (a3))]) hx hb d_C_stage_5 hl (by decide) rfl (fun ls hl => ?_)
    refine lv_aloadN hx hb d_C_stage_7 (lv_at hl 0 rfl) ?_
    refine lv_ifnullN (tgt := 26) hx hb d_C_stage_9 (by decide) ?_
    refine lv_iconst (v := 0) hx hb d_C_stage_26 (by decide) ?_
    have e9 : f_C_stage nr nm s0 a1 a2 a3 = (0, s0) := by unfold f_C_stage; exact if_neg h1
    exact mw_iret hx hb hr rfl hw hS (congrArg (fun z => some (Value.int z.1)) e9.symm) ⟨rfl, congrArg (fun z => encC G.2 ad nr nm z.2) e9.symm⟩ hlocks d_C_stage_27

def f_C_health (nr nm : Nat) (s0 : S2) (a1 : Int32) (a2 : Int32) (a3 : Int32) : Int32 × S2 :=
  if rOk nr a1 then
    if ((f_R_setHealth s0 (Int32.toNatClampNeg a1) a2 a3).1) = 0 then
      (0, (f_R_setHealth s0 (Int32.toNatClampNeg a1) a2 a3).2)
    else
      (1, (f_R_setHealth s0 (Int32.toNatClampNeg a1) a2 a3).2)
  else
    (0, s0)
theorem fb_C_health (nr nm : Nat) (s0 : S2) (a1 : Int32) (a2 : Int32) (a3 : Int32) : narrow .boolean (.int ((f_C_health nr nm s0 a1 a2 a3).1)) = .int ((f_C_health nr nm s0 a1 a2 a3).1) := by
  unfold f_C_health
  repeat' split
  all_goals first | rfl | exact narrow_b0 | exact narrow_b1
set_option maxHeartbeats 4000000 in
set_option maxRecDepth 100000 in
theorem cc_C_health (l : Launch) (G : Gx) (A : Nat → Prop) (ad : Nat → Nat) (nr nm : Nat) (hnr : nr ≤ 16) (hnm : nm ≤ 30) (s0 : S2) (a1 : Int32) (a2 : Int32) (a3 : Int32) : Met l y_C_health ws_C_health { frames := 2, cells := 0, slots := 0, locals := 44 } (PG G [.ref (ad (0)), .int (a1), .int (a2), .int (a3)] A ad (encC G.2 ad nr nm s0)) (EG G A (some (.int (f_C_health nr nm s0 a1 a2 a3).1)) ad (encC G.2 ad nr nm ((f_C_health nr nm s0 a1 a2 a3).2))) 0 0 A := by
  refine Met.ofW (cc := c_C_health) (maxL := 5) (ret := (some .boolean)) (by decide) rfl ?_
  intro p e s m args below meth c s₁ B hml hv
  obtain ⟨rfl, hw, hK⟩ := hv
  have hx := B.exec
  have hb := B.bytes
  have hr := B.returns
  have hts : ∀ w ∈ tbG, w.before [.ref (ad (0)), .int (a1), .int (a2), .int (a3)].toArray s = true := fun w h => atoms_spec (ws := ws_C_health) B.pre w (List.mem_cons_of_mem _ h)
  have hown : s.vm.findClass "RollStages" = some m.cls := findClass_of_methodNamed B.named
  have hlocks := B.notSynchronized
  have hS : va_S A s.heap s.heap [] := va_S.rf
  have hw : mwG G A ad (encC G.2 ad nr nm s0) s.heap := hw
  have hl := lv_entry ([.ref (ad (0)), .int (a1), .int (a2), .int (a3)]) (n := 5) (Nat.le_of_ble_eq_true rfl)
  rw [lg_entry_eq]
  generalize (lg_sl ([.ref (ad (0)), .int (a1), .int (a2), .int (a3)]) ++ List.replicate (5 - (lg_sl ([.ref (ad (0)), .int (a1), .int (a2), .int (a3)])).length) Slot.unset).toArray = ls at hl ⊢
  have hl : lv_has ls 5 [(0, .ref (ad (0))), (1, .int (a1)), (2, .int (a2)), (3, .int (a3))] := hl
  refine lv_aload_n hx hb d_C_health_0 rfl (lv_at hl 0 rfl) ?_
  refine lv_iload_n hx hb d_C_health_1 rfl (lv_at hl 1 rfl) ?_
  refine gV (As := [.int (a1)]) (rest := []) (st1 := [rVal ad nr a1]) ⟨hx, hb, hml, hown, hts⟩ (cc_C_releaseAt l G A ad nr nm hnr hnm s0 a1) cC_0 rfl tw_151 tw_148 tw_150 tw_p0 tw_1 hd_C_releaseAt rfl rfl ⟨Nat.le_of_ble_eq_true rfl, Nat.le_of_ble_eq_true rfl⟩ hK hw hS hl.1 rfl (Nat.le_of_ble_eq_true rfl) ⟨Nat.zero_le _, Nat.zero_le _⟩ d_C_health_2 rfl (fun H locs hw hS => ?_)
  by_cases h1 : rOk nr a1
  · skip
    refine W.eq (g2 := F0 m (2 + 3) ls [.ref (ad (10 + 3 * (Int32.toNatClampNeg a1)))]) (by rw [rVal_p h1]) ?_
    refine lv_astore (lv' := [(4, .ref (ad (10 + 3 * (Int32.toNatClampNeg a1)))), (0, .ref (ad (0))), (1, .int (a1)), (2, .int (a2)), (3, .int (a3))]) hx hb d_C_health_5 hl (by decide) rfl (fun ls hl => ?_)
    refine lv_aload hx hb d_C_health_7 (lv_at hl 0 rfl) ?_
    refine lv_ifnull hx hb d_C_health_9 ?_
    refine lv_aload hx hb d_C_health_12 (lv_at hl 0 rfl) ?_
    refine lv_iload_n hx hb d_C_health_14 rfl (lv_at hl 3 rfl) ?_
    refine lv_iload_n hx hb d_C_health_15 rfl (lv_at hl 4 rfl) ?_
    refine gVN (As := [.int (a2), .int (a3)]) (rest := []) (st1 := [.int ((f_R_setHealth s0 (Int32.toNatClampNeg a1) a2 a3).1)]) ⟨hx, hb, hml, hown, hts⟩ (cc_R_setHealth l G A ad nr nm hnr hnm s0 (Int32.toNatClampNeg a1) h1.2 a2 a3) (cC_rel hnr h1.2) rfl tw_164 nw_4 tw_163 tw_p2 tw_5 hd_R_setHealth rfl rfl ⟨Nat.le_of_ble_eq_true rfl, Nat.le_of_ble_eq_true rfl⟩ hK hw hS hl.1 rfl (Nat.le_of_ble_eq_true rfl) ⟨Nat.zero_le _, Nat.zero_le _⟩ d_C_health_16 rfl (fun H locs hw hS => ?_)
    refine lv_if_eq (tgt := 26) hx hb d_C_health_19 (by decide) (fun h2 => ?_) (fun h2 => ?_)
    · skip
      refine lv_iconst (v := 0) hx hb d_C_health_26 (by decide) ?_
      have e9 : f_C_health nr nm s0 a1 a2 a3 = (0, (f_R_setHealth s0 (Int32.toNatClampNeg a1) a2 a3).2) := by unfold f_C_health; exact (if_pos h1).trans (if_pos h2)
      exact mw_iret hx hb hr rfl hw hS (congrArg (fun z => some (Value.int z.1)) e9.symm) ⟨rfl, congrArg (fun z => encC G.2 ad nr nm z.2) e9.symm⟩ hlocks d_C_health_27
    · skip
      refine lv_iconst (v := 1) hx hb d_C_health_22 (by decide) ?_
      refine lv_goto (tgt := 27) hx hb d_C_health_23 (by decide) ?_
      have e9 : f_C_health nr nm s0 a1 a2 a3 = (1, (f_R_setHealth s0 (Int32.toNatClampNeg a1) a2 a3).2) := by unfold f_C_health; exact (if_pos h1).trans (if_neg h2)
      exact mw_iret hx hb hr rfl hw hS (congrArg (fun z => some (Value.int z.1)) e9.symm) ⟨rfl, congrArg (fun z => encC G.2 ad nr nm z.2) e9.symm⟩ hlocks d_C_health_27
  · skip
    refine W.eq (g2 := F0 m (2 + 3) ls [.null]) (by rw [rVal_n h1]) ?_
    refine lv_astoreN (lv' := [(4, .null), (0, .ref (ad (0))), (1, .int (a1)), (2, .int (a2)), (3, .int (a3))]) hx hb d_C_health_5 hl (by decide) rfl (fun ls hl => ?_)
    refine lv_aloadN hx hb d_C_health_7 (lv_at hl 0 rfl) ?_
    refine lv_ifnullN (tgt := 26) hx hb d_C_health_9 (by decide) ?_
    refine lv_iconst (v := 0) hx hb d_C_health_26 (by decide) ?_
    have e9 : f_C_health nr nm s0 a1 a2 a3 = (0, s0) := by unfold f_C_health; exact if_neg h1
    exact mw_iret hx hb hr rfl hw hS (congrArg (fun z => some (Value.int z.1)) e9.symm) ⟨rfl, congrArg (fun z => encC G.2 ad nr nm z.2) e9.symm⟩ hlocks d_C_health_27

def f_C_start (nr nm : Nat) (s0 : S2) (a1 : Int32) : Int32 × S2 :=
  if rOk nr a1 then
    if ((f_R_begin s0 (Int32.toNatClampNeg a1) (s0 0 6)).1) = 0 then
      (0, (f_R_begin s0 (Int32.toNatClampNeg a1) (s0 0 6)).2)
    else
      (1, (f_R_begin s0 (Int32.toNatClampNeg a1) (s0 0 6)).2)
  else
    (0, s0)
theorem fb_C_start (nr nm : Nat) (s0 : S2) (a1 : Int32) : narrow .boolean (.int ((f_C_start nr nm s0 a1).1)) = .int ((f_C_start nr nm s0 a1).1) := by
  unfold f_C_start
  repeat' split
  all_goals first | rfl | exact narrow_b0 | exact narrow_b1
set_option maxHeartbeats 4000000 in
set_option maxRecDepth 100000 in
theorem cc_C_start (l : Launch) (G : Gx) (A : Nat → Prop) (ad : Nat → Nat) (nr nm : Nat) (hnr : nr ≤ 16) (hnm : nm ≤ 30) (s0 : S2) (a1 : Int32) : Met l y_C_start ws_C_start { frames := 2, cells := 0, slots := 0, locals := 43 } (PG G [.ref (ad (0)), .int (a1)] A ad (encC G.2 ad nr nm s0)) (EG G A (some (.int (f_C_start nr nm s0 a1).1)) ad (encC G.2 ad nr nm ((f_C_start nr nm s0 a1).2))) 0 0 A := by
  refine Met.ofW (cc := c_C_start) (maxL := 3) (ret := (some .boolean)) (by decide) rfl ?_
  intro p e s m args below meth c s₁ B hml hv
  obtain ⟨rfl, hw, hK⟩ := hv
  have hx := B.exec
  have hb := B.bytes
  have hr := B.returns
  have hts : ∀ w ∈ tbG, w.before [.ref (ad (0)), .int (a1)].toArray s = true := fun w h => atoms_spec (ws := ws_C_start) B.pre w (List.mem_cons_of_mem _ h)
  have hown : s.vm.findClass "RollStages" = some m.cls := findClass_of_methodNamed B.named
  have hlocks := B.notSynchronized
  have hS : va_S A s.heap s.heap [] := va_S.rf
  have hw : mwG G A ad (encC G.2 ad nr nm s0) s.heap := hw
  have hl := lv_entry ([.ref (ad (0)), .int (a1)]) (n := 3) (Nat.le_of_ble_eq_true rfl)
  rw [lg_entry_eq]
  generalize (lg_sl ([.ref (ad (0)), .int (a1)]) ++ List.replicate (3 - (lg_sl ([.ref (ad (0)), .int (a1)])).length) Slot.unset).toArray = ls at hl ⊢
  have hl : lv_has ls 3 [(0, .ref (ad (0))), (1, .int (a1))] := hl
  refine lv_aload_n hx hb d_C_start_0 rfl (lv_at hl 0 rfl) ?_
  refine lv_iload_n hx hb d_C_start_1 rfl (lv_at hl 1 rfl) ?_
  refine gV (As := [.int (a1)]) (rest := []) (st1 := [rVal ad nr a1]) ⟨hx, hb, hml, hown, hts⟩ (cc_C_releaseAt l G A ad nr nm hnr hnm s0 a1) cC_0 rfl tw_151 tw_148 tw_150 tw_p0 tw_1 hd_C_releaseAt rfl rfl ⟨Nat.le_of_ble_eq_true rfl, Nat.le_of_ble_eq_true rfl⟩ hK hw hS hl.1 rfl (Nat.le_of_ble_eq_true rfl) ⟨Nat.zero_le _, Nat.zero_le _⟩ d_C_start_2 rfl (fun H locs hw hS => ?_)
  by_cases h1 : rOk nr a1
  · skip
    refine W.eq (g2 := F0 m (2 + 3) ls [.ref (ad (10 + 3 * (Int32.toNatClampNeg a1)))]) (by rw [rVal_p h1]) ?_
    refine lv_astore_n (lv' := [(2, .ref (ad (10 + 3 * (Int32.toNatClampNeg a1)))), (0, .ref (ad (0))), (1, .int (a1))]) hx hb d_C_start_5 rfl hl (by decide) rfl (fun ls hl => ?_)
    refine lv_aload_n hx hb d_C_start_6 rfl (lv_at hl 0 rfl) ?_
    refine lv_ifnull hx hb d_C_start_7 ?_
    refine lv_aload_n hx hb d_C_start_10 rfl (lv_at hl 0 rfl) ?_
    refine lv_aload_n hx hb d_C_start_11 rfl (lv_at hl 1 rfl) ?_
    refine mw_get (v := .int (s0 0 6)) hx hb hts in_C hown hK.1 hw (0) cC_0 rfl 6 (by decide) (hts _ tw_64) rfl d_C_start_12 ?_
    refine gVN (As := [.int (s0 0 6)]) (rest := []) (st1 := [.int ((f_R_begin s0 (Int32.toNatClampNeg a1) (s0 0 6)).1)]) ⟨hx, hb, hml, hown, hts⟩ (cc_R_begin l G A ad nr nm hnr hnm s0 (Int32.toNatClampNeg a1) h1.2 (s0 0 6)) (cC_rel hnr h1.2) rfl tw_172 nw_5 tw_171 tw_p3 tw_5 hd_R_begin rfl rfl ⟨Nat.le_of_ble_eq_true rfl, Nat.le_of_ble_eq_true rfl⟩ hK hw hS hl.1 rfl (Nat.le_of_ble_eq_true rfl) ⟨Nat.zero_le _, Nat.zero_le _⟩ d_C_start_15 rfl (fun H locs hw hS => ?_)
    refine lv_if_eq (tgt := 25) hx hb d_C_start_18 (by decide) (fun h2 => ?_) (fun h2 => ?_)
    · skip
      refine lv_iconst (v := 0) hx hb d_C_start_25 (by decide) ?_
      have e9 : f_C_start nr nm s0 a1 = (0, (f_R_begin s0 (Int32.toNatClampNeg a1) (s0 0 6)).2) := by unfold f_C_start; exact (if_pos h1).trans (if_pos h2)
      exact mw_iret hx hb hr rfl hw hS (congrArg (fun z => some (Value.int z.1)) e9.symm) ⟨rfl, congrArg (fun z => encC G.2 ad nr nm z.2) e9.symm⟩ hlocks d_C_start_26
    · skip
      refine lv_iconst (v := 1) hx hb d_C_start_21 (by decide) ?_
      refine lv_goto (tgt := 26) hx hb d_C_start_22 (by decide) ?_
      have e9 : f_C_start nr nm s0 a1 = (1, (f_R_begin s0 (Int32.toNatClampNeg a1) (s0 0 6)).2) := by unfold f_C_start; exact (if_pos h1).trans (if_neg h2)
      exact mw_iret hx hb hr rfl hw hS (congrArg (fun z => some (Value.int z.1)) e9.symm) ⟨rfl, congrArg (fun z => encC G.2 ad nr nm z.2) e9.symm⟩ hlocks d_C_start_26
  · skip
    refine W.eq (g2 := F0 m (2 + 3) ls [.null]) (by rw [rVal_n h1]) ?_
    refine lv_astore_nN (lv' := [(2, .null), (0, .ref (ad (0))), (1, .int (a1))]) hx hb d_C_start_5 rfl hl (by decide) rfl (fun ls hl => ?_)
    refine lv_aload_nN hx hb d_C_start_6 rfl (lv_at hl 0 rfl) ?_
    refine lv_ifnullN (tgt := 25) hx hb d_C_start_7 (by decide) ?_
    refine lv_iconst (v := 0) hx hb d_C_start_25 (by decide) ?_
    have e9 : f_C_start nr nm s0 a1 = (0, s0) := by unfold f_C_start; exact if_neg h1
    exact mw_iret hx hb hr rfl hw hS (congrArg (fun z => some (Value.int z.1)) e9.symm) ⟨rfl, congrArg (fun z => encC G.2 ad nr nm z.2) e9.symm⟩ hlocks d_C_start_26

def f_C_report (nr nm : Nat) (s0 : S2) (a1 : Int32) (a2 : Int32) (a3 : Int32) : Int32 × S2 :=
  if rOk nr a1 then
    if ((f_R_addReports s0 (Int32.toNatClampNeg a1) a2 a3).1) = 0 then
      (0, (f_R_addReports s0 (Int32.toNatClampNeg a1) a2 a3).2)
    else
      (1, (f_R_addReports s0 (Int32.toNatClampNeg a1) a2 a3).2)
  else
    (0, s0)
theorem fb_C_report (nr nm : Nat) (s0 : S2) (a1 : Int32) (a2 : Int32) (a3 : Int32) : narrow .boolean (.int ((f_C_report nr nm s0 a1 a2 a3).1)) = .int ((f_C_report nr nm s0 a1 a2 a3).1) := by
  unfold f_C_report
  repeat' split
  all_goals first | rfl | exact narrow_b0 | exact narrow_b1
set_option maxHeartbeats 4000000 in
set_option maxRecDepth 100000 in
theorem cc_C_report (l : Launch) (G : Gx) (A : Nat → Prop) (ad : Nat → Nat) (nr nm : Nat) (hnr : nr ≤ 16) (hnm : nm ≤ 30) (s0 : S2) (a1 : Int32) (a2 : Int32) (a3 : Int32) : Met l y_C_report ws_C_report { frames := 2, cells := 0, slots := 0, locals := 44 } (PG G [.ref (ad (0)), .int (a1), .int (a2), .int (a3)] A ad (encC G.2 ad nr nm s0)) (EG G A (some (.int (f_C_report nr nm s0 a1 a2 a3).1)) ad (encC G.2 ad nr nm ((f_C_report nr nm s0 a1 a2 a3).2))) 0 0 A := by
  refine Met.ofW (cc := c_C_report) (maxL := 5) (ret := (some .boolean)) (by decide) rfl ?_
  intro p e s m args below meth c s₁ B hml hv
  obtain ⟨rfl, hw, hK⟩ := hv
  have hx := B.exec
  have hb := B.bytes
  have hr := B.returns
  have hts : ∀ w ∈ tbG, w.before [.ref (ad (0)), .int (a1), .int (a2), .int (a3)].toArray s = true := fun w h => atoms_spec (ws := ws_C_report) B.pre w (List.mem_cons_of_mem _ h)
  have hown : s.vm.findClass "RollStages" = some m.cls := findClass_of_methodNamed B.named
  have hlocks := B.notSynchronized
  have hS : va_S A s.heap s.heap [] := va_S.rf
  have hw : mwG G A ad (encC G.2 ad nr nm s0) s.heap := hw
  have hl := lv_entry ([.ref (ad (0)), .int (a1), .int (a2), .int (a3)]) (n := 5) (Nat.le_of_ble_eq_true rfl)
  rw [lg_entry_eq]
  generalize (lg_sl ([.ref (ad (0)), .int (a1), .int (a2), .int (a3)]) ++ List.replicate (5 - (lg_sl ([.ref (ad (0)), .int (a1), .int (a2), .int (a3)])).length) Slot.unset).toArray = ls at hl ⊢
  have hl : lv_has ls 5 [(0, .ref (ad (0))), (1, .int (a1)), (2, .int (a2)), (3, .int (a3))] := hl
  refine lv_aload_n hx hb d_C_report_0 rfl (lv_at hl 0 rfl) ?_
  refine lv_iload_n hx hb d_C_report_1 rfl (lv_at hl 1 rfl) ?_
  refine gV (As := [.int (a1)]) (rest := []) (st1 := [rVal ad nr a1]) ⟨hx, hb, hml, hown, hts⟩ (cc_C_releaseAt l G A ad nr nm hnr hnm s0 a1) cC_0 rfl tw_151 tw_148 tw_150 tw_p0 tw_1 hd_C_releaseAt rfl rfl ⟨Nat.le_of_ble_eq_true rfl, Nat.le_of_ble_eq_true rfl⟩ hK hw hS hl.1 rfl (Nat.le_of_ble_eq_true rfl) ⟨Nat.zero_le _, Nat.zero_le _⟩ d_C_report_2 rfl (fun H locs hw hS => ?_)
  by_cases h1 : rOk nr a1
  · skip
    refine W.eq (g2 := F0 m (2 + 3) ls [.ref (ad (10 + 3 * (Int32.toNatClampNeg a1)))]) (by rw [rVal_p h1]) ?_
    refine lv_astore (lv' := [(4, .ref (ad (10 + 3 * (Int32.toNatClampNeg a1)))), (0, .ref (ad (0))), (1, .int (a1)), (2, .int (a2)), (3, .int (a3))]) hx hb d_C_report_5 hl (by decide) rfl (fun ls hl => ?_)
    refine lv_aload hx hb d_C_report_7 (lv_at hl 0 rfl) ?_
    refine lv_ifnull hx hb d_C_report_9 ?_
    refine lv_aload hx hb d_C_report_12 (lv_at hl 0 rfl) ?_
    refine lv_iload_n hx hb d_C_report_14 rfl (lv_at hl 3 rfl) ?_
    refine lv_iload_n hx hb d_C_report_15 rfl (lv_at hl 4 rfl) ?_
    refine gVN (As := [.int (a2), .int (a3)]) (rest := []) (st1 := [.int ((f_R_addReports s0 (Int32.toNatClampNeg a1) a2 a3).1)]) ⟨hx, hb, hml, hown, hts⟩ (cc_R_addReports l G A ad nr nm hnr hnm s0 (Int32.toNatClampNeg a1) h1.2 a2 a3) (cC_rel hnr h1.2) rfl tw_184 nw_6 tw_183 tw_p5 tw_5 hd_R_addReports rfl rfl ⟨Nat.le_of_ble_eq_true rfl, Nat.le_of_ble_eq_true rfl⟩ hK hw hS hl.1 rfl (Nat.le_of_ble_eq_true rfl) ⟨Nat.zero_le _, Nat.zero_le _⟩ d_C_report_16 rfl (fun H locs hw hS => ?_)
    refine lv_if_eq (tgt := 26) hx hb d_C_report_19 (by decide) (fun h2 => ?_) (fun h2 => ?_)
    · skip
      refine lv_iconst (v := 0) hx hb d_C_report_26 (by decide) ?_
      have e9 : f_C_report nr nm s0 a1 a2 a3 = (0, (f_R_addReports s0 (Int32.toNatClampNeg a1) a2 a3).2) := by unfold f_C_report; exact (if_pos h1).trans (if_pos h2)
      exact mw_iret hx hb hr rfl hw hS (congrArg (fun z => some (Value.int z.1)) e9.symm) ⟨rfl, congrArg (fun z => encC G.2 ad nr nm z.2) e9.symm⟩ hlocks d_C_report_27
    · skip
      refine lv_iconst (v := 1) hx hb d_C_report_22 (by decide) ?_
      refine lv_goto (tgt := 27) hx hb d_C_report_23 (by decide) ?_
      have e9 : f_C_report nr nm s0 a1 a2 a3 = (1, (f_R_addReports s0 (Int32.toNatClampNeg a1) a2 a3).2) := by unfold f_C_report; exact (if_pos h1).trans (if_neg h2)
      exact mw_iret hx hb hr rfl hw hS (congrArg (fun z => some (Value.int z.1)) e9.symm) ⟨rfl, congrArg (fun z => encC G.2 ad nr nm z.2) e9.symm⟩ hlocks d_C_report_27
  · skip
    refine W.eq (g2 := F0 m (2 + 3) ls [.null]) (by rw [rVal_n h1]) ?_
    refine lv_astoreN (lv' := [(4, .null), (0, .ref (ad (0))), (1, .int (a1)), (2, .int (a2)), (3, .int (a3))]) hx hb d_C_report_5 hl (by decide) rfl (fun ls hl => ?_)
    refine lv_aloadN hx hb d_C_report_7 (lv_at hl 0 rfl) ?_
    refine lv_ifnullN (tgt := 26) hx hb d_C_report_9 (by decide) ?_
    refine lv_iconst (v := 0) hx hb d_C_report_26 (by decide) ?_
    have e9 : f_C_report nr nm s0 a1 a2 a3 = (0, s0) := by unfold f_C_report; exact if_neg h1
    exact mw_iret hx hb hr rfl hw hS (congrArg (fun z => some (Value.int z.1)) e9.symm) ⟨rfl, congrArg (fun z => encC G.2 ad nr nm z.2) e9.symm⟩ hlocks d_C_report_27

def f_C_revoke (nr nm : Nat) (s0 : S2) (a1 : Int32) : Int32 × S2 :=
  if rOk nr a1 then
    if ((f_R_bar s0 (Int32.toNatClampNeg a1)).1) = 0 then
      (0, (f_R_bar s0 (Int32.toNatClampNeg a1)).2)
    else
      (1, (f_R_bar s0 (Int32.toNatClampNeg a1)).2)
  else
    (0, s0)
theorem fb_C_revoke (nr nm : Nat) (s0 : S2) (a1 : Int32) : narrow .boolean (.int ((f_C_revoke nr nm s0 a1).1)) = .int ((f_C_revoke nr nm s0 a1).1) := by
  unfold f_C_revoke
  repeat' split
  all_goals first | rfl | exact narrow_b0 | exact narrow_b1
set_option maxHeartbeats 4000000 in
set_option maxRecDepth 100000 in
theorem cc_C_revoke (l : Launch) (G : Gx) (A : Nat → Prop) (ad : Nat → Nat) (nr nm : Nat) (hnr : nr ≤ 16) (hnm : nm ≤ 30) (s0 : S2) (a1 : Int32) : Met l y_C_revoke ws_C_revoke { frames := 2, cells := 0, slots := 0, locals := 43 } (PG G [.ref (ad (0)), .int (a1)] A ad (encC G.2 ad nr nm s0)) (EG G A (some (.int (f_C_revoke nr nm s0 a1).1)) ad (encC G.2 ad nr nm ((f_C_revoke nr nm s0 a1).2))) 0 0 A := by
  refine Met.ofW (cc := c_C_revoke) (maxL := 3) (ret := (some .boolean)) (by decide) rfl ?_
  intro p e s m args below meth c s₁ B hml hv
  obtain ⟨rfl, hw, hK⟩ := hv
  have hx := B.exec
  have hb := B.bytes
  have hr := B.returns
  have hts : ∀ w ∈ tbG, w.before [.ref (ad (0)), .int (a1)].toArray s = true := fun w h => atoms_spec (ws := ws_C_revoke) B.pre w (List.mem_cons_of_mem _ h)
  have hown : s.vm.findClass "RollStages" = some m.cls := findClass_of_methodNamed B.named
  have hlocks := B.notSynchronized
  have hS : va_S A s.heap s.heap [] := va_S.rf
  have hw : mwG G A ad (encC G.2 ad nr nm s0) s.heap := hw
  have hl := lv_entry ([.ref (ad (0)), .int (a1)]) (n := 3) (Nat.le_of_ble_eq_true rfl)
  rw [lg_entry_eq]
  generalize (lg_sl ([.ref (ad (0)), .int (a1)]) ++ List.replicate (3 - (lg_sl ([.ref (ad (0)), .int (a1)])).length) Slot.unset).toArray = ls at hl ⊢
  have hl : lv_has ls 3 [(0, .ref (ad (0))), (1, .int (a1))] := hl
  refine lv_aload_n hx hb d_C_revoke_0 rfl (lv_at hl 0 rfl) ?_
  refine lv_iload_n hx hb d_C_revoke_1 rfl (lv_at hl 1 rfl) ?_
  refine gV (As := [.int (a1)]) (rest := []) (st1 := [rVal ad nr a1]) ⟨hx, hb, hml, hown, hts⟩ (cc_C_releaseAt l G A ad nr nm hnr hnm s0 a1) cC_0 rfl tw_151 tw_148 tw_150 tw_p0 tw_1 hd_C_releaseAt rfl rfl ⟨Nat.le_of_ble_eq_true rfl, Nat.le_of_ble_eq_true rfl⟩ hK hw hS hl.1 rfl (Nat.le_of_ble_eq_true rfl) ⟨Nat.zero_le _, Nat.zero_le _⟩ d_C_revoke_2 rfl (fun H locs hw hS => ?_)
  by_cases h1 : rOk nr a1
  · skip
    refine W.eq (g2 := F0 m (2 + 3) ls [.ref (ad (10 + 3 * (Int32.toNatClampNeg a1)))]) (by rw [rVal_p h1]) ?_
    refine lv_astore_n (lv' := [(2, .ref (ad (10 + 3 * (Int32.toNatClampNeg a1)))), (0, .ref (ad (0))), (1, .int (a1))]) hx hb d_C_revoke_5 rfl hl (by decide) rfl (fun ls hl => ?_)
    refine lv_aload_n hx hb d_C_revoke_6 rfl (lv_at hl 0 rfl) ?_
    refine lv_ifnull hx hb d_C_revoke_7 ?_
    refine lv_aload_n hx hb d_C_revoke_10 rfl (lv_at hl 0 rfl) ?_
    refine gVN (As := []) (rest := []) (st1 := [.int ((f_R_bar s0 (Int32.toNatClampNeg a1)).1)]) ⟨hx, hb, hml, hown, hts⟩ (cc_R_bar l G A ad nr nm hnr hnm s0 (Int32.toNatClampNeg a1) h1.2) (cC_rel hnr h1.2) rfl tw_208 nw_9 tw_207 tw_p9 tw_5 hd_R_bar rfl rfl ⟨Nat.le_of_ble_eq_true rfl, Nat.le_of_ble_eq_true rfl⟩ hK hw hS hl.1 rfl (Nat.le_of_ble_eq_true rfl) ⟨Nat.zero_le _, Nat.zero_le _⟩ d_C_revoke_11 rfl (fun H locs hw hS => ?_)
    refine lv_if_eq (tgt := 21) hx hb d_C_revoke_14 (by decide) (fun h2 => ?_) (fun h2 => ?_)
    · skip
      refine lv_iconst (v := 0) hx hb d_C_revoke_21 (by decide) ?_
      have e9 : f_C_revoke nr nm s0 a1 = (0, (f_R_bar s0 (Int32.toNatClampNeg a1)).2) := by unfold f_C_revoke; exact (if_pos h1).trans (if_pos h2)
      exact mw_iret hx hb hr rfl hw hS (congrArg (fun z => some (Value.int z.1)) e9.symm) ⟨rfl, congrArg (fun z => encC G.2 ad nr nm z.2) e9.symm⟩ hlocks d_C_revoke_22
    · skip
      refine lv_iconst (v := 1) hx hb d_C_revoke_17 (by decide) ?_
      refine lv_goto (tgt := 22) hx hb d_C_revoke_18 (by decide) ?_
      have e9 : f_C_revoke nr nm s0 a1 = (1, (f_R_bar s0 (Int32.toNatClampNeg a1)).2) := by unfold f_C_revoke; exact (if_pos h1).trans (if_neg h2)
      exact mw_iret hx hb hr rfl hw hS (congrArg (fun z => some (Value.int z.1)) e9.symm) ⟨rfl, congrArg (fun z => encC G.2 ad nr nm z.2) e9.symm⟩ hlocks d_C_revoke_22
  · skip
    refine W.eq (g2 := F0 m (2 + 3) ls [.null]) (by rw [rVal_n h1]) ?_
    refine lv_astore_nN (lv' := [(2, .null), (0, .ref (ad (0))), (1, .int (a1))]) hx hb d_C_revoke_5 rfl hl (by decide) rfl (fun ls hl => ?_)
    refine lv_aload_nN hx hb d_C_revoke_6 rfl (lv_at hl 0 rfl) ?_
    refine lv_ifnullN (tgt := 21) hx hb d_C_revoke_7 (by decide) ?_
    refine lv_iconst (v := 0) hx hb d_C_revoke_21 (by decide) ?_
    have e9 : f_C_revoke nr nm s0 a1 = (0, s0) := by unfold f_C_revoke; exact if_neg h1
    exact mw_iret hx hb hr rfl hw hS (congrArg (fun z => some (Value.int z.1)) e9.symm) ⟨rfl, congrArg (fun z => encC G.2 ad nr nm z.2) e9.symm⟩ hlocks d_C_revoke_22

def f_C_hold (nr nm : Nat) (s0 : S2) (a1 : Int32) (a2 : Int32) : Int32 × S2 :=
  if rOk nr a1 then
    if a2 = 0 then
      ((f_R_goOn s0 (Int32.toNatClampNeg a1) (s0 0 6)).1, (f_R_goOn s0 (Int32.toNatClampNeg a1) (s0 0 6)).2)
    else
      ((f_R_holdByHand s0 (Int32.toNatClampNeg a1)).1, (f_R_holdByHand s0 (Int32.toNatClampNeg a1)).2)
  else
    (0, s0)
theorem fb_C_hold (nr nm : Nat) (s0 : S2) (a1 : Int32) (a2 : Int32) : narrow .boolean (.int ((f_C_hold nr nm s0 a1 a2).1)) = .int ((f_C_hold nr nm s0 a1 a2).1) := by
  unfold f_C_hold
  repeat' split
  all_goals first | rfl | exact narrow_b0 | exact fb_R_holdByHand _ _ | exact fb_R_goOn _ _ _
set_option maxHeartbeats 4000000 in
set_option maxRecDepth 100000 in
theorem cc_C_hold (l : Launch) (G : Gx) (A : Nat → Prop) (ad : Nat → Nat) (nr nm : Nat) (hnr : nr ≤ 16) (hnm : nm ≤ 30) (s0 : S2) (a1 : Int32) (a2 : Int32) : Met l y_C_hold ws_C_hold { frames := 2, cells := 0, slots := 0, locals := 43 } (PG G [.ref (ad (0)), .int (a1), .int (a2)] A ad (encC G.2 ad nr nm s0)) (EG G A (some (.int (f_C_hold nr nm s0 a1 a2).1)) ad (encC G.2 ad nr nm ((f_C_hold nr nm s0 a1 a2).2))) 0 0 A := by
  refine Met.ofW (cc := c_C_hold) (maxL := 4) (ret := (some .boolean)) (by decide) rfl ?_
  intro p e s m args below meth c s₁ B hml hv
  obtain ⟨rfl, hw, hK⟩ := hv
  have hx := B.exec
  have hb := B.bytes
  have hr := B.returns
  have hts : ∀ w ∈ tbG, w.before [.ref (ad (0)), .int (a1), .int (a2)].toArray s = true := fun w h => atoms_spec (ws := ws_C_hold) B.pre w (List.mem_cons_of_mem _ h)
  have hown : s.vm.findClass "RollStages" = some m.cls := findClass_of_methodNamed B.named
  have hlocks := B.notSynchronized
  have hS : va_S A s.heap s.heap [] := va_S.rf
  have hw : mwG G A ad (encC G.2 ad nr nm s0) s.heap := hw
  have hl := lv_entry ([.ref (ad (0)), .int (a1), .int (a2)]) (n := 4) (Nat.le_of_ble_eq_true rfl)
  rw [lg_entry_eq]
  generalize (lg_sl ([.ref (ad (0)), .int (a1), .int (a2)]) ++ List.replicate (4 - (lg_sl ([.ref (ad (0)), .int (a1), .int (a2)])).length) Slot.unset).toArray = ls at hl ⊢
  have hl : lv_has ls 4 [(0, .ref (ad (0))), (1, .int (a1)), (2, .int (a2))] := hl
  refine lv_aload_n hx hb d_C_hold_0 rfl (lv_at hl 0 rfl) ?_
  refine lv_iload_n hx hb d_C_hold_1 rfl (lv_at hl 1 rfl) ?_
  refine gV (As := [.int (a1)]) (rest := []) (st1 := [rVal ad nr a1]) ⟨hx, hb, hml, hown, hts⟩ (cc_C_releaseAt l G A ad nr nm hnr hnm s0 a1) cC_0 rfl tw_151 tw_148 tw_150 tw_p0 tw_1 hd_C_releaseAt rfl rfl ⟨Nat.le_of_ble_eq_true rfl, Nat.le_of_ble_eq_true rfl⟩ hK hw hS hl.1 rfl (Nat.le_of_ble_eq_true rfl) ⟨Nat.zero_le _, Nat.zero_le _⟩ d_C_hold_2 rfl (fun H locs hw hS => ?_)
  by_cases h1 : rOk nr a1
  · skip
    refine W.eq (g2 := F0 m (2 + 3) ls [.ref (ad (10 + 3 * (Int32.toNatClampNeg a1)))]) (by rw [rVal_p h1]) ?_
    refine lv_astore_n (lv' := [(3, .ref (ad (10 + 3 * (Int32.toNatClampNeg a1)))), (0, .ref (ad (0))), (1, .int (a1)), (2, .int (a2))]) hx hb d_C_hold_5 rfl hl (by decide) rfl (fun ls hl => ?_)
    refine lv_aload_n hx hb d_C_hold_6 rfl (lv_at hl 0 rfl) ?_
    refine lv_ifnonnull (tgt := 12) hx hb d_C_hold_7 (by decide) ?_
    refine lv_iload_n hx hb d_C_hold_12 rfl (lv_at hl 3 rfl) ?_
    refine lv_if_eq (tgt := 23) hx hb d_C_hold_13 (by decide) (fun h2 => ?_) (fun h2 => ?_)
    · skip
      refine lv_aload_n hx hb d_C_hold_23 rfl (lv_at hl 0 rfl) ?_
      refine lv_aload_n hx hb d_C_hold_24 rfl (lv_at hl 1 rfl) ?_
      refine mw_get (v := .int (s0 0 6)) hx hb hts in_C hown hK.1 hw (0) cC_0 rfl 6 (by decide) (hts _ tw_64) rfl d_C_hold_25 ?_
      refine gVN (As := [.int (s0 0 6)]) (rest := []) (st1 := [.int ((f_R_goOn s0 (Int32.toNatClampNeg a1) (s0 0 6)).1)]) ⟨hx, hb, hml, hown, hts⟩ (cc_R_goOn l G A ad nr nm hnr hnm s0 (Int32.toNatClampNeg a1) h1.2 (s0 0 6)) (cC_rel hnr h1.2) rfl tw_200 nw_8 tw_199 tw_p8 tw_5 hd_R_goOn rfl rfl ⟨Nat.le_of_ble_eq_true rfl, Nat.le_of_ble_eq_true rfl⟩ hK hw hS hl.1 rfl (Nat.le_of_ble_eq_true rfl) ⟨Nat.zero_le _, Nat.zero_le _⟩ d_C_hold_28 rfl (fun H locs hw hS => ?_)
      have e9 : f_C_hold nr nm s0 a1 a2 = ((f_R_goOn s0 (Int32.toNatClampNeg a1) (s0 0 6)).1, (f_R_goOn s0 (Int32.toNatClampNeg a1) (s0 0 6)).2) := by unfold f_C_hold; exact (if_pos h1).trans (if_pos h2)
      exact mw_iret hx hb hr (fb_R_goOn _ _ _) hw hS (congrArg (fun z => some (Value.int z.1)) e9.symm) ⟨rfl, congrArg (fun z => encC G.2 ad nr nm z.2) e9.symm⟩ hlocks d_C_hold_31
    · skip
      refine lv_aload_n hx hb d_C_hold_16 rfl (lv_at hl 0 rfl) ?_
      refine gVN (As := []) (rest := []) (st1 := [.int ((f_R_holdByHand s0 (Int32.toNatClampNeg a1)).1)]) ⟨hx, hb, hml, hown, hts⟩ (cc_R_holdByHand l G A ad nr nm hnr hnm s0 (Int32.toNatClampNeg a1) h1.2) (cC_rel hnr h1.2) rfl tw_192 nw_7 tw_191 tw_p6 tw_5 hd_R_holdByHand rfl rfl ⟨Nat.le_of_ble_eq_true rfl, Nat.le_of_ble_eq_true rfl⟩ hK hw hS hl.1 rfl (Nat.le_of_ble_eq_true rfl) ⟨Nat.zero_le _, Nat.zero_le _⟩ d_C_hold_17 rfl (fun H locs hw hS => ?_)
      refine lv_goto (tgt := 31) hx hb d_C_hold_20 (by decide) ?_
      have e9 : f_C_hold nr nm s0 a1 a2 = ((f_R_holdByHand s0 (Int32.toNatClampNeg a1)).1, (f_R_holdByHand s0 (Int32.toNatClampNeg a1)).2) := by unfold f_C_hold; exact (if_pos h1).trans (if_neg h2)
      exact mw_iret hx hb hr (fb_R_holdByHand _ _) hw hS (congrArg (fun z => some (Value.int z.1)) e9.symm) ⟨rfl, congrArg (fun z => encC G.2 ad nr nm z.2) e9.symm⟩ hlocks d_C_hold_31
  · skip
    refine W.eq (g2 := F0 m (2 + 3) ls [.null]) (by rw [rVal_n h1]) ?_
    refine lv_astore_nN (lv' := [(3, .null), (0, .ref (ad (0))), (1, .int (a1)), (2, .int (a2))]) hx hb d_C_hold_5 rfl hl (by decide) rfl (fun ls hl => ?_)
    refine lv_aload_nN hx hb d_C_hold_6 rfl (lv_at hl 0 rfl) ?_
    refine lv_ifnonnullN hx hb d_C_hold_7 ?_
    refine lv_iconst (v := 0) hx hb d_C_hold_10 (by decide) ?_
    have e9 : f_C_hold nr nm s0 a1 a2 = (0, s0) := by unfold f_C_hold; exact if_neg h1
    exact mw_iret hx hb hr rfl hw hS (congrArg (fun z => some (Value.int z.1)) e9.symm) ⟨rfl, congrArg (fun z => encC G.2 ad nr nm z.2) e9.symm⟩ hlocks d_C_hold_11

def f_C_about (nr nm : Nat) (s0 : S2) (a1 : Int32) (a2 : Int32) : Int32 :=
  if rOk nr a1 then
    if a2 = 0 then
      s0 (10 + 3 * (Int32.toNatClampNeg a1)) 8
    else
      if a2 = 1 then
        f_R_stageNow s0 (Int32.toNatClampNeg a1)
      else
        if a2 = 2 then
          s0 (10 + 3 * (Int32.toNatClampNeg a1)) 9
        else
          if a2 = 3 then
            f_R_shareNow s0 (Int32.toNatClampNeg a1)
          else
            if a2 = 4 then
              f_R_allReports s0 (Int32.toNatClampNeg a1)
            else
              -1
  else
    -1
set_option maxHeartbeats 4000000 in
set_option maxRecDepth 100000 in
theorem cc_C_about (l : Launch) (G : Gx) (A : Nat → Prop) (ad : Nat → Nat) (nr nm : Nat) (hnr : nr ≤ 16) (hnm : nm ≤ 30) (s0 : S2) (a1 : Int32) (a2 : Int32) : Met l y_C_about ws_C_about { frames := 3, cells := 0, slots := 0, locals := 63 } (PG G [.ref (ad (0)), .int (a1), .int (a2)] A ad (encC G.2 ad nr nm s0)) (EG G A (some (.int (f_C_about nr nm s0 a1 a2))) ad (encC G.2 ad nr nm s0)) 0 0 A := by
  refine Met.ofW (cc := c_C_about) (maxL := 4) (ret := (some .int)) (by decide) rfl ?_
  intro p e s m args below meth c s₁ B hml hv
  obtain ⟨rfl, hw, hK⟩ := hv
  have hx := B.exec
  have hb := B.bytes
  have hr := B.returns
  have hts : ∀ w ∈ tbG, w.before [.ref (ad (0)), .int (a1), .int (a2)].toArray s = true := fun w h => atoms_spec (ws := ws_C_about) B.pre w (List.mem_cons_of_mem _ h)
  have hown : s.vm.findClass "RollStages" = some m.cls := findClass_of_methodNamed B.named
  have hlocks := B.notSynchronized
  have hS : va_S A s.heap s.heap [] := va_S.rf
  have hw : mwG G A ad (encC G.2 ad nr nm s0) s.heap := hw
  have hl := lv_entry ([.ref (ad (0)), .int (a1), .int (a2)]) (n := 4) (Nat.le_of_ble_eq_true rfl)
  rw [lg_entry_eq]
  generalize (lg_sl ([.ref (ad (0)), .int (a1), .int (a2)]) ++ List.replicate (4 - (lg_sl ([.ref (ad (0)), .int (a1), .int (a2)])).length) Slot.unset).toArray = ls at hl ⊢
  have hl : lv_has ls 4 [(0, .ref (ad (0))), (1, .int (a1)), (2, .int (a2))] := hl
  refine lv_aload_n hx hb d_C_about_0 rfl (lv_at hl 0 rfl) ?_
  refine lv_iload_n hx hb d_C_about_1 rfl (lv_at hl 1 rfl) ?_
  refine gV (As := [.int (a1)]) (rest := []) (st1 := [rVal ad nr a1]) ⟨hx, hb, hml, hown, hts⟩ (cc_C_releaseAt l G A ad nr nm hnr hnm s0 a1) cC_0 rfl tw_151 tw_148 tw_150 tw_p0 tw_1 hd_C_releaseAt rfl rfl ⟨Nat.le_of_ble_eq_true rfl, Nat.le_of_ble_eq_true rfl⟩ hK hw hS hl.1 rfl (Nat.le_of_ble_eq_true rfl) ⟨Nat.zero_le _, Nat.zero_le _⟩ d_C_about_2 rfl (fun H locs hw hS => ?_)
  by_cases h1 : rOk nr a1
  · skip
    refine W.eq (g2 := F0 m (2 + 3) ls [.ref (ad (10 + 3 * (Int32.toNatClampNeg a1)))]) (by rw [rVal_p h1]) ?_
    refine lv_astore_n (lv' := [(3, .ref (ad (10 + 3 * (Int32.toNatClampNeg a1)))), (0, .ref (ad (0))), (1, .int (a1)), (2, .int (a2))]) hx hb d_C_about_5 rfl hl (by decide) rfl (fun ls hl => ?_)
    refine lv_aload_n hx hb d_C_about_6 rfl (lv_at hl 0 rfl) ?_
    refine lv_ifnonnull (tgt := 12) hx hb d_C_about_7 (by decide) ?_
    refine lv_iload_n hx hb d_C_about_12 rfl (lv_at hl 3 rfl) ?_
    by_cases h2 : a2 = 0
    · skip
      refine lv_tableIn (tgt := 48) hx hb d_C_about_13 (by rw [h2]; decide) (by rw [h2]; decide) (by rw [h2]; rfl) (by decide) ?_
      refine lv_aload_n hx hb d_C_about_48 rfl (lv_at hl 0 rfl) ?_
      refine mw_getN (v := .int (s0 (10 + 3 * (Int32.toNatClampNeg a1)) 8)) hx hb hts in_R hown hK.1 hw (10 + 3 * (Int32.toNatClampNeg a1)) (cC_rel hnr h1.2) rfl 8 (by decide) (hK.2.1 _ nf_5) rfl d_C_about_49 ?_
      have e9 : f_C_about nr nm s0 a1 a2 = s0 (10 + 3 * (Int32.toNatClampNeg a1)) 8 := by unfold f_C_about; exact (if_pos h1).trans (if_pos h2)
      exact mw_iret hx hb hr rfl hw hS (congrArg (fun z => some (Value.int z)) e9.symm) ⟨rfl, rfl⟩ hlocks d_C_about_52
    · skip
      by_cases h3 : a2 = 1
      · skip
        refine lv_tableIn (tgt := 53) hx hb d_C_about_13 (by rw [h3]; decide) (by rw [h3]; decide) (by rw [h3]; rfl) (by decide) ?_
        refine lv_aload_n hx hb d_C_about_53 rfl (lv_at hl 0 rfl) ?_
        refine gVN (As := []) (rest := []) (st1 := [.int (f_R_stageNow s0 (Int32.toNatClampNeg a1))]) ⟨hx, hb, hml, hown, hts⟩ (cc_R_stageNow l G A ad nr nm hnr hnm s0 (Int32.toNatClampNeg a1) h1.2) (cC_rel hnr h1.2) rfl tw_243 nw_11 tw_242 tw_p15 tw_5 hd_R_stageNow rfl rfl ⟨Nat.le_of_ble_eq_true rfl, Nat.le_of_ble_eq_true rfl⟩ hK hw hS hl.1 rfl (Nat.le_of_ble_eq_true rfl) ⟨Nat.zero_le _, Nat.zero_le _⟩ d_C_about_54 rfl (fun H locs hw hS => ?_)
        have e9 : f_C_about nr nm s0 a1 a2 = f_R_stageNow s0 (Int32.toNatClampNeg a1) := by unfold f_C_about; exact (if_pos h1).trans ((if_neg h2).trans (if_pos h3))
        exact mw_iret hx hb hr rfl hw hS (congrArg (fun z => some (Value.int z)) e9.symm) ⟨rfl, rfl⟩ hlocks d_C_about_57
      · skip
        by_cases h4 : a2 = 2
        · skip
          refine lv_tableIn (tgt := 58) hx hb d_C_about_13 (by rw [h4]; decide) (by rw [h4]; decide) (by rw [h4]; rfl) (by decide) ?_
          refine lv_aload_n hx hb d_C_about_58 rfl (lv_at hl 0 rfl) ?_
          refine mw_getN (v := .int (s0 (10 + 3 * (Int32.toNatClampNeg a1)) 9)) hx hb hts in_R hown hK.1 hw (10 + 3 * (Int32.toNatClampNeg a1)) (cC_rel hnr h1.2) rfl 9 (by decide) (hK.2.1 _ nf_6) rfl d_C_about_59 ?_
          have e9 : f_C_about nr nm s0 a1 a2 = s0 (10 + 3 * (Int32.toNatClampNeg a1)) 9 := by unfold f_C_about; exact (if_pos h1).trans ((if_neg h2).trans ((if_neg h3).trans (if_pos h4)))
          exact mw_iret hx hb hr rfl hw hS (congrArg (fun z => some (Value.int z)) e9.symm) ⟨rfl, rfl⟩ hlocks d_C_about_62
        · skip
          by_cases h5 : a2 = 3
          · skip
            refine lv_tableIn (tgt := 63) hx hb d_C_about_13 (by rw [h5]; decide) (by rw [h5]; decide) (by rw [h5]; rfl) (by decide) ?_
            refine lv_aload_n hx hb d_C_about_63 rfl (lv_at hl 0 rfl) ?_
            refine gVN (As := []) (rest := []) (st1 := [.int (f_R_shareNow s0 (Int32.toNatClampNeg a1))]) ⟨hx, hb, hml, hown, hts⟩ (cc_R_shareNow l G A ad nr nm hnr hnm s0 (Int32.toNatClampNeg a1) h1.2) (cC_rel hnr h1.2) rfl tw_251 nw_12 tw_250 tw_p17 tw_5 hd_R_shareNow rfl rfl ⟨Nat.le_of_ble_eq_true rfl, Nat.le_of_ble_eq_true rfl⟩ hK hw hS hl.1 rfl (Nat.le_of_ble_eq_true rfl) ⟨Nat.zero_le _, Nat.zero_le _⟩ d_C_about_64 rfl (fun H locs hw hS => ?_)
            have e9 : f_C_about nr nm s0 a1 a2 = f_R_shareNow s0 (Int32.toNatClampNeg a1) := by unfold f_C_about; exact (if_pos h1).trans ((if_neg h2).trans ((if_neg h3).trans ((if_neg h4).trans (if_pos h5))))
            exact mw_iret hx hb hr rfl hw hS (congrArg (fun z => some (Value.int z)) e9.symm) ⟨rfl, rfl⟩ hlocks d_C_about_67
          · skip
            by_cases h6 : a2 = 4
            · skip
              refine lv_tableIn (tgt := 68) hx hb d_C_about_13 (by rw [h6]; decide) (by rw [h6]; decide) (by rw [h6]; rfl) (by decide) ?_
              refine lv_aload_n hx hb d_C_about_68 rfl (lv_at hl 0 rfl) ?_
              refine gVN (As := []) (rest := []) (st1 := [.int (f_R_allReports s0 (Int32.toNatClampNeg a1))]) ⟨hx, hb, hml, hown, hts⟩ (cc_R_allReports l G A ad nr nm hnr hnm s0 (Int32.toNatClampNeg a1) h1.2) (cC_rel hnr h1.2) rfl tw_231 nw_13 tw_230 tw_p13 tw_5 hd_R_allReports rfl rfl ⟨Nat.le_of_ble_eq_true rfl, Nat.le_of_ble_eq_true rfl⟩ hK hw hS hl.1 rfl (Nat.le_of_ble_eq_true rfl) ⟨Nat.zero_le _, Nat.zero_le _⟩ d_C_about_69 rfl (fun H locs hw hS => ?_)
              have e9 : f_C_about nr nm s0 a1 a2 = f_R_allReports s0 (Int32.toNatClampNeg a1) := by unfold f_C_about; exact (if_pos h1).trans ((if_neg h2).trans ((if_neg h3).trans ((if_neg h4).trans ((if_neg h5).trans (if_pos h6)))))
              exact mw_iret hx hb hr rfl hw hS (congrArg (fun z => some (Value.int z)) e9.symm) ⟨rfl, rfl⟩ hlocks d_C_about_72
            · skip
              refine lv_tableOut (tgt := 73) hx hb d_C_about_13 (by have q0 := lv_neT (a := 0) h2 (by decide); have q1 := lv_neT (a := 1) h3 (by decide); have q2 := lv_neT (a := 2) h4 (by decide); have q3 := lv_neT (a := 3) h5 (by decide); have q4 := lv_neT (a := 4) h6 (by decide); omega) (by decide) ?_
              refine lv_iconst (v := -1) hx hb d_C_about_73 (by decide) ?_
              have e9 : f_C_about nr nm s0 a1 a2 = -1 := by unfold f_C_about; exact (if_pos h1).trans ((if_neg h2).trans ((if_neg h3).trans ((if_neg h4).trans ((if_neg h5).trans (if_neg h6)))))
              exact mw_iret hx hb hr rfl hw hS (congrArg (fun z => some (Value.int z)) e9.symm) ⟨rfl, rfl⟩ hlocks d_C_about_74
  · skip
    refine W.eq (g2 := F0 m (2 + 3) ls [.null]) (by rw [rVal_n h1]) ?_
    refine lv_astore_nN (lv' := [(3, .null), (0, .ref (ad (0))), (1, .int (a1)), (2, .int (a2))]) hx hb d_C_about_5 rfl hl (by decide) rfl (fun ls hl => ?_)
    refine lv_aload_nN hx hb d_C_about_6 rfl (lv_at hl 0 rfl) ?_
    refine lv_ifnonnullN hx hb d_C_about_7 ?_
    refine lv_iconst (v := -1) hx hb d_C_about_10 (by decide) ?_
    have e9 : f_C_about nr nm s0 a1 a2 = -1 := by unfold f_C_about; exact if_neg h1
    exact mw_iret hx hb hr rfl hw hS (congrArg (fun z => some (Value.int z)) e9.symm) ⟨rfl, rfl⟩ hlocks d_C_about_11

def f_C_back (nr nm : Nat) (s0 : S2) (a1 : Int32) (a2 : Int32) : Int32 × S2 :=
  if (f_C_isChannel a1) = 0 then
    (0, s0)
  else
    if a2 = (-1) then
      (1, up2 s0 (3) (Int32.toNatClampNeg a1) a2)
    else
      if rOk nr a2 then
        if (s0 (10 + 3 * (Int32.toNatClampNeg a2)) 0) = a1 then
          (1, up2 s0 (3) (Int32.toNatClampNeg a1) a2)
        else
          (0, s0)
      else
        (0, s0)
theorem fb_C_back (nr nm : Nat) (s0 : S2) (a1 : Int32) (a2 : Int32) : narrow .boolean (.int ((f_C_back nr nm s0 a1 a2).1)) = .int ((f_C_back nr nm s0 a1 a2).1) := by
  unfold f_C_back
  repeat' split
  all_goals first | rfl | exact narrow_b0 | exact narrow_b1
set_option maxHeartbeats 4000000 in
set_option maxRecDepth 100000 in
theorem cc_C_back (l : Launch) (G : Gx) (A : Nat → Prop) (ad : Nat → Nat) (nr nm : Nat) (hnr : nr ≤ 16) (hnm : nm ≤ 30) (s0 : S2) (a1 : Int32) (a2 : Int32) : Met l y_C_back ws_C_back { frames := 2, cells := 0, slots := 0, locals := 43 } (PG G [.ref (ad (0)), .int (a1), .int (a2)] A ad (encC G.2 ad nr nm s0)) (EG G A (some (.int (f_C_back nr nm s0 a1 a2).1)) ad (encC G.2 ad nr nm ((f_C_back nr nm s0 a1 a2).2))) 0 0 A := by
  refine Met.ofW (cc := c_C_back) (maxL := 4) (ret := (some .boolean)) (by decide) rfl ?_
  intro p e s m args below meth c s₁ B hml hv
  obtain ⟨rfl, hw, hK⟩ := hv
  have hx := B.exec
  have hb := B.bytes
  have hr := B.returns
  have hts : ∀ w ∈ tbG, w.before [.ref (ad (0)), .int (a1), .int (a2)].toArray s = true := fun w h => atoms_spec (ws := ws_C_back) B.pre w (List.mem_cons_of_mem _ h)
  have hown : s.vm.findClass "RollStages" = some m.cls := findClass_of_methodNamed B.named
  have hlocks := B.notSynchronized
  have hS : va_S A s.heap s.heap [] := va_S.rf
  have hw : mwG G A ad (encC G.2 ad nr nm s0) s.heap := hw
  have hl := lv_entry ([.ref (ad (0)), .int (a1), .int (a2)]) (n := 4) (Nat.le_of_ble_eq_true rfl)
  rw [lg_entry_eq]
  generalize (lg_sl ([.ref (ad (0)), .int (a1), .int (a2)]) ++ List.replicate (4 - (lg_sl ([.ref (ad (0)), .int (a1), .int (a2)])).length) Slot.unset).toArray = ls at hl ⊢
  have hl : lv_has ls 4 [(0, .ref (ad (0))), (1, .int (a1)), (2, .int (a2))] := hl
  refine lv_iload_n hx hb d_C_back_0 rfl (lv_at hl 1 rfl) ?_
  refine gS (As := [.int (a1)]) (rest := []) (st1 := [.int (f_C_isChannel a1)]) ⟨hx, hb, hml, hown, hts⟩ (cc_C_isChannel l G A ad nr nm hnr hnm s0 a1) tw_86 tw_84 tw_85 tw_1 hd_C_isChannel rfl rfl ⟨Nat.le_of_ble_eq_true rfl, Nat.le_of_ble_eq_true rfl⟩ hK hw hS hl.1 rfl (Nat.le_of_ble_eq_true rfl) ⟨Nat.zero_le _, Nat.zero_le _⟩ d_C_back_1 rfl (fun H locs hw hS => ?_)
  refine lv_if_ne (tgt := 9) hx hb d_C_back_4 (by decide) (fun h1 => ?_) (fun h1 => ?_)
  · skip
    refine lv_iload_n hx hb d_C_back_9 rfl (lv_at hl 2 rfl) ?_
    refine lv_iconst (v := -1) hx hb d_C_back_10 (by decide) ?_
    refine lv_icmp_eq (tgt := 34) hx hb d_C_back_11 (by decide) (fun h2 => ?_) (fun h2 => ?_)
    · skip
      refine lv_aload_n hx hb d_C_back_34 rfl (lv_at hl 0 rfl) ?_
      refine mw_get (v := .ref (ad (3))) hx hb hts in_C hown hK.1 hw (0) cC_0 rfl 2 (by decide) (hts _ tw_60) rfl d_C_back_35 ?_
      refine lv_iload_n hx hb d_C_back_38 rfl (lv_at hl 1 rfl) ?_
      refine lv_iload_n hx hb d_C_back_39 rfl (lv_at hl 2 rfl) ?_
      refine mw_iast hx hb hK.1 hw hS (3) 0 cC_3 rfl (chan_in h1) d_C_back_40 (fun H locs hw hS => ?_)
      replace hw := mw_encC (r := upd (s0 (3)) (Int32.toNatClampNeg a1) a2) hw cC_3
      have hw : mwG G A ad (encC G.2 ad nr nm (up2 s0 (3) (Int32.toNatClampNeg a1) a2)) H := hw
      refine lv_iconst (v := 1) hx hb d_C_back_41 (by decide) ?_
      have e9 : f_C_back nr nm s0 a1 a2 = (1, up2 s0 (3) (Int32.toNatClampNeg a1) a2) := by unfold f_C_back; exact (if_neg h1).trans (if_pos h2)
      exact mw_iret hx hb hr rfl hw hS (congrArg (fun z => some (Value.int z.1)) e9.symm) ⟨rfl, congrArg (fun z => encC G.2 ad nr nm z.2) e9.symm⟩ hlocks d_C_back_42
    · skip
      refine lv_aload_n hx hb d_C_back_14 rfl (lv_at hl 0 rfl) ?_
      refine lv_iload_n hx hb d_C_back_15 rfl (lv_at hl 2 rfl) ?_
      refine gV (As := [.int (a2)]) (rest := []) (st1 := [rVal ad nr a2]) ⟨hx, hb, hml, hown, hts⟩ (cc_C_releaseAt l G A ad nr nm hnr hnm s0 a2) cC_0 rfl tw_151 tw_148 tw_150 tw_p0 tw_1 hd_C_releaseAt rfl rfl ⟨Nat.le_of_ble_eq_true rfl, Nat.le_of_ble_eq_true rfl⟩ hK hw hS hl.1 rfl (Nat.le_of_ble_eq_true rfl) ⟨Nat.zero_le _, Nat.zero_le _⟩ d_C_back_16 rfl (fun H locs hw hS => ?_)
      by_cases h3 : rOk nr a2
      · skip
        refine W.eq (g2 := F0 m (16 + 3) ls [.ref (ad (10 + 3 * (Int32.toNatClampNeg a2)))]) (by rw [rVal_p h3]) ?_
        refine lv_astore_n (lv' := [(3, .ref (ad (10 + 3 * (Int32.toNatClampNeg a2)))), (0, .ref (ad (0))), (1, .int (a1)), (2, .int (a2))]) hx hb d_C_back_19 rfl hl (by decide) rfl (fun ls hl => ?_)
        refine lv_aload_n hx hb d_C_back_20 rfl (lv_at hl 0 rfl) ?_
        refine lv_ifnull hx hb d_C_back_21 ?_
        refine lv_aload_n hx hb d_C_back_24 rfl (lv_at hl 0 rfl) ?_
        refine mw_getN (v := .int (s0 (10 + 3 * (Int32.toNatClampNeg a2)) 0)) hx hb hts in_R hown hK.1 hw (10 + 3 * (Int32.toNatClampNeg a2)) (cC_rel hnr h3.2) rfl 0 (by decide) (hK.2.1 _ nf_2) rfl d_C_back_25 ?_
        refine lv_iload_n hx hb d_C_back_28 rfl (lv_at hl 2 rfl) ?_
        refine lv_icmp_eq (tgt := 34) hx hb d_C_back_29 (by decide) (fun h4 => ?_) (fun h4 => ?_)
        · skip
          refine lv_aload_n hx hb d_C_back_34 rfl (lv_at hl 1 rfl) ?_
          refine mw_get (v := .ref (ad (3))) hx hb hts in_C hown hK.1 hw (0) cC_0 rfl 2 (by decide) (hts _ tw_60) rfl d_C_back_35 ?_
          refine lv_iload_n hx hb d_C_back_38 rfl (lv_at hl 2 rfl) ?_
          refine lv_iload_n hx hb d_C_back_39 rfl (lv_at hl 3 rfl) ?_
          refine mw_iast hx hb hK.1 hw hS (3) 0 cC_3 rfl (chan_in h1) d_C_back_40 (fun H locs hw hS => ?_)
          replace hw := mw_encC (r := upd (s0 (3)) (Int32.toNatClampNeg a1) a2) hw cC_3
          have hw : mwG G A ad (encC G.2 ad nr nm (up2 s0 (3) (Int32.toNatClampNeg a1) a2)) H := hw
          refine lv_iconst (v := 1) hx hb d_C_back_41 (by decide) ?_
          have e9 : f_C_back nr nm s0 a1 a2 = (1, up2 s0 (3) (Int32.toNatClampNeg a1) a2) := by unfold f_C_back; exact (if_neg h1).trans ((if_neg h2).trans ((if_pos h3).trans (if_pos h4)))
          exact mw_iret hx hb hr rfl hw hS (congrArg (fun z => some (Value.int z.1)) e9.symm) ⟨rfl, congrArg (fun z => encC G.2 ad nr nm z.2) e9.symm⟩ hlocks d_C_back_42
        · skip
          refine lv_iconst (v := 0) hx hb d_C_back_32 (by decide) ?_
          have e9 : f_C_back nr nm s0 a1 a2 = (0, s0) := by unfold f_C_back; exact (if_neg h1).trans ((if_neg h2).trans ((if_pos h3).trans (if_neg h4)))
          exact mw_iret hx hb hr rfl hw hS (congrArg (fun z => some (Value.int z.1)) e9.symm) ⟨rfl, congrArg (fun z => encC G.2 ad nr nm z.2) e9.symm⟩ hlocks d_C_back_33
      · skip
        refine W.eq (g2 := F0 m (16 + 3) ls [.null]) (by rw [rVal_n h3]) ?_
        refine lv_astore_nN (lv' := [(3, .null), (0, .ref (ad (0))), (1, .int (a1)), (2, .int (a2))]) hx hb d_C_back_19 rfl hl (by decide) rfl (fun ls hl => ?_)
        refine lv_aload_nN hx hb d_C_back_20 rfl (lv_at hl 0 rfl) ?_
        refine lv_ifnullN (tgt := 32) hx hb d_C_back_21 (by decide) ?_
        refine lv_iconst (v := 0) hx hb d_C_back_32 (by decide) ?_
        have e9 : f_C_back nr nm s0 a1 a2 = (0, s0) := by unfold f_C_back; exact (if_neg h1).trans ((if_neg h2).trans (if_neg h3))
        exact mw_iret hx hb hr rfl hw hS (congrArg (fun z => some (Value.int z.1)) e9.symm) ⟨rfl, congrArg (fun z => encC G.2 ad nr nm z.2) e9.symm⟩ hlocks d_C_back_33
  · skip
    refine lv_iconst (v := 0) hx hb d_C_back_7 (by decide) ?_
    have e9 : f_C_back nr nm s0 a1 a2 = (0, s0) := by unfold f_C_back; exact if_pos h1
    exact mw_iret hx hb hr rfl hw hS (congrArg (fun z => some (Value.int z.1)) e9.symm) ⟨rfl, congrArg (fun z => encC G.2 ad nr nm z.2) e9.symm⟩ hlocks d_C_back_8

def f_C_row (nr nm : Nat) (s0 : S2) (a1 : Int32) : Int32 :=
  if rOk nm a1 then
    s0 (58 + (Int32.toNatClampNeg a1)) 2
  else
    -1
set_option maxHeartbeats 4000000 in
set_option maxRecDepth 100000 in
theorem cc_C_row (l : Launch) (G : Gx) (A : Nat → Prop) (ad : Nat → Nat) (nr nm : Nat) (hnr : nr ≤ 16) (hnm : nm ≤ 30) (s0 : S2) (a1 : Int32) : Met l y_C_row ws_C_row { frames := 2, cells := 0, slots := 0, locals := 43 } (PG G [.ref (ad (0)), .int (a1)] A ad (encC G.2 ad nr nm s0)) (EG G A (some (.int (f_C_row nr nm s0 a1))) ad (encC G.2 ad nr nm s0)) 0 0 A := by
  refine Met.ofW (cc := c_C_row) (maxL := 3) (ret := (some .int)) (by decide) rfl ?_
  intro p e s m args below meth c s₁ B hml hv
  obtain ⟨rfl, hw, hK⟩ := hv
  have hx := B.exec
  have hb := B.bytes
  have hr := B.returns
  have hts : ∀ w ∈ tbG, w.before [.ref (ad (0)), .int (a1)].toArray s = true := fun w h => atoms_spec (ws := ws_C_row) B.pre w (List.mem_cons_of_mem _ h)
  have hown : s.vm.findClass "RollStages" = some m.cls := findClass_of_methodNamed B.named
  have hlocks := B.notSynchronized
  have hS : va_S A s.heap s.heap [] := va_S.rf
  have hw : mwG G A ad (encC G.2 ad nr nm s0) s.heap := hw
  have hl := lv_entry ([.ref (ad (0)), .int (a1)]) (n := 3) (Nat.le_of_ble_eq_true rfl)
  rw [lg_entry_eq]
  generalize (lg_sl ([.ref (ad (0)), .int (a1)]) ++ List.replicate (3 - (lg_sl ([.ref (ad (0)), .int (a1)])).length) Slot.unset).toArray = ls at hl ⊢
  have hl : lv_has ls 3 [(0, .ref (ad (0))), (1, .int (a1))] := hl
  refine lv_aload_n hx hb d_C_row_0 rfl (lv_at hl 0 rfl) ?_
  refine lv_iload_n hx hb d_C_row_1 rfl (lv_at hl 1 rfl) ?_
  refine gV (As := [.int (a1)]) (rest := []) (st1 := [mVal ad nm a1]) ⟨hx, hb, hml, hown, hts⟩ (cc_C_machineAt l G A ad nr nm hnr hnm s0 a1) cC_0 rfl tw_300 tw_297 tw_299 tw_p18 tw_1 hd_C_machineAt rfl rfl ⟨Nat.le_of_ble_eq_true rfl, Nat.le_of_ble_eq_true rfl⟩ hK hw hS hl.1 rfl (Nat.le_of_ble_eq_true rfl) ⟨Nat.zero_le _, Nat.zero_le _⟩ d_C_row_2 rfl (fun H locs hw hS => ?_)
  by_cases h1 : rOk nm a1
  · skip
    refine W.eq (g2 := F0 m (2 + 3) ls [.ref (ad (58 + (Int32.toNatClampNeg a1)))]) (by rw [mVal_p h1]) ?_
    refine lv_astore_n (lv' := [(2, .ref (ad (58 + (Int32.toNatClampNeg a1)))), (0, .ref (ad (0))), (1, .int (a1))]) hx hb d_C_row_5 rfl hl (by decide) rfl (fun ls hl => ?_)
    refine lv_aload_n hx hb d_C_row_6 rfl (lv_at hl 0 rfl) ?_
    refine lv_ifnonnull (tgt := 14) hx hb d_C_row_7 (by decide) ?_
    refine lv_aload_n hx hb d_C_row_14 rfl (lv_at hl 0 rfl) ?_
    refine mw_getN (v := .int (s0 (58 + (Int32.toNatClampNeg a1)) 2)) hx hb hts in_M hown hK.1 hw (58 + (Int32.toNatClampNeg a1)) (cC_mac h1.2) rfl 2 (by decide) (hK.2.1 _ nf_9) rfl d_C_row_15 ?_
    have e9 : f_C_row nr nm s0 a1 = s0 (58 + (Int32.toNatClampNeg a1)) 2 := by unfold f_C_row; exact if_pos h1
    exact mw_iret hx hb hr rfl hw hS (congrArg (fun z => some (Value.int z)) e9.symm) ⟨rfl, rfl⟩ hlocks d_C_row_18
  · skip
    refine W.eq (g2 := F0 m (2 + 3) ls [.null]) (by rw [mVal_n h1]) ?_
    refine lv_astore_nN (lv' := [(2, .null), (0, .ref (ad (0))), (1, .int (a1))]) hx hb d_C_row_5 rfl hl (by decide) rfl (fun ls hl => ?_)
    refine lv_aload_nN hx hb d_C_row_6 rfl (lv_at hl 0 rfl) ?_
    refine lv_ifnonnullN hx hb d_C_row_7 ?_
    refine lv_iconst (v := -1) hx hb d_C_row_10 (by decide) ?_
    refine lv_goto (tgt := 18) hx hb d_C_row_11 (by decide) ?_
    have e9 : f_C_row nr nm s0 a1 = -1 := by unfold f_C_row; exact if_neg h1
    exact mw_iret hx hb hr rfl hw hS (congrArg (fun z => some (Value.int z)) e9.symm) ⟨rfl, rfl⟩ hlocks d_C_row_18

def f_C_pin (nr nm : Nat) (s0 : S2) (a1 : Int32) (a2 : Int32) : Int32 × S2 :=
  if rOk nm a1 then
    if a2 = (-1) then
      (1, up2 s0 (58 + (Int32.toNatClampNeg a1)) 4 a2)
    else
      if rOk nr a2 then
        (1, up2 s0 (58 + (Int32.toNatClampNeg a1)) 4 a2)
      else
        (0, s0)
  else
    (0, s0)
theorem fb_C_pin (nr nm : Nat) (s0 : S2) (a1 : Int32) (a2 : Int32) : narrow .boolean (.int ((f_C_pin nr nm s0 a1 a2).1)) = .int ((f_C_pin nr nm s0 a1 a2).1) := by
  unfold f_C_pin
  repeat' split
  all_goals first | rfl | exact narrow_b0 | exact narrow_b1
set_option maxHeartbeats 4000000 in
set_option maxRecDepth 100000 in
theorem cc_C_pin (l : Launch) (G : Gx) (A : Nat → Prop) (ad : Nat → Nat) (nr nm : Nat) (hnr : nr ≤ 16) (hnm : nm ≤ 30) (s0 : S2) (a1 : Int32) (a2 : Int32) : Met l y_C_pin ws_C_pin { frames := 2, cells := 0, slots := 0, locals := 43 } (PG G [.ref (ad (0)), .int (a1), .int (a2)] A ad (encC G.2 ad nr nm s0)) (EG G A (some (.int (f_C_pin nr nm s0 a1 a2).1)) ad (encC G.2 ad nr nm ((f_C_pin nr nm s0 a1 a2).2))) 0 0 A := by
  refine Met.ofW (cc := c_C_pin) (maxL := 4) (ret := (some .boolean)) (by decide) rfl ?_
  intro p e s m args below meth c s₁ B hml hv
  obtain ⟨rfl, hw, hK⟩ := hv
  have hx := B.exec
  have hb := B.bytes
  have hr := B.returns
  have hts : ∀ w ∈ tbG, w.before [.ref (ad (0)), .int (a1), .int (a2)].toArray s = true := fun w h => atoms_spec (ws := ws_C_pin) B.pre w (List.mem_cons_of_mem _ h)
  have hown : s.vm.findClass "RollStages" = some m.cls := findClass_of_methodNamed B.named
  have hlocks := B.notSynchronized
  have hS : va_S A s.heap s.heap [] := va_S.rf
  have hw : mwG G A ad (encC G.2 ad nr nm s0) s.heap := hw
  have hl := lv_entry ([.ref (ad (0)), .int (a1), .int (a2)]) (n := 4) (Nat.le_of_ble_eq_true rfl)
  rw [lg_entry_eq]
  generalize (lg_sl ([.ref (ad (0)), .int (a1), .int (a2)]) ++ List.replicate (4 - (lg_sl ([.ref (ad (0)), .int (a1), .int (a2)])).length) Slot.unset).toArray = ls at hl ⊢
  have hl : lv_has ls 4 [(0, .ref (ad (0))), (1, .int (a1)), (2, .int (a2))] := hl
  refine lv_aload_n hx hb d_C_pin_0 rfl (lv_at hl 0 rfl) ?_
  refine lv_iload_n hx hb d_C_pin_1 rfl (lv_at hl 1 rfl) ?_
  refine gV (As := [.int (a1)]) (rest := []) (st1 := [mVal ad nm a1]) ⟨hx, hb, hml, hown, hts⟩ (cc_C_machineAt l G A ad nr nm hnr hnm s0 a1) cC_0 rfl tw_300 tw_297 tw_299 tw_p18 tw_1 hd_C_machineAt rfl rfl ⟨Nat.le_of_ble_eq_true rfl, Nat.le_of_ble_eq_true rfl⟩ hK hw hS hl.1 rfl (Nat.le_of_ble_eq_true rfl) ⟨Nat.zero_le _, Nat.zero_le _⟩ d_C_pin_2 rfl (fun H locs hw hS => ?_)
  by_cases h1 : rOk nm a1
  · skip
    refine W.eq (g2 := F0 m (2 + 3) ls [.ref (ad (58 + (Int32.toNatClampNeg a1)))]) (by rw [mVal_p h1]) ?_
    refine lv_astore_n (lv' := [(3, .ref (ad (58 + (Int32.toNatClampNeg a1)))), (0, .ref (ad (0))), (1, .int (a1)), (2, .int (a2))]) hx hb d_C_pin_5 rfl hl (by decide) rfl (fun ls hl => ?_)
    refine lv_aload_n hx hb d_C_pin_6 rfl (lv_at hl 0 rfl) ?_
    refine lv_ifnull hx hb d_C_pin_7 ?_
    refine lv_iload_n hx hb d_C_pin_10 rfl (lv_at hl 3 rfl) ?_
    refine lv_iconst (v := -1) hx hb d_C_pin_11 (by decide) ?_
    refine lv_icmp_eq (tgt := 25) hx hb d_C_pin_12 (by decide) (fun h2 => ?_) (fun h2 => ?_)
    · skip
      refine lv_aload_n hx hb d_C_pin_25 rfl (lv_at hl 0 rfl) ?_
      refine lv_iload_n hx hb d_C_pin_26 rfl (lv_at hl 3 rfl) ?_
      refine mw_putN (v := .int (a2)) hx hb hts in_M ty_M ty_M_ok n_M hown hK.1 hw hS (58 + (Int32.toNatClampNeg a1)) (cC_mac h1.2) rfl 4 (by decide) (hK.2.1 _ nf_11) rfl rfl rfl (Nat.le_of_ble_eq_true rfl) d_C_pin_27 (fun H locs hw hS => ?_)
      replace hw := mw_encC (r := upd (s0 (58 + (Int32.toNatClampNeg a1))) 4 a2) hw (cC_mac h1.2)
      have hw : mwG G A ad (encC G.2 ad nr nm (up2 s0 (58 + (Int32.toNatClampNeg a1)) 4 a2)) H := hw
      refine lv_iconst (v := 1) hx hb d_C_pin_30 (by decide) ?_
      have e9 : f_C_pin nr nm s0 a1 a2 = (1, up2 s0 (58 + (Int32.toNatClampNeg a1)) 4 a2) := by unfold f_C_pin; exact (if_pos h1).trans (if_pos h2)
      exact mw_iret hx hb hr rfl hw hS (congrArg (fun z => some (Value.int z.1)) e9.symm) ⟨rfl, congrArg (fun z => encC G.2 ad nr nm z.2) e9.symm⟩ hlocks d_C_pin_31
    · skip
      refine lv_aload_n hx hb d_C_pin_15 rfl (lv_at hl 1 rfl) ?_
      refine lv_iload_n hx hb d_C_pin_16 rfl (lv_at hl 3 rfl) ?_
      refine gV (As := [.int (a2)]) (rest := []) (st1 := [rVal ad nr a2]) ⟨hx, hb, hml, hown, hts⟩ (cc_C_releaseAt l G A ad nr nm hnr hnm s0 a2) cC_0 rfl tw_151 tw_148 tw_150 tw_p0 tw_1 hd_C_releaseAt rfl rfl ⟨Nat.le_of_ble_eq_true rfl, Nat.le_of_ble_eq_true rfl⟩ hK hw hS hl.1 rfl (Nat.le_of_ble_eq_true rfl) ⟨Nat.zero_le _, Nat.zero_le _⟩ d_C_pin_17 rfl (fun H locs hw hS => ?_)
      by_cases h3 : rOk nr a2
      · skip
        refine W.eq (g2 := F0 m (17 + 3) ls [.ref (ad (10 + 3 * (Int32.toNatClampNeg a2)))]) (by rw [rVal_p h3]) ?_
        refine lv_ifnonnull (tgt := 25) hx hb d_C_pin_20 (by decide) ?_
        refine lv_aload_n hx hb d_C_pin_25 rfl (lv_at hl 0 rfl) ?_
        refine lv_iload_n hx hb d_C_pin_26 rfl (lv_at hl 3 rfl) ?_
        refine mw_putN (v := .int (a2)) hx hb hts in_M ty_M ty_M_ok n_M hown hK.1 hw hS (58 + (Int32.toNatClampNeg a1)) (cC_mac h1.2) rfl 4 (by decide) (hK.2.1 _ nf_11) rfl rfl rfl (Nat.le_of_ble_eq_true rfl) d_C_pin_27 (fun H locs hw hS => ?_)
        replace hw := mw_encC (r := upd (s0 (58 + (Int32.toNatClampNeg a1))) 4 a2) hw (cC_mac h1.2)
        have hw : mwG G A ad (encC G.2 ad nr nm (up2 s0 (58 + (Int32.toNatClampNeg a1)) 4 a2)) H := hw
        refine lv_iconst (v := 1) hx hb d_C_pin_30 (by decide) ?_
        have e9 : f_C_pin nr nm s0 a1 a2 = (1, up2 s0 (58 + (Int32.toNatClampNeg a1)) 4 a2) := by unfold f_C_pin; exact (if_pos h1).trans ((if_neg h2).trans (if_pos h3))
        exact mw_iret hx hb hr rfl hw hS (congrArg (fun z => some (Value.int z.1)) e9.symm) ⟨rfl, congrArg (fun z => encC G.2 ad nr nm z.2) e9.symm⟩ hlocks d_C_pin_31
      · skip
        refine W.eq (g2 := F0 m (17 + 3) ls [.null]) (by rw [rVal_n h3]) ?_
        refine lv_ifnonnullN hx hb d_C_pin_20 ?_
        refine lv_iconst (v := 0) hx hb d_C_pin_23 (by decide) ?_
        have e9 : f_C_pin nr nm s0 a1 a2 = (0, s0) := by unfold f_C_pin; exact (if_pos h1).trans ((if_neg h2).trans (if_neg h3))
        exact mw_iret hx hb hr rfl hw hS (congrArg (fun z => some (Value.int z.1)) e9.symm) ⟨rfl, congrArg (fun z => encC G.2 ad nr nm z.2) e9.symm⟩ hlocks d_C_pin_24
  · skip
    refine W.eq (g2 := F0 m (2 + 3) ls [.null]) (by rw [mVal_n h1]) ?_
    refine lv_astore_nN (lv' := [(3, .null), (0, .ref (ad (0))), (1, .int (a1)), (2, .int (a2))]) hx hb d_C_pin_5 rfl hl (by decide) rfl (fun ls hl => ?_)
    refine lv_aload_nN hx hb d_C_pin_6 rfl (lv_at hl 0 rfl) ?_
    refine lv_ifnullN (tgt := 23) hx hb d_C_pin_7 (by decide) ?_
    refine lv_iconst (v := 0) hx hb d_C_pin_23 (by decide) ?_
    have e9 : f_C_pin nr nm s0 a1 a2 = (0, s0) := by unfold f_C_pin; exact if_neg h1
    exact mw_iret hx hb hr rfl hw hS (congrArg (fun z => some (Value.int z.1)) e9.symm) ⟨rfl, congrArg (fun z => encC G.2 ad nr nm z.2) e9.symm⟩ hlocks d_C_pin_24

def f_C_offered (nr nm : Nat) (s0 : S2) (a1 : Int32) : Int32 :=
  if rOk nm a1 then
    f_C_offerTo nr nm s0 (Int32.toNatClampNeg a1)
  else
    -1
set_option maxHeartbeats 4000000 in
set_option maxRecDepth 100000 in
theorem cc_C_offered (l : Launch) (G : Gx) (A : Nat → Prop) (ad : Nat → Nat) (nr nm : Nat) (hnr : nr ≤ 16) (hnm : nm ≤ 30) (s0 : S2) (a1 : Int32) (hcnt : s0 0 4 = nI nr) : Met l y_C_offered ws_C_offered { frames := 6, cells := 0, slots := 0, locals := 134 } (PG G [.ref (ad (0)), .int (a1)] A ad (encC G.2 ad nr nm s0)) (EG G A (some (.int (f_C_offered nr nm s0 a1))) ad (encC G.2 ad nr nm s0)) 0 0 A := by
  refine Met.ofW (cc := c_C_offered) (maxL := 3) (ret := (some .int)) (by decide) rfl ?_
  intro p e s m args below meth c s₁ B hml hv
  obtain ⟨rfl, hw, hK⟩ := hv
  have hx := B.exec
  have hb := B.bytes
  have hr := B.returns
  have hts : ∀ w ∈ tbG, w.before [.ref (ad (0)), .int (a1)].toArray s = true := fun w h => atoms_spec (ws := ws_C_offered) B.pre w (List.mem_cons_of_mem _ h)
  have hown : s.vm.findClass "RollStages" = some m.cls := findClass_of_methodNamed B.named
  have hlocks := B.notSynchronized
  have hS : va_S A s.heap s.heap [] := va_S.rf
  have hw : mwG G A ad (encC G.2 ad nr nm s0) s.heap := hw
  have hl := lv_entry ([.ref (ad (0)), .int (a1)]) (n := 3) (Nat.le_of_ble_eq_true rfl)
  rw [lg_entry_eq]
  generalize (lg_sl ([.ref (ad (0)), .int (a1)]) ++ List.replicate (3 - (lg_sl ([.ref (ad (0)), .int (a1)])).length) Slot.unset).toArray = ls at hl ⊢
  have hl : lv_has ls 3 [(0, .ref (ad (0))), (1, .int (a1))] := hl
  refine lv_aload_n hx hb d_C_offered_0 rfl (lv_at hl 0 rfl) ?_
  refine lv_iload_n hx hb d_C_offered_1 rfl (lv_at hl 1 rfl) ?_
  refine gV (As := [.int (a1)]) (rest := []) (st1 := [mVal ad nm a1]) ⟨hx, hb, hml, hown, hts⟩ (cc_C_machineAt l G A ad nr nm hnr hnm s0 a1) cC_0 rfl tw_300 tw_297 tw_299 tw_p18 tw_1 hd_C_machineAt rfl rfl ⟨Nat.le_of_ble_eq_true rfl, Nat.le_of_ble_eq_true rfl⟩ hK hw hS hl.1 rfl (Nat.le_of_ble_eq_true rfl) ⟨Nat.zero_le _, Nat.zero_le _⟩ d_C_offered_2 rfl (fun H locs hw hS => ?_)
  by_cases h1 : rOk nm a1
  · skip
    refine W.eq (g2 := F0 m (2 + 3) ls [.ref (ad (58 + (Int32.toNatClampNeg a1)))]) (by rw [mVal_p h1]) ?_
    refine lv_astore_n (lv' := [(2, .ref (ad (58 + (Int32.toNatClampNeg a1)))), (0, .ref (ad (0))), (1, .int (a1))]) hx hb d_C_offered_5 rfl hl (by decide) rfl (fun ls hl => ?_)
    refine lv_aload_n hx hb d_C_offered_6 rfl (lv_at hl 0 rfl) ?_
    refine lv_ifnonnull (tgt := 14) hx hb d_C_offered_7 (by decide) ?_
    refine lv_aload_n hx hb d_C_offered_14 rfl (lv_at hl 1 rfl) ?_
    refine lv_aload_n hx hb d_C_offered_15 rfl (lv_at hl 0 rfl) ?_
    refine gV (As := [.ref (ad (58 + (Int32.toNatClampNeg a1)))]) (rest := []) (st1 := [.int (f_C_offerTo nr nm s0 (Int32.toNatClampNeg a1))]) ⟨hx, hb, hml, hown, hts⟩ (cc_C_offerTo l G A ad nr nm hnr hnm s0 (Int32.toNatClampNeg a1) h1.2 hcnt) cC_0 rfl tw_312 tw_309 tw_311 tw_p19 tw_1 hd_C_offerTo rfl rfl ⟨Nat.le_of_ble_eq_true rfl, Nat.le_of_ble_eq_true rfl⟩ hK hw hS hl.1 rfl (Nat.le_of_ble_eq_true rfl) ⟨Nat.zero_le _, Nat.zero_le _⟩ d_C_offered_16 rfl (fun H locs hw hS => ?_)
    have e9 : f_C_offered nr nm s0 a1 = f_C_offerTo nr nm s0 (Int32.toNatClampNeg a1) := by unfold f_C_offered; exact if_pos h1
    exact mw_iret hx hb hr rfl hw hS (congrArg (fun z => some (Value.int z)) e9.symm) ⟨rfl, rfl⟩ hlocks d_C_offered_19
  · skip
    refine W.eq (g2 := F0 m (2 + 3) ls [.null]) (by rw [mVal_n h1]) ?_
    refine lv_astore_nN (lv' := [(2, .null), (0, .ref (ad (0))), (1, .int (a1))]) hx hb d_C_offered_5 rfl hl (by decide) rfl (fun ls hl => ?_)
    refine lv_aload_nN hx hb d_C_offered_6 rfl (lv_at hl 0 rfl) ?_
    refine lv_ifnonnullN hx hb d_C_offered_7 ?_
    refine lv_iconst (v := -1) hx hb d_C_offered_10 (by decide) ?_
    refine lv_goto (tgt := 19) hx hb d_C_offered_11 (by decide) ?_
    have e9 : f_C_offered nr nm s0 a1 = -1 := by unfold f_C_offered; exact if_neg h1
    exact mw_iret hx hb hr rfl hw hS (congrArg (fun z => some (Value.int z)) e9.symm) ⟨rfl, rfl⟩ hlocks d_C_offered_19

def f_C_may (nr nm : Nat) (s0 : S2) (a1 : Int32) (a2 : Int32) : Int32 :=
  if rOk nm a1 then
    if (f_C_mayGet nr nm s0 (Int32.toNatClampNeg a1) a2) = 0 then
      0
    else
      1
  else
    0
theorem fb_C_may (nr nm : Nat) (s0 : S2) (a1 : Int32) (a2 : Int32) : narrow .boolean (.int (f_C_may nr nm s0 a1 a2)) = .int (f_C_may nr nm s0 a1 a2) := by
  unfold f_C_may
  repeat' split
  all_goals first | rfl | exact narrow_b0 | exact narrow_b1
set_option maxHeartbeats 4000000 in
set_option maxRecDepth 100000 in
theorem cc_C_may (l : Launch) (G : Gx) (A : Nat → Prop) (ad : Nat → Nat) (nr nm : Nat) (hnr : nr ≤ 16) (hnm : nm ≤ 30) (s0 : S2) (a1 : Int32) (a2 : Int32) : Met l y_C_may ws_C_may { frames := 4, cells := 0, slots := 0, locals := 89 } (PG G [.ref (ad (0)), .int (a1), .int (a2)] A ad (encC G.2 ad nr nm s0)) (EG G A (some (.int (f_C_may nr nm s0 a1 a2))) ad (encC G.2 ad nr nm s0)) 0 0 A := by
  refine Met.ofW (cc := c_C_may) (maxL := 4) (ret := (some .boolean)) (by decide) rfl ?_
  intro p e s m args below meth c s₁ B hml hv
  obtain ⟨rfl, hw, hK⟩ := hv
  have hx := B.exec
  have hb := B.bytes
  have hr := B.returns
  have hts : ∀ w ∈ tbG, w.before [.ref (ad (0)), .int (a1), .int (a2)].toArray s = true := fun w h => atoms_spec (ws := ws_C_may) B.pre w (List.mem_cons_of_mem _ h)
  have hown : s.vm.findClass "RollStages" = some m.cls := findClass_of_methodNamed B.named
  have hlocks := B.notSynchronized
  have hS : va_S A s.heap s.heap [] := va_S.rf
  have hw : mwG G A ad (encC G.2 ad nr nm s0) s.heap := hw
  have hl := lv_entry ([.ref (ad (0)), .int (a1), .int (a2)]) (n := 4) (Nat.le_of_ble_eq_true rfl)
  rw [lg_entry_eq]
  generalize (lg_sl ([.ref (ad (0)), .int (a1), .int (a2)]) ++ List.replicate (4 - (lg_sl ([.ref (ad (0)), .int (a1), .int (a2)])).length) Slot.unset).toArray = ls at hl ⊢
  have hl : lv_has ls 4 [(0, .ref (ad (0))), (1, .int (a1)), (2, .int (a2))] := hl
  refine lv_aload_n hx hb d_C_may_0 rfl (lv_at hl 0 rfl) ?_
  refine lv_iload_n hx hb d_C_may_1 rfl (lv_at hl 1 rfl) ?_
  refine gV (As := [.int (a1)]) (rest := []) (st1 := [mVal ad nm a1]) ⟨hx, hb, hml, hown, hts⟩ (cc_C_machineAt l G A ad nr nm hnr hnm s0 a1) cC_0 rfl tw_300 tw_297 tw_299 tw_p18 tw_1 hd_C_machineAt rfl rfl ⟨Nat.le_of_ble_eq_true rfl, Nat.le_of_ble_eq_true rfl⟩ hK hw hS hl.1 rfl (Nat.le_of_ble_eq_true rfl) ⟨Nat.zero_le _, Nat.zero_le _⟩ d_C_may_2 rfl (fun H locs hw hS => ?_)
  by_cases h1 : rOk nm a1
  · skip
    refine W.eq (g2 := F0 m (2 + 3) ls [.ref (ad (58 + (Int32.toNatClampNeg a1)))]) (by rw [mVal_p h1]) ?_
    refine lv_astore_n (lv' := [(3, .ref (ad (58 + (Int32.toNatClampNeg a1)))), (0, .ref (ad (0))), (1, .int (a1)), (2, .int (a2))]) hx hb d_C_may_5 rfl hl (by decide) rfl (fun ls hl => ?_)
    refine lv_aload_n hx hb d_C_may_6 rfl (lv_at hl 0 rfl) ?_
    refine lv_ifnull hx hb d_C_may_7 ?_
    refine lv_aload_n hx hb d_C_may_10 rfl (lv_at hl 1 rfl) ?_
    refine lv_aload_n hx hb d_C_may_11 rfl (lv_at hl 0 rfl) ?_
    refine lv_iload_n hx hb d_C_may_12 rfl (lv_at hl 3 rfl) ?_
    refine gV (As := [.ref (ad (58 + (Int32.toNatClampNeg a1))), .int (a2)]) (rest := []) (st1 := [.int (f_C_mayGet nr nm s0 (Int32.toNatClampNeg a1) a2)]) ⟨hx, hb, hml, hown, hts⟩ (cc_C_mayGet l G A ad nr nm hnr hnm s0 (Int32.toNatClampNeg a1) h1.2 a2) cC_0 rfl tw_320 tw_317 tw_319 tw_p21 tw_1 hd_C_mayGet rfl rfl ⟨Nat.le_of_ble_eq_true rfl, Nat.le_of_ble_eq_true rfl⟩ hK hw hS hl.1 rfl (Nat.le_of_ble_eq_true rfl) ⟨Nat.zero_le _, Nat.zero_le _⟩ d_C_may_13 rfl (fun H locs hw hS => ?_)
    refine lv_if_eq (tgt := 23) hx hb d_C_may_16 (by decide) (fun h2 => ?_) (fun h2 => ?_)
    · skip
      refine lv_iconst (v := 0) hx hb d_C_may_23 (by decide) ?_
      have e9 : f_C_may nr nm s0 a1 a2 = 0 := by unfold f_C_may; exact (if_pos h1).trans (if_pos h2)
      exact mw_iret hx hb hr rfl hw hS (congrArg (fun z => some (Value.int z)) e9.symm) ⟨rfl, rfl⟩ hlocks d_C_may_24
    · skip
      refine lv_iconst (v := 1) hx hb d_C_may_19 (by decide) ?_
      refine lv_goto (tgt := 24) hx hb d_C_may_20 (by decide) ?_
      have e9 : f_C_may nr nm s0 a1 a2 = 1 := by unfold f_C_may; exact (if_pos h1).trans (if_neg h2)
      exact mw_iret hx hb hr rfl hw hS (congrArg (fun z => some (Value.int z)) e9.symm) ⟨rfl, rfl⟩ hlocks d_C_may_24
  · skip
    refine W.eq (g2 := F0 m (2 + 3) ls [.null]) (by rw [mVal_n h1]) ?_
    refine lv_astore_nN (lv' := [(3, .null), (0, .ref (ad (0))), (1, .int (a1)), (2, .int (a2))]) hx hb d_C_may_5 rfl hl (by decide) rfl (fun ls hl => ?_)
    refine lv_aload_nN hx hb d_C_may_6 rfl (lv_at hl 0 rfl) ?_
    refine lv_ifnullN (tgt := 23) hx hb d_C_may_7 (by decide) ?_
    refine lv_iconst (v := 0) hx hb d_C_may_23 (by decide) ?_
    have e9 : f_C_may nr nm s0 a1 a2 = 0 := by unfold f_C_may; exact if_neg h1
    exact mw_iret hx hb hr rfl hw hS (congrArg (fun z => some (Value.int z)) e9.symm) ⟨rfl, rfl⟩ hlocks d_C_may_24

def f_C_delta (nr nm : Nat) (s0 : S2) (a1 : Int32) (a2 : Int32) (a3 : Int32) : Int32 × S2 :=
  if rOk nr a1 then
    if rOk nr a2 then
      if a1 = a2 then
        (0, s0)
      else
        if (f_C_within a3 1 1000) = 0 then
          (0, s0)
        else
          if ((f_D_put s0 a1 a2 a3).1) = 0 then
            (0, (f_D_put s0 a1 a2 a3).2)
          else
            (1, (f_D_put s0 a1 a2 a3).2)
    else
      (0, s0)
  else
    (0, s0)
theorem fb_C_delta (nr nm : Nat) (s0 : S2) (a1 : Int32) (a2 : Int32) (a3 : Int32) : narrow .boolean (.int ((f_C_delta nr nm s0 a1 a2 a3).1)) = .int ((f_C_delta nr nm s0 a1 a2 a3).1) := by
  unfold f_C_delta
  repeat' split
  all_goals first | rfl | exact narrow_b0 | exact narrow_b1
set_option maxHeartbeats 4000000 in
set_option maxRecDepth 100000 in
theorem cc_C_delta (l : Launch) (G : Gx) (A : Nat → Prop) (ad : Nat → Nat) (nr nm : Nat) (hnr : nr ≤ 16) (hnm : nm ≤ 30) (s0 : S2) (a1 : Int32) (a2 : Int32) (a3 : Int32) (hct : 0 ≤ (s0 4 3).toInt ∧ (s0 4 3).toInt ≤ 40) : Met l y_C_delta ws_C_delta { frames := 2, cells := 0, slots := 0, locals := 47 } (PG G [.ref (ad (0)), .int (a1), .int (a2), .int (a3)] A ad (encC G.2 ad nr nm s0)) (EG G A (some (.int (f_C_delta nr nm s0 a1 a2 a3).1)) ad (encC G.2 ad nr nm ((f_C_delta nr nm s0 a1 a2 a3).2))) 0 0 A := by
  refine Met.ofW (cc := c_C_delta) (maxL := 4) (ret := (some .boolean)) (by decide) rfl ?_
  intro p e s m args below meth c s₁ B hml hv
  obtain ⟨rfl, hw, hK⟩ := hv
  have hx := B.exec
  have hb := B.bytes
  have hr := B.returns
  have hts : ∀ w ∈ tbG, w.before [.ref (ad (0)), .int (a1), .int (a2), .int (a3)].toArray s = true := fun w h => atoms_spec (ws := ws_C_delta) B.pre w (List.mem_cons_of_mem _ h)
  have hown : s.vm.findClass "RollStages" = some m.cls := findClass_of_methodNamed B.named
  have hlocks := B.notSynchronized
  have hS : va_S A s.heap s.heap [] := va_S.rf
  have hw : mwG G A ad (encC G.2 ad nr nm s0) s.heap := hw
  have hl := lv_entry ([.ref (ad (0)), .int (a1), .int (a2), .int (a3)]) (n := 4) (Nat.le_of_ble_eq_true rfl)
  rw [lg_entry_eq]
  generalize (lg_sl ([.ref (ad (0)), .int (a1), .int (a2), .int (a3)]) ++ List.replicate (4 - (lg_sl ([.ref (ad (0)), .int (a1), .int (a2), .int (a3)])).length) Slot.unset).toArray = ls at hl ⊢
  have hl : lv_has ls 4 [(0, .ref (ad (0))), (1, .int (a1)), (2, .int (a2)), (3, .int (a3))] := hl
  refine lv_aload_n hx hb d_C_delta_0 rfl (lv_at hl 0 rfl) ?_
  refine lv_iload_n hx hb d_C_delta_1 rfl (lv_at hl 1 rfl) ?_
  refine gV (As := [.int (a1)]) (rest := []) (st1 := [rVal ad nr a1]) ⟨hx, hb, hml, hown, hts⟩ (cc_C_releaseAt l G A ad nr nm hnr hnm s0 a1) cC_0 rfl tw_151 tw_148 tw_150 tw_p0 tw_1 hd_C_releaseAt rfl rfl ⟨Nat.le_of_ble_eq_true rfl, Nat.le_of_ble_eq_true rfl⟩ hK hw hS hl.1 rfl (Nat.le_of_ble_eq_true rfl) ⟨Nat.zero_le _, Nat.zero_le _⟩ d_C_delta_2 rfl (fun H locs hw hS => ?_)
  by_cases h1 : rOk nr a1
  · skip
    refine W.eq (g2 := F0 m (2 + 3) ls [.ref (ad (10 + 3 * (Int32.toNatClampNeg a1)))]) (by rw [rVal_p h1]) ?_
    refine lv_ifnull hx hb d_C_delta_5 ?_
    refine lv_aload_n hx hb d_C_delta_8 rfl (lv_at hl 0 rfl) ?_
    refine lv_iload_n hx hb d_C_delta_9 rfl (lv_at hl 2 rfl) ?_
    refine gV (As := [.int (a2)]) (rest := []) (st1 := [rVal ad nr a2]) ⟨hx, hb, hml, hown, hts⟩ (cc_C_releaseAt l G A ad nr nm hnr hnm s0 a2) cC_0 rfl tw_151 tw_148 tw_150 tw_p0 tw_1 hd_C_releaseAt rfl rfl ⟨Nat.le_of_ble_eq_true rfl, Nat.le_of_ble_eq_true rfl⟩ hK hw hS hl.1 rfl (Nat.le_of_ble_eq_true rfl) ⟨Nat.zero_le _, Nat.zero_le _⟩ d_C_delta_10 rfl (fun H locs hw hS => ?_)
    by_cases h2 : rOk nr a2
    · skip
      refine W.eq (g2 := F0 m (10 + 3) ls [.ref (ad (10 + 3 * (Int32.toNatClampNeg a2)))]) (by rw [rVal_p h2]) ?_
      refine lv_ifnull hx hb d_C_delta_13 ?_
      refine lv_iload_n hx hb d_C_delta_16 rfl (lv_at hl 1 rfl) ?_
      refine lv_iload_n hx hb d_C_delta_17 rfl (lv_at hl 2 rfl) ?_
      refine lv_icmp_ne (tgt := 23) hx hb d_C_delta_18 (by decide) (fun h3 => ?_) (fun h3 => ?_)
      · skip
        refine lv_iload_n hx hb d_C_delta_23 rfl (lv_at hl 3 rfl) ?_
        refine lv_iconst (v := 1) hx hb d_C_delta_24 (by decide) ?_
        refine lv_sipush (v := 1000) hx hb d_C_delta_25 (by decide) ?_
        refine gS (As := [.int (a3), .int (1), .int (1000)]) (rest := []) (st1 := [.int (f_C_within a3 1 1000)]) ⟨hx, hb, hml, hown, hts⟩ (cc_C_within l G A ad nr nm hnr hnm s0 a3 1 1000) tw_89 tw_87 tw_88 tw_1 hd_C_within rfl rfl ⟨Nat.le_of_ble_eq_true rfl, Nat.le_of_ble_eq_true rfl⟩ hK hw hS hl.1 rfl (Nat.le_of_ble_eq_true rfl) ⟨Nat.zero_le _, Nat.zero_le _⟩ d_C_delta_28 rfl (fun H locs hw hS => ?_)
        refine lv_if_eq (tgt := 51) hx hb d_C_delta_31 (by decide) (fun h4 => ?_) (fun h4 => ?_)
        · skip
          refine lv_iconst (v := 0) hx hb d_C_delta_51 (by decide) ?_
          have e9 : f_C_delta nr nm s0 a1 a2 a3 = (0, s0) := by unfold f_C_delta; exact (if_pos h1).trans ((if_pos h2).trans ((if_neg h3).trans (if_pos h4)))
          exact mw_iret hx hb hr rfl hw hS (congrArg (fun z => some (Value.int z.1)) e9.symm) ⟨rfl, congrArg (fun z => encC G.2 ad nr nm z.2) e9.symm⟩ hlocks d_C_delta_52
        · skip
          refine lv_aload_n hx hb d_C_delta_34 rfl (lv_at hl 0 rfl) ?_
          refine mw_get (v := .ref (ad (4))) hx hb hts in_C hown hK.1 hw (0) cC_0 rfl 3 (by decide) (hts _ tw_61) rfl d_C_delta_35 ?_
          refine lv_iload_n hx hb d_C_delta_38 rfl (lv_at hl 1 rfl) ?_
          refine lv_iload_n hx hb d_C_delta_39 rfl (lv_at hl 2 rfl) ?_
          refine lv_iload_n hx hb d_C_delta_40 rfl (lv_at hl 3 rfl) ?_
          refine gVN (As := [.int (a1), .int (a2), .int (a3)]) (rest := []) (st1 := [.int ((f_D_put s0 a1 a2 a3).1)]) ⟨hx, hb, hml, hown, hts⟩ (cc_D_put l G A ad nr nm hnr hnm s0 a1 a2 a3 hct) cC_4 rfl tw_348 nw_17 tw_347 tw_p26 tw_2 hd_D_put rfl rfl ⟨Nat.le_of_ble_eq_true rfl, Nat.le_of_ble_eq_true rfl⟩ hK hw hS hl.1 rfl (Nat.le_of_ble_eq_true rfl) ⟨Nat.zero_le _, Nat.zero_le _⟩ d_C_delta_41 rfl (fun H locs hw hS => ?_)
          refine lv_if_eq (tgt := 51) hx hb d_C_delta_44 (by decide) (fun h5 => ?_) (fun h5 => ?_)
          · skip
            refine lv_iconst (v := 0) hx hb d_C_delta_51 (by decide) ?_
            have e9 : f_C_delta nr nm s0 a1 a2 a3 = (0, (f_D_put s0 a1 a2 a3).2) := by unfold f_C_delta; exact (if_pos h1).trans ((if_pos h2).trans ((if_neg h3).trans ((if_neg h4).trans (if_pos h5))))
            exact mw_iret hx hb hr rfl hw hS (congrArg (fun z => some (Value.int z.1)) e9.symm) ⟨rfl, congrArg (fun z => encC G.2 ad nr nm z.2) e9.symm⟩ hlocks d_C_delta_52
          · skip
            refine lv_iconst (v := 1) hx hb d_C_delta_47 (by decide) ?_
            refine lv_goto (tgt := 52) hx hb d_C_delta_48 (by decide) ?_
            have e9 : f_C_delta nr nm s0 a1 a2 a3 = (1, (f_D_put s0 a1 a2 a3).2) := by unfold f_C_delta; exact (if_pos h1).trans ((if_pos h2).trans ((if_neg h3).trans ((if_neg h4).trans (if_neg h5))))
            exact mw_iret hx hb hr rfl hw hS (congrArg (fun z => some (Value.int z.1)) e9.symm) ⟨rfl, congrArg (fun z => encC G.2 ad nr nm z.2) e9.symm⟩ hlocks d_C_delta_52
      · skip
        refine lv_iconst (v := 0) hx hb d_C_delta_21 (by decide) ?_
        have e9 : f_C_delta nr nm s0 a1 a2 a3 = (0, s0) := by unfold f_C_delta; exact (if_pos h1).trans ((if_pos h2).trans (if_pos h3))
        exact mw_iret hx hb hr rfl hw hS (congrArg (fun z => some (Value.int z.1)) e9.symm) ⟨rfl, congrArg (fun z => encC G.2 ad nr nm z.2) e9.symm⟩ hlocks d_C_delta_22
    · skip
      refine W.eq (g2 := F0 m (10 + 3) ls [.null]) (by rw [rVal_n h2]) ?_
      refine lv_ifnullN (tgt := 21) hx hb d_C_delta_13 (by decide) ?_
      refine lv_iconst (v := 0) hx hb d_C_delta_21 (by decide) ?_
      have e9 : f_C_delta nr nm s0 a1 a2 a3 = (0, s0) := by unfold f_C_delta; exact (if_pos h1).trans (if_neg h2)
      exact mw_iret hx hb hr rfl hw hS (congrArg (fun z => some (Value.int z.1)) e9.symm) ⟨rfl, congrArg (fun z => encC G.2 ad nr nm z.2) e9.symm⟩ hlocks d_C_delta_22
  · skip
    refine W.eq (g2 := F0 m (2 + 3) ls [.null]) (by rw [rVal_n h1]) ?_
    refine lv_ifnullN (tgt := 21) hx hb d_C_delta_5 (by decide) ?_
    refine lv_iconst (v := 0) hx hb d_C_delta_21 (by decide) ?_
    have e9 : f_C_delta nr nm s0 a1 a2 a3 = (0, s0) := by unfold f_C_delta; exact if_neg h1
    exact mw_iret hx hb hr rfl hw hS (congrArg (fun z => some (Value.int z.1)) e9.symm) ⟨rfl, congrArg (fun z => encC G.2 ad nr nm z.2) e9.symm⟩ hlocks d_C_delta_22

def f_C_cost (nr nm : Nat) (s0 : S2) (a1 : Int32) : Int32 × S2 :=
  if rOk nm a1 then
    ((f_C_findWay nr nm s0 (Int32.toNatClampNeg a1)) 4 6, f_C_findWay nr nm s0 (Int32.toNatClampNeg a1))
  else
    (-1, s0)
set_option maxHeartbeats 4000000 in
set_option maxRecDepth 100000 in
theorem cc_C_cost (l : Launch) (G : Gx) (A : Nat → Prop) (ad : Nat → Nat) (nr nm : Nat) (hnr : nr ≤ 16) (hnm : nm ≤ 30) (s0 : S2) (a1 : Int32) (hcnt : s0 0 4 = nI nr) (hct : 0 ≤ (s0 4 3).toInt ∧ (s0 4 3).toInt ≤ 40) : Met l y_C_cost ws_C_cost { frames := 7, cells := 0, slots := 0, locals := 157 } (PG G [.ref (ad (0)), .int (a1)] A ad (encC G.2 ad nr nm s0)) (EG G A (some (.int (f_C_cost nr nm s0 a1).1)) ad (encC G.2 ad nr nm ((f_C_cost nr nm s0 a1).2))) 0 0 A := by
  refine Met.ofW (cc := c_C_cost) (maxL := 3) (ret := (some .int)) (by decide) rfl ?_
  intro p e s m args below meth c s₁ B hml hv
  obtain ⟨rfl, hw, hK⟩ := hv
  have hx := B.exec
  have hb := B.bytes
  have hr := B.returns
  have hts : ∀ w ∈ tbG, w.before [.ref (ad (0)), .int (a1)].toArray s = true := fun w h => atoms_spec (ws := ws_C_cost) B.pre w (List.mem_cons_of_mem _ h)
  have hown : s.vm.findClass "RollStages" = some m.cls := findClass_of_methodNamed B.named
  have hlocks := B.notSynchronized
  have hS : va_S A s.heap s.heap [] := va_S.rf
  have hw : mwG G A ad (encC G.2 ad nr nm s0) s.heap := hw
  have hl := lv_entry ([.ref (ad (0)), .int (a1)]) (n := 3) (Nat.le_of_ble_eq_true rfl)
  rw [lg_entry_eq]
  generalize (lg_sl ([.ref (ad (0)), .int (a1)]) ++ List.replicate (3 - (lg_sl ([.ref (ad (0)), .int (a1)])).length) Slot.unset).toArray = ls at hl ⊢
  have hl : lv_has ls 3 [(0, .ref (ad (0))), (1, .int (a1))] := hl
  refine lv_aload_n hx hb d_C_cost_0 rfl (lv_at hl 0 rfl) ?_
  refine lv_iload_n hx hb d_C_cost_1 rfl (lv_at hl 1 rfl) ?_
  refine gV (As := [.int (a1)]) (rest := []) (st1 := [mVal ad nm a1]) ⟨hx, hb, hml, hown, hts⟩ (cc_C_machineAt l G A ad nr nm hnr hnm s0 a1) cC_0 rfl tw_300 tw_297 tw_299 tw_p18 tw_1 hd_C_machineAt rfl rfl ⟨Nat.le_of_ble_eq_true rfl, Nat.le_of_ble_eq_true rfl⟩ hK hw hS hl.1 rfl (Nat.le_of_ble_eq_true rfl) ⟨Nat.zero_le _, Nat.zero_le _⟩ d_C_cost_2 rfl (fun H locs hw hS => ?_)
  by_cases h1 : rOk nm a1
  · skip
    refine W.eq (g2 := F0 m (2 + 3) ls [.ref (ad (58 + (Int32.toNatClampNeg a1)))]) (by rw [mVal_p h1]) ?_
    refine lv_astore_n (lv' := [(2, .ref (ad (58 + (Int32.toNatClampNeg a1)))), (0, .ref (ad (0))), (1, .int (a1))]) hx hb d_C_cost_5 rfl hl (by decide) rfl (fun ls hl => ?_)
    refine lv_aload_n hx hb d_C_cost_6 rfl (lv_at hl 0 rfl) ?_
    refine lv_ifnonnull (tgt := 12) hx hb d_C_cost_7 (by decide) ?_
    refine lv_aload_n hx hb d_C_cost_12 rfl (lv_at hl 1 rfl) ?_
    refine lv_aload_n hx hb d_C_cost_13 rfl (lv_at hl 0 rfl) ?_
    refine gV (As := [.ref (ad (58 + (Int32.toNatClampNeg a1)))]) (rest := []) (st1 := []) ⟨hx, hb, hml, hown, hts⟩ (cc_C_findWay l G A ad nr nm hnr hnm s0 (Int32.toNatClampNeg a1) h1.2 hcnt hct) cC_0 rfl tw_362 tw_359 tw_361 tw_p28 tw_1 hd_C_findWay rfl rfl ⟨Nat.le_of_ble_eq_true rfl, Nat.le_of_ble_eq_true rfl⟩ hK hw hS hl.1 rfl (Nat.le_of_ble_eq_true rfl) ⟨Nat.zero_le _, Nat.zero_le _⟩ d_C_cost_14 rfl (fun H locs hw hS => ?_)
    refine lv_aload_n hx hb d_C_cost_17 rfl (lv_at hl 1 rfl) ?_
    refine mw_get (v := .ref (ad (4))) hx hb hts in_C hown hK.1 hw (0) cC_0 rfl 3 (by decide) (hts _ tw_61) rfl d_C_cost_18 ?_
    refine mw_getN (v := .int ((f_C_findWay nr nm s0 (Int32.toNatClampNeg a1)) 4 6)) hx hb hts in_D hown hK.1 hw (4) cC_4 rfl 6 (by decide) (hK.2.1 _ nf_0) rfl d_C_cost_21 ?_
    have e9 : f_C_cost nr nm s0 a1 = ((f_C_findWay nr nm s0 (Int32.toNatClampNeg a1)) 4 6, f_C_findWay nr nm s0 (Int32.toNatClampNeg a1)) := by unfold f_C_cost; exact if_pos h1
    exact mw_iret hx hb hr rfl hw hS (congrArg (fun z => some (Value.int z.1)) e9.symm) ⟨rfl, congrArg (fun z => encC G.2 ad nr nm z.2) e9.symm⟩ hlocks d_C_cost_24
  · skip
    refine W.eq (g2 := F0 m (2 + 3) ls [.null]) (by rw [mVal_n h1]) ?_
    refine lv_astore_nN (lv' := [(2, .null), (0, .ref (ad (0))), (1, .int (a1))]) hx hb d_C_cost_5 rfl hl (by decide) rfl (fun ls hl => ?_)
    refine lv_aload_nN hx hb d_C_cost_6 rfl (lv_at hl 0 rfl) ?_
    refine lv_ifnonnullN hx hb d_C_cost_7 ?_
    refine lv_iconst (v := -1) hx hb d_C_cost_10 (by decide) ?_
    have e9 : f_C_cost nr nm s0 a1 = (-1, s0) := by unfold f_C_cost; exact if_neg h1
    exact mw_iret hx hb hr rfl hw hS (congrArg (fun z => some (Value.int z.1)) e9.symm) ⟨rfl, congrArg (fun z => encC G.2 ad nr nm z.2) e9.symm⟩ hlocks d_C_cost_11

def f_C_steps (nr nm : Nat) (s0 : S2) (a1 : Int32) : Int32 × S2 :=
  if rOk nm a1 then
    ((f_C_findWay nr nm s0 (Int32.toNatClampNeg a1)) 4 7, f_C_findWay nr nm s0 (Int32.toNatClampNeg a1))
  else
    (-1, s0)
set_option maxHeartbeats 4000000 in
set_option maxRecDepth 100000 in
theorem cc_C_steps (l : Launch) (G : Gx) (A : Nat → Prop) (ad : Nat → Nat) (nr nm : Nat) (hnr : nr ≤ 16) (hnm : nm ≤ 30) (s0 : S2) (a1 : Int32) (hcnt : s0 0 4 = nI nr) (hct : 0 ≤ (s0 4 3).toInt ∧ (s0 4 3).toInt ≤ 40) : Met l y_C_steps ws_C_steps { frames := 7, cells := 0, slots := 0, locals := 157 } (PG G [.ref (ad (0)), .int (a1)] A ad (encC G.2 ad nr nm s0)) (EG G A (some (.int (f_C_steps nr nm s0 a1).1)) ad (encC G.2 ad nr nm ((f_C_steps nr nm s0 a1).2))) 0 0 A := by
  refine Met.ofW (cc := c_C_steps) (maxL := 3) (ret := (some .int)) (by decide) rfl ?_
  intro p e s m args below meth c s₁ B hml hv
  obtain ⟨rfl, hw, hK⟩ := hv
  have hx := B.exec
  have hb := B.bytes
  have hr := B.returns
  have hts : ∀ w ∈ tbG, w.before [.ref (ad (0)), .int (a1)].toArray s = true := fun w h => atoms_spec (ws := ws_C_steps) B.pre w (List.mem_cons_of_mem _ h)
  have hown : s.vm.findClass "RollStages" = some m.cls := findClass_of_methodNamed B.named
  have hlocks := B.notSynchronized
  have hS : va_S A s.heap s.heap [] := va_S.rf
  have hw : mwG G A ad (encC G.2 ad nr nm s0) s.heap := hw
  have hl := lv_entry ([.ref (ad (0)), .int (a1)]) (n := 3) (Nat.le_of_ble_eq_true rfl)
  rw [lg_entry_eq]
  generalize (lg_sl ([.ref (ad (0)), .int (a1)]) ++ List.replicate (3 - (lg_sl ([.ref (ad (0)), .int (a1)])).length) Slot.unset).toArray = ls at hl ⊢
  have hl : lv_has ls 3 [(0, .ref (ad (0))), (1, .int (a1))] := hl
  refine lv_aload_n hx hb d_C_steps_0 rfl (lv_at hl 0 rfl) ?_
  refine lv_iload_n hx hb d_C_steps_1 rfl (lv_at hl 1 rfl) ?_
  refine gV (As := [.int (a1)]) (rest := []) (st1 := [mVal ad nm a1]) ⟨hx, hb, hml, hown, hts⟩ (cc_C_machineAt l G A ad nr nm hnr hnm s0 a1) cC_0 rfl tw_300 tw_297 tw_299 tw_p18 tw_1 hd_C_machineAt rfl rfl ⟨Nat.le_of_ble_eq_true rfl, Nat.le_of_ble_eq_true rfl⟩ hK hw hS hl.1 rfl (Nat.le_of_ble_eq_true rfl) ⟨Nat.zero_le _, Nat.zero_le _⟩ d_C_steps_2 rfl (fun H locs hw hS => ?_)
  by_cases h1 : rOk nm a1
  · skip
    refine W.eq (g2 := F0 m (2 + 3) ls [.ref (ad (58 + (Int32.toNatClampNeg a1)))]) (by rw [mVal_p h1]) ?_
    refine lv_astore_n (lv' := [(2, .ref (ad (58 + (Int32.toNatClampNeg a1)))), (0, .ref (ad (0))), (1, .int (a1))]) hx hb d_C_steps_5 rfl hl (by decide) rfl (fun ls hl => ?_)
    refine lv_aload_n hx hb d_C_steps_6 rfl (lv_at hl 0 rfl) ?_
    refine lv_ifnonnull (tgt := 12) hx hb d_C_steps_7 (by decide) ?_
    refine lv_aload_n hx hb d_C_steps_12 rfl (lv_at hl 1 rfl) ?_
    refine lv_aload_n hx hb d_C_steps_13 rfl (lv_at hl 0 rfl) ?_
    refine gV (As := [.ref (ad (58 + (Int32.toNatClampNeg a1)))]) (rest := []) (st1 := []) ⟨hx, hb, hml, hown, hts⟩ (cc_C_findWay l G A ad nr nm hnr hnm s0 (Int32.toNatClampNeg a1) h1.2 hcnt hct) cC_0 rfl tw_362 tw_359 tw_361 tw_p28 tw_1 hd_C_findWay rfl rfl ⟨Nat.le_of_ble_eq_true rfl, Nat.le_of_ble_eq_true rfl⟩ hK hw hS hl.1 rfl (Nat.le_of_ble_eq_true rfl) ⟨Nat.zero_le _, Nat.zero_le _⟩ d_C_steps_14 rfl (fun H locs hw hS => ?_)
    refine lv_aload_n hx hb d_C_steps_17 rfl (lv_at hl 1 rfl) ?_
    refine mw_get (v := .ref (ad (4))) hx hb hts in_C hown hK.1 hw (0) cC_0 rfl 3 (by decide) (hts _ tw_61) rfl d_C_steps_18 ?_
    refine mw_getN (v := .int ((f_C_findWay nr nm s0 (Int32.toNatClampNeg a1)) 4 7)) hx hb hts in_D hown hK.1 hw (4) cC_4 rfl 7 (by decide) (hK.2.1 _ nf_1) rfl d_C_steps_21 ?_
    have e9 : f_C_steps nr nm s0 a1 = ((f_C_findWay nr nm s0 (Int32.toNatClampNeg a1)) 4 7, f_C_findWay nr nm s0 (Int32.toNatClampNeg a1)) := by unfold f_C_steps; exact if_pos h1
    exact mw_iret hx hb hr rfl hw hS (congrArg (fun z => some (Value.int z.1)) e9.symm) ⟨rfl, congrArg (fun z => encC G.2 ad nr nm z.2) e9.symm⟩ hlocks d_C_steps_24
  · skip
    refine W.eq (g2 := F0 m (2 + 3) ls [.null]) (by rw [mVal_n h1]) ?_
    refine lv_astore_nN (lv' := [(2, .null), (0, .ref (ad (0))), (1, .int (a1))]) hx hb d_C_steps_5 rfl hl (by decide) rfl (fun ls hl => ?_)
    refine lv_aload_nN hx hb d_C_steps_6 rfl (lv_at hl 0 rfl) ?_
    refine lv_ifnonnullN hx hb d_C_steps_7 ?_
    refine lv_iconst (v := -1) hx hb d_C_steps_10 (by decide) ?_
    have e9 : f_C_steps nr nm s0 a1 = (-1, s0) := by unfold f_C_steps; exact if_neg h1
    exact mw_iret hx hb hr rfl hw hS (congrArg (fun z => some (Value.int z.1)) e9.symm) ⟨rfl, congrArg (fun z => encC G.2 ad nr nm z.2) e9.symm⟩ hlocks d_C_steps_11

def f_C_update (nr nm : Nat) (s0 : S2) (a1 : Int32) : Int32 × S2 :=
  if rOk nm a1 then
    if (f_C_offerTo nr nm s0 (Int32.toNatClampNeg a1)) = (-1) then
      (f_C_offerTo nr nm s0 (Int32.toNatClampNeg a1), s0)
    else
      (f_C_offerTo nr nm s0 (Int32.toNatClampNeg a1), up2 s0 (58 + (Int32.toNatClampNeg a1)) 3 (f_C_offerTo nr nm s0 (Int32.toNatClampNeg a1)))
  else
    (-1, s0)
set_option maxHeartbeats 4000000 in
set_option maxRecDepth 100000 in
theorem cc_C_update (l : Launch) (G : Gx) (A : Nat → Prop) (ad : Nat → Nat) (nr nm : Nat) (hnr : nr ≤ 16) (hnm : nm ≤ 30) (s0 : S2) (a1 : Int32) (hcnt : s0 0 4 = nI nr) : Met l y_C_update ws_C_update { frames := 6, cells := 0, slots := 0, locals := 134 } (PG G [.ref (ad (0)), .int (a1)] A ad (encC G.2 ad nr nm s0)) (EG G A (some (.int (f_C_update nr nm s0 a1).1)) ad (encC G.2 ad nr nm ((f_C_update nr nm s0 a1).2))) 0 0 A := by
  refine Met.ofW (cc := c_C_update) (maxL := 4) (ret := (some .int)) (by decide) rfl ?_
  intro p e s m args below meth c s₁ B hml hv
  obtain ⟨rfl, hw, hK⟩ := hv
  have hx := B.exec
  have hb := B.bytes
  have hr := B.returns
  have hts : ∀ w ∈ tbG, w.before [.ref (ad (0)), .int (a1)].toArray s = true := fun w h => atoms_spec (ws := ws_C_update) B.pre w (List.mem_cons_of_mem _ h)
  have hown : s.vm.findClass "RollStages" = some m.cls := findClass_of_methodNamed B.named
  have hlocks := B.notSynchronized
  have hS : va_S A s.heap s.heap [] := va_S.rf
  have hw : mwG G A ad (encC G.2 ad nr nm s0) s.heap := hw
  have hl := lv_entry ([.ref (ad (0)), .int (a1)]) (n := 4) (Nat.le_of_ble_eq_true rfl)
  rw [lg_entry_eq]
  generalize (lg_sl ([.ref (ad (0)), .int (a1)]) ++ List.replicate (4 - (lg_sl ([.ref (ad (0)), .int (a1)])).length) Slot.unset).toArray = ls at hl ⊢
  have hl : lv_has ls 4 [(0, .ref (ad (0))), (1, .int (a1))] := hl
  refine lv_aload_n hx hb d_C_update_0 rfl (lv_at hl 0 rfl) ?_
  refine lv_iload_n hx hb d_C_update_1 rfl (lv_at hl 1 rfl) ?_
  refine gV (As := [.int (a1)]) (rest := []) (st1 := [mVal ad nm a1]) ⟨hx, hb, hml, hown, hts⟩ (cc_C_machineAt l G A ad nr nm hnr hnm s0 a1) cC_0 rfl tw_300 tw_297 tw_299 tw_p18 tw_1 hd_C_machineAt rfl rfl ⟨Nat.le_of_ble_eq_true rfl, Nat.le_of_ble_eq_true rfl⟩ hK hw hS hl.1 rfl (Nat.le_of_ble_eq_true rfl) ⟨Nat.zero_le _, Nat.zero_le _⟩ d_C_update_2 rfl (fun H locs hw hS => ?_)
  by_cases h1 : rOk nm a1
  · skip
    refine W.eq (g2 := F0 m (2 + 3) ls [.ref (ad (58 + (Int32.toNatClampNeg a1)))]) (by rw [mVal_p h1]) ?_
    refine lv_astore_n (lv' := [(2, .ref (ad (58 + (Int32.toNatClampNeg a1)))), (0, .ref (ad (0))), (1, .int (a1))]) hx hb d_C_update_5 rfl hl (by decide) rfl (fun ls hl => ?_)
    refine lv_aload_n hx hb d_C_update_6 rfl (lv_at hl 0 rfl) ?_
    refine lv_ifnonnull (tgt := 12) hx hb d_C_update_7 (by decide) ?_
    refine lv_aload_n hx hb d_C_update_12 rfl (lv_at hl 1 rfl) ?_
    refine lv_aload_n hx hb d_C_update_13 rfl (lv_at hl 0 rfl) ?_
    refine gV (As := [.ref (ad (58 + (Int32.toNatClampNeg a1)))]) (rest := []) (st1 := [.int (f_C_offerTo nr nm s0 (Int32.toNatClampNeg a1))]) ⟨hx, hb, hml, hown, hts⟩ (cc_C_offerTo l G A ad nr nm hnr hnm s0 (Int32.toNatClampNeg a1) h1.2 hcnt) cC_0 rfl tw_312 tw_309 tw_311 tw_p19 tw_1 hd_C_offerTo rfl rfl ⟨Nat.le_of_ble_eq_true rfl, Nat.le_of_ble_eq_true rfl⟩ hK hw hS hl.1 rfl (Nat.le_of_ble_eq_true rfl) ⟨Nat.zero_le _, Nat.zero_le _⟩ d_C_update_14 rfl (fun H locs hw hS => ?_)
    refine lv_istore_n (lv' := [(3, .int (f_C_offerTo nr nm s0 (Int32.toNatClampNeg a1))), (2, .ref (ad (58 + (Int32.toNatClampNeg a1)))), (0, .ref (ad (0))), (1, .int (a1))]) hx hb d_C_update_17 rfl hl (by decide) rfl (fun ls hl => ?_)
    refine lv_iload_n hx hb d_C_update_18 rfl (lv_at hl 0 rfl) ?_
    refine lv_iconst (v := -1) hx hb d_C_update_19 (by decide) ?_
    refine lv_icmp_eq (tgt := 28) hx hb d_C_update_20 (by decide) (fun h2 => ?_) (fun h2 => ?_)
    · skip
      refine lv_iload_n hx hb d_C_update_28 rfl (lv_at hl 0 rfl) ?_
      have e9 : f_C_update nr nm s0 a1 = (f_C_offerTo nr nm s0 (Int32.toNatClampNeg a1), s0) := by unfold f_C_update; exact (if_pos h1).trans (if_pos h2)
      exact mw_iret hx hb hr rfl hw hS (congrArg (fun z => some (Value.int z.1)) e9.symm) ⟨rfl, congrArg (fun z => encC G.2 ad nr nm z.2) e9.symm⟩ hlocks d_C_update_29
    · skip
      refine lv_aload_n hx hb d_C_update_23 rfl (lv_at hl 1 rfl) ?_
      refine lv_iload_n hx hb d_C_update_24 rfl (lv_at hl 0 rfl) ?_
      refine mw_putN (v := .int (f_C_offerTo nr nm s0 (Int32.toNatClampNeg a1))) hx hb hts in_M ty_M ty_M_ok n_M hown hK.1 hw hS (58 + (Int32.toNatClampNeg a1)) (cC_mac h1.2) rfl 3 (by decide) (hK.2.1 _ nf_10) rfl rfl rfl (Nat.le_of_ble_eq_true rfl) d_C_update_25 (fun H locs hw hS => ?_)
      replace hw := mw_encC (r := upd (s0 (58 + (Int32.toNatClampNeg a1))) 3 (f_C_offerTo nr nm s0 (Int32.toNatClampNeg a1))) hw (cC_mac h1.2)
      have hw : mwG G A ad (encC G.2 ad nr nm (up2 s0 (58 + (Int32.toNatClampNeg a1)) 3 (f_C_offerTo nr nm s0 (Int32.toNatClampNeg a1)))) H := hw
      refine lv_iload_n hx hb d_C_update_28 rfl (lv_at hl 0 rfl) ?_
      have e9 : f_C_update nr nm s0 a1 = (f_C_offerTo nr nm s0 (Int32.toNatClampNeg a1), up2 s0 (58 + (Int32.toNatClampNeg a1)) 3 (f_C_offerTo nr nm s0 (Int32.toNatClampNeg a1))) := by unfold f_C_update; exact (if_pos h1).trans (if_neg h2)
      exact mw_iret hx hb hr rfl hw hS (congrArg (fun z => some (Value.int z.1)) e9.symm) ⟨rfl, congrArg (fun z => encC G.2 ad nr nm z.2) e9.symm⟩ hlocks d_C_update_29
  · skip
    refine W.eq (g2 := F0 m (2 + 3) ls [.null]) (by rw [mVal_n h1]) ?_
    refine lv_astore_nN (lv' := [(2, .null), (0, .ref (ad (0))), (1, .int (a1))]) hx hb d_C_update_5 rfl hl (by decide) rfl (fun ls hl => ?_)
    refine lv_aload_nN hx hb d_C_update_6 rfl (lv_at hl 0 rfl) ?_
    refine lv_ifnonnullN hx hb d_C_update_7 ?_
    refine lv_iconst (v := -1) hx hb d_C_update_10 (by decide) ?_
    have e9 : f_C_update nr nm s0 a1 = (-1, s0) := by unfold f_C_update; exact if_neg h1
    exact mw_iret hx hb hr rfl hw hS (congrArg (fun z => some (Value.int z.1)) e9.symm) ⟨rfl, congrArg (fun z => encC G.2 ad nr nm z.2) e9.symm⟩ hlocks d_C_update_11

def f_C_has (nr nm : Nat) (s0 : S2) (a1 : Int32) : Int32 :=
  if rOk nm a1 then
    s0 (58 + (Int32.toNatClampNeg a1)) 3
  else
    -1
set_option maxHeartbeats 4000000 in
set_option maxRecDepth 100000 in
theorem cc_C_has (l : Launch) (G : Gx) (A : Nat → Prop) (ad : Nat → Nat) (nr nm : Nat) (hnr : nr ≤ 16) (hnm : nm ≤ 30) (s0 : S2) (a1 : Int32) : Met l y_C_has ws_C_has { frames := 2, cells := 0, slots := 0, locals := 43 } (PG G [.ref (ad (0)), .int (a1)] A ad (encC G.2 ad nr nm s0)) (EG G A (some (.int (f_C_has nr nm s0 a1))) ad (encC G.2 ad nr nm s0)) 0 0 A := by
  refine Met.ofW (cc := c_C_has) (maxL := 3) (ret := (some .int)) (by decide) rfl ?_
  intro p e s m args below meth c s₁ B hml hv
  obtain ⟨rfl, hw, hK⟩ := hv
  have hx := B.exec
  have hb := B.bytes
  have hr := B.returns
  have hts : ∀ w ∈ tbG, w.before [.ref (ad (0)), .int (a1)].toArray s = true := fun w h => atoms_spec (ws := ws_C_has) B.pre w (List.mem_cons_of_mem _ h)
  have hown : s.vm.findClass "RollStages" = some m.cls := findClass_of_methodNamed B.named
  have hlocks := B.notSynchronized
  have hS : va_S A s.heap s.heap [] := va_S.rf
  have hw : mwG G A ad (encC G.2 ad nr nm s0) s.heap := hw
  have hl := lv_entry ([.ref (ad (0)), .int (a1)]) (n := 3) (Nat.le_of_ble_eq_true rfl)
  rw [lg_entry_eq]
  generalize (lg_sl ([.ref (ad (0)), .int (a1)]) ++ List.replicate (3 - (lg_sl ([.ref (ad (0)), .int (a1)])).length) Slot.unset).toArray = ls at hl ⊢
  have hl : lv_has ls 3 [(0, .ref (ad (0))), (1, .int (a1))] := hl
  refine lv_aload_n hx hb d_C_has_0 rfl (lv_at hl 0 rfl) ?_
  refine lv_iload_n hx hb d_C_has_1 rfl (lv_at hl 1 rfl) ?_
  refine gV (As := [.int (a1)]) (rest := []) (st1 := [mVal ad nm a1]) ⟨hx, hb, hml, hown, hts⟩ (cc_C_machineAt l G A ad nr nm hnr hnm s0 a1) cC_0 rfl tw_300 tw_297 tw_299 tw_p18 tw_1 hd_C_machineAt rfl rfl ⟨Nat.le_of_ble_eq_true rfl, Nat.le_of_ble_eq_true rfl⟩ hK hw hS hl.1 rfl (Nat.le_of_ble_eq_true rfl) ⟨Nat.zero_le _, Nat.zero_le _⟩ d_C_has_2 rfl (fun H locs hw hS => ?_)
  by_cases h1 : rOk nm a1
  · skip
    refine W.eq (g2 := F0 m (2 + 3) ls [.ref (ad (58 + (Int32.toNatClampNeg a1)))]) (by rw [mVal_p h1]) ?_
    refine lv_astore_n (lv' := [(2, .ref (ad (58 + (Int32.toNatClampNeg a1)))), (0, .ref (ad (0))), (1, .int (a1))]) hx hb d_C_has_5 rfl hl (by decide) rfl (fun ls hl => ?_)
    refine lv_aload_n hx hb d_C_has_6 rfl (lv_at hl 0 rfl) ?_
    refine lv_ifnonnull (tgt := 14) hx hb d_C_has_7 (by decide) ?_
    refine lv_aload_n hx hb d_C_has_14 rfl (lv_at hl 0 rfl) ?_
    refine mw_getN (v := .int (s0 (58 + (Int32.toNatClampNeg a1)) 3)) hx hb hts in_M hown hK.1 hw (58 + (Int32.toNatClampNeg a1)) (cC_mac h1.2) rfl 3 (by decide) (hK.2.1 _ nf_10) rfl d_C_has_15 ?_
    have e9 : f_C_has nr nm s0 a1 = s0 (58 + (Int32.toNatClampNeg a1)) 3 := by unfold f_C_has; exact if_pos h1
    exact mw_iret hx hb hr rfl hw hS (congrArg (fun z => some (Value.int z)) e9.symm) ⟨rfl, rfl⟩ hlocks d_C_has_18
  · skip
    refine W.eq (g2 := F0 m (2 + 3) ls [.null]) (by rw [mVal_n h1]) ?_
    refine lv_astore_nN (lv' := [(2, .null), (0, .ref (ad (0))), (1, .int (a1))]) hx hb d_C_has_5 rfl hl (by decide) rfl (fun ls hl => ?_)
    refine lv_aload_nN hx hb d_C_has_6 rfl (lv_at hl 0 rfl) ?_
    refine lv_ifnonnullN hx hb d_C_has_7 ?_
    refine lv_iconst (v := -1) hx hb d_C_has_10 (by decide) ?_
    refine lv_goto (tgt := 18) hx hb d_C_has_11 (by decide) ?_
    have e9 : f_C_has nr nm s0 a1 = -1 := by unfold f_C_has; exact if_neg h1
    exact mw_iret hx hb hr rfl hw hS (congrArg (fun z => some (Value.int z)) e9.symm) ⟨rfl, rfl⟩ hlocks d_C_has_18

def g_C_tick (nr nm : Nat) (a1 : Int32) : Nat → S2 → Int32 → Int32 → Int32 × S2
  | 0, s1, _, _ => (0, s1)
  | n + 1, s1, x2, x3 =>
    if (s1 0 4) ≤ x3 then
      ((up2 s1 (0) 6 x2) 0 6, up2 s1 (0) 6 x2)
    else
      if rOk nr x3 then
        g_C_tick nr nm a1 n (f_R_passTicks s1 (Int32.toNatClampNeg x3) (s1 0 6) x2) x2 (x3 + 1)
      else
        g_C_tick nr nm a1 n s1 x2 (x3 + 1)
def f_C_tick (nr nm : Nat) (s0 : S2) (a1 : Int32) : Int32 × S2 :=
  if (f_C_within a1 0 2000) = 0 then
    (-1, s0)
  else
    g_C_tick nr nm a1 17 s0 ((s0 0 6) + a1) 0
set_option maxHeartbeats 4000000 in
set_option maxRecDepth 100000 in
theorem cc_C_tick (l : Launch) (G : Gx) (A : Nat → Prop) (ad : Nat → Nat) (nr nm : Nat) (hnr : nr ≤ 16) (hnm : nm ≤ 30) (s0 : S2) (a1 : Int32) (hcnt : s0 0 4 = nI nr) : Met l y_C_tick ws_C_tick { frames := 4, cells := 0, slots := 0, locals := 85 } (PG G [.ref (ad (0)), .int (a1)] A ad (encC G.2 ad nr nm s0)) (EG G A (some (.int (f_C_tick nr nm s0 a1).1)) ad (encC G.2 ad nr nm ((f_C_tick nr nm s0 a1).2))) 0 0 A := by
  refine Met.ofW (cc := c_C_tick) (maxL := 5) (ret := (some .int)) (by decide) rfl ?_
  intro p e s m args below meth c s₁ B hml hv
  obtain ⟨rfl, hw, hK⟩ := hv
  have hx := B.exec
  have hb := B.bytes
  have hr := B.returns
  have hts : ∀ w ∈ tbG, w.before [.ref (ad (0)), .int (a1)].toArray s = true := fun w h => atoms_spec (ws := ws_C_tick) B.pre w (List.mem_cons_of_mem _ h)
  have hown : s.vm.findClass "RollStages" = some m.cls := findClass_of_methodNamed B.named
  have hlocks := B.notSynchronized
  have hS : va_S A s.heap s.heap [] := va_S.rf
  have hw : mwG G A ad (encC G.2 ad nr nm s0) s.heap := hw
  have loop : ∀ (n : Nat) (s1 : S2) (x2 : Int32) (x3 : Int32), s1 0 4 = nI nr ∧ 0 ≤ x3.toInt ∧ x3.toInt ≤ nr ∧ 17 ≤ x3.toInt + n → ∀ (H : Heap) (locs : List Loc) (ls : Array Slot), mwG G A ad (encC G.2 ad nr nm s1) H → va_S A s.heap H locs → lv_has ls 5 [(0, .ref (ad (0))), (1, .int (a1)), (2, .int (x2)), (3, .int (x3))] → W p l e (headSpec ws_C_tick { frames := 4, cells := 0, slots := 0, locals := 85 }).room s m [.ref (ad (0)), .int (a1)].toArray below meth c H locs 0 0 (MQ below (EG G A (some (.int (g_C_tick nr nm a1 n s1 x2 x3).1)) ad (encC G.2 ad nr nm ((g_C_tick nr nm a1 n s1 x2 x3).2))) [.ref (ad (0)), .int (a1)].toArray s 0 0 A) (F0 m 22 ls []) := by
    intro n
    induction n with
    | zero =>
      intro s1 x2 x3 hI
      exact absurd hI.2 (by omega)
    | succ n ih =>
      intro s1 x2 x3 hI H locs ls hw hS hl
      refine lv_iload_n hx hb d_C_tick_22 rfl (lv_at hl 3 rfl) ?_
      refine lv_aload_n hx hb d_C_tick_23 rfl (lv_at hl 0 rfl) ?_
      refine mw_get (v := .int (s1 0 4)) hx hb hts in_C hown hK.1 hw (0) cC_0 rfl 4 (by decide) (hts _ tw_62) rfl d_C_tick_24 ?_
      refine lv_icmp_ge (tgt := 58) hx hb d_C_tick_27 (by decide) (fun h501 => ?_) (fun h501 => ?_)
      · skip
        refine lv_aload_n hx hb d_C_tick_58 rfl (lv_at hl 0 rfl) ?_
        refine lv_iload_n hx hb d_C_tick_59 rfl (lv_at hl 2 rfl) ?_
        refine mw_put (v := .int (x2)) hx hb hts in_C ty_C ty_C_ok n_C hown hK.1 hw hS (0) cC_0 rfl 6 (by decide) (hts _ tw_64) rfl rfl rfl (Nat.le_of_ble_eq_true rfl) d_C_tick_60 (fun H locs hw hS => ?_)
        replace hw := mw_encC (r := upd (s1 (0)) 6 x2) hw cC_0
        have hw : mwG G A ad (encC G.2 ad nr nm (up2 s1 (0) 6 x2)) H := hw
        refine lv_aload_n hx hb d_C_tick_63 rfl (lv_at hl 0 rfl) ?_
        refine mw_get (v := .int ((up2 s1 (0) 6 x2) 0 6)) hx hb hts in_C hown hK.1 hw (0) cC_0 rfl 6 (by decide) (hts _ tw_64) rfl d_C_tick_64 ?_
        have e9 : g_C_tick nr nm a1 (n + 1) s1 x2 x3 = ((up2 s1 (0) 6 x2) 0 6, up2 s1 (0) 6 x2) := by rw [g_C_tick]; exact if_pos h501
        exact mw_iret hx hb hr rfl hw hS (congrArg (fun z => some (Value.int z.1)) e9.symm) ⟨rfl, congrArg (fun z => encC G.2 ad nr nm z.2) e9.symm⟩ hlocks d_C_tick_67
      · skip
        refine lv_aload_n hx hb d_C_tick_30 rfl (lv_at hl 0 rfl) ?_
        refine lv_iload_n hx hb d_C_tick_31 rfl (lv_at hl 3 rfl) ?_
        refine gV (As := [.int (x3)]) (rest := []) (st1 := [rVal ad nr x3]) ⟨hx, hb, hml, hown, hts⟩ (cc_C_releaseAt l G A ad nr nm hnr hnm s1 x3) cC_0 rfl tw_151 tw_148 tw_150 tw_p0 tw_1 hd_C_releaseAt rfl rfl ⟨Nat.le_of_ble_eq_true rfl, Nat.le_of_ble_eq_true rfl⟩ hK hw hS hl.1 rfl (Nat.le_of_ble_eq_true rfl) ⟨Nat.zero_le _, Nat.zero_le _⟩ d_C_tick_32 rfl (fun H locs hw hS => ?_)
        by_cases h502 : rOk nr x3
        · skip
          refine W.eq (g2 := F0 m (32 + 3) ls [.ref (ad (10 + 3 * (Int32.toNatClampNeg x3)))]) (by rw [rVal_p h502]) ?_
          refine lv_astore (lv' := [(4, .ref (ad (10 + 3 * (Int32.toNatClampNeg x3)))), (0, .ref (ad (0))), (1, .int (a1)), (2, .int (x2)), (3, .int (x3))]) hx hb d_C_tick_35 hl (by decide) rfl (fun ls hl => ?_)
          refine lv_aload hx hb d_C_tick_37 (lv_at hl 0 rfl) ?_
          refine lv_ifnull hx hb d_C_tick_39 ?_
          refine lv_aload hx hb d_C_tick_42 (lv_at hl 0 rfl) ?_
          refine lv_aload_n hx hb d_C_tick_44 rfl (lv_at hl 1 rfl) ?_
          refine mw_get (v := .int (s1 0 6)) hx hb hts in_C hown hK.1 hw (0) cC_0 rfl 6 (by decide) (hts _ tw_64) rfl d_C_tick_45 ?_
          refine lv_iload_n hx hb d_C_tick_48 rfl (lv_at hl 3 rfl) ?_
          refine gVN (As := [.int (s1 0 6), .int (x2)]) (rest := []) (st1 := []) ⟨hx, hb, hml, hown, hts⟩ (cc_R_passTicks l G A ad nr nm hnr hnm s1 (Int32.toNatClampNeg x3) h502.2 (s1 0 6) x2) (cC_rel hnr h502.2) rfl tw_216 nw_10 tw_215 tw_p10 tw_5 hd_R_passTicks rfl rfl ⟨Nat.le_of_ble_eq_true rfl, Nat.le_of_ble_eq_true rfl⟩ hK hw hS hl.1 rfl (Nat.le_of_ble_eq_true rfl) ⟨Nat.zero_le _, Nat.zero_le _⟩ d_C_tick_49 rfl (fun H locs hw hS => ?_)
          refine lv_iinc (v := x3 + 1) (lv' := [(3, .int (x3 + 1)), (4, .ref (ad (10 + 3 * (Int32.toNatClampNeg x3)))), (0, .ref (ad (0))), (1, .int (a1)), (2, .int (x2))]) hx hb d_C_tick_52 hl (k := 4) rfl (by first | rfl | decide) (by decide) rfl (fun ls hl => ?_)
          refine lv_goto (tgt := 22) hx hb d_C_tick_55 (by decide) ?_
          have e9 : g_C_tick nr nm a1 (n + 1) s1 x2 x3 = g_C_tick nr nm a1 n (f_R_passTicks s1 (Int32.toNatClampNeg x3) (s1 0 6) x2) x2 (x3 + 1) := by rw [g_C_tick]; exact (if_neg h501).trans (if_pos h502)
          rw [e9]
          exact ih (f_R_passTicks s1 (Int32.toNatClampNeg x3) (s1 0 6) x2) x2 (x3 + 1) ⟨by first | exact hI.1 | (rw [pt_fr (by omega)]; exact hI.1), tk_S hnr hI h501⟩ _ _ _ hw hS (lv_sub hl [2, 3, 4, 0] rfl)
        · skip
          refine W.eq (g2 := F0 m (32 + 3) ls [.null]) (by rw [rVal_n h502]) ?_
          refine lv_astoreN (lv' := [(4, .null), (0, .ref (ad (0))), (1, .int (a1)), (2, .int (x2)), (3, .int (x3))]) hx hb d_C_tick_35 hl (by decide) rfl (fun ls hl => ?_)
          refine lv_aloadN hx hb d_C_tick_37 (lv_at hl 0 rfl) ?_
          refine lv_ifnullN (tgt := 52) hx hb d_C_tick_39 (by decide) ?_
          refine lv_iinc (v := x3 + 1) (lv' := [(3, .int (x3 + 1)), (4, .null), (0, .ref (ad (0))), (1, .int (a1)), (2, .int (x2))]) hx hb d_C_tick_52 hl (k := 4) rfl (by first | rfl | decide) (by decide) rfl (fun ls hl => ?_)
          refine lv_goto (tgt := 22) hx hb d_C_tick_55 (by decide) ?_
          have e9 : g_C_tick nr nm a1 (n + 1) s1 x2 x3 = g_C_tick nr nm a1 n s1 x2 (x3 + 1) := by rw [g_C_tick]; exact (if_neg h501).trans (if_neg h502)
          rw [e9]
          exact ih s1 x2 (x3 + 1) ⟨by first | exact hI.1 | (rw [pt_fr (by omega)]; exact hI.1), tk_S hnr hI h501⟩ _ _ _ hw hS (lv_sub hl [2, 3, 4, 0] rfl)
  have hl := lv_entry ([.ref (ad (0)), .int (a1)]) (n := 5) (Nat.le_of_ble_eq_true rfl)
  rw [lg_entry_eq]
  generalize (lg_sl ([.ref (ad (0)), .int (a1)]) ++ List.replicate (5 - (lg_sl ([.ref (ad (0)), .int (a1)])).length) Slot.unset).toArray = ls at hl ⊢
  have hl : lv_has ls 5 [(0, .ref (ad (0))), (1, .int (a1))] := hl
  refine lv_iload_n hx hb d_C_tick_0 rfl (lv_at hl 1 rfl) ?_
  refine lv_iconst (v := 0) hx hb d_C_tick_1 (by decide) ?_
  refine lv_sipush (v := 2000) hx hb d_C_tick_2 (by decide) ?_
  refine gS (As := [.int (a1), .int (0), .int (2000)]) (rest := []) (st1 := [.int (f_C_within a1 0 2000)]) ⟨hx, hb, hml, hown, hts⟩ (cc_C_within l G A ad nr nm hnr hnm s0 a1 0 2000) tw_89 tw_87 tw_88 tw_1 hd_C_within rfl rfl ⟨Nat.le_of_ble_eq_true rfl, Nat.le_of_ble_eq_true rfl⟩ hK hw hS hl.1 rfl (Nat.le_of_ble_eq_true rfl) ⟨Nat.zero_le _, Nat.zero_le _⟩ d_C_tick_5 rfl (fun H locs hw hS => ?_)
  refine lv_if_ne (tgt := 13) hx hb d_C_tick_8 (by decide) (fun h1 => ?_) (fun h1 => ?_)
  · skip
    refine lv_aload_n hx hb d_C_tick_13 rfl (lv_at hl 0 rfl) ?_
    refine mw_get (v := .int (s0 0 6)) hx hb hts in_C hown hK.1 hw (0) cC_0 rfl 6 (by decide) (hts _ tw_64) rfl d_C_tick_14 ?_
    refine lv_iload_n hx hb d_C_tick_17 rfl (lv_at hl 1 rfl) ?_
    refine lv_iadd hx hb d_C_tick_18 ?_
    refine lv_istore_n (lv' := [(2, .int ((s0 0 6) + a1)), (0, .ref (ad (0))), (1, .int (a1))]) hx hb d_C_tick_19 rfl hl (by decide) rfl (fun ls hl => ?_)
    refine lv_iconst (v := 0) hx hb d_C_tick_20 (by decide) ?_
    refine lv_istore_n (lv' := [(3, .int (0)), (2, .int ((s0 0 6) + a1)), (0, .ref (ad (0))), (1, .int (a1))]) hx hb d_C_tick_21 rfl hl (by decide) rfl (fun ls hl => ?_)
    have e9 : f_C_tick nr nm s0 a1 = g_C_tick nr nm a1 17 s0 ((s0 0 6) + a1) 0 := by unfold f_C_tick; exact if_neg h1
    rw [e9]
    exact loop 17 s0 ((s0 0 6) + a1) 0 ⟨hcnt, by decide, Int.ofNat_nonneg _, by decide⟩ _ _ _ hw hS (lv_sub hl [2, 3, 1, 0] rfl)
  · skip
    refine lv_iconst (v := -1) hx hb d_C_tick_11 (by decide) ?_
    have e9 : f_C_tick nr nm s0 a1 = (-1, s0) := by unfold f_C_tick; exact if_pos h1
    exact mw_iret hx hb hr rfl hw hS (congrArg (fun z => some (Value.int z.1)) e9.symm) ⟨rfl, congrArg (fun z => encC G.2 ad nr nm z.2) e9.symm⟩ hlocks d_C_tick_12
end
section
theorem zz_end : True := trivial
end
