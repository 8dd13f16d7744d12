-- ===== PART A: goes FIRST, ahead of the names: the tables' words, and 'selects' of the private methods out of them =====
/-- a private method of a class that the tables say can be made, by its rows of tables_1 -/
def lw_okq (q : MethodName × Nat) : Prop := (q.1.cls ≠ "java/lang/invoke/MethodHandle" ∧ q.1.cls ≠ "java/lang/invoke/VarHandle") ∧ Cond.instantiable q.1.cls q.2 ∈ tables_1 ∧ Cond.privateMethod q.1 ∈ tables_1 ∧ Cond.instanceMethod q.1 ∈ tables_1
theorem lw_p0 : lw_okq (⟨"ShadowNight", "makeStrip", "(LShadowNight$Strip;II)I"⟩, 14) := ⟨⟨by decide +kernel, by decide +kernel⟩, List.mem_of_getElem? (i := 19) (by decide +kernel), List.mem_of_getElem? (i := 360) (by decide +kernel), List.mem_of_getElem? (i := 361) (by decide +kernel)⟩
theorem lw_p1 : lw_okq (⟨"ShadowNight", "find", "(I)I"⟩, 14) := ⟨⟨by decide +kernel, by decide +kernel⟩, List.mem_of_getElem? (i := 19) (by decide +kernel), List.mem_of_getElem? (i := 364) (by decide +kernel), List.mem_of_getElem? (i := 365) (by decide +kernel)⟩
theorem lw_p2 : lw_okq (⟨"ShadowNight", "refusesPlace", "([LShadowNight$Strip;II)I"⟩, 14) := ⟨⟨by decide +kernel, by decide +kernel⟩, List.mem_of_getElem? (i := 19) (by decide +kernel), List.mem_of_getElem? (i := 385) (by decide +kernel), List.mem_of_getElem? (i := 386) (by decide +kernel)⟩
theorem lw_p3 : lw_okq (⟨"ShadowNight", "refusesStrip", "([LShadowNight$Strip;I)I"⟩, 14) := ⟨⟨by decide +kernel, by decide +kernel⟩, List.mem_of_getElem? (i := 19) (by decide +kernel), List.mem_of_getElem? (i := 389) (by decide +kernel), List.mem_of_getElem? (i := 390) (by decide +kernel)⟩
theorem lw_p4 : lw_okq (⟨"ShadowNight", "tell", "(I)I"⟩, 14) := ⟨⟨by decide +kernel, by decide +kernel⟩, List.mem_of_getElem? (i := 19) (by decide +kernel), List.mem_of_getElem? (i := 410) (by decide +kernel), List.mem_of_getElem? (i := 411) (by decide +kernel)⟩
theorem lw_p5 : lw_okq (⟨"ShadowNight", "refusesHide", "(I)I"⟩, 14) := ⟨⟨by decide +kernel, by decide +kernel⟩, List.mem_of_getElem? (i := 19) (by decide +kernel), List.mem_of_getElem? (i := 472) (by decide +kernel), List.mem_of_getElem? (i := 473) (by decide +kernel)⟩
theorem lw_p6 : lw_okq (⟨"ShadowNight", "refusesHides", "(II)I"⟩, 14) := ⟨⟨by decide +kernel, by decide +kernel⟩, List.mem_of_getElem? (i := 19) (by decide +kernel), List.mem_of_getElem? (i := 476) (by decide +kernel), List.mem_of_getElem? (i := 477) (by decide +kernel)⟩
theorem lw_p7 : lw_okq (⟨"ShadowNight", "tellFraction", "(JJ)V"⟩, 14) := ⟨⟨by decide +kernel, by decide +kernel⟩, List.mem_of_getElem? (i := 19) (by decide +kernel), List.mem_of_getElem? (i := 512) (by decide +kernel), List.mem_of_getElem? (i := 513) (by decide +kernel)⟩
theorem lw_p8 : lw_okq (⟨"ShadowNight$Story", "skipBlanks", "(LShadowNight$Strip;)V"⟩, 5) := ⟨⟨by decide +kernel, by decide +kernel⟩, List.mem_of_getElem? (i := 79) (by decide +kernel), List.mem_of_getElem? (i := 538) (by decide +kernel), List.mem_of_getElem? (i := 539) (by decide +kernel)⟩
theorem lw_p9 : lw_okq (⟨"ShadowNight$Story", "sign", "(LShadowNight$Strip;)I"⟩, 5) := ⟨⟨by decide +kernel, by decide +kernel⟩, List.mem_of_getElem? (i := 79) (by decide +kernel), List.mem_of_getElem? (i := 542) (by decide +kernel), List.mem_of_getElem? (i := 543) (by decide +kernel)⟩
theorem lw_p10 : lw_okq (⟨"ShadowNight$Story", "readScene", "(LShadowNight$Strip;LShadowNight$Scene;)Z"⟩, 5) := ⟨⟨by decide +kernel, by decide +kernel⟩, List.mem_of_getElem? (i := 79) (by decide +kernel), List.mem_of_getElem? (i := 548) (by decide +kernel), List.mem_of_getElem? (i := 549) (by decide +kernel)⟩
theorem lw_p11 : lw_okq (⟨"ShadowNight$Story", "readHides", "(LShadowNight$Strip;LShadowNight$Scene;)Z"⟩, 5) := ⟨⟨by decide +kernel, by decide +kernel⟩, List.mem_of_getElem? (i := 79) (by decide +kernel), List.mem_of_getElem? (i := 556) (by decide +kernel), List.mem_of_getElem? (i := 557) (by decide +kernel)⟩
theorem lw_p12 : lw_okq (⟨"ShadowNight$Story", "readLength", "(LShadowNight$Strip;)I"⟩, 5) := ⟨⟨by decide +kernel, by decide +kernel⟩, List.mem_of_getElem? (i := 79) (by decide +kernel), List.mem_of_getElem? (i := 562) (by decide +kernel), List.mem_of_getElem? (i := 563) (by decide +kernel)⟩
theorem lw_p13 : lw_okq (⟨"ShadowNight$Hands", "change", "(I)V"⟩, 2) := ⟨⟨by decide +kernel, by decide +kernel⟩, List.mem_of_getElem? (i := 184) (by decide +kernel), List.mem_of_getElem? (i := 603) (by decide +kernel), List.mem_of_getElem? (i := 604) (by decide +kernel)⟩
theorem lw_p14 : lw_okq (⟨"ShadowNight$Hands", "changeOne", "(II)V"⟩, 2) := ⟨⟨by decide +kernel, by decide +kernel⟩, List.mem_of_getElem? (i := 184) (by decide +kernel), List.mem_of_getElem? (i := 607) (by decide +kernel), List.mem_of_getElem? (i := 608) (by decide +kernel)⟩
theorem lw_p15 : lw_okq (⟨"ShadowNight$Hands", "keepFitting", "(II)V"⟩, 2) := ⟨⟨by decide +kernel, by decide +kernel⟩, List.mem_of_getElem? (i := 184) (by decide +kernel), List.mem_of_getElem? (i := 617) (by decide +kernel), List.mem_of_getElem? (i := 618) (by decide +kernel)⟩
def lw_privs_1 : List (MethodName × Nat) := [(⟨"ShadowNight", "makeStrip", "(LShadowNight$Strip;II)I"⟩, 14), (⟨"ShadowNight", "find", "(I)I"⟩, 14), (⟨"ShadowNight", "refusesPlace", "([LShadowNight$Strip;II)I"⟩, 14), (⟨"ShadowNight", "refusesStrip", "([LShadowNight$Strip;I)I"⟩, 14), (⟨"ShadowNight", "tell", "(I)I"⟩, 14), (⟨"ShadowNight", "refusesHide", "(I)I"⟩, 14), (⟨"ShadowNight", "refusesHides", "(II)I"⟩, 14), (⟨"ShadowNight", "tellFraction", "(JJ)V"⟩, 14), (⟨"ShadowNight$Story", "skipBlanks", "(LShadowNight$Strip;)V"⟩, 5), (⟨"ShadowNight$Story", "sign", "(LShadowNight$Strip;)I"⟩, 5), (⟨"ShadowNight$Story", "readScene", "(LShadowNight$Strip;LShadowNight$Scene;)Z"⟩, 5), (⟨"ShadowNight$Story", "readHides", "(LShadowNight$Strip;LShadowNight$Scene;)Z"⟩, 5), (⟨"ShadowNight$Story", "readLength", "(LShadowNight$Strip;)I"⟩, 5), (⟨"ShadowNight$Hands", "change", "(I)V"⟩, 2), (⟨"ShadowNight$Hands", "changeOne", "(II)V"⟩, 2), (⟨"ShadowNight$Hands", "keepFitting", "(II)V"⟩, 2)]
theorem lw_r1 : ∀ q ∈ lw_privs_1, lw_okq q := List.forall_mem_cons.mpr ⟨lw_p0, List.forall_mem_cons.mpr ⟨lw_p1, List.forall_mem_cons.mpr ⟨lw_p2, List.forall_mem_cons.mpr ⟨lw_p3, List.forall_mem_cons.mpr ⟨lw_p4, List.forall_mem_cons.mpr ⟨lw_p5, List.forall_mem_cons.mpr ⟨lw_p6, List.forall_mem_cons.mpr ⟨lw_p7, List.forall_mem_cons.mpr ⟨lw_p8, List.forall_mem_cons.mpr ⟨lw_p9, List.forall_mem_cons.mpr ⟨lw_p10, List.forall_mem_cons.mpr ⟨lw_p11, List.forall_mem_cons.mpr ⟨lw_p12, List.forall_mem_cons.mpr ⟨lw_p13, List.forall_mem_cons.mpr ⟨lw_p14, List.forall_mem_cons.mpr ⟨lw_p15, fun _ h => absurd h List.not_mem_nil⟩⟩⟩⟩⟩⟩⟩⟩⟩⟩⟩⟩⟩⟩⟩⟩
theorem lw_p16 : lw_okq (⟨"ShadowNight$Trunk", "passedOver", "(I)I"⟩, 4) := ⟨⟨by decide +kernel, by decide +kernel⟩, List.mem_of_getElem? (i := 198) (by decide +kernel), List.mem_of_getElem? (i := 663) (by decide +kernel), List.mem_of_getElem? (i := 664) (by decide +kernel)⟩
theorem lw_p17 : lw_okq (⟨"ShadowNight$Trunk", "leastFrom", "(II)I"⟩, 4) := ⟨⟨by decide +kernel, by decide +kernel⟩, List.mem_of_getElem? (i := 198) (by decide +kernel), List.mem_of_getElem? (i := 667) (by decide +kernel), List.mem_of_getElem? (i := 668) (by decide +kernel)⟩
theorem lw_p18 : lw_okq (⟨"ShadowNight$Trunk", "firstLeast", "(III)I"⟩, 4) := ⟨⟨by decide +kernel, by decide +kernel⟩, List.mem_of_getElem? (i := 198) (by decide +kernel), List.mem_of_getElem? (i := 676) (by decide +kernel), List.mem_of_getElem? (i := 677) (by decide +kernel)⟩
theorem lw_p19 : lw_okq (⟨"ShadowNight$Night", "open", "()V"⟩, 5) := ⟨⟨by decide +kernel, by decide +kernel⟩, List.mem_of_getElem? (i := 159) (by decide +kernel), List.mem_of_getElem? (i := 710) (by decide +kernel), List.mem_of_getElem? (i := 711) (by decide +kernel)⟩
theorem lw_p20 : lw_okq (⟨"ShadowNight$Night", "canStay", "(LShadowNight$Scene;I)Z"⟩, 5) := ⟨⟨by decide +kernel, by decide +kernel⟩, List.mem_of_getElem? (i := 159) (by decide +kernel), List.mem_of_getElem? (i := 719) (by decide +kernel), List.mem_of_getElem? (i := 720) (by decide +kernel)⟩
theorem lw_p21 : lw_okq (⟨"ShadowNight$Night", "meets", "(LShadowNight$Scene;)Z"⟩, 5) := ⟨⟨by decide +kernel, by decide +kernel⟩, List.mem_of_getElem? (i := 159) (by decide +kernel), List.mem_of_getElem? (i := 723) (by decide +kernel), List.mem_of_getElem? (i := 724) (by decide +kernel)⟩
theorem lw_p22 : lw_okq (⟨"ShadowNight$Night", "pass", "(II)V"⟩, 5) := ⟨⟨by decide +kernel, by decide +kernel⟩, List.mem_of_getElem? (i := 159) (by decide +kernel), List.mem_of_getElem? (i := 732) (by decide +kernel), List.mem_of_getElem? (i := 733) (by decide +kernel)⟩
theorem lw_p23 : lw_okq (⟨"ShadowNight$Night", "keepBetter", "(II)V"⟩, 5) := ⟨⟨by decide +kernel, by decide +kernel⟩, List.mem_of_getElem? (i := 159) (by decide +kernel), List.mem_of_getElem? (i := 773) (by decide +kernel), List.mem_of_getElem? (i := 774) (by decide +kernel)⟩
theorem lw_p24 : lw_okq (⟨"ShadowNight$Signs", "agree", "(III)Z"⟩, 6) := ⟨⟨by decide +kernel, by decide +kernel⟩, List.mem_of_getElem? (i := 218) (by decide +kernel), List.mem_of_getElem? (i := 800) (by decide +kernel), List.mem_of_getElem? (i := 801) (by decide +kernel)⟩
theorem lw_p25 : lw_okq (⟨"ShadowNight$Signs", "emptyQueue", "()V"⟩, 6) := ⟨⟨by decide +kernel, by decide +kernel⟩, List.mem_of_getElem? (i := 218) (by decide +kernel), List.mem_of_getElem? (i := 812) (by decide +kernel), List.mem_of_getElem? (i := 813) (by decide +kernel)⟩
theorem lw_p26 : lw_okq (⟨"ShadowNight$Signs", "follow", "(III)Z"⟩, 6) := ⟨⟨by decide +kernel, by decide +kernel⟩, List.mem_of_getElem? (i := 218) (by decide +kernel), List.mem_of_getElem? (i := 816) (by decide +kernel), List.mem_of_getElem? (i := 817) (by decide +kernel)⟩
theorem lw_p27 : lw_okq (⟨"ShadowNight$Signs", "enqueue", "(I)V"⟩, 6) := ⟨⟨by decide +kernel, by decide +kernel⟩, List.mem_of_getElem? (i := 218) (by decide +kernel), List.mem_of_getElem? (i := 820) (by decide +kernel), List.mem_of_getElem? (i := 821) (by decide +kernel)⟩
theorem lw_p28 : lw_okq (⟨"ShadowNight$Signs", "moveLeastBehind", "(I)V"⟩, 6) := ⟨⟨by decide +kernel, by decide +kernel⟩, List.mem_of_getElem? (i := 218) (by decide +kernel), List.mem_of_getElem? (i := 833) (by decide +kernel), List.mem_of_getElem? (i := 834) (by decide +kernel)⟩
theorem lw_p29 : lw_okq (⟨"ShadowNightModel", "meets", "(I)I"⟩, 50) := ⟨⟨by decide +kernel, by decide +kernel⟩, List.mem_of_getElem? (i := 1022) (by decide +kernel), List.mem_of_getElem? (i := 1189) (by decide +kernel), List.mem_of_getElem? (i := 1190) (by decide +kernel)⟩
theorem lw_p30 : lw_okq (⟨"ShadowNightModel", "askedRow", "(I)I"⟩, 50) := ⟨⟨by decide +kernel, by decide +kernel⟩, List.mem_of_getElem? (i := 1022) (by decide +kernel), List.mem_of_getElem? (i := 1197) (by decide +kernel), List.mem_of_getElem? (i := 1198) (by decide +kernel)⟩
theorem lw_p31 : lw_okq (⟨"ShadowNightModel", "rowAt", "(II)I"⟩, 50) := ⟨⟨by decide +kernel, by decide +kernel⟩, List.mem_of_getElem? (i := 1022) (by decide +kernel), List.mem_of_getElem? (i := 1201) (by decide +kernel), List.mem_of_getElem? (i := 1202) (by decide +kernel)⟩
def lw_privs_2 : List (MethodName × Nat) := [(⟨"ShadowNight$Trunk", "passedOver", "(I)I"⟩, 4), (⟨"ShadowNight$Trunk", "leastFrom", "(II)I"⟩, 4), (⟨"ShadowNight$Trunk", "firstLeast", "(III)I"⟩, 4), (⟨"ShadowNight$Night", "open", "()V"⟩, 5), (⟨"ShadowNight$Night", "canStay", "(LShadowNight$Scene;I)Z"⟩, 5), (⟨"ShadowNight$Night", "meets", "(LShadowNight$Scene;)Z"⟩, 5), (⟨"ShadowNight$Night", "pass", "(II)V"⟩, 5), (⟨"ShadowNight$Night", "keepBetter", "(II)V"⟩, 5), (⟨"ShadowNight$Signs", "agree", "(III)Z"⟩, 6), (⟨"ShadowNight$Signs", "emptyQueue", "()V"⟩, 6), (⟨"ShadowNight$Signs", "follow", "(III)Z"⟩, 6), (⟨"ShadowNight$Signs", "enqueue", "(I)V"⟩, 6), (⟨"ShadowNight$Signs", "moveLeastBehind", "(I)V"⟩, 6), (⟨"ShadowNightModel", "meets", "(I)I"⟩, 50), (⟨"ShadowNightModel", "askedRow", "(I)I"⟩, 50), (⟨"ShadowNightModel", "rowAt", "(II)I"⟩, 50)]
theorem lw_r2 : ∀ q ∈ lw_privs_2, lw_okq q := List.forall_mem_cons.mpr ⟨lw_p16, List.forall_mem_cons.mpr ⟨lw_p17, List.forall_mem_cons.mpr ⟨lw_p18, List.forall_mem_cons.mpr ⟨lw_p19, List.forall_mem_cons.mpr ⟨lw_p20, List.forall_mem_cons.mpr ⟨lw_p21, List.forall_mem_cons.mpr ⟨lw_p22, List.forall_mem_cons.mpr ⟨lw_p23, List.forall_mem_cons.mpr ⟨lw_p24, List.forall_mem_cons.mpr ⟨lw_p25, List.forall_mem_cons.mpr ⟨lw_p26, List.forall_mem_cons.mpr ⟨lw_p27, List.forall_mem_cons.mpr ⟨lw_p28, List.forall_mem_cons.mpr ⟨lw_p29, List.forall_mem_cons.mpr ⟨lw_p30, List.forall_mem_cons.mpr ⟨lw_p31, fun _ h => absurd h List.not_mem_nil⟩⟩⟩⟩⟩⟩⟩⟩⟩⟩⟩⟩⟩⟩⟩⟩
theorem lw_p32 : lw_okq (⟨"ShadowNightModel", "ask", "(II)I"⟩, 50) := ⟨⟨by decide +kernel, by decide +kernel⟩, List.mem_of_getElem? (i := 1022) (by decide +kernel), List.mem_of_getElem? (i := 1205) (by decide +kernel), List.mem_of_getElem? (i := 1206) (by decide +kernel)⟩
theorem lw_p33 : lw_okq (⟨"ShadowNightModel", "askedText", "(I)I"⟩, 50) := ⟨⟨by decide +kernel, by decide +kernel⟩, List.mem_of_getElem? (i := 1022) (by decide +kernel), List.mem_of_getElem? (i := 1237) (by decide +kernel), List.mem_of_getElem? (i := 1238) (by decide +kernel)⟩
theorem lw_p34 : lw_okq (⟨"ShadowNightModel", "askedHide", "(I)I"⟩, 50) := ⟨⟨by decide +kernel, by decide +kernel⟩, List.mem_of_getElem? (i := 1022) (by decide +kernel), List.mem_of_getElem? (i := 1256) (by decide +kernel), List.mem_of_getElem? (i := 1257) (by decide +kernel)⟩
theorem lw_p35 : lw_okq (⟨"ShadowNightModel", "isThere", "(I)Z"⟩, 50) := ⟨⟨by decide +kernel, by decide +kernel⟩, List.mem_of_getElem? (i := 1022) (by decide +kernel), List.mem_of_getElem? (i := 1260) (by decide +kernel), List.mem_of_getElem? (i := 1261) (by decide +kernel)⟩
theorem lw_p36 : lw_okq (⟨"ShadowNightModel", "aboutOf", "(II)I"⟩, 50) := ⟨⟨by decide +kernel, by decide +kernel⟩, List.mem_of_getElem? (i := 1022) (by decide +kernel), List.mem_of_getElem? (i := 1272) (by decide +kernel), List.mem_of_getElem? (i := 1273) (by decide +kernel)⟩
theorem lw_p37 : lw_okq (⟨"ShadowNightModel", "isHeld", "(II)Z"⟩, 50) := ⟨⟨by decide +kernel, by decide +kernel⟩, List.mem_of_getElem? (i := 1022) (by decide +kernel), List.mem_of_getElem? (i := 1286) (by decide +kernel), List.mem_of_getElem? (i := 1287) (by decide +kernel)⟩
theorem lw_p38 : lw_okq (⟨"ShadowNightModel", "share", "(JJI)I"⟩, 50) := ⟨⟨by decide +kernel, by decide +kernel⟩, List.mem_of_getElem? (i := 1022) (by decide +kernel), List.mem_of_getElem? (i := 1290) (by decide +kernel), List.mem_of_getElem? (i := 1291) (by decide +kernel)⟩
theorem lw_p39 : lw_okq (⟨"ShadowNightModel", "goesOn", "(I)I"⟩, 50) := ⟨⟨by decide +kernel, by decide +kernel⟩, List.mem_of_getElem? (i := 1022) (by decide +kernel), List.mem_of_getElem? (i := 1306) (by decide +kernel), List.mem_of_getElem? (i := 1307) (by decide +kernel)⟩
theorem lw_p40 : lw_okq (⟨"ShadowNightModel", "here", "(I)I"⟩, 50) := ⟨⟨by decide +kernel, by decide +kernel⟩, List.mem_of_getElem? (i := 1022) (by decide +kernel), List.mem_of_getElem? (i := 1310) (by decide +kernel), List.mem_of_getElem? (i := 1311) (by decide +kernel)⟩
theorem lw_p41 : lw_okq (⟨"ShadowNightModel", "readsScene", "(I)Z"⟩, 50) := ⟨⟨by decide +kernel, by decide +kernel⟩, List.mem_of_getElem? (i := 1022) (by decide +kernel), List.mem_of_getElem? (i := 1314) (by decide +kernel), List.mem_of_getElem? (i := 1315) (by decide +kernel)⟩
theorem lw_p42 : lw_okq (⟨"ShadowNightModel", "readsHides", "(I)Z"⟩, 50) := ⟨⟨by decide +kernel, by decide +kernel⟩, List.mem_of_getElem? (i := 1022) (by decide +kernel), List.mem_of_getElem? (i := 1318) (by decide +kernel), List.mem_of_getElem? (i := 1319) (by decide +kernel)⟩
theorem lw_p43 : lw_okq (⟨"ShadowNightModel", "readsNumber", "(II)Z"⟩, 50) := ⟨⟨by decide +kernel, by decide +kernel⟩, List.mem_of_getElem? (i := 1022) (by decide +kernel), List.mem_of_getElem? (i := 1322) (by decide +kernel), List.mem_of_getElem? (i := 1323) (by decide +kernel)⟩
theorem lw_p44 : lw_okq (⟨"ShadowNightModel", "isScene", "(I)Z"⟩, 50) := ⟨⟨by decide +kernel, by decide +kernel⟩, List.mem_of_getElem? (i := 1022) (by decide +kernel), List.mem_of_getElem? (i := 1334) (by decide +kernel), List.mem_of_getElem? (i := 1335) (by decide +kernel)⟩
theorem lw_p45 : lw_okq (⟨"ShadowNightModel", "sceneTells", "(II)I"⟩, 50) := ⟨⟨by decide +kernel, by decide +kernel⟩, List.mem_of_getElem? (i := 1022) (by decide +kernel), List.mem_of_getElem? (i := 1338) (by decide +kernel), List.mem_of_getElem? (i := 1339) (by decide +kernel)⟩
theorem lw_p46 : lw_okq (⟨"ShadowNightModel", "named", "()I"⟩, 50) := ⟨⟨by decide +kernel, by decide +kernel⟩, List.mem_of_getElem? (i := 1022) (by decide +kernel), List.mem_of_getElem? (i := 1346) (by decide +kernel), List.mem_of_getElem? (i := 1347) (by decide +kernel)⟩
theorem lw_p47 : lw_okq (⟨"ShadowNightModel", "changes", "(I)V"⟩, 50) := ⟨⟨by decide +kernel, by decide +kernel⟩, List.mem_of_getElem? (i := 1022) (by decide +kernel), List.mem_of_getElem? (i := 1351) (by decide +kernel), List.mem_of_getElem? (i := 1352) (by decide +kernel)⟩
def lw_privs_3 : List (MethodName × Nat) := [(⟨"ShadowNightModel", "ask", "(II)I"⟩, 50), (⟨"ShadowNightModel", "askedText", "(I)I"⟩, 50), (⟨"ShadowNightModel", "askedHide", "(I)I"⟩, 50), (⟨"ShadowNightModel", "isThere", "(I)Z"⟩, 50), (⟨"ShadowNightModel", "aboutOf", "(II)I"⟩, 50), (⟨"ShadowNightModel", "isHeld", "(II)Z"⟩, 50), (⟨"ShadowNightModel", "share", "(JJI)I"⟩, 50), (⟨"ShadowNightModel", "goesOn", "(I)I"⟩, 50), (⟨"ShadowNightModel", "here", "(I)I"⟩, 50), (⟨"ShadowNightModel", "readsScene", "(I)Z"⟩, 50), (⟨"ShadowNightModel", "readsHides", "(I)Z"⟩, 50), (⟨"ShadowNightModel", "readsNumber", "(II)Z"⟩, 50), (⟨"ShadowNightModel", "isScene", "(I)Z"⟩, 50), (⟨"ShadowNightModel", "sceneTells", "(II)I"⟩, 50), (⟨"ShadowNightModel", "named", "()I"⟩, 50), (⟨"ShadowNightModel", "changes", "(I)V"⟩, 50)]
theorem lw_r3 : ∀ q ∈ lw_privs_3, lw_okq q := List.forall_mem_cons.mpr ⟨lw_p32, List.forall_mem_cons.mpr ⟨lw_p33, List.forall_mem_cons.mpr ⟨lw_p34, List.forall_mem_cons.mpr ⟨lw_p35, List.forall_mem_cons.mpr ⟨lw_p36, List.forall_mem_cons.mpr ⟨lw_p37, List.forall_mem_cons.mpr ⟨lw_p38, List.forall_mem_cons.mpr ⟨lw_p39, List.forall_mem_cons.mpr ⟨lw_p40, List.forall_mem_cons.mpr ⟨lw_p41, List.forall_mem_cons.mpr ⟨lw_p42, List.forall_mem_cons.mpr ⟨lw_p43, List.forall_mem_cons.mpr ⟨lw_p44, List.forall_mem_cons.mpr ⟨lw_p45, List.forall_mem_cons.mpr ⟨lw_p46, List.forall_mem_cons.mpr ⟨lw_p47, fun _ h => absurd h List.not_mem_nil⟩⟩⟩⟩⟩⟩⟩⟩⟩⟩⟩⟩⟩⟩⟩⟩
theorem lw_p48 : lw_okq (⟨"ShadowNightModel", "fits", "(III)Z"⟩, 50) := ⟨⟨by decide +kernel, by decide +kernel⟩, List.mem_of_getElem? (i := 1022) (by decide +kernel), List.mem_of_getElem? (i := 1358) (by decide +kernel), List.mem_of_getElem? (i := 1359) (by decide +kernel)⟩
theorem lw_p49 : lw_okq (⟨"ShadowNightModel", "setTakes", "()V"⟩, 50) := ⟨⟨by decide +kernel, by decide +kernel⟩, List.mem_of_getElem? (i := 1022) (by decide +kernel), List.mem_of_getElem? (i := 1370) (by decide +kernel), List.mem_of_getElem? (i := 1371) (by decide +kernel)⟩
theorem lw_p50 : lw_okq (⟨"ShadowNightModel", "reaches", "(I)I"⟩, 50) := ⟨⟨by decide +kernel, by decide +kernel⟩, List.mem_of_getElem? (i := 1022) (by decide +kernel), List.mem_of_getElem? (i := 1378) (by decide +kernel), List.mem_of_getElem? (i := 1379) (by decide +kernel)⟩
theorem lw_p51 : lw_okq (⟨"ShadowNightModel", "nextOrder", "(I)Z"⟩, 50) := ⟨⟨by decide +kernel, by decide +kernel⟩, List.mem_of_getElem? (i := 1022) (by decide +kernel), List.mem_of_getElem? (i := 1389) (by decide +kernel), List.mem_of_getElem? (i := 1390) (by decide +kernel)⟩
theorem lw_p52 : lw_okq (⟨"ShadowNightModel", "exchange", "(II)V"⟩, 50) := ⟨⟨by decide +kernel, by decide +kernel⟩, List.mem_of_getElem? (i := 1022) (by decide +kernel), List.mem_of_getElem? (i := 1393) (by decide +kernel), List.mem_of_getElem? (i := 1394) (by decide +kernel)⟩
theorem lw_p53 : lw_okq (⟨"ShadowNightModel", "marksTold", "()I"⟩, 50) := ⟨⟨by decide +kernel, by decide +kernel⟩, List.mem_of_getElem? (i := 1022) (by decide +kernel), List.mem_of_getElem? (i := 1402) (by decide +kernel), List.mem_of_getElem? (i := 1403) (by decide +kernel)⟩
theorem lw_p54 : lw_okq (⟨"ShadowNightModel", "isCut", "(I)Z"⟩, 50) := ⟨⟨by decide +kernel, by decide +kernel⟩, List.mem_of_getElem? (i := 1022) (by decide +kernel), List.mem_of_getElem? (i := 1414) (by decide +kernel), List.mem_of_getElem? (i := 1415) (by decide +kernel)⟩
theorem lw_p55 : lw_okq (⟨"ShadowNightModel", "mayCut", "(I)Z"⟩, 50) := ⟨⟨by decide +kernel, by decide +kernel⟩, List.mem_of_getElem? (i := 1022) (by decide +kernel), List.mem_of_getElem? (i := 1418) (by decide +kernel), List.mem_of_getElem? (i := 1419) (by decide +kernel)⟩
theorem lw_p56 : lw_okq (⟨"ShadowNightModel", "goes", "(IIII)Z"⟩, 50) := ⟨⟨by decide +kernel, by decide +kernel⟩, List.mem_of_getElem? (i := 1022) (by decide +kernel), List.mem_of_getElem? (i := 1422) (by decide +kernel), List.mem_of_getElem? (i := 1423) (by decide +kernel)⟩
theorem lw_p57 : lw_okq (⟨"ShadowNightModel", "lengthOf", "(I)I"⟩, 50) := ⟨⟨by decide +kernel, by decide +kernel⟩, List.mem_of_getElem? (i := 1022) (by decide +kernel), List.mem_of_getElem? (i := 1430) (by decide +kernel), List.mem_of_getElem? (i := 1431) (by decide +kernel)⟩
theorem lw_p58 : lw_okq (⟨"ShadowNightModel", "leaves", "(II)V"⟩, 50) := ⟨⟨by decide +kernel, by decide +kernel⟩, List.mem_of_getElem? (i := 1022) (by decide +kernel), List.mem_of_getElem? (i := 1461) (by decide +kernel), List.mem_of_getElem? (i := 1462) (by decide +kernel)⟩
theorem lw_p59 : lw_okq (⟨"ShadowNightModel", "leastOf", "()I"⟩, 50) := ⟨⟨by decide +kernel, by decide +kernel⟩, List.mem_of_getElem? (i := 1022) (by decide +kernel), List.mem_of_getElem? (i := 1480) (by decide +kernel), List.mem_of_getElem? (i := 1481) (by decide +kernel)⟩
theorem lw_p60 : lw_okq (⟨"ShadowNightModel", "isTold", "(I)Z"⟩, 50) := ⟨⟨by decide +kernel, by decide +kernel⟩, List.mem_of_getElem? (i := 1022) (by decide +kernel), List.mem_of_getElem? (i := 1499) (by decide +kernel), List.mem_of_getElem? (i := 1500) (by decide +kernel)⟩
theorem lw_p61 : lw_okq (⟨"ShadowNightModel", "part", "(II)I"⟩, 50) := ⟨⟨by decide +kernel, by decide +kernel⟩, List.mem_of_getElem? (i := 1022) (by decide +kernel), List.mem_of_getElem? (i := 1503) (by decide +kernel), List.mem_of_getElem? (i := 1504) (by decide +kernel)⟩
theorem lw_p62 : lw_okq (⟨"ShadowNightModel", "isPlain", "(II)Z"⟩, 50) := ⟨⟨by decide +kernel, by decide +kernel⟩, List.mem_of_getElem? (i := 1022) (by decide +kernel), List.mem_of_getElem? (i := 1518) (by decide +kernel), List.mem_of_getElem? (i := 1519) (by decide +kernel)⟩
theorem lw_p63 : lw_okq (⟨"ShadowNightModel", "isMistaken", "(I)Z"⟩, 50) := ⟨⟨by decide +kernel, by decide +kernel⟩, List.mem_of_getElem? (i := 1022) (by decide +kernel), List.mem_of_getElem? (i := 1530) (by decide +kernel), List.mem_of_getElem? (i := 1531) (by decide +kernel)⟩
def lw_privs_4 : List (MethodName × Nat) := [(⟨"ShadowNightModel", "fits", "(III)Z"⟩, 50), (⟨"ShadowNightModel", "setTakes", "()V"⟩, 50), (⟨"ShadowNightModel", "reaches", "(I)I"⟩, 50), (⟨"ShadowNightModel", "nextOrder", "(I)Z"⟩, 50), (⟨"ShadowNightModel", "exchange", "(II)V"⟩, 50), (⟨"ShadowNightModel", "marksTold", "()I"⟩, 50), (⟨"ShadowNightModel", "isCut", "(I)Z"⟩, 50), (⟨"ShadowNightModel", "mayCut", "(I)Z"⟩, 50), (⟨"ShadowNightModel", "goes", "(IIII)Z"⟩, 50), (⟨"ShadowNightModel", "lengthOf", "(I)I"⟩, 50), (⟨"ShadowNightModel", "leaves", "(II)V"⟩, 50), (⟨"ShadowNightModel", "leastOf", "()I"⟩, 50), (⟨"ShadowNightModel", "isTold", "(I)Z"⟩, 50), (⟨"ShadowNightModel", "part", "(II)I"⟩, 50), (⟨"ShadowNightModel", "isPlain", "(II)Z"⟩, 50), (⟨"ShadowNightModel", "isMistaken", "(I)Z"⟩, 50)]
theorem lw_r4 : ∀ q ∈ lw_privs_4, lw_okq q := List.forall_mem_cons.mpr ⟨lw_p48, List.forall_mem_cons.mpr ⟨lw_p49, List.forall_mem_cons.mpr ⟨lw_p50, List.forall_mem_cons.mpr ⟨lw_p51, List.forall_mem_cons.mpr ⟨lw_p52, List.forall_mem_cons.mpr ⟨lw_p53, List.forall_mem_cons.mpr ⟨lw_p54, List.forall_mem_cons.mpr ⟨lw_p55, List.forall_mem_cons.mpr ⟨lw_p56, List.forall_mem_cons.mpr ⟨lw_p57, List.forall_mem_cons.mpr ⟨lw_p58, List.forall_mem_cons.mpr ⟨lw_p59, List.forall_mem_cons.mpr ⟨lw_p60, List.forall_mem_cons.mpr ⟨lw_p61, List.forall_mem_cons.mpr ⟨lw_p62, List.forall_mem_cons.mpr ⟨lw_p63, fun _ h => absurd h List.not_mem_nil⟩⟩⟩⟩⟩⟩⟩⟩⟩⟩⟩⟩⟩⟩⟩⟩
theorem lw_p64 : lw_okq (⟨"ShadowNightModel", "isAhead", "(II)Z"⟩, 50) := ⟨⟨by decide +kernel, by decide +kernel⟩, List.mem_of_getElem? (i := 1022) (by decide +kernel), List.mem_of_getElem? (i := 1534) (by decide +kernel), List.mem_of_getElem? (i := 1535) (by decide +kernel)⟩
theorem lw_p65 : lw_okq (⟨"ShadowNightModel", "counts", "(I)I"⟩, 50) := ⟨⟨by decide +kernel, by decide +kernel⟩, List.mem_of_getElem? (i := 1022) (by decide +kernel), List.mem_of_getElem? (i := 1554) (by decide +kernel), List.mem_of_getElem? (i := 1555) (by decide +kernel)⟩
theorem lw_p66 : lw_okq (⟨"ShadowNightModel", "mix", "(I)V"⟩, 50) := ⟨⟨by decide +kernel, by decide +kernel⟩, List.mem_of_getElem? (i := 1022) (by decide +kernel), List.mem_of_getElem? (i := 1571) (by decide +kernel), List.mem_of_getElem? (i := 1572) (by decide +kernel)⟩
theorem lw_p67 : lw_okq (⟨"ShadowNightModel", "mixNight", "()V"⟩, 50) := ⟨⟨by decide +kernel, by decide +kernel⟩, List.mem_of_getElem? (i := 1022) (by decide +kernel), List.mem_of_getElem? (i := 1576) (by decide +kernel), List.mem_of_getElem? (i := 1577) (by decide +kernel)⟩
def lw_privs_5 : List (MethodName × Nat) := [(⟨"ShadowNightModel", "isAhead", "(II)Z"⟩, 50), (⟨"ShadowNightModel", "counts", "(I)I"⟩, 50), (⟨"ShadowNightModel", "mix", "(I)V"⟩, 50), (⟨"ShadowNightModel", "mixNight", "()V"⟩, 50)]
theorem lw_r5 : ∀ q ∈ lw_privs_5, lw_okq q := List.forall_mem_cons.mpr ⟨lw_p64, List.forall_mem_cons.mpr ⟨lw_p65, List.forall_mem_cons.mpr ⟨lw_p66, List.forall_mem_cons.mpr ⟨lw_p67, fun _ h => absurd h List.not_mem_nil⟩⟩⟩⟩
def lw_privs : List (MethodName × Nat) := lw_privs_1 ++ (lw_privs_2 ++ (lw_privs_3 ++ (lw_privs_4 ++ (lw_privs_5))))
def lw_tbl : List Cond := k2_sels lw_privs ++ tables_1
theorem lw_privs_ok : ∀ q ∈ lw_privs, lw_okq q := by
  show ∀ q ∈ lw_privs_1 ++ (lw_privs_2 ++ (lw_privs_3 ++ (lw_privs_4 ++ (lw_privs_5)))), lw_okq q
  exact List.forall_mem_append.mpr ⟨lw_r1, List.forall_mem_append.mpr ⟨lw_r2, List.forall_mem_append.mpr ⟨lw_r3, List.forall_mem_append.mpr ⟨lw_r4, lw_r5⟩⟩⟩⟩

def RX0 : String := "ShadowNight$Chronicle"
def TX0 : u_T := fun k => match k with
  | 0 => ("ShadowNight$Chronicle", "moments", "[LShadowNight$Moment;", true)
  | _ => ("ShadowNight$Chronicle", "size", "I", false)
def tyX0 : Nat → FieldType := fun k => match k with
  | 0 => .array (.object "ShadowNight$Moment")
  | _ => .int
abbrev wsX00 : List Cond := u_ws RX0 TX0 2
theorem nmX0 : ∀ a, a < 2 → ∀ b, b < 2 → a ≠ b → (TX0 a).2.1 ≠ (TX0 b).2.1 := by decide +kernel
theorem tyX0_ok : ∀ k, k < 2 → parseFieldDescriptor (TX0 k).2.2.1 = some (tyX0 k) := by decide +kernel
abbrev cX0_init : ByteArray := prog_2_method_1_code
def yX0_init : MethodName := ⟨RX0, "<init>", "()V"⟩
abbrev cX0_has : ByteArray := prog_2_method_2_code
def yX0_has : MethodName := ⟨RX0, "has", "(I)Z"⟩
abbrev cX0_add : ByteArray := prog_2_method_3_code
def yX0_add : MethodName := ⟨RX0, "add", "(IIIII)I"⟩
abbrev cX0_heldOnes : ByteArray := prog_2_method_4_code
def yX0_heldOnes : MethodName := ⟨RX0, "heldOnes", "()I"⟩
abbrev cX0_isEarlier : ByteArray := prog_2_method_5_code
def yX0_isEarlier : MethodName := ⟨RX0, "isEarlier", "(II)Z"⟩
abbrev cX0_isMistaken : ByteArray := prog_2_method_6_code
def yX0_isMistaken : MethodName := ⟨RX0, "isMistaken", "(I)Z"⟩
abbrev cX0_addTo : ByteArray := prog_2_method_7_code
def yX0_addTo : MethodName := ⟨RX0, "addTo", "(J)J"⟩
def RX1 : String := "ShadowNight$Hands"
def TX1 : u_T := fun k => match k with
  | 0 => ("ShadowNight$Hands", "masks", "[I", true)
  | _ => ("ShadowNight$Hands", "costs", "[I", true)
def tyX1 : Nat → FieldType := fun k => match k with
  | 0 => .array .int
  | _ => .array .int
abbrev wsX10 : List Cond := u_ws RX1 TX1 2
theorem nmX1 : ∀ a, a < 2 → ∀ b, b < 2 → a ≠ b → (TX1 a).2.1 ≠ (TX1 b).2.1 := by decide +kernel
theorem tyX1_ok : ∀ k, k < 2 → parseFieldDescriptor (TX1 k).2.2.1 = some (tyX1 k) := by decide +kernel
abbrev cX1_init : ByteArray := prog_3_method_1_code
def yX1_init : MethodName := ⟨RX1, "<init>", "()V"⟩
abbrev cX1_fewest : ByteArray := prog_3_method_2_code
def yX1_fewest : MethodName := ⟨RX1, "fewest", "(LShadowNight$Story;)I"⟩
abbrev cX1_packed : ByteArray := prog_3_method_3_code
def yX1_packed : MethodName := ⟨RX1, "packed", "(II)I"⟩
abbrev cX1_change : ByteArray := prog_3_method_4_code
def yX1_change : MethodName := ⟨RX1, "change", "(I)V"⟩
abbrev cX1_changeOne : ByteArray := prog_3_method_5_code
def yX1_changeOne : MethodName := ⟨RX1, "changeOne", "(II)V"⟩
abbrev cX1_keepFitting : ByteArray := prog_3_method_6_code
def yX1_keepFitting : MethodName := ⟨RX1, "keepFitting", "(II)V"⟩
def RX2 : String := "ShadowNight$Hide"
def TX2 : u_T := fun k => match k with
  | 0 => ("ShadowNight$Hide", "there", "Z", false)
  | 1 => ("ShadowNight$Hide", "width", "I", false)
  | 2 => ("ShadowNight$Hide", "height", "I", false)
  | _ => ("ShadowNight$Hide", "outline", "I", false)
def tyX2 : Nat → FieldType := fun k => match k with
  | 0 => .boolean
  | 1 => .int
  | 2 => .int
  | _ => .int
abbrev wsX20 : List Cond := u_ws RX2 TX2 4
theorem nmX2 : ∀ a, a < 4 → ∀ b, b < 4 → a ≠ b → (TX2 a).2.1 ≠ (TX2 b).2.1 := by decide +kernel
theorem tyX2_ok : ∀ k, k < 4 → parseFieldDescriptor (TX2 k).2.2.1 = some (tyX2 k) := by decide +kernel
abbrev cX2_init : ByteArray := prog_4_method_1_code
def yX2_init : MethodName := ⟨RX2, "<init>", "()V"⟩
abbrev cX2_make : ByteArray := prog_4_method_2_code
def yX2_make : MethodName := ⟨RX2, "make", "(III)V"⟩
abbrev cX2_tells : ByteArray := prog_4_method_3_code
def yX2_tells : MethodName := ⟨RX2, "tells", "(I)I"⟩
abbrev cX2_turned : ByteArray := prog_4_method_4_code
def yX2_turned : MethodName := ⟨RX2, "turned", "(I)I"⟩
abbrev cX2_between : ByteArray := prog_4_method_5_code
def yX2_between : MethodName := ⟨RX2, "between", "(II)I"⟩
def RX3 : String := "ShadowNight$Moment"
def TX3 : u_T := fun k => match k with
  | 0 => ("ShadowNight$Moment", "kind", "I", false)
  | 1 => ("ShadowNight$Moment", "second", "I", false)
  | 2 => ("ShadowNight$Moment", "hide", "I", false)
  | 3 => ("ShadowNight$Moment", "v", "I", false)
  | _ => ("ShadowNight$Moment", "w", "I", false)
def tyX3 : Nat → FieldType := fun k => match k with
  | 0 => .int
  | 1 => .int
  | 2 => .int
  | 3 => .int
  | _ => .int
abbrev wsX30 : List Cond := u_ws RX3 TX3 5
theorem nmX3 : ∀ a, a < 5 → ∀ b, b < 5 → a ≠ b → (TX3 a).2.1 ≠ (TX3 b).2.1 := by decide +kernel
theorem tyX3_ok : ∀ k, k < 5 → parseFieldDescriptor (TX3 k).2.2.1 = some (tyX3 k) := by decide +kernel
abbrev cX3_init : ByteArray := prog_5_method_1_code
def yX3_init : MethodName := ⟨RX3, "<init>", "()V"⟩
abbrev cX3_hasHide : ByteArray := prog_5_method_2_code
def yX3_hasHide : MethodName := ⟨RX3, "hasHide", "(I)Z"⟩
abbrev cX3_fits : ByteArray := prog_5_method_3_code
def yX3_fits : MethodName := ⟨RX3, "fits", "(IIII)Z"⟩
abbrev cX3_isOf : ByteArray := prog_5_method_4_code
def yX3_isOf : MethodName := ⟨RX3, "isOf", "(I)Z"⟩
abbrev cX3_wantsHeld : ByteArray := prog_5_method_5_code
def yX3_wantsHeld : MethodName := ⟨RX3, "wantsHeld", "(I)Z"⟩
abbrev cX3_tells : ByteArray := prog_5_method_6_code
def yX3_tells : MethodName := ⟨RX3, "tells", "(I)I"⟩
def RX4 : String := "ShadowNight$Night"
def TX4 : u_T := fun k => match k with
  | 0 => ("ShadowNight$Night", "earliest", "I", false)
  | 1 => ("ShadowNight$Night", "latest", "I", false)
  | 2 => ("ShadowNight$Night", "leastLength", "I", false)
  | 3 => ("ShadowNight$Night", "best", "I", false)
  | _ => ("ShadowNight$Night", "fewest", "I", false)
def tyX4 : Nat → FieldType := fun k => match k with
  | 0 => .int
  | 1 => .int
  | 2 => .int
  | 3 => .int
  | _ => .int
abbrev wsX40 : List Cond := u_ws RX4 TX4 5
theorem nmX4 : ∀ a, a < 5 → ∀ b, b < 5 → a ≠ b → (TX4 a).2.1 ≠ (TX4 b).2.1 := by decide +kernel
theorem tyX4_ok : ∀ k, k < 5 → parseFieldDescriptor (TX4 k).2.2.1 = some (tyX4 k) := by decide +kernel
abbrev cX4_init : ByteArray := prog_6_method_1_code
def yX4_init : MethodName := ⟨RX4, "<init>", "()V"⟩
abbrev cX4_open : ByteArray := prog_6_method_2_code
def yX4_open : MethodName := ⟨RX4, "open", "()V"⟩
abbrev cX4_meets : ByteArray := prog_6_method_3_code
def yX4_meets : MethodName := ⟨RX4, "meets", "(LShadowNight$Scene;)Z"⟩
abbrev cX4_pass : ByteArray := prog_6_method_4_code
def yX4_pass : MethodName := ⟨RX4, "pass", "(II)V"⟩
abbrev cX4_canStay : ByteArray := prog_6_method_5_code
def yX4_canStay : MethodName := ⟨RX4, "canStay", "(LShadowNight$Scene;I)Z"⟩
abbrev cX4_isGood : ByteArray := prog_6_method_6_code
def yX4_isGood : MethodName := ⟨RX4, "isGood", "(LShadowNight$Story;III)Z"⟩
abbrev cX4_leastCut : ByteArray := prog_6_method_7_code
def yX4_leastCut : MethodName := ⟨RX4, "leastCut", "(LShadowNight$Story;)I"⟩
abbrev cX4_cutFrom : ByteArray := prog_6_method_8_code
def yX4_cutFrom : MethodName := ⟨RX4, "cutFrom", "(LShadowNight$Night;LShadowNight$Story;IIII)V"⟩
abbrev cX4_canBegin : ByteArray := prog_6_method_9_code
def yX4_canBegin : MethodName := ⟨RX4, "canBegin", "(LShadowNight$Story;II)Z"⟩
abbrev cX4_fewestThatShow : ByteArray := prog_6_method_10_code
def yX4_fewestThatShow : MethodName := ⟨RX4, "fewestThatShow", "(LShadowNight$Story;I)I"⟩
abbrev cX4_showFrom : ByteArray := prog_6_method_11_code
def yX4_showFrom : MethodName := ⟨RX4, "showFrom", "(LShadowNight$Night;LShadowNight$Story;IIII)V"⟩
abbrev cX4_keepBetter : ByteArray := prog_6_method_12_code
def yX4_keepBetter : MethodName := ⟨RX4, "keepBetter", "(II)V"⟩
def RX5 : String := "ShadowNight$Scene"
def TX5 : u_T := fun k => match k with
  | 0 => ("ShadowNight$Scene", "shown", "I", false)
  | 1 => ("ShadowNight$Scene", "held", "I", false)
  | 2 => ("ShadowNight$Scene", "least", "I", false)
  | 3 => ("ShadowNight$Scene", "most", "I", false)
  | 4 => ("ShadowNight$Scene", "firm", "Z", false)
  | 5 => ("ShadowNight$Scene", "from", "I", false)
  | 6 => ("ShadowNight$Scene", "to", "I", false)
  | _ => ("ShadowNight$Scene", "needs", "I", false)
def tyX5 : Nat → FieldType := fun k => match k with
  | 0 => .int
  | 1 => .int
  | 2 => .int
  | 3 => .int
  | 4 => .boolean
  | 5 => .int
  | 6 => .int
  | _ => .int
abbrev wsX50 : List Cond := u_ws RX5 TX5 8
theorem nmX5 : ∀ a, a < 8 → ∀ b, b < 8 → a ≠ b → (TX5 a).2.1 ≠ (TX5 b).2.1 := by decide +kernel
theorem tyX5_ok : ∀ k, k < 8 → parseFieldDescriptor (TX5 k).2.2.1 = some (tyX5 k) := by decide +kernel
abbrev cX5_init : ByteArray := prog_7_method_1_code
def yX5_init : MethodName := ⟨RX5, "<init>", "()V"⟩
abbrev cX5_empty : ByteArray := prog_7_method_2_code
def yX5_empty : MethodName := ⟨RX5, "empty", "()V"⟩
abbrev cX5_isMarked : ByteArray := prog_7_method_3_code
def yX5_isMarked : MethodName := ⟨RX5, "isMarked", "()Z"⟩
abbrev cX5_canBeCut : ByteArray := prog_7_method_4_code
def yX5_canBeCut : MethodName := ⟨RX5, "canBeCut", "()Z"⟩
abbrev cX5_tells : ByteArray := prog_7_method_5_code
def yX5_tells : MethodName := ⟨RX5, "tells", "(I)I"⟩
abbrev cX5_addTo : ByteArray := prog_7_method_6_code
def yX5_addTo : MethodName := ⟨RX5, "addTo", "(J)J"⟩
def RX6 : String := "ShadowNight$Signs"
def TX6 : u_T := fun k => match k with
  | 0 => ("ShadowNight$Signs", "sizes", "[I", true)
  | 1 => ("ShadowNight$Signs", "knocks", "[I", true)
  | 2 => ("ShadowNight$Signs", "weights", "[I", true)
  | 3 => ("ShadowNight$Signs", "queue", "[I", true)
  | 4 => ("ShadowNight$Signs", "queued", "[Z", true)
  | _ => ("ShadowNight$Signs", "queueSize", "I", false)
def tyX6 : Nat → FieldType := fun k => match k with
  | 0 => .array .int
  | 1 => .array .int
  | 2 => .array .int
  | 3 => .array .int
  | 4 => .array .boolean
  | _ => .int
abbrev wsX60 : List Cond := u_ws RX6 TX6 6
theorem nmX6 : ∀ a, a < 6 → ∀ b, b < 6 → a ≠ b → (TX6 a).2.1 ≠ (TX6 b).2.1 := by decide +kernel
theorem tyX6_ok : ∀ k, k < 6 → parseFieldDescriptor (TX6 k).2.2.1 = some (tyX6 k) := by decide +kernel
abbrev cX6_init : ByteArray := prog_8_method_1_code
def yX6_init : MethodName := ⟨RX6, "<init>", "()V"⟩
abbrev cX6_sizeOf : ByteArray := prog_8_method_2_code
def yX6_sizeOf : MethodName := ⟨RX6, "sizeOf", "(I)I"⟩
abbrev cX6_withKnocks : ByteArray := prog_8_method_3_code
def yX6_withKnocks : MethodName := ⟨RX6, "withKnocks", "()I"⟩
abbrev cX6_learn : ByteArray := prog_8_method_4_code
def yX6_learn : MethodName := ⟨RX6, "learn", "(ILShadowNight$Strip;)V"⟩
abbrev cX6_firstBeginning : ByteArray := prog_8_method_5_code
def yX6_firstBeginning : MethodName := ⟨RX6, "firstBeginning", "()I"⟩
abbrev cX6_agree : ByteArray := prog_8_method_6_code
def yX6_agree : MethodName := ⟨RX6, "agree", "(III)Z"⟩
abbrev cX6_areSure : ByteArray := prog_8_method_7_code
def yX6_areSure : MethodName := ⟨RX6, "areSure", "()Z"⟩
abbrev cX6_follow : ByteArray := prog_8_method_8_code
def yX6_follow : MethodName := ⟨RX6, "follow", "(III)Z"⟩
abbrev cX6_emptyQueue : ByteArray := prog_8_method_9_code
def yX6_emptyQueue : MethodName := ⟨RX6, "emptyQueue", "()V"⟩
abbrev cX6_enqueue : ByteArray := prog_8_method_10_code
def yX6_enqueue : MethodName := ⟨RX6, "enqueue", "(I)V"⟩
abbrev cX6_leastKnocks : ByteArray := prog_8_method_11_code
def yX6_leastKnocks : MethodName := ⟨RX6, "leastKnocks", "(LShadowNight$Strip;)I"⟩
abbrev cX6_moveLeastBehind : ByteArray := prog_8_method_12_code
def yX6_moveLeastBehind : MethodName := ⟨RX6, "moveLeastBehind", "(I)V"⟩
abbrev cX6_addTo : ByteArray := prog_8_method_13_code
def yX6_addTo : MethodName := ⟨RX6, "addTo", "(J)J"⟩
def RX7 : String := "ShadowNight$Stage"
def TX7 : u_T := fun k => match k with
  | 0 => ("ShadowNight$Stage", "hides", "[LShadowNight$Hide;", true)
  | 1 => ("ShadowNight$Stage", "distance", "I", false)
  | 2 => ("ShadowNight$Stage", "greatness", "I", false)
  | _ => ("ShadowNight$Stage", "nearestPair", "I", false)
def tyX7 : Nat → FieldType := fun k => match k with
  | 0 => .array (.object "ShadowNight$Hide")
  | 1 => .int
  | 2 => .int
  | _ => .int
abbrev wsX70 : List Cond := u_ws RX7 TX7 4
theorem nmX7 : ∀ a, a < 4 → ∀ b, b < 4 → a ≠ b → (TX7 a).2.1 ≠ (TX7 b).2.1 := by decide +kernel
theorem tyX7_ok : ∀ k, k < 4 → parseFieldDescriptor (TX7 k).2.2.1 = some (tyX7 k) := by decide +kernel
abbrev cX7_init : ByteArray := prog_9_method_1_code
def yX7_init : MethodName := ⟨RX7, "<init>", "()V"⟩
abbrev cX7_hasHide : ByteArray := prog_9_method_2_code
def yX7_hasHide : MethodName := ⟨RX7, "hasHide", "(I)Z"⟩
abbrev cX7_hidesThere : ByteArray := prog_9_method_3_code
def yX7_hidesThere : MethodName := ⟨RX7, "hidesThere", "()I"⟩
abbrev cX7_canHold : ByteArray := prog_9_method_4_code
def yX7_canHold : MethodName := ⟨RX7, "canHold", "(II)Z"⟩
abbrev cX7_shadowUpper : ByteArray := prog_9_method_5_code
def yX7_shadowUpper : MethodName := ⟨RX7, "shadowUpper", "(LShadowNight$Hide;III)J"⟩
abbrev cX7_findNearest : ByteArray := prog_9_method_6_code
def yX7_findNearest : MethodName := ⟨RX7, "findNearest", "()I"⟩
abbrev cX7_fromNearest : ByteArray := prog_9_method_7_code
def yX7_fromNearest : MethodName := ⟨RX7, "fromNearest", "(II)I"⟩
abbrev cX7_standsOut : ByteArray := prog_9_method_8_code
def yX7_standsOut : MethodName := ⟨RX7, "standsOut", "(II)Z"⟩
abbrev cX7_idleCells : ByteArray := prog_9_method_9_code
def yX7_idleCells : MethodName := ⟨RX7, "idleCells", "(I)I"⟩
abbrev cX7_addTo : ByteArray := prog_9_method_10_code
def yX7_addTo : MethodName := ⟨RX7, "addTo", "(J)J"⟩
def RX8 : String := "ShadowNight$Story"
def TX8 : u_T := fun k => match k with
  | 0 => ("ShadowNight$Story", "scenes", "[LShadowNight$Scene;", false)
  | 1 => ("ShadowNight$Story", "size", "I", false)
  | 2 => ("ShadowNight$Story", "draft", "[LShadowNight$Scene;", false)
  | 3 => ("ShadowNight$Story", "draftSize", "I", false)
  | _ => ("ShadowNight$Story", "spot", "I", false)
def tyX8 : Nat → FieldType := fun k => match k with
  | 0 => .array (.object "ShadowNight$Scene")
  | 1 => .int
  | 2 => .array (.object "ShadowNight$Scene")
  | 3 => .int
  | _ => .int
abbrev wsX80 : List Cond := u_ws RX8 TX8 5
theorem nmX8 : ∀ a, a < 5 → ∀ b, b < 5 → a ≠ b → (TX8 a).2.1 ≠ (TX8 b).2.1 := by decide +kernel
theorem tyX8_ok : ∀ k, k < 5 → parseFieldDescriptor (TX8 k).2.2.1 = some (tyX8 k) := by decide +kernel
abbrev cX8_init : ByteArray := prog_10_method_1_code
def yX8_init : MethodName := ⟨RX8, "<init>", "()V"⟩
abbrev cX8_has : ByteArray := prog_10_method_2_code
def yX8_has : MethodName := ⟨RX8, "has", "(I)Z"⟩
abbrev cX8_hasAll : ByteArray := prog_10_method_3_code
def yX8_hasAll : MethodName := ⟨RX8, "hasAll", "(I)Z"⟩
abbrev cX8_named : ByteArray := prog_10_method_4_code
def yX8_named : MethodName := ⟨RX8, "named", "()I"⟩
abbrev cX8_marked : ByteArray := prog_10_method_5_code
def yX8_marked : MethodName := ⟨RX8, "marked", "()I"⟩
abbrev cX8_takeDraft : ByteArray := prog_10_method_6_code
def yX8_takeDraft : MethodName := ⟨RX8, "takeDraft", "()V"⟩
abbrev cX8_read : ByteArray := prog_10_method_7_code
def yX8_read : MethodName := ⟨RX8, "read", "(LShadowNight$Strip;)I"⟩
abbrev cX8_sign : ByteArray := prog_10_method_8_code
def yX8_sign : MethodName := ⟨RX8, "sign", "(LShadowNight$Strip;)I"⟩
abbrev cX8_skipBlanks : ByteArray := prog_10_method_9_code
def yX8_skipBlanks : MethodName := ⟨RX8, "skipBlanks", "(LShadowNight$Strip;)V"⟩
abbrev cX8_readScene : ByteArray := prog_10_method_10_code
def yX8_readScene : MethodName := ⟨RX8, "readScene", "(LShadowNight$Strip;LShadowNight$Scene;)Z"⟩
abbrev cX8_readHides : ByteArray := prog_10_method_11_code
def yX8_readHides : MethodName := ⟨RX8, "readHides", "(LShadowNight$Strip;LShadowNight$Scene;)Z"⟩
abbrev cX8_readLength : ByteArray := prog_10_method_12_code
def yX8_readLength : MethodName := ⟨RX8, "readLength", "(LShadowNight$Strip;)I"⟩
abbrev cX8_addTo : ByteArray := prog_10_method_13_code
def yX8_addTo : MethodName := ⟨RX8, "addTo", "(J)J"⟩
def RX9 : String := "ShadowNight$Strip"
def TX9 : u_T := fun k => match k with
  | 0 => ("ShadowNight$Strip", "places", "[I", true)
  | _ => ("ShadowNight$Strip", "size", "I", false)
def tyX9 : Nat → FieldType := fun k => match k with
  | 0 => .array .int
  | _ => .int
abbrev wsX90 : List Cond := u_ws RX9 TX9 2
theorem nmX9 : ∀ a, a < 2 → ∀ b, b < 2 → a ≠ b → (TX9 a).2.1 ≠ (TX9 b).2.1 := by decide +kernel
theorem tyX9_ok : ∀ k, k < 2 → parseFieldDescriptor (TX9 k).2.2.1 = some (tyX9 k) := by decide +kernel
abbrev cX9_init : ByteArray := prog_11_method_1_code
def yX9_init : MethodName := ⟨RX9, "<init>", "()V"⟩
abbrev cX9_isThere : ByteArray := prog_11_method_2_code
def yX9_isThere : MethodName := ⟨RX9, "isThere", "()Z"⟩
abbrev cX9_make : ByteArray := prog_11_method_3_code
def yX9_make : MethodName := ⟨RX9, "make", "(II)V"⟩
abbrev cX9_remove : ByteArray := prog_11_method_4_code
def yX9_remove : MethodName := ⟨RX9, "remove", "()V"⟩
abbrev cX9_has : ByteArray := prog_11_method_5_code
def yX9_has : MethodName := ⟨RX9, "has", "(I)Z"⟩
abbrev cX9_hasRun : ByteArray := prog_11_method_6_code
def yX9_hasRun : MethodName := ⟨RX9, "hasRun", "(II)Z"⟩
abbrev cX9_get : ByteArray := prog_11_method_7_code
def yX9_get : MethodName := ⟨RX9, "get", "(I)I"⟩
abbrev cX9_set : ByteArray := prog_11_method_8_code
def yX9_set : MethodName := ⟨RX9, "set", "(II)V"⟩
abbrev cX9_sum : ByteArray := prog_11_method_9_code
def yX9_sum : MethodName := ⟨RX9, "sum", "()J"⟩
abbrev cX9_isAllWithin : ByteArray := prog_11_method_10_code
def yX9_isAllWithin : MethodName := ⟨RX9, "isAllWithin", "(II)Z"⟩
abbrev cX9_addTo : ByteArray := prog_11_method_11_code
def yX9_addTo : MethodName := ⟨RX9, "addTo", "(J)J"⟩
def RX10 : String := "ShadowNight$Trunk"
def TX10 : u_T := fun k => match k with
  | 0 => ("ShadowNight$Trunk", "takenHides", "[I", true)
  | 1 => ("ShadowNight$Trunk", "taken", "I", false)
  | 2 => ("ShadowNight$Trunk", "placeOf", "[I", true)
  | _ => ("ShadowNight$Trunk", "reachBehind", "[I", true)
def tyX10 : Nat → FieldType := fun k => match k with
  | 0 => .array .int
  | 1 => .int
  | 2 => .array .int
  | _ => .array .int
abbrev wsX100 : List Cond := u_ws RX10 TX10 4
theorem nmX10 : ∀ a, a < 4 → ∀ b, b < 4 → a ≠ b → (TX10 a).2.1 ≠ (TX10 b).2.1 := by decide +kernel
theorem tyX10_ok : ∀ k, k < 4 → parseFieldDescriptor (TX10 k).2.2.1 = some (tyX10 k) := by decide +kernel
abbrev cX10_init : ByteArray := prog_12_method_1_code
def yX10_init : MethodName := ⟨RX10, "<init>", "()V"⟩
abbrev cX10_gather : ByteArray := prog_12_method_2_code
def yX10_gather : MethodName := ⟨RX10, "gather", "(LShadowNight$Story;)V"⟩
abbrev cX10_last : ByteArray := prog_12_method_3_code
def yX10_last : MethodName := ⟨RX10, "last", "()I"⟩
abbrev cX10_putInOrder : ByteArray := prog_12_method_4_code
def yX10_putInOrder : MethodName := ⟨RX10, "putInOrder", "(LShadowNight$Strip;I)Z"⟩
abbrev cX10_reach : ByteArray := prog_12_method_5_code
def yX10_reach : MethodName := ⟨RX10, "reach", "()I"⟩
abbrev cX10_leastReach : ByteArray := prog_12_method_6_code
def yX10_leastReach : MethodName := ⟨RX10, "leastReach", "(ILShadowNight$Strip;)I"⟩
abbrev cX10_passedOver : ByteArray := prog_12_method_7_code
def yX10_passedOver : MethodName := ⟨RX10, "passedOver", "(I)I"⟩
abbrev cX10_leastFrom : ByteArray := prog_12_method_8_code
def yX10_leastFrom : MethodName := ⟨RX10, "leastFrom", "(II)I"⟩
abbrev cX10_firstLeast : ByteArray := prog_12_method_9_code
def yX10_firstLeast : MethodName := ⟨RX10, "firstLeast", "(III)I"⟩
abbrev cX10_isReached : ByteArray := prog_12_method_10_code
def yX10_isReached : MethodName := ⟨RX10, "isReached", "(I)Z"⟩
def RX11 : String := "ShadowNight"
def TX11 : u_T := fun k => match k with
  | 0 => ("ShadowNight", "rows", "[LShadowNight$Strip;", true)
  | 1 => ("ShadowNight", "texts", "[LShadowNight$Strip;", true)
  | 2 => ("ShadowNight", "stage", "LShadowNight$Stage;", true)
  | 3 => ("ShadowNight", "story", "LShadowNight$Story;", true)
  | 4 => ("ShadowNight", "night", "LShadowNight$Night;", true)
  | 5 => ("ShadowNight", "hands", "LShadowNight$Hands;", true)
  | 6 => ("ShadowNight", "trunk", "LShadowNight$Trunk;", true)
  | 7 => ("ShadowNight", "signs", "LShadowNight$Signs;", true)
  | 8 => ("ShadowNight", "chronicle", "LShadowNight$Chronicle;", true)
  | 9 => ("ShadowNight", "findings", "[I", true)
  | 10 => ("ShadowNight", "finding", "I", false)
  | 11 => ("ShadowNight", "asked", "I", false)
  | 12 => ("ShadowNight", "upper", "J", false)
  | _ => ("ShadowNight", "lower", "J", false)
def tyX11 : Nat → FieldType := fun k => match k with
  | 0 => .array (.object "ShadowNight$Strip")
  | 1 => .array (.object "ShadowNight$Strip")
  | 2 => .object "ShadowNight$Stage"
  | 3 => .object "ShadowNight$Story"
  | 4 => .object "ShadowNight$Night"
  | 5 => .object "ShadowNight$Hands"
  | 6 => .object "ShadowNight$Trunk"
  | 7 => .object "ShadowNight$Signs"
  | 8 => .object "ShadowNight$Chronicle"
  | 9 => .array .int
  | 10 => .int
  | 11 => .int
  | 12 => .long
  | _ => .long
abbrev wsX110 : List Cond := u_ws RX11 TX11 14
theorem nmX11 : ∀ a, a < 14 → ∀ b, b < 14 → a ≠ b → (TX11 a).2.1 ≠ (TX11 b).2.1 := by decide +kernel
theorem tyX11_ok : ∀ k, k < 14 → parseFieldDescriptor (TX11 k).2.2.1 = some (tyX11 k) := by decide +kernel
abbrev cX11_init : ByteArray := prog_1_method_1_code
def yX11_init : MethodName := ⟨RX11, "<init>", "()V"⟩
abbrev cX11_row : ByteArray := prog_1_method_2_code
def yX11_row : MethodName := ⟨RX11, "row", "(II)I"⟩
abbrev cX11_lay : ByteArray := prog_1_method_3_code
def yX11_lay : MethodName := ⟨RX11, "lay", "(III)I"⟩
abbrev cX11_at : ByteArray := prog_1_method_4_code
def yX11_at : MethodName := ⟨RX11, "at", "(II)I"⟩
abbrev cX11_tear : ByteArray := prog_1_method_5_code
def yX11_tear : MethodName := ⟨RX11, "tear", "(I)I"⟩
abbrev cX11_copy : ByteArray := prog_1_method_6_code
def yX11_copy : MethodName := ⟨RX11, "copy", "(IIIII)I"⟩
abbrev cX11_mean : ByteArray := prog_1_method_7_code
def yX11_mean : MethodName := ⟨RX11, "mean", "(I)I"⟩
abbrev cX11_text : ByteArray := prog_1_method_8_code
def yX11_text : MethodName := ⟨RX11, "text", "(II)I"⟩
abbrev cX11_put : ByteArray := prog_1_method_9_code
def yX11_put : MethodName := ⟨RX11, "put", "(III)I"⟩
abbrev cX11_hide : ByteArray := prog_1_method_10_code
def yX11_hide : MethodName := ⟨RX11, "hide", "(IIII)I"⟩
abbrev cX11_drop : ByteArray := prog_1_method_11_code
def yX11_drop : MethodName := ⟨RX11, "drop", "(I)I"⟩
abbrev cX11_lamp : ByteArray := prog_1_method_12_code
def yX11_lamp : MethodName := ⟨RX11, "lamp", "(II)I"⟩
abbrev cX11_about : ByteArray := prog_1_method_13_code
def yX11_about : MethodName := ⟨RX11, "about", "(II)I"⟩
abbrev cX11_shadow : ByteArray := prog_1_method_14_code
def yX11_shadow : MethodName := ⟨RX11, "shadow", "(IIII)I"⟩
abbrev cX11_covers : ByteArray := prog_1_method_15_code
def yX11_covers : MethodName := ⟨RX11, "covers", "(IIIIII)I"⟩
abbrev cX11_place : ByteArray := prog_1_method_16_code
def yX11_place : MethodName := ⟨RX11, "place", "(II)I"⟩
abbrev cX11_fault : ByteArray := prog_1_method_17_code
def yX11_fault : MethodName := ⟨RX11, "fault", "(I)I"⟩
abbrev cX11_story : ByteArray := prog_1_method_18_code
def yX11_story : MethodName := ⟨RX11, "story", "(I)I"⟩
abbrev cX11_scene : ByteArray := prog_1_method_19_code
def yX11_scene : MethodName := ⟨RX11, "scene", "(II)I"⟩
abbrev cX11_hands : ByteArray := prog_1_method_20_code
def yX11_hands : MethodName := ⟨RX11, "hands", "()I"⟩
abbrev cX11_third : ByteArray := prog_1_method_21_code
def yX11_third : MethodName := ⟨RX11, "third", "()I"⟩
abbrev cX11_takings : ByteArray := prog_1_method_22_code
def yX11_takings : MethodName := ⟨RX11, "takings", "()I"⟩
abbrev cX11_reaching : ByteArray := prog_1_method_23_code
def yX11_reaching : MethodName := ⟨RX11, "reaching", "(I)I"⟩
abbrev cX11_trunk : ByteArray := prog_1_method_24_code
def yX11_trunk : MethodName := ⟨RX11, "trunk", "(I)I"⟩
abbrev cX11_markScene : ByteArray := prog_1_method_25_code
def yX11_markScene : MethodName := ⟨RX11, "markScene", "(III)I"⟩
abbrev cX11_need : ByteArray := prog_1_method_26_code
def yX11_need : MethodName := ⟨RX11, "need", "(II)I"⟩
abbrev cX11_good : ByteArray := prog_1_method_27_code
def yX11_good : MethodName := ⟨RX11, "good", "(I)I"⟩
abbrev cX11_best : ByteArray := prog_1_method_28_code
def yX11_best : MethodName := ⟨RX11, "best", "()I"⟩
abbrev cX11_begins : ByteArray := prog_1_method_29_code
def yX11_begins : MethodName := ⟨RX11, "begins", "(II)I"⟩
abbrev cX11_laughter : ByteArray := prog_1_method_30_code
def yX11_laughter : MethodName := ⟨RX11, "laughter", "(II)I"⟩
abbrev cX11_tale : ByteArray := prog_1_method_31_code
def yX11_tale : MethodName := ⟨RX11, "tale", "(I)I"⟩
abbrev cX11_knock : ByteArray := prog_1_method_32_code
def yX11_knock : MethodName := ⟨RX11, "knock", "(II)I"⟩
abbrev cX11_clear : ByteArray := prog_1_method_33_code
def yX11_clear : MethodName := ⟨RX11, "clear", "()I"⟩
abbrev cX11_sure : ByteArray := prog_1_method_34_code
def yX11_sure : MethodName := ⟨RX11, "sure", "()I"⟩
abbrev cX11_shortest : ByteArray := prog_1_method_35_code
def yX11_shortest : MethodName := ⟨RX11, "shortest", "(I)I"⟩
abbrev cX11_apart : ByteArray := prog_1_method_36_code
def yX11_apart : MethodName := ⟨RX11, "apart", "(II)I"⟩
abbrev cX11_leastApart : ByteArray := prog_1_method_37_code
def yX11_leastApart : MethodName := ⟨RX11, "leastApart", "()I"⟩
abbrev cX11_matters : ByteArray := prog_1_method_38_code
def yX11_matters : MethodName := ⟨RX11, "matters", "(I)I"⟩
abbrev cX11_moment : ByteArray := prog_1_method_39_code
def yX11_moment : MethodName := ⟨RX11, "moment", "(IIIII)I"⟩
abbrev cX11_told : ByteArray := prog_1_method_40_code
def yX11_told : MethodName := ⟨RX11, "told", "(II)I"⟩
abbrev cX11_mark : ByteArray := prog_1_method_41_code
def yX11_mark : MethodName := ⟨RX11, "mark", "(II)I"⟩
abbrev cX11_seen : ByteArray := prog_1_method_42_code
def yX11_seen : MethodName := ⟨RX11, "seen", "(IZ)I"⟩
abbrev cX11_broken : ByteArray := prog_1_method_43_code
def yX11_broken : MethodName := ⟨RX11, "broken", "(III)I"⟩
abbrev cX11_mistaken : ByteArray := prog_1_method_44_code
def yX11_mistaken : MethodName := ⟨RX11, "mistaken", "()I"⟩
abbrev cX11_asked : ByteArray := prog_1_method_45_code
def yX11_asked : MethodName := ⟨RX11, "asked", "()I"⟩
abbrev cX11_upper : ByteArray := prog_1_method_46_code
def yX11_upper : MethodName := ⟨RX11, "upper", "()J"⟩
abbrev cX11_lower : ByteArray := prog_1_method_47_code
def yX11_lower : MethodName := ⟨RX11, "lower", "()J"⟩
abbrev cX11_count : ByteArray := prog_1_method_48_code
def yX11_count : MethodName := ⟨RX11, "count", "(I)I"⟩
abbrev cX11_finding : ByteArray := prog_1_method_49_code
def yX11_finding : MethodName := ⟨RX11, "finding", "()I"⟩
abbrev cX11_findings : ByteArray := prog_1_method_50_code
def yX11_findings : MethodName := ⟨RX11, "findings", "(I)I"⟩
abbrev cX11_digest : ByteArray := prog_1_method_51_code
def yX11_digest : MethodName := ⟨RX11, "digest", "()J"⟩
abbrev cX11_isNone : ByteArray := prog_1_method_52_code
def yX11_isNone : MethodName := ⟨RX11, "isNone", "(II)Z"⟩
abbrev cX11_isWithin : ByteArray := prog_1_method_53_code
def yX11_isWithin : MethodName := ⟨RX11, "isWithin", "(III)Z"⟩
abbrev cX11_find : ByteArray := prog_1_method_54_code
def yX11_find : MethodName := ⟨RX11, "find", "(I)I"⟩
abbrev cX11_tell : ByteArray := prog_1_method_55_code
def yX11_tell : MethodName := ⟨RX11, "tell", "(I)I"⟩
abbrev cX11_tellFraction : ByteArray := prog_1_method_56_code
def yX11_tellFraction : MethodName := ⟨RX11, "tellFraction", "(JJ)V"⟩
abbrev cX11_greatestShared : ByteArray := prog_1_method_57_code
def yX11_greatestShared : MethodName := ⟨RX11, "greatestShared", "(JJ)J"⟩
abbrev cX11_makeStrip : ByteArray := prog_1_method_58_code
def yX11_makeStrip : MethodName := ⟨RX11, "makeStrip", "(LShadowNight$Strip;II)I"⟩
abbrev cX11_refusesStrip : ByteArray := prog_1_method_59_code
def yX11_refusesStrip : MethodName := ⟨RX11, "refusesStrip", "([LShadowNight$Strip;I)I"⟩
abbrev cX11_refusesPlace : ByteArray := prog_1_method_60_code
def yX11_refusesPlace : MethodName := ⟨RX11, "refusesPlace", "([LShadowNight$Strip;II)I"⟩
abbrev cX11_refusesHide : ByteArray := prog_1_method_61_code
def yX11_refusesHide : MethodName := ⟨RX11, "refusesHide", "(I)I"⟩
abbrev cX11_refusesHides : ByteArray := prog_1_method_62_code
def yX11_refusesHides : MethodName := ⟨RX11, "refusesHides", "(II)I"⟩
abbrev cX11_thereAmong : ByteArray := prog_1_method_63_code
def yX11_thereAmong : MethodName := ⟨RX11, "thereAmong", "([LShadowNight$Strip;)I"⟩
def RX12 : String := "ShadowNightModel"
def TX12 : u_T := fun k => match k with
  | 0 => ("ShadowNightModel", "finding", "I", false)
  | 1 => ("ShadowNightModel", "findings", "[I", true)
  | 2 => ("ShadowNightModel", "asked", "I", false)
  | 3 => ("ShadowNightModel", "upper", "J", false)
  | 4 => ("ShadowNightModel", "lower", "J", false)
  | 5 => ("ShadowNightModel", "sizes", "[I", true)
  | 6 => ("ShadowNightModel", "rows", "[I", true)
  | 7 => ("ShadowNightModel", "moving", "[I", true)
  | 8 => ("ShadowNightModel", "lengths", "[I", true)
  | 9 => ("ShadowNightModel", "texts", "[I", true)
  | 10 => ("ShadowNightModel", "widths", "[I", true)
  | 11 => ("ShadowNightModel", "heights", "[I", true)
  | 12 => ("ShadowNightModel", "outlines", "[I", true)
  | 13 => ("ShadowNightModel", "lampFar", "I", false)
  | 14 => ("ShadowNightModel", "lampGreat", "I", false)
  | 15 => ("ShadowNightModel", "sceneMany", "I", false)
  | 16 => ("ShadowNightModel", "shown", "[I", true)
  | 17 => ("ShadowNightModel", "inHand", "[I", true)
  | 18 => ("ShadowNightModel", "least", "[I", true)
  | 19 => ("ShadowNightModel", "most", "[I", true)
  | 20 => ("ShadowNightModel", "kept", "[I", true)
  | 21 => ("ShadowNightModel", "readMany", "I", false)
  | 22 => ("ShadowNightModel", "readShown", "[I", true)
  | 23 => ("ShadowNightModel", "readHand", "[I", true)
  | 24 => ("ShadowNightModel", "readLeast", "[I", true)
  | 25 => ("ShadowNightModel", "readMost", "[I", true)
  | 26 => ("ShadowNightModel", "readKept", "[I", true)
  | 27 => ("ShadowNightModel", "readAt", "I", false)
  | 28 => ("ShadowNightModel", "readNumber", "I", false)
  | 29 => ("ShadowNightModel", "markFrom", "[I", true)
  | 30 => ("ShadowNightModel", "markTill", "[I", true)
  | 31 => ("ShadowNightModel", "needs", "[I", true)
  | 32 => ("ShadowNightModel", "costs", "[I", true)
  | 33 => ("ShadowNightModel", "next", "[I", true)
  | 34 => ("ShadowNightModel", "cast", "[I", true)
  | 35 => ("ShadowNightModel", "takeMany", "I", false)
  | 36 => ("ShadowNightModel", "takes", "[I", true)
  | 37 => ("ShadowNightModel", "order", "[I", true)
  | 38 => ("ShadowNightModel", "placeOf", "[I", true)
  | 39 => ("ShadowNightModel", "from", "I", false)
  | 40 => ("ShadowNightModel", "till", "I", false)
  | 41 => ("ShadowNightModel", "knockMany", "[I", true)
  | 42 => ("ShadowNightModel", "knocks", "[I", true)
  | 43 => ("ShadowNightModel", "isSeen", "[Z", true)
  | 44 => ("ShadowNightModel", "waiting", "[I", true)
  | 45 => ("ShadowNightModel", "waits", "I", false)
  | 46 => ("ShadowNightModel", "pairFirst", "I", false)
  | 47 => ("ShadowNightModel", "momentMany", "I", false)
  | 48 => ("ShadowNightModel", "moments", "[I", true)
  | _ => ("ShadowNightModel", "h", "J", false)
def tyX12 : Nat → FieldType := fun k => match k with
  | 0 => .int
  | 1 => .array .int
  | 2 => .int
  | 3 => .long
  | 4 => .long
  | 5 => .array .int
  | 6 => .array .int
  | 7 => .array .int
  | 8 => .array .int
  | 9 => .array .int
  | 10 => .array .int
  | 11 => .array .int
  | 12 => .array .int
  | 13 => .int
  | 14 => .int
  | 15 => .int
  | 16 => .array .int
  | 17 => .array .int
  | 18 => .array .int
  | 19 => .array .int
  | 20 => .array .int
  | 21 => .int
  | 22 => .array .int
  | 23 => .array .int
  | 24 => .array .int
  | 25 => .array .int
  | 26 => .array .int
  | 27 => .int
  | 28 => .int
  | 29 => .array .int
  | 30 => .array .int
  | 31 => .array .int
  | 32 => .array .int
  | 33 => .array .int
  | 34 => .array .int
  | 35 => .int
  | 36 => .array .int
  | 37 => .array .int
  | 38 => .array .int
  | 39 => .int
  | 40 => .int
  | 41 => .array .int
  | 42 => .array .int
  | 43 => .array .boolean
  | 44 => .array .int
  | 45 => .int
  | 46 => .int
  | 47 => .int
  | 48 => .array .int
  | _ => .long
abbrev wsX120 : List Cond := u_ws RX12 TX12 50
theorem nmX12 : ∀ a, a < 50 → ∀ b, b < 50 → a ≠ b → (TX12 a).2.1 ≠ (TX12 b).2.1 := by decide +kernel
theorem tyX12_ok : ∀ k, k < 50 → parseFieldDescriptor (TX12 k).2.2.1 = some (tyX12 k) := by decide +kernel
abbrev cX12_init : ByteArray := prog_14_method_1_code
def yX12_init : MethodName := ⟨RX12, "<init>", "()V"⟩
abbrev cX12_in : ByteArray := prog_14_method_3_code
def yX12_in : MethodName := ⟨RX12, "in", "(III)Z"⟩
abbrev cX12_meets : ByteArray := prog_14_method_4_code
def yX12_meets : MethodName := ⟨RX12, "meets", "(I)I"⟩
abbrev cX12_ask : ByteArray := prog_14_method_5_code
def yX12_ask : MethodName := ⟨RX12, "ask", "(II)I"⟩
abbrev cX12_has : ByteArray := prog_14_method_6_code
def yX12_has : MethodName := ⟨RX12, "has", "(II)Z"⟩
abbrev cX12_bits : ByteArray := prog_14_method_7_code
def yX12_bits : MethodName := ⟨RX12, "bits", "(I)I"⟩
abbrev cX12_abs : ByteArray := prog_14_method_8_code
def yX12_abs : MethodName := ⟨RX12, "abs", "(I)I"⟩
abbrev cX12_share : ByteArray := prog_14_method_9_code
def yX12_share : MethodName := ⟨RX12, "share", "(JJI)I"⟩
abbrev cX12_isRow : ByteArray := prog_14_method_10_code
def yX12_isRow : MethodName := ⟨RX12, "isRow", "(I)Z"⟩
abbrev cX12_isText : ByteArray := prog_14_method_11_code
def yX12_isText : MethodName := ⟨RX12, "isText", "(I)Z"⟩
abbrev cX12_askedRow : ByteArray := prog_14_method_12_code
def yX12_askedRow : MethodName := ⟨RX12, "askedRow", "(I)I"⟩
abbrev cX12_askedText : ByteArray := prog_14_method_13_code
def yX12_askedText : MethodName := ⟨RX12, "askedText", "(I)I"⟩
abbrev cX12_rowAt : ByteArray := prog_14_method_14_code
def yX12_rowAt : MethodName := ⟨RX12, "rowAt", "(II)I"⟩
abbrev cX12_row : ByteArray := prog_14_method_15_code
def yX12_row : MethodName := ⟨RX12, "row", "(II)I"⟩
abbrev cX12_at : ByteArray := prog_14_method_16_code
def yX12_at : MethodName := ⟨RX12, "at", "(II)I"⟩
abbrev cX12_lay : ByteArray := prog_14_method_17_code
def yX12_lay : MethodName := ⟨RX12, "lay", "(III)I"⟩
abbrev cX12_tear : ByteArray := prog_14_method_18_code
def yX12_tear : MethodName := ⟨RX12, "tear", "(I)I"⟩
abbrev cX12_copy : ByteArray := prog_14_method_19_code
def yX12_copy : MethodName := ⟨RX12, "copy", "(IIIII)I"⟩
abbrev cX12_mean : ByteArray := prog_14_method_20_code
def yX12_mean : MethodName := ⟨RX12, "mean", "(I)I"⟩
abbrev cX12_text : ByteArray := prog_14_method_21_code
def yX12_text : MethodName := ⟨RX12, "text", "(II)I"⟩
abbrev cX12_put : ByteArray := prog_14_method_22_code
def yX12_put : MethodName := ⟨RX12, "put", "(III)I"⟩
abbrev cX12_isHide : ByteArray := prog_14_method_23_code
def yX12_isHide : MethodName := ⟨RX12, "isHide", "(I)Z"⟩
abbrev cX12_isThere : ByteArray := prog_14_method_24_code
def yX12_isThere : MethodName := ⟨RX12, "isThere", "(I)Z"⟩
abbrev cX12_askedHide : ByteArray := prog_14_method_25_code
def yX12_askedHide : MethodName := ⟨RX12, "askedHide", "(I)I"⟩
abbrev cX12_hide : ByteArray := prog_14_method_26_code
def yX12_hide : MethodName := ⟨RX12, "hide", "(IIII)I"⟩
abbrev cX12_drop : ByteArray := prog_14_method_27_code
def yX12_drop : MethodName := ⟨RX12, "drop", "(I)I"⟩
abbrev cX12_lamp : ByteArray := prog_14_method_28_code
def yX12_lamp : MethodName := ⟨RX12, "lamp", "(II)I"⟩
abbrev cX12_turned : ByteArray := prog_14_method_29_code
def yX12_turned : MethodName := ⟨RX12, "turned", "(I)I"⟩
abbrev cX12_aboutOf : ByteArray := prog_14_method_30_code
def yX12_aboutOf : MethodName := ⟨RX12, "aboutOf", "(II)I"⟩
abbrev cX12_about : ByteArray := prog_14_method_31_code
def yX12_about : MethodName := ⟨RX12, "about", "(II)I"⟩
abbrev cX12_isHeld : ByteArray := prog_14_method_32_code
def yX12_isHeld : MethodName := ⟨RX12, "isHeld", "(II)Z"⟩
abbrev cX12_shadow : ByteArray := prog_14_method_33_code
def yX12_shadow : MethodName := ⟨RX12, "shadow", "(IIII)I"⟩
abbrev cX12_covers : ByteArray := prog_14_method_34_code
def yX12_covers : MethodName := ⟨RX12, "covers", "(IIIIII)I"⟩
abbrev cX12_place : ByteArray := prog_14_method_35_code
def yX12_place : MethodName := ⟨RX12, "place", "(II)I"⟩
abbrev cX12_here : ByteArray := prog_14_method_36_code
def yX12_here : MethodName := ⟨RX12, "here", "(I)I"⟩
abbrev cX12_readsNumber : ByteArray := prog_14_method_37_code
def yX12_readsNumber : MethodName := ⟨RX12, "readsNumber", "(II)Z"⟩
abbrev cX12_readsHides : ByteArray := prog_14_method_38_code
def yX12_readsHides : MethodName := ⟨RX12, "readsHides", "(I)Z"⟩
abbrev cX12_readsScene : ByteArray := prog_14_method_39_code
def yX12_readsScene : MethodName := ⟨RX12, "readsScene", "(I)Z"⟩
abbrev cX12_goesOn : ByteArray := prog_14_method_40_code
def yX12_goesOn : MethodName := ⟨RX12, "goesOn", "(I)I"⟩
abbrev cX12_fault : ByteArray := prog_14_method_41_code
def yX12_fault : MethodName := ⟨RX12, "fault", "(I)I"⟩
abbrev cX12_story : ByteArray := prog_14_method_42_code
def yX12_story : MethodName := ⟨RX12, "story", "(I)I"⟩
abbrev cX12_isScene : ByteArray := prog_14_method_43_code
def yX12_isScene : MethodName := ⟨RX12, "isScene", "(I)Z"⟩
abbrev cX12_sceneTells : ByteArray := prog_14_method_44_code
def yX12_sceneTells : MethodName := ⟨RX12, "sceneTells", "(II)I"⟩
abbrev cX12_scene : ByteArray := prog_14_method_45_code
def yX12_scene : MethodName := ⟨RX12, "scene", "(II)I"⟩
abbrev cX12_named : ByteArray := prog_14_method_46_code
def yX12_named : MethodName := ⟨RX12, "named", "()I"⟩
abbrev cX12_change : ByteArray := prog_14_method_47_code
def yX12_change : MethodName := ⟨RX12, "change", "(II)I"⟩
abbrev cX12_fits : ByteArray := prog_14_method_48_code
def yX12_fits : MethodName := ⟨RX12, "fits", "(III)Z"⟩
abbrev cX12_changes : ByteArray := prog_14_method_49_code
def yX12_changes : MethodName := ⟨RX12, "changes", "(I)V"⟩
abbrev cX12_hands : ByteArray := prog_14_method_50_code
def yX12_hands : MethodName := ⟨RX12, "hands", "()I"⟩
abbrev cX12_third : ByteArray := prog_14_method_51_code
def yX12_third : MethodName := ⟨RX12, "third", "()I"⟩
abbrev cX12_setTakes : ByteArray := prog_14_method_52_code
def yX12_setTakes : MethodName := ⟨RX12, "setTakes", "()V"⟩
abbrev cX12_takings : ByteArray := prog_14_method_53_code
def yX12_takings : MethodName := ⟨RX12, "takings", "()I"⟩
abbrev cX12_reaches : ByteArray := prog_14_method_54_code
def yX12_reaches : MethodName := ⟨RX12, "reaches", "(I)I"⟩
abbrev cX12_reaching : ByteArray := prog_14_method_55_code
def yX12_reaching : MethodName := ⟨RX12, "reaching", "(I)I"⟩
abbrev cX12_nextOrder : ByteArray := prog_14_method_56_code
def yX12_nextOrder : MethodName := ⟨RX12, "nextOrder", "(I)Z"⟩
abbrev cX12_exchange : ByteArray := prog_14_method_57_code
def yX12_exchange : MethodName := ⟨RX12, "exchange", "(II)V"⟩
abbrev cX12_trunk : ByteArray := prog_14_method_58_code
def yX12_trunk : MethodName := ⟨RX12, "trunk", "(I)I"⟩
abbrev cX12_marksTold : ByteArray := prog_14_method_59_code
def yX12_marksTold : MethodName := ⟨RX12, "marksTold", "()I"⟩
abbrev cX12_markScene : ByteArray := prog_14_method_60_code
def yX12_markScene : MethodName := ⟨RX12, "markScene", "(III)I"⟩
abbrev cX12_need : ByteArray := prog_14_method_61_code
def yX12_need : MethodName := ⟨RX12, "need", "(II)I"⟩
abbrev cX12_isCut : ByteArray := prog_14_method_62_code
def yX12_isCut : MethodName := ⟨RX12, "isCut", "(I)Z"⟩
abbrev cX12_goes : ByteArray := prog_14_method_63_code
def yX12_goes : MethodName := ⟨RX12, "goes", "(IIII)Z"⟩
abbrev cX12_mayCut : ByteArray := prog_14_method_64_code
def yX12_mayCut : MethodName := ⟨RX12, "mayCut", "(I)Z"⟩
abbrev cX12_good : ByteArray := prog_14_method_65_code
def yX12_good : MethodName := ⟨RX12, "good", "(I)I"⟩
abbrev cX12_lengthOf : ByteArray := prog_14_method_66_code
def yX12_lengthOf : MethodName := ⟨RX12, "lengthOf", "(I)I"⟩
abbrev cX12_best : ByteArray := prog_14_method_67_code
def yX12_best : MethodName := ⟨RX12, "best", "()I"⟩
abbrev cX12_begins : ByteArray := prog_14_method_68_code
def yX12_begins : MethodName := ⟨RX12, "begins", "(II)I"⟩
abbrev cX12_laughter : ByteArray := prog_14_method_69_code
def yX12_laughter : MethodName := ⟨RX12, "laughter", "(II)I"⟩
abbrev cX12_tale : ByteArray := prog_14_method_70_code
def yX12_tale : MethodName := ⟨RX12, "tale", "(I)I"⟩
abbrev cX12_knock : ByteArray := prog_14_method_71_code
def yX12_knock : MethodName := ⟨RX12, "knock", "(II)I"⟩
abbrev cX12_isBeginning : ByteArray := prog_14_method_72_code
def yX12_isBeginning : MethodName := ⟨RX12, "isBeginning", "(IIII)Z"⟩
abbrev cX12_clear : ByteArray := prog_14_method_73_code
def yX12_clear : MethodName := ⟨RX12, "clear", "()I"⟩
abbrev cX12_leaves : ByteArray := prog_14_method_74_code
def yX12_leaves : MethodName := ⟨RX12, "leaves", "(II)V"⟩
abbrev cX12_sure : ByteArray := prog_14_method_75_code
def yX12_sure : MethodName := ⟨RX12, "sure", "()I"⟩
abbrev cX12_shortest : ByteArray := prog_14_method_76_code
def yX12_shortest : MethodName := ⟨RX12, "shortest", "(I)I"⟩
abbrev cX12_apartBy : ByteArray := prog_14_method_77_code
def yX12_apartBy : MethodName := ⟨RX12, "apartBy", "(II)I"⟩
abbrev cX12_apart : ByteArray := prog_14_method_78_code
def yX12_apart : MethodName := ⟨RX12, "apart", "(II)I"⟩
abbrev cX12_leastOf : ByteArray := prog_14_method_79_code
def yX12_leastOf : MethodName := ⟨RX12, "leastOf", "()I"⟩
abbrev cX12_leastApart : ByteArray := prog_14_method_80_code
def yX12_leastApart : MethodName := ⟨RX12, "leastApart", "()I"⟩
abbrev cX12_matters : ByteArray := prog_14_method_81_code
def yX12_matters : MethodName := ⟨RX12, "matters", "(I)I"⟩
abbrev cX12_part : ByteArray := prog_14_method_82_code
def yX12_part : MethodName := ⟨RX12, "part", "(II)I"⟩
abbrev cX12_isMoment : ByteArray := prog_14_method_83_code
def yX12_isMoment : MethodName := ⟨RX12, "isMoment", "(IIII)Z"⟩
abbrev cX12_moment : ByteArray := prog_14_method_84_code
def yX12_moment : MethodName := ⟨RX12, "moment", "(IIIII)I"⟩
abbrev cX12_isTold : ByteArray := prog_14_method_85_code
def yX12_isTold : MethodName := ⟨RX12, "isTold", "(I)Z"⟩
abbrev cX12_told : ByteArray := prog_14_method_86_code
def yX12_told : MethodName := ⟨RX12, "told", "(II)I"⟩
abbrev cX12_isOf : ByteArray := prog_14_method_87_code
def yX12_isOf : MethodName := ⟨RX12, "isOf", "(II)Z"⟩
abbrev cX12_mark : ByteArray := prog_14_method_88_code
def yX12_mark : MethodName := ⟨RX12, "mark", "(II)I"⟩
abbrev cX12_isPlain : ByteArray := prog_14_method_89_code
def yX12_isPlain : MethodName := ⟨RX12, "isPlain", "(II)Z"⟩
abbrev cX12_seen : ByteArray := prog_14_method_90_code
def yX12_seen : MethodName := ⟨RX12, "seen", "(IZ)I"⟩
abbrev cX12_broken : ByteArray := prog_14_method_91_code
def yX12_broken : MethodName := ⟨RX12, "broken", "(III)I"⟩
abbrev cX12_isAhead : ByteArray := prog_14_method_92_code
def yX12_isAhead : MethodName := ⟨RX12, "isAhead", "(II)Z"⟩
abbrev cX12_isMistaken : ByteArray := prog_14_method_93_code
def yX12_isMistaken : MethodName := ⟨RX12, "isMistaken", "(I)Z"⟩
abbrev cX12_mistaken : ByteArray := prog_14_method_94_code
def yX12_mistaken : MethodName := ⟨RX12, "mistaken", "()I"⟩
abbrev cX12_asked : ByteArray := prog_14_method_95_code
def yX12_asked : MethodName := ⟨RX12, "asked", "()I"⟩
abbrev cX12_upper : ByteArray := prog_14_method_96_code
def yX12_upper : MethodName := ⟨RX12, "upper", "()J"⟩
abbrev cX12_lower : ByteArray := prog_14_method_97_code
def yX12_lower : MethodName := ⟨RX12, "lower", "()J"⟩
abbrev cX12_counts : ByteArray := prog_14_method_98_code
def yX12_counts : MethodName := ⟨RX12, "counts", "(I)I"⟩
abbrev cX12_count : ByteArray := prog_14_method_99_code
def yX12_count : MethodName := ⟨RX12, "count", "(I)I"⟩
abbrev cX12_finding : ByteArray := prog_14_method_100_code
def yX12_finding : MethodName := ⟨RX12, "finding", "()I"⟩
abbrev cX12_findings : ByteArray := prog_14_method_101_code
def yX12_findings : MethodName := ⟨RX12, "findings", "(I)I"⟩
abbrev cX12_mix : ByteArray := prog_14_method_102_code
def yX12_mix : MethodName := ⟨RX12, "mix", "(I)V"⟩
abbrev cX12_mixNight : ByteArray := prog_14_method_103_code
def yX12_mixNight : MethodName := ⟨RX12, "mixNight", "()V"⟩
abbrev cX12_digest : ByteArray := prog_14_method_104_code
def yX12_digest : MethodName := ⟨RX12, "digest", "()J"⟩
def RJ6 : String := "java/lang/Integer"
def TJ6 : u_T := fun k => match k with
  | _ => ("", "", "", false)
def tyJ6 : Nat → FieldType := fun k => match k with
  | _ => .int
abbrev cJ6_bitCount_0f7a4 : ByteArray := prog_15_method_49_code
def yJ6_bitCount_0f7a4 : MethodName := ⟨RJ6, "bitCount", "(I)I"⟩
def RJ9 : String := "java/lang/Math"
def TJ9 : u_T := fun k => match k with
  | _ => ("", "", "", false)
def tyJ9 : Nat → FieldType := fun k => match k with
  | _ => .int
abbrev cJ9_abs_0f7a4 : ByteArray := prog_16_method_59_code
def yJ9_abs_0f7a4 : MethodName := ⟨RJ9, "abs", "(I)I"⟩
abbrev cJ9_abs_067f4 : ByteArray := prog_16_method_61_code
def yJ9_abs_067f4 : MethodName := ⟨RJ9, "abs", "(J)J"⟩
abbrev cJ9_max_7cf53 : ByteArray := prog_16_method_65_code
def yJ9_max_7cf53 : MethodName := ⟨RJ9, "max", "(II)I"⟩
abbrev cJ9_min_7cf53 : ByteArray := prog_16_method_69_code
def yJ9_min_7cf53 : MethodName := ⟨RJ9, "min", "(II)I"⟩
def RJ10 : String := "java/lang/System"
def TJ10 : u_T := fun k => match k with
  | _ => ("", "", "", false)
def tyJ10 : Nat → FieldType := fun k => match k with
  | _ => .int
def RJ7 : String := "java/util/Arrays"
def TJ7 : u_T := fun k => match k with
  | _ => ("", "", "", false)
def tyJ7 : Nat → FieldType := fun k => match k with
  | _ => .int
abbrev cJ7_rangeCheck_23922 : ByteArray := prog_18_method_30_code
def yJ7_rangeCheck_23922 : MethodName := ⟨RJ7, "rangeCheck", "(III)V"⟩
abbrev cJ7_fill_53178 : ByteArray := prog_18_method_103_code
def yJ7_fill_53178 : MethodName := ⟨RJ7, "fill", "([II)V"⟩
abbrev cJ7_fill_fda19 : ByteArray := prog_18_method_104_code
def yJ7_fill_fda19 : MethodName := ⟨RJ7, "fill", "([IIII)V"⟩
def RL : String := "ShadowNightLaw"
abbrev cL_law : ByteArray := code
def yL_law : MethodName := ⟨RL, "law", "([I)Z"⟩
abbrev vwCl : List vw_C := [(RX0, TX0, 2), (RX1, TX1, 2), (RX2, TX2, 4), (RX3, TX3, 5), (RX4, TX4, 5), (RX5, TX5, 8), (RX6, TX6, 6), (RX7, TX7, 4), (RX8, TX8, 5), (RX9, TX9, 2), (RX10, TX10, 4), (RX11, TX11, 14), (RX12, TX12, 50)]
def jnest : List (String × Nat × MethodName × String) := [
  (RX7, 27, ⟨RX2, "<init>", "()V"⟩, RX11),
  (RX8, 30, ⟨RX5, "<init>", "()V"⟩, RX11),
  (RX11, 34, ⟨RX4, "<init>", "()V"⟩, RX11),
  (RX11, 48, ⟨RX10, "<init>", "()V"⟩, RX11),
  (RX11, 55, ⟨RX6, "<init>", "()V"⟩, RX11),
  (RX0, 21, ⟨RX3, "<init>", "()V"⟩, RX11),
  (RX11, 85, ⟨RX9, "<init>", "()V"⟩, RX11),
  (RX7, 32, ⟨RX11, "isWithin", "(III)Z"⟩, RX11),
  (RX8, 80, ⟨RX11, "isWithin", "(III)Z"⟩, RX11),
  (RX10, 46, ⟨RX11, "isNone", "(II)Z"⟩, RX11),
  (RX9, 29, ⟨RX11, "isWithin", "(III)Z"⟩, RX11),
  (RX6, 32, ⟨RX11, "isNone", "(II)Z"⟩, RX11),
  (RX3, 31, ⟨RX11, "isNone", "(II)Z"⟩, RX11),
  (RX3, 35, ⟨RX11, "isWithin", "(III)Z"⟩, RX11)]
